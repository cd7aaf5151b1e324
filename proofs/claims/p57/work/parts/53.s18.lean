theorem q1293 : Cond.code yX8_holdsPitches cX8_holdsPitches 2 (some .boolean) ∈ lw_g := lw_gm (List.mem_of_getElem? (i := 1293) (by decide +kernel)) rfl
theorem q1294 : Cond.methodLink RX8 384 yX5_numberAt ∈ lw_g := lw_gm (List.mem_of_getElem? (i := 1294) (by decide +kernel)) rfl
theorem dX8_holdsPitches_0 : decode cX8_holdsPitches 0 = .ok (.iconst 0, 1) := by decide +kernel
theorem dX8_holdsPitches_1 : decode cX8_holdsPitches 1 = .ok (.istore_n 1, 1) := by decide +kernel
theorem dX8_holdsPitches_2 : decode cX8_holdsPitches 2 = .ok (.iload_n 1, 1) := by decide +kernel
theorem dX8_holdsPitches_3 : decode cX8_holdsPitches 3 = .ok (.aload_n 0, 1) := by decide +kernel
theorem dX8_holdsPitches_4 : decode cX8_holdsPitches 4 = .ok (.getfield 363, 3) := by decide +kernel
theorem dX8_holdsPitches_7 : decode cX8_holdsPitches 7 = .ok (.if_icmp .ge 22, 3) := by decide +kernel
theorem dX8_holdsPitches_10 : decode cX8_holdsPitches 10 = .ok (.aload_n 0, 1) := by decide +kernel
theorem dX8_holdsPitches_11 : decode cX8_holdsPitches 11 = .ok (.iload_n 1, 1) := by decide +kernel
theorem dX8_holdsPitches_12 : decode cX8_holdsPitches 12 = .ok (.invokevirtual 384, 3) := by decide +kernel
theorem dX8_holdsPitches_15 : decode cX8_holdsPitches 15 = .ok (.invokestatic 213, 3) := by decide +kernel
theorem dX8_holdsPitches_18 : decode cX8_holdsPitches 18 = .ok (.ifCond .ne 5, 3) := by decide +kernel
theorem dX8_holdsPitches_21 : decode cX8_holdsPitches 21 = .ok (.iconst 0, 1) := by decide +kernel
theorem dX8_holdsPitches_22 : decode cX8_holdsPitches 22 = .ok (.ireturn, 1) := by decide +kernel
theorem dX8_holdsPitches_23 : decode cX8_holdsPitches 23 = .ok (.iinc 1 2, 3) := by decide +kernel
theorem dX8_holdsPitches_26 : decode cX8_holdsPitches 26 = .ok (.goto (-24), 3) := by decide +kernel
theorem dX8_holdsPitches_29 : decode cX8_holdsPitches 29 = .ok (.iconst 1, 1) := by decide +kernel
theorem dX8_holdsPitches_30 : decode cX8_holdsPitches 30 = .ok (.ireturn, 1) := by decide +kernel
set_option maxHeartbeats 4000000 in
set_option maxRecDepth 100000 in
theorem m_X8_holdsPitches (l : Launch) (D : va_G) (cy : Nat → ClassId) (g : Nat → Nat) (σ : ST) (d0 : Nat) (sz : Nat) (hJ : J8 σ) (hd0 : 5 ≤ d0 ∧ d0 < 9) : Met l yX8_holdsPitches (ww yX8_holdsPitches cX8_holdsPitches 2 (some .boolean)) ({ frames := 2, cells := 0, slots := 0, locals := 128 }) (va_Pc [.ref (gO g d0)] (pr8 D cy g σ sz)) (qi8 D cy g sz (fun r τ => τ = σ ∧ ((0 : Int) ≤ r.toInt ∧ r.toInt ≤ 1) ∧ True)) 0 0 (A8 cy g sz) := by
  refine Met.ofW (cc := cX8_holdsPitches) (maxL := 2) (ret := (some .boolean)) (by decide) rfl ?_
  intro p e s m args below meth c s₁ B hml hv
  obtain ⟨rfl, hsz, hP, hK, hD0, hC⟩ := hv
  have hx := B.exec
  have hb := B.bytes
  have hr := B.returns
  have hts := hts_g (atoms_spec (ws := ww yX8_holdsPitches cX8_holdsPitches 2 (some .boolean)) B.pre)
  have hown : s.vm.findClass RX8 = some m.cls := findClass_of_methodNamed B.named
  have hlocks := B.notSynchronized
  clear B
  subst hsz
  have hD := fun τ => A8_D (sz := s.heap.size) hD0 τ
  clear hD0
  have hS : va_S (A8 cy g s.heap.size) s.heap s.heap [] := va_S.rf
  have hl := lv_entry ([.ref (gO g d0)]) (n := 2) (Nat.le_of_ble_eq_true rfl)
  rw [lg_entry_eq]
  generalize (lg_sl ([.ref (gO g d0)]) ++ List.replicate (2 - (lg_sl ([.ref (gO g d0)])).length) Slot.unset).toArray = ls at hl ⊢
  have hl : lv_has ls 2 [(0, .ref (gO g d0))] := hl
  refine lv_iconst (v := 0) hx hb dX8_holdsPitches_0 (by decide) ?_
  refine lv_istore_n (lv' := [(1, .int 0), (0, .ref (gO g d0))]) hx hb dX8_holdsPitches_1 rfl hl (by decide) rfl (fun ls hl => ?_)
  refine loop8 2 2 (fun x : LZ => [(1, .int (x.2.1 0)), (0, .ref (gO g d0))]) (fun x : LZ => (x.1 = σ) ∧ ((0 : Int) ≤ (x.2.1 0).toInt ∧ (x.2.1 0).toInt ≤ 61) ∧ True) (fun x : LZ => ((62 : Int) - (x.2.1 0).toInt).toNat) ?_ (σ, lf [0], lg []) ⟨rfl, (show (0 : Int) ≤ (0 : Int32).toInt ∧ (0 : Int32).toInt ≤ 61 from (by have z0 : (0 : Int32).toInt = 0 := (by decide); omega)), trivial⟩ _ _ _ hP hS (lv_sub hl [0, 1] rfl)
  intro y3 hI2 nl1 H locs ls hP hS hl
  rw [show y3.1 = σ from hI2.1] at hP
  have b4 : (0 : Int) ≤ (y3.2.1 0).toInt ∧ (y3.2.1 0).toInt ≤ 61 := hI2.2.1
  have hl : lv_has ls 2 [(1, .int (y3.2.1 0)), (0, .ref (gO g d0))] := hl
  refine lv_iload_n hx hb dX8_holdsPitches_2 rfl (lv_at hl 0 rfl) ?_
  refine lv_aload_n hx hb dX8_holdsPitches_3 rfl (lv_at hl 1 rfl) ?_
  refine g8_5_2 (x := ((σ d0).1 2)) hx hb hts hown hK hP hd0 (rfl) (hts _ q421) dX8_holdsPitches_4 ?_
  refine lv_icmp_ge (tgt := 29) hx hb dX8_holdsPitches_7 (by decide) (fun c5 => ?_) (fun c5 => ?_)
  ·
    have k6 := ple32 c5
    refine lv_iconst (v := 1) hx hb dX8_holdsPitches_29 (by decide) ?_
    exact W.zret (v := 1) hx hb hr rfl (fun tS ht hW => ⟨⟨1, σ, rfl, ⟨rfl, (show (0 : Int) ≤ (1 : Int32).toInt ∧ (1 : Int32).toInt ≤ 1 from (by have z1 : (1 : Int32).toInt = 1 := (by decide); omega)), trivial⟩, (show va_P D clz (WD8 cy g σ) tS.heap by rw [ht]; exact hP)⟩, hS.F ht⟩) hS.2.2 dX8_holdsPitches_30
  ·
    have k7 := nle32 c5
    refine lv_aload_n hx hb dX8_holdsPitches_10 rfl (lv_at hl 1 rfl) ?_
    refine lv_iload_n hx hb dX8_holdsPitches_11 rfl (lv_at hl 0 rfl) ?_
    refine va_calll (va_runV (As := [.int (y3.2.1 0)]) (rest := []) ⟨hx, hb, hml, hown, hts⟩ (m_X5_numberAt l D cy g σ  d0 (y3.2.1 0) _ hJ (show 5 ≤ d0 ∧ d0 < 9 from hd0) (show (0 : Int) ≤ (y3.2.1 0).toInt ∧ (y3.2.1 0).toInt ≤ 59 from (by have f0 := b4; have f1 := k7; have f2 := j8_5_2 hJ hd0 rfl; have g0 := rg32 (y3.2.1 0); omega))) (cwV 1 hts (gd_V q1294 q1275 q1276 q133 q1277) rfl rfl rfl (by decide +kernel) ⟨(Nat.le_of_ble_eq_true rfl), (Nat.le_of_ble_eq_true rfl)⟩) (pv8 hP hK hD hC hS (rv8_5 hK hP hd0)) rfl rfl hl.1 rfl (lv_room (Nat.le_of_ble_eq_true rfl)) dX8_holdsPitches_12 ⟨Nat.le_of_ble_eq_true rfl, Nat.le_of_ble_eq_true rfl⟩) hS (fun q _ h => up8 hS q h) (up8 hS) (fun r8 σ9 tS H1 locs ht hvm hw10 hB hz1 hk1 hS => ?_)
    have hP : va_P D clz (WD8 cy g σ9) H1 := by rw [← ht]; exact hB
    clear hB hz1 hk1 hvm ht
    generalize H1 = H at hP hS ⊢
    have hw10E : σ = σ9 := (hw10.1).symm
    subst hw10E
    refine va_calli (va_runS (As := [.long r8]) (rest := []) ⟨hx, hb, hml, hown, hts⟩ (m_X8_isPitch l D cy g σ  r8 _ hJ ) (va_cwS 1 hts (gd_S q829 q830 q125 q831) rfl rfl rfl (by decide +kernel) ⟨(Nat.le_of_ble_eq_true rfl), (Nat.le_of_ble_eq_true rfl)⟩) (ps8 hP hK hD hC hS) rfl rfl hl.1 rfl (lv_room (Nat.le_of_ble_eq_true rfl)) dX8_holdsPitches_15 ⟨Nat.le_of_ble_eq_true rfl, Nat.le_of_ble_eq_true rfl⟩) hS (fun q _ h => up8 hS q h) (up8 hS) (fun r11 σ12 tS H1 locs ht hvm hw13 hB hz1 hk1 hS => ?_)
    have hP : va_P D clz (WD8 cy g σ12) H1 := by rw [← ht]; exact hB
    clear hB hz1 hk1 hvm ht
    generalize H1 = H at hP hS ⊢
    have hw13E : σ = σ12 := (hw13.1).symm
    subst hw13E
    have b14 : (0 : Int) ≤ r11.toInt ∧ r11.toInt ≤ 1 := hw13.2.1
    refine lv_if_ne (tgt := 23) hx hb dX8_holdsPitches_18 (by decide) (fun c15 => ?_) (fun c15 => ?_)
    ·
      have k16 := neq32 c15
      obtain ⟨x17, ex17⟩ : ∃ y : Int32, y = (y3.2.1 0) + 2 := ⟨_, rfl⟩
      have t18 := addO ex17 (by have f0 := b4; have f1 := k7; have f2 := j8_5_2 hJ hd0 rfl; have g0 := rg32 (y3.2.1 0); have z2 : (2 : Int32).toInt = 2 := (by decide); omega)
      refine lv_iinc (v := x17) (lv' := [(1, .int x17), (0, .ref (gO g d0))]) hx hb dX8_holdsPitches_23 hl (k := 0) rfl (by rw [ex17]; rfl) (by decide) rfl (fun ls hl => ?_)
      refine lv_goto (tgt := 2) hx hb dX8_holdsPitches_26 (by decide) ?_
      have t19 : ((62 : Int) - x17.toInt).toNat < ((62 : Int) - (y3.2.1 0).toInt).toNat := (by have f0 := b4; have f1 := k7; have f2 := t18; have f3 := j8_5_2 hJ hd0 rfl; have g0 := rg32 (y3.2.1 0); have g1 := rg32 x17; have z2 : (2 : Int32).toInt = 2 := (by decide); omega)
      exact nl1 (σ, lf [x17], lg []) ⟨rfl, (show (0 : Int) ≤ (x17 : Int32).toInt ∧ (x17 : Int32).toInt ≤ 61 from (by have f0 := t18; have f1 := b4; have f2 := k7; have f3 := j8_5_2 hJ hd0 rfl; have g0 := rg32 x17; have z2 : (2 : Int32).toInt = 2 := (by decide); omega)), trivial⟩ (show ((62 : Int) - x17.toInt).toNat < _ from t19) _ _ _ hP hS (lv_sub hl [0, 1] rfl)
    ·
      have k20 := peq32 c15
      refine lv_iconst (v := 0) hx hb dX8_holdsPitches_21 (by decide) ?_
      exact W.zret (v := 0) hx hb hr rfl (fun tS ht hW => ⟨⟨0, σ, rfl, ⟨rfl, (show (0 : Int) ≤ (0 : Int32).toInt ∧ (0 : Int32).toInt ≤ 1 from (by have z0 : (0 : Int32).toInt = 0 := (by decide); omega)), trivial⟩, (show va_P D clz (WD8 cy g σ) tS.heap by rw [ht]; exact hP)⟩, hS.F ht⟩) hS.2.2 dX8_holdsPitches_22

theorem q1302 : Cond.code yX7_soundsBy cX7_soundsBy 5 (some .boolean) ∈ lw_g := lw_gm (List.mem_of_getElem? (i := 1302) (by decide +kernel)) rfl
theorem dX7_soundsBy_0 : decode cX7_soundsBy 0 = .ok (.iconst 2, 1) := by decide +kernel
theorem dX7_soundsBy_1 : decode cX7_soundsBy 1 = .ok (.istore 4, 2) := by decide +kernel
theorem dX7_soundsBy_3 : decode cX7_soundsBy 3 = .ok (.iload 4, 2) := by decide +kernel
theorem dX7_soundsBy_5 : decode cX7_soundsBy 5 = .ok (.aload_n 0, 1) := by decide +kernel
theorem dX7_soundsBy_6 : decode cX7_soundsBy 6 = .ok (.getfield 37, 3) := by decide +kernel
theorem dX7_soundsBy_9 : decode cX7_soundsBy 9 = .ok (.if_icmp .gt 24, 3) := by decide +kernel
theorem dX7_soundsBy_12 : decode cX7_soundsBy 12 = .ok (.aload_n 0, 1) := by decide +kernel
theorem dX7_soundsBy_13 : decode cX7_soundsBy 13 = .ok (.iload_n 1, 1) := by decide +kernel
theorem dX7_soundsBy_14 : decode cX7_soundsBy 14 = .ok (.iload 4, 2) := by decide +kernel
theorem dX7_soundsBy_16 : decode cX7_soundsBy 16 = .ok (.iload_n 2, 1) := by decide +kernel
theorem dX7_soundsBy_17 : decode cX7_soundsBy 17 = .ok (.iload_n 3, 1) := by decide +kernel
theorem dX7_soundsBy_18 : decode cX7_soundsBy 18 = .ok (.invokevirtual 73, 3) := by decide +kernel
theorem dX7_soundsBy_21 : decode cX7_soundsBy 21 = .ok (.iconst (-1), 1) := by decide +kernel
theorem dX7_soundsBy_22 : decode cX7_soundsBy 22 = .ok (.if_icmp .eq 5, 3) := by decide +kernel
theorem dX7_soundsBy_25 : decode cX7_soundsBy 25 = .ok (.iconst 1, 1) := by decide +kernel
theorem dX7_soundsBy_26 : decode cX7_soundsBy 26 = .ok (.ireturn, 1) := by decide +kernel
theorem dX7_soundsBy_27 : decode cX7_soundsBy 27 = .ok (.iinc 4 1, 3) := by decide +kernel
theorem dX7_soundsBy_30 : decode cX7_soundsBy 30 = .ok (.goto (-27), 3) := by decide +kernel
theorem dX7_soundsBy_33 : decode cX7_soundsBy 33 = .ok (.iconst 0, 1) := by decide +kernel
theorem dX7_soundsBy_34 : decode cX7_soundsBy 34 = .ok (.ireturn, 1) := by decide +kernel
set_option maxHeartbeats 4000000 in
set_option maxRecDepth 100000 in
theorem m_X7_soundsBy (l : Launch) (D : va_G) (cy : Nat → ClassId) (g : Nat → Nat) (σ : ST) (d0 : Nat) (p1 : Int32) (p2 : Int32) (p3 : Int32) (sz : Nat) (hJ : J8 σ) (hd0 : 9 ≤ d0 ∧ d0 < 12) : Met l yX7_soundsBy (ww yX7_soundsBy cX7_soundsBy 5 (some .boolean)) ({ frames := 4, cells := 0, slots := 0, locals := 256 }) (va_Pc [.ref (gO g d0), .int p1, .int p2, .int p3] (pr8 D cy g σ sz)) (qi8 D cy g sz (fun r τ => τ = σ ∧ ((0 : Int) ≤ r.toInt ∧ r.toInt ≤ 1) ∧ True)) 0 0 (A8 cy g sz) := by
  refine Met.ofW (cc := cX7_soundsBy) (maxL := 5) (ret := (some .boolean)) (by decide) rfl ?_
  intro p e s m args below meth c s₁ B hml hv
  obtain ⟨rfl, hsz, hP, hK, hD0, hC⟩ := hv
  have hx := B.exec
  have hb := B.bytes
  have hr := B.returns
  have hts := hts_g (atoms_spec (ws := ww yX7_soundsBy cX7_soundsBy 5 (some .boolean)) B.pre)
  have hown : s.vm.findClass RX7 = some m.cls := findClass_of_methodNamed B.named
  have hlocks := B.notSynchronized
  clear B
  subst hsz
  have hD := fun τ => A8_D (sz := s.heap.size) hD0 τ
  clear hD0
  have hS : va_S (A8 cy g s.heap.size) s.heap s.heap [] := va_S.rf
  have hl := lv_entry ([.ref (gO g d0), .int p1, .int p2, .int p3]) (n := 5) (Nat.le_of_ble_eq_true rfl)
  rw [lg_entry_eq]
  generalize (lg_sl ([.ref (gO g d0), .int p1, .int p2, .int p3]) ++ List.replicate (5 - (lg_sl ([.ref (gO g d0), .int p1, .int p2, .int p3])).length) Slot.unset).toArray = ls at hl ⊢
  have hl : lv_has ls 5 [(0, .ref (gO g d0)), (1, .int p1), (2, .int p2), (3, .int p3)] := hl
  refine lv_iconst (v := 2) hx hb dX7_soundsBy_0 (by decide) ?_
  refine lv_istore (lv' := [(4, .int 2), (0, .ref (gO g d0)), (1, .int p1), (2, .int p2), (3, .int p3)]) hx hb dX7_soundsBy_1 hl (by decide) rfl (fun ls hl => ?_)
  refine loop8 5 3 (fun x : LZ => [(4, .int (x.2.1 0)), (0, .ref (gO g d0)), (1, .int p1), (2, .int p2), (3, .int p3)]) (fun x : LZ => (x.1 = σ) ∧ ((2 : Int) ≤ (x.2.1 0).toInt ∧ (x.2.1 0).toInt ≤ 10000000) ∧ True) (fun x : LZ => ((10000001 : Int) - (x.2.1 0).toInt).toNat) ?_ (σ, lf [2], lg []) ⟨rfl, (show (2 : Int) ≤ (2 : Int32).toInt ∧ (2 : Int32).toInt ≤ 10000000 from (by have z2 : (2 : Int32).toInt = 2 := (by decide); omega)), trivial⟩ _ _ _ hP hS (lv_sub hl [0, 1, 2, 3, 4] rfl)
  intro y3 hI2 nl1 H locs ls hP hS hl
  rw [show y3.1 = σ from hI2.1] at hP
  have b4 : (2 : Int) ≤ (y3.2.1 0).toInt ∧ (y3.2.1 0).toInt ≤ 10000000 := hI2.2.1
  have hl : lv_has ls 5 [(4, .int (y3.2.1 0)), (0, .ref (gO g d0)), (1, .int p1), (2, .int p2), (3, .int p3)] := hl
  refine lv_iload hx hb dX7_soundsBy_3 (lv_at hl 0 rfl) ?_
  refine lv_aload_n hx hb dX7_soundsBy_5 rfl (lv_at hl 1 rfl) ?_
  refine g8_7_1 (x := ((σ d0).1 1)) hx hb hts hown hK hP hd0 (rfl) (hts _ q250) dX7_soundsBy_6 ?_
  refine lv_icmp_gt (tgt := 33) hx hb dX7_soundsBy_9 (by decide) (fun c5 => ?_) (fun c5 => ?_)
  ·
    have k6 := plt32 c5
    refine lv_iconst (v := 0) hx hb dX7_soundsBy_33 (by decide) ?_
    exact W.zret (v := 0) hx hb hr rfl (fun tS ht hW => ⟨⟨0, σ, rfl, ⟨rfl, (show (0 : Int) ≤ (0 : Int32).toInt ∧ (0 : Int32).toInt ≤ 1 from (by have z0 : (0 : Int32).toInt = 0 := (by decide); omega)), trivial⟩, (show va_P D clz (WD8 cy g σ) tS.heap by rw [ht]; exact hP)⟩, hS.F ht⟩) hS.2.2 dX7_soundsBy_34
  ·
    have k7 := nlt32 c5
    refine lv_aload_n hx hb dX7_soundsBy_12 rfl (lv_at hl 1 rfl) ?_
    refine lv_iload_n hx hb dX7_soundsBy_13 rfl (lv_at hl 2 rfl) ?_
    refine lv_iload hx hb dX7_soundsBy_14 (lv_at hl 0 rfl) ?_
    refine lv_iload_n hx hb dX7_soundsBy_16 rfl (lv_at hl 3 rfl) ?_
    refine lv_iload_n hx hb dX7_soundsBy_17 rfl (lv_at hl 4 rfl) ?_
    refine va_calli (va_runV (As := [.int p1, .int (y3.2.1 0), .int p2, .int p3]) (rest := []) ⟨hx, hb, hml, hown, hts⟩ (m_X7_awayOf l D cy g σ  d0 p1 (y3.2.1 0) p2 p3 _ hJ (show 9 ≤ d0 ∧ d0 < 12 from hd0) (show (2 : Int) ≤ (y3.2.1 0).toInt ∧ (y3.2.1 0).toInt ≤ 1000000 from (by have f0 := b4; have f1 := k7; have f2 := j8_7_1 hJ hd0 rfl; have g0 := rg32 (y3.2.1 0); omega))) (cwV 4 hts (gd_V q876 q877 q878 q128 q879) rfl rfl rfl (by decide +kernel) ⟨(Nat.le_of_ble_eq_true rfl), (Nat.le_of_ble_eq_true rfl)⟩) (pv8 hP hK hD hC hS (rv8_7 hK hP hd0)) rfl rfl hl.1 rfl (lv_room (Nat.le_of_ble_eq_true rfl)) dX7_soundsBy_18 ⟨Nat.le_of_ble_eq_true rfl, Nat.le_of_ble_eq_true rfl⟩) hS (fun q _ h => up8 hS q h) (up8 hS) (fun r8 σ9 tS H1 locs ht hvm hw10 hB hz1 hk1 hS => ?_)
    have hP : va_P D clz (WD8 cy g σ9) H1 := by rw [← ht]; exact hB
    clear hB hz1 hk1 hvm ht
    generalize H1 = H at hP hS ⊢
    have hw10E : σ = σ9 := (hw10.1).symm
    subst hw10E
    refine lv_iconst (v := (-1)) hx hb dX7_soundsBy_21 (by decide) ?_
    refine lv_icmp_eq (tgt := 27) hx hb dX7_soundsBy_22 (by decide) (fun c11 => ?_) (fun c11 => ?_)
    ·
      have k12 := peq32 c11
      obtain ⟨x13, ex13⟩ : ∃ y : Int32, y = (y3.2.1 0) + 1 := ⟨_, rfl⟩
      have t14 := addO ex13 (by have f0 := b4; have f1 := k7; have f2 := j8_7_1 hJ hd0 rfl; have g0 := rg32 (y3.2.1 0); have z1 : (1 : Int32).toInt = 1 := (by decide); omega)
      refine lv_iinc (v := x13) (lv' := [(4, .int x13), (0, .ref (gO g d0)), (1, .int p1), (2, .int p2), (3, .int p3)]) hx hb dX7_soundsBy_27 hl (k := 0) rfl (by rw [ex13]; rfl) (by decide) rfl (fun ls hl => ?_)
      refine lv_goto (tgt := 3) hx hb dX7_soundsBy_30 (by decide) ?_
      have t15 : ((10000001 : Int) - x13.toInt).toNat < ((10000001 : Int) - (y3.2.1 0).toInt).toNat := (by have f0 := b4; have f1 := k7; have f2 := t14; have f3 := j8_7_1 hJ hd0 rfl; have g0 := rg32 (y3.2.1 0); have g1 := rg32 x13; have z1 : (1 : Int32).toInt = 1 := (by decide); omega)
      exact nl1 (σ, lf [x13], lg []) ⟨rfl, (show (2 : Int) ≤ (x13 : Int32).toInt ∧ (x13 : Int32).toInt ≤ 10000000 from (by have f0 := t14; have f1 := b4; have f2 := k7; have f3 := j8_7_1 hJ hd0 rfl; have g0 := rg32 x13; have z1 : (1 : Int32).toInt = 1 := (by decide); omega)), trivial⟩ (show ((10000001 : Int) - x13.toInt).toNat < _ from t15) _ _ _ hP hS (lv_sub hl [0, 1, 2, 3, 4] rfl)
    ·
      have k16 := neq32 c11
      refine lv_iconst (v := 1) hx hb dX7_soundsBy_25 (by decide) ?_
      exact W.zret (v := 1) hx hb hr rfl (fun tS ht hW => ⟨⟨1, σ, rfl, ⟨rfl, (show (0 : Int) ≤ (1 : Int32).toInt ∧ (1 : Int32).toInt ≤ 1 from (by have z1 : (1 : Int32).toInt = 1 := (by decide); omega)), trivial⟩, (show va_P D clz (WD8 cy g σ) tS.heap by rw [ht]; exact hP)⟩, hS.F ht⟩) hS.2.2 dX7_soundsBy_26

theorem q1298 : Cond.code yX8_couldSound cX8_couldSound 5 (some .boolean) ∈ lw_g := lw_gm (List.mem_of_getElem? (i := 1298) (by decide +kernel)) rfl
theorem q249 : Cond.fieldLink RX8 388 "LipsAndSlides$Tube" "settings" "I" ∈ lw_g := lw_gm (List.mem_of_getElem? (i := 249) (by decide +kernel)) rfl
theorem q1299 : Cond.methodLink RX8 391 yX7_soundsBy ∈ lw_g := lw_gm (List.mem_of_getElem? (i := 1299) (by decide +kernel)) rfl
theorem q1300 : Cond.instanceMethod yX7_soundsBy ∈ lw_g := lw_gm (List.mem_of_getElem? (i := 1300) (by decide +kernel)) rfl
theorem q1301 : Cond.selects RX7 yX7_soundsBy yX7_soundsBy ∈ lw_g := lw_gm (List.mem_of_getElem? (i := 1301) (by decide +kernel)) rfl
theorem dX8_couldSound_0 : decode cX8_couldSound 0 = .ok (.iconst 0, 1) := by decide +kernel
theorem dX8_couldSound_1 : decode cX8_couldSound 1 = .ok (.istore_n 2, 1) := by decide +kernel
theorem dX8_couldSound_2 : decode cX8_couldSound 2 = .ok (.iload_n 2, 1) := by decide +kernel
theorem dX8_couldSound_3 : decode cX8_couldSound 3 = .ok (.iconst 1, 1) := by decide +kernel
theorem dX8_couldSound_4 : decode cX8_couldSound 4 = .ok (.iadd, 1) := by decide +kernel
theorem dX8_couldSound_5 : decode cX8_couldSound 5 = .ok (.aload_n 1, 1) := by decide +kernel
theorem dX8_couldSound_6 : decode cX8_couldSound 6 = .ok (.getfield 363, 3) := by decide +kernel
theorem dX8_couldSound_9 : decode cX8_couldSound 9 = .ok (.if_icmp .ge 65, 3) := by decide +kernel
theorem dX8_couldSound_12 : decode cX8_couldSound 12 = .ok (.aload_n 1, 1) := by decide +kernel
theorem dX8_couldSound_13 : decode cX8_couldSound 13 = .ok (.iload_n 2, 1) := by decide +kernel
theorem dX8_couldSound_14 : decode cX8_couldSound 14 = .ok (.iconst 1, 1) := by decide +kernel
theorem dX8_couldSound_15 : decode cX8_couldSound 15 = .ok (.iadd, 1) := by decide +kernel
theorem dX8_couldSound_16 : decode cX8_couldSound 16 = .ok (.invokevirtual 384, 3) := by decide +kernel
theorem dX8_couldSound_19 : decode cX8_couldSound 19 = .ok (.lstore_n 3, 1) := by decide +kernel
theorem dX8_couldSound_20 : decode cX8_couldSound 20 = .ok (.lload_n 3, 1) := by decide +kernel
theorem dX8_couldSound_21 : decode cX8_couldSound 21 = .ok (.lconst 0, 1) := by decide +kernel
theorem dX8_couldSound_22 : decode cX8_couldSound 22 = .ok (.lcmp, 1) := by decide +kernel
theorem dX8_couldSound_23 : decode cX8_couldSound 23 = .ok (.ifCond .lt 16, 3) := by decide +kernel
theorem dX8_couldSound_26 : decode cX8_couldSound 26 = .ok (.lload_n 3, 1) := by decide +kernel
theorem dX8_couldSound_27 : decode cX8_couldSound 27 = .ok (.aload_n 0, 1) := by decide +kernel
theorem dX8_couldSound_28 : decode cX8_couldSound 28 = .ok (.getfield 43, 3) := by decide +kernel
theorem dX8_couldSound_31 : decode cX8_couldSound 31 = .ok (.getfield 388, 3) := by decide +kernel
theorem dX8_couldSound_34 : decode cX8_couldSound 34 = .ok (.i2l, 1) := by decide +kernel
theorem dX8_couldSound_35 : decode cX8_couldSound 35 = .ok (.lcmp, 1) := by decide +kernel
theorem dX8_couldSound_36 : decode cX8_couldSound 36 = .ok (.ifCond .lt 5, 3) := by decide +kernel
theorem dX8_couldSound_39 : decode cX8_couldSound 39 = .ok (.iconst 0, 1) := by decide +kernel
theorem dX8_couldSound_40 : decode cX8_couldSound 40 = .ok (.ireturn, 1) := by decide +kernel
theorem dX8_couldSound_41 : decode cX8_couldSound 41 = .ok (.aload_n 0, 1) := by decide +kernel
theorem dX8_couldSound_42 : decode cX8_couldSound 42 = .ok (.getfield 43, 3) := by decide +kernel
theorem dX8_couldSound_45 : decode cX8_couldSound 45 = .ok (.aload_n 1, 1) := by decide +kernel
theorem dX8_couldSound_46 : decode cX8_couldSound 46 = .ok (.iload_n 2, 1) := by decide +kernel
theorem dX8_couldSound_47 : decode cX8_couldSound 47 = .ok (.invokevirtual 384, 3) := by decide +kernel
theorem dX8_couldSound_50 : decode cX8_couldSound 50 = .ok (.l2i, 1) := by decide +kernel
theorem dX8_couldSound_51 : decode cX8_couldSound 51 = .ok (.lload_n 3, 1) := by decide +kernel
theorem dX8_couldSound_52 : decode cX8_couldSound 52 = .ok (.l2i, 1) := by decide +kernel
theorem dX8_couldSound_53 : decode cX8_couldSound 53 = .ok (.aload_n 0, 1) := by decide +kernel
theorem dX8_couldSound_54 : decode cX8_couldSound 54 = .ok (.getfield 19, 3) := by decide +kernel
theorem dX8_couldSound_57 : decode cX8_couldSound 57 = .ok (.getfield 104, 3) := by decide +kernel
theorem dX8_couldSound_60 : decode cX8_couldSound 60 = .ok (.invokevirtual 391, 3) := by decide +kernel
theorem dX8_couldSound_63 : decode cX8_couldSound 63 = .ok (.ifCond .ne 5, 3) := by decide +kernel
theorem dX8_couldSound_66 : decode cX8_couldSound 66 = .ok (.iconst 0, 1) := by decide +kernel
theorem dX8_couldSound_67 : decode cX8_couldSound 67 = .ok (.ireturn, 1) := by decide +kernel
theorem dX8_couldSound_68 : decode cX8_couldSound 68 = .ok (.iinc 2 2, 3) := by decide +kernel
theorem dX8_couldSound_71 : decode cX8_couldSound 71 = .ok (.goto (-69), 3) := by decide +kernel
theorem dX8_couldSound_74 : decode cX8_couldSound 74 = .ok (.iconst 1, 1) := by decide +kernel
theorem dX8_couldSound_75 : decode cX8_couldSound 75 = .ok (.ireturn, 1) := by decide +kernel
set_option maxHeartbeats 4000000 in
set_option maxRecDepth 100000 in
theorem m_X8_couldSound (l : Launch) (D : va_G) (cy : Nat → ClassId) (g : Nat → Nat) (σ : ST) (d1 : Nat) (sz : Nat) (hJ : J8 σ) (hd1 : 5 ≤ d1 ∧ d1 < 9) : Met l yX8_couldSound (ww yX8_couldSound cX8_couldSound 5 (some .boolean)) ({ frames := 5, cells := 0, slots := 0, locals := 320 }) (va_Pc [.ref (gO g 17), .ref (gO g d1)] (pr8 D cy g σ sz)) (qi8 D cy g sz (fun r τ => τ = σ ∧ ((0 : Int) ≤ r.toInt ∧ r.toInt ≤ 1) ∧ True)) 0 0 (A8 cy g sz) := by
  refine Met.ofW (cc := cX8_couldSound) (maxL := 5) (ret := (some .boolean)) (by decide) rfl ?_
  intro p e s m args below meth c s₁ B hml hv
  obtain ⟨rfl, hsz, hP, hK, hD0, hC⟩ := hv
  have hx := B.exec
  have hb := B.bytes
  have hr := B.returns
  have hts := hts_g (atoms_spec (ws := ww yX8_couldSound cX8_couldSound 5 (some .boolean)) B.pre)
  have hown : s.vm.findClass RX8 = some m.cls := findClass_of_methodNamed B.named
  have hlocks := B.notSynchronized
  clear B
  subst hsz
  have hD := fun τ => A8_D (sz := s.heap.size) hD0 τ
  clear hD0
  have hS : va_S (A8 cy g s.heap.size) s.heap s.heap [] := va_S.rf
  have hl := lv_entry ([.ref (gO g 17), .ref (gO g d1)]) (n := 5) (Nat.le_of_ble_eq_true rfl)
  rw [lg_entry_eq]
  generalize (lg_sl ([.ref (gO g 17), .ref (gO g d1)]) ++ List.replicate (5 - (lg_sl ([.ref (gO g 17), .ref (gO g d1)])).length) Slot.unset).toArray = ls at hl ⊢
  have hl : lv_has ls 5 [(0, .ref (gO g 17)), (1, .ref (gO g d1))] := hl
  refine lv_iconst (v := 0) hx hb dX8_couldSound_0 (by decide) ?_
  refine lv_istore_n (lv' := [(2, .int 0), (0, .ref (gO g 17)), (1, .ref (gO g d1))]) hx hb dX8_couldSound_1 rfl hl (by decide) rfl (fun ls hl => ?_)
  refine loop8 5 2 (fun x : LZ => [(2, .int (x.2.1 0)), (0, .ref (gO g 17)), (1, .ref (gO g d1))]) (fun x : LZ => (x.1 = σ) ∧ ((0 : Int) ≤ (x.2.1 0).toInt ∧ (x.2.1 0).toInt ≤ 60) ∧ True) (fun x : LZ => ((61 : Int) - (x.2.1 0).toInt).toNat) ?_ (σ, lf [0], lg []) ⟨rfl, (show (0 : Int) ≤ (0 : Int32).toInt ∧ (0 : Int32).toInt ≤ 60 from (by have z0 : (0 : Int32).toInt = 0 := (by decide); omega)), trivial⟩ _ _ _ hP hS (lv_sub hl [0, 1, 2] rfl)
  intro y3 hI2 nl1 H locs ls hP hS hl
  rw [show y3.1 = σ from hI2.1] at hP
  have b4 : (0 : Int) ≤ (y3.2.1 0).toInt ∧ (y3.2.1 0).toInt ≤ 60 := hI2.2.1
  have hl : lv_has ls 5 [(2, .int (y3.2.1 0)), (0, .ref (gO g 17)), (1, .ref (gO g d1))] := hl
  refine lv_iload_n hx hb dX8_couldSound_2 rfl (lv_at hl 0 rfl) ?_
  refine lv_iconst (v := 1) hx hb dX8_couldSound_3 (by decide) ?_
  refine lv_iadd hx hb dX8_couldSound_4 ?_
  refine lv_topi (fun x5 ex5 => ?_)
  have t6 := addO ex5 (by have f0 := b4; have g0 := rg32 (y3.2.1 0); have z1 : (1 : Int32).toInt = 1 := (by decide); omega)
  refine lv_aload_n hx hb dX8_couldSound_5 rfl (lv_at hl 2 rfl) ?_
  refine g8_5_2 (x := ((σ d1).1 2)) hx hb hts hown hK hP hd1 (rfl) (hts _ q421) dX8_couldSound_6 ?_
  refine lv_icmp_ge (tgt := 74) hx hb dX8_couldSound_9 (by decide) (fun c7 => ?_) (fun c7 => ?_)
  ·
    have k8 := ple32 c7
    refine lv_iconst (v := 1) hx hb dX8_couldSound_74 (by decide) ?_
    exact W.zret (v := 1) hx hb hr rfl (fun tS ht hW => ⟨⟨1, σ, rfl, ⟨rfl, (show (0 : Int) ≤ (1 : Int32).toInt ∧ (1 : Int32).toInt ≤ 1 from (by have z1 : (1 : Int32).toInt = 1 := (by decide); omega)), trivial⟩, (show va_P D clz (WD8 cy g σ) tS.heap by rw [ht]; exact hP)⟩, hS.F ht⟩) hS.2.2 dX8_couldSound_75
  ·
    have k9 := nle32 c7
    refine lv_aload_n hx hb dX8_couldSound_12 rfl (lv_at hl 2 rfl) ?_
    refine lv_iload_n hx hb dX8_couldSound_13 rfl (lv_at hl 0 rfl) ?_
    refine lv_iconst (v := 1) hx hb dX8_couldSound_14 (by decide) ?_
    refine lv_iadd hx hb dX8_couldSound_15 ?_
    refine lv_topi (fun x10 ex10 => ?_)
    have t11 := addO ex10 (by have f0 := b4; have f1 := t6; have f2 := k9; have f3 := j8_5_2 hJ hd1 rfl; have g0 := rg32 (y3.2.1 0); have z1 : (1 : Int32).toInt = 1 := (by decide); omega)
    refine va_calll (va_runV (As := [.int x10]) (rest := []) ⟨hx, hb, hml, hown, hts⟩ (m_X5_numberAt l D cy g σ  d1 x10 _ hJ (show 5 ≤ d1 ∧ d1 < 9 from hd1) (show (0 : Int) ≤ x10.toInt ∧ x10.toInt ≤ 59 from (by have f0 := t11; have f1 := b4; have f2 := t6; have f3 := k9; have f4 := j8_5_2 hJ hd1 rfl; have g0 := rg32 x10; have z1 : (1 : Int32).toInt = 1 := (by decide); omega))) (cwV 1 hts (gd_V q1294 q1275 q1276 q133 q1277) rfl rfl rfl (by decide +kernel) ⟨(Nat.le_of_ble_eq_true rfl), (Nat.le_of_ble_eq_true rfl)⟩) (pv8 hP hK hD hC hS (rv8_5 hK hP hd1)) rfl rfl hl.1 rfl (lv_room (Nat.le_of_ble_eq_true rfl)) dX8_couldSound_16 ⟨Nat.le_of_ble_eq_true rfl, Nat.le_of_ble_eq_true rfl⟩) hS (fun q _ h => up8 hS q h) (up8 hS) (fun r12 σ13 tS H1 locs ht hvm hw14 hB hz1 hk1 hS => ?_)
    have hP : va_P D clz (WD8 cy g σ13) H1 := by rw [← ht]; exact hB
    clear hB hz1 hk1 hvm ht
    generalize H1 = H at hP hS ⊢
    have hw14E : σ = σ13 := (hw14.1).symm
    subst hw14E
    refine lv_lstore_n (lv' := [(3, .long r12), (2, .int (y3.2.1 0)), (0, .ref (gO g 17)), (1, .ref (gO g d1))]) hx hb dX8_couldSound_19 rfl hl (by decide) rfl (fun ls hl => ?_)
    refine lv_lload_n hx hb dX8_couldSound_20 rfl (lv_at hl 0 rfl) ?_
    refine lv_lconst (v := 0) hx hb dX8_couldSound_21 (by decide) ?_
    refine W.lcmp hx hb dX8_couldSound_22 ?_
    refine lv_if_lt (tgt := 39) hx hb dX8_couldSound_23 (by decide) (fun c15 => ?_) (fun c15 => ?_)
    ·
      have k16 := plt64 ((lg_cmp_lt r12 (0 : Int64)).mp c15)
      refine lv_iconst (v := 0) hx hb dX8_couldSound_39 (by decide) ?_
      exact W.zret (v := 0) hx hb hr rfl (fun tS ht hW => ⟨⟨0, σ, rfl, ⟨rfl, (show (0 : Int) ≤ (0 : Int32).toInt ∧ (0 : Int32).toInt ≤ 1 from (by have z0 : (0 : Int32).toInt = 0 := (by decide); omega)), trivial⟩, (show va_P D clz (WD8 cy g σ) tS.heap by rw [ht]; exact hP)⟩, hS.F ht⟩) hS.2.2 dX8_couldSound_40
    ·
      have k17 := nlt64 (fun q => c15 ((lg_cmp_lt r12 (0 : Int64)).mpr q))
      refine lv_lload_n hx hb dX8_couldSound_26 rfl (lv_at hl 0 rfl) ?_
      refine lv_aload_n hx hb dX8_couldSound_27 rfl (lv_at hl 2 rfl) ?_
      refine g8_8_6 hx hb hts hown hK hP (hts _ q440) dX8_couldSound_28 ?_
      refine g8_7_0 (x := ((σ 9).1 0)) hx hb hts hown hK hP (by decide : 9 ≤ 9 ∧ 9 < 12) (rfl) (hts _ q249) dX8_couldSound_31 ?_
      refine lv_i2l (v := ((σ 9).1 0).toInt64) hx hb dX8_couldSound_34 rfl ?_
      refine W.lcmp hx hb dX8_couldSound_35 ?_
      refine lv_if_lt (tgt := 41) hx hb dX8_couldSound_36 (by decide) (fun c18 => ?_) (fun c18 => ?_)
      ·
        have k19 := plt64 ((lg_cmp_lt r12 ((σ 9).1 0).toInt64).mp c18)
        refine lv_aload_n hx hb dX8_couldSound_41 rfl (lv_at hl 2 rfl) ?_
        refine g8_8_6 hx hb hts hown hK hP (hts _ q440) dX8_couldSound_42 ?_
        refine lv_aload_n hx hb dX8_couldSound_45 rfl (lv_at hl 3 rfl) ?_
        refine lv_iload_n hx hb dX8_couldSound_46 rfl (lv_at hl 1 rfl) ?_
        refine va_calll (va_runV (As := [.int (y3.2.1 0)]) (rest := [.ref (gO g 9)]) ⟨hx, hb, hml, hown, hts⟩ (m_X5_numberAt l D cy g σ  d1 (y3.2.1 0) _ hJ (show 5 ≤ d1 ∧ d1 < 9 from hd1) (show (0 : Int) ≤ (y3.2.1 0).toInt ∧ (y3.2.1 0).toInt ≤ 59 from (by have f0 := b4; have f1 := t6; have f2 := t11; have f3 := k9; have f4 := j8_5_2 hJ hd1 rfl; have g0 := rg32 (y3.2.1 0); have z1 : (1 : Int32).toInt = 1 := (by decide); omega))) (cwV 1 hts (gd_V q1294 q1275 q1276 q133 q1277) rfl rfl rfl (by decide +kernel) ⟨(Nat.le_of_ble_eq_true rfl), (Nat.le_of_ble_eq_true rfl)⟩) (pv8 hP hK hD hC hS (rv8_5 hK hP hd1)) rfl rfl hl.1 rfl (lv_room (Nat.le_of_ble_eq_true rfl)) dX8_couldSound_47 ⟨Nat.le_of_ble_eq_true rfl, Nat.le_of_ble_eq_true rfl⟩) hS (fun q _ h => up8 hS q h) (up8 hS) (fun r20 σ21 tS H1 locs ht hvm hw22 hB hz1 hk1 hS => ?_)
        have hP : va_P D clz (WD8 cy g σ21) H1 := by rw [← ht]; exact hB
        clear hB hz1 hk1 hvm ht
        generalize H1 = H at hP hS ⊢
        have hw22E : σ = σ21 := (hw22.1).symm
        subst hw22E
        refine lv_l2i hx hb dX8_couldSound_50 rfl ?_
        refine lv_topi (fun x23 ex23 => ?_)
        refine lv_lload_n hx hb dX8_couldSound_51 rfl (lv_at hl 0 rfl) ?_
        refine lv_l2i hx hb dX8_couldSound_52 rfl ?_
        refine lv_topi (fun x24 ex24 => ?_)
        have t25 := l2iO ex24 (by have f0 := k17; have f1 := k19; have f2 := t64 (a := ((σ 9).1 0)); have f3 := j8_7_0 hJ (by decide : 9 ≤ 9 ∧ 9 < 12) rfl; have f4 := rg32 ((σ 9).1 0); have zl0 : (0 : Int64).toInt = 0 := (by decide); have w6 := t64 (a := ((σ 9).1 0)); omega)
        refine lv_aload_n hx hb dX8_couldSound_53 rfl (lv_at hl 2 rfl) ?_
        obtain ⟨dx26, edx26⟩ : ∃ z : Nat, ((σ 17).1 1).toInt.toNat = z := ⟨_, rfl⟩
        have hdx26 : 0 ≤ dx26 ∧ dx26 < 5 := mnow (by have f0 := j8_8_1 hJ rfl; omega) edx26
        refine g8_8_1 (o := dx26) hx hb hts hown hK hP edx26 (hts _ q435) dX8_couldSound_54 ?_
        refine g8_0_0 (x := ((σ dx26).1 0)) hx hb hts hown hK hP hdx26 (rfl) (hts _ q194) dX8_couldSound_57 ?_
        refine va_calli (va_runV (As := [.int x23, .int x24, .int ((σ dx26).1 0)]) (rest := []) ⟨hx, hb, hml, hown, hts⟩ (m_X7_soundsBy l D cy g σ  9 x23 x24 ((σ dx26).1 0) _ hJ (show 9 ≤ 9 ∧ 9 < 12 from ⟨by decide, by decide⟩)) (cwV 3 hts (gd_V q1299 q1300 q1301 q128 q1302) rfl rfl rfl (by decide +kernel) ⟨(Nat.le_of_ble_eq_true rfl), (Nat.le_of_ble_eq_true rfl)⟩) (pv8 hP hK hD hC hS (rv8_7 hK hP (by decide : 9 ≤ 9 ∧ 9 < 12))) rfl rfl hl.1 rfl (lv_room (Nat.le_of_ble_eq_true rfl)) dX8_couldSound_60 ⟨Nat.le_of_ble_eq_true rfl, Nat.le_of_ble_eq_true rfl⟩) hS (fun q _ h => up8 hS q h) (up8 hS) (fun r27 σ28 tS H1 locs ht hvm hw29 hB hz1 hk1 hS => ?_)
        have hP : va_P D clz (WD8 cy g σ28) H1 := by rw [← ht]; exact hB
        clear hB hz1 hk1 hvm ht
        generalize H1 = H at hP hS ⊢
        have hw29E : σ = σ28 := (hw29.1).symm
        subst hw29E
        have b30 : (0 : Int) ≤ r27.toInt ∧ r27.toInt ≤ 1 := hw29.2.1
        refine lv_if_ne (tgt := 68) hx hb dX8_couldSound_63 (by decide) (fun c31 => ?_) (fun c31 => ?_)
        ·
          have k32 := neq32 c31
          obtain ⟨x33, ex33⟩ : ∃ y : Int32, y = (y3.2.1 0) + 2 := ⟨_, rfl⟩
          have t34 := addO ex33 (by have f0 := b4; have f1 := t6; have f2 := t11; have f3 := k9; have f4 := j8_5_2 hJ hd1 rfl; have g0 := rg32 (y3.2.1 0); have z1 : (1 : Int32).toInt = 1 := (by decide); have z2 : (2 : Int32).toInt = 2 := (by decide); omega)
          refine lv_iinc (v := x33) (lv' := [(2, .int x33), (3, .long r12), (0, .ref (gO g 17)), (1, .ref (gO g d1))]) hx hb dX8_couldSound_68 hl (k := 1) rfl (by rw [ex33]; rfl) (by decide) rfl (fun ls hl => ?_)
          refine lv_goto (tgt := 2) hx hb dX8_couldSound_71 (by decide) ?_
          have t35 : ((61 : Int) - x33.toInt).toNat < ((61 : Int) - (y3.2.1 0).toInt).toNat := (by have f0 := b4; have f1 := t6; have f2 := t11; have f3 := t34; have f4 := k9; have f5 := j8_5_2 hJ hd1 rfl; have g0 := rg32 (y3.2.1 0); have g1 := rg32 x33; have z1 : (1 : Int32).toInt = 1 := (by decide); have z2 : (2 : Int32).toInt = 2 := (by decide); omega)
          exact nl1 (σ, lf [x33], lg []) ⟨rfl, (show (0 : Int) ≤ (x33 : Int32).toInt ∧ (x33 : Int32).toInt ≤ 60 from (by have f0 := t34; have f1 := b4; have f2 := t6; have f3 := t11; have f4 := k9; have f5 := j8_5_2 hJ hd1 rfl; have g0 := rg32 x33; have z1 : (1 : Int32).toInt = 1 := (by decide); have z2 : (2 : Int32).toInt = 2 := (by decide); omega)), trivial⟩ (show ((61 : Int) - x33.toInt).toNat < _ from t35) _ _ _ hP hS (lv_sub hl [0, 2, 3] rfl)
        ·
          have k36 := peq32 c31
          refine lv_iconst (v := 0) hx hb dX8_couldSound_66 (by decide) ?_
          exact W.zret (v := 0) hx hb hr rfl (fun tS ht hW => ⟨⟨0, σ, rfl, ⟨rfl, (show (0 : Int) ≤ (0 : Int32).toInt ∧ (0 : Int32).toInt ≤ 1 from (by have z0 : (0 : Int32).toInt = 0 := (by decide); omega)), trivial⟩, (show va_P D clz (WD8 cy g σ) tS.heap by rw [ht]; exact hP)⟩, hS.F ht⟩) hS.2.2 dX8_couldSound_67
      ·
        have k37 := nlt64 (fun q => c18 ((lg_cmp_lt r12 ((σ 9).1 0).toInt64).mpr q))
        refine lv_iconst (v := 0) hx hb dX8_couldSound_39 (by decide) ?_
        exact W.zret (v := 0) hx hb hr rfl (fun tS ht hW => ⟨⟨0, σ, rfl, ⟨rfl, (show (0 : Int) ≤ (0 : Int32).toInt ∧ (0 : Int32).toInt ≤ 1 from (by have z0 : (0 : Int32).toInt = 0 := (by decide); omega)), trivial⟩, (show va_P D clz (WD8 cy g σ) tS.heap by rw [ht]; exact hP)⟩, hS.F ht⟩) hS.2.2 dX8_couldSound_40

theorem q1290 : Cond.code yX8_heard cX8_heard 5 (some .int) ∈ lw_g := lw_gm (List.mem_of_getElem? (i := 1290) (by decide +kernel)) rfl
theorem q1291 : Cond.methodLink RX8 377 yX8_holdsPitches ∈ lw_g := lw_gm (List.mem_of_getElem? (i := 1291) (by decide +kernel)) rfl
theorem q1292 : Cond.static yX8_holdsPitches ∈ lw_g := lw_gm (List.mem_of_getElem? (i := 1292) (by decide +kernel)) rfl
theorem q1295 : Cond.methodLink RX8 381 yX8_couldSound ∈ lw_g := lw_gm (List.mem_of_getElem? (i := 1295) (by decide +kernel)) rfl
theorem q1297 : Cond.instanceMethod yX8_couldSound ∈ lw_g := lw_gm (List.mem_of_getElem? (i := 1297) (by decide +kernel)) rfl
theorem q48 : Cond.selects RX8 yX8_couldSound yX8_couldSound ∈ lw_g := lw_gm (List.mem_of_getElem? (i := 48) (by decide +kernel)) rfl
theorem dX8_heard_0 : decode cX8_heard 0 = .ok (.iload_n 1, 1) := by decide +kernel
theorem dX8_heard_1 : decode cX8_heard 1 = .ok (.invokestatic 360, 3) := by decide +kernel
theorem dX8_heard_4 : decode cX8_heard 4 = .ok (.ifCond .eq 13, 3) := by decide +kernel
theorem dX8_heard_7 : decode cX8_heard 7 = .ok (.aload_n 0, 1) := by decide +kernel
theorem dX8_heard_8 : decode cX8_heard 8 = .ok (.getfield 19, 3) := by decide +kernel
theorem dX8_heard_11 : decode cX8_heard 11 = .ok (.getfield 95, 3) := by decide +kernel
theorem dX8_heard_14 : decode cX8_heard 14 = .ok (.ifCond .ne 6, 3) := by decide +kernel
theorem dX8_heard_17 : decode cX8_heard 17 = .ok (.bipush (-2), 2) := by decide +kernel
theorem dX8_heard_19 : decode cX8_heard 19 = .ok (.ireturn, 1) := by decide +kernel
theorem dX8_heard_20 : decode cX8_heard 20 = .ok (.aload_n 0, 1) := by decide +kernel
theorem dX8_heard_21 : decode cX8_heard 21 = .ok (.getfield 36, 3) := by decide +kernel
theorem dX8_heard_24 : decode cX8_heard 24 = .ok (.iload_n 1, 1) := by decide +kernel
theorem dX8_heard_25 : decode cX8_heard 25 = .ok (.aaload, 1) := by decide +kernel
theorem dX8_heard_26 : decode cX8_heard 26 = .ok (.astore_n 2, 1) := by decide +kernel
theorem dX8_heard_27 : decode cX8_heard 27 = .ok (.aload_n 2, 1) := by decide +kernel
theorem dX8_heard_28 : decode cX8_heard 28 = .ok (.getfield 123, 3) := by decide +kernel
theorem dX8_heard_31 : decode cX8_heard 31 = .ok (.ifCond .ne 6, 3) := by decide +kernel
theorem dX8_heard_34 : decode cX8_heard 34 = .ok (.bipush (-6), 2) := by decide +kernel
theorem dX8_heard_36 : decode cX8_heard 36 = .ok (.ireturn, 1) := by decide +kernel
theorem dX8_heard_37 : decode cX8_heard 37 = .ok (.aload_n 2, 1) := by decide +kernel
theorem dX8_heard_38 : decode cX8_heard 38 = .ok (.getfield 363, 3) := by decide +kernel
theorem dX8_heard_41 : decode cX8_heard 41 = .ok (.iconst 2, 1) := by decide +kernel
theorem dX8_heard_42 : decode cX8_heard 42 = .ok (.irem, 1) := by decide +kernel
theorem dX8_heard_43 : decode cX8_heard 43 = .ok (.ifCond .ne 10, 3) := by decide +kernel
theorem dX8_heard_46 : decode cX8_heard 46 = .ok (.aload_n 2, 1) := by decide +kernel
theorem dX8_heard_47 : decode cX8_heard 47 = .ok (.invokestatic 377, 3) := by decide +kernel
theorem dX8_heard_50 : decode cX8_heard 50 = .ok (.ifCond .ne 6, 3) := by decide +kernel
theorem dX8_heard_53 : decode cX8_heard 53 = .ok (.bipush (-2), 2) := by decide +kernel
theorem dX8_heard_55 : decode cX8_heard 55 = .ok (.ireturn, 1) := by decide +kernel
theorem dX8_heard_56 : decode cX8_heard 56 = .ok (.iconst 0, 1) := by decide +kernel
theorem dX8_heard_57 : decode cX8_heard 57 = .ok (.istore_n 3, 1) := by decide +kernel
theorem dX8_heard_58 : decode cX8_heard 58 = .ok (.iconst 0, 1) := by decide +kernel
theorem dX8_heard_59 : decode cX8_heard 59 = .ok (.istore 4, 2) := by decide +kernel
theorem dX8_heard_61 : decode cX8_heard 61 = .ok (.iload 4, 2) := by decide +kernel
theorem dX8_heard_63 : decode cX8_heard 63 = .ok (.aload_n 0, 1) := by decide +kernel
theorem dX8_heard_64 : decode cX8_heard 64 = .ok (.getfield 19, 3) := by decide +kernel
theorem dX8_heard_67 : decode cX8_heard 67 = .ok (.getfield 110, 3) := by decide +kernel
theorem dX8_heard_70 : decode cX8_heard 70 = .ok (.if_icmp .ge 37, 3) := by decide +kernel
theorem dX8_heard_73 : decode cX8_heard 73 = .ok (.aload_n 0, 1) := by decide +kernel
theorem dX8_heard_74 : decode cX8_heard 74 = .ok (.getfield 43, 3) := by decide +kernel
theorem dX8_heard_77 : decode cX8_heard 77 = .ok (.aload_n 0, 1) := by decide +kernel
theorem dX8_heard_78 : decode cX8_heard 78 = .ok (.getfield 19, 3) := by decide +kernel
theorem dX8_heard_81 : decode cX8_heard 81 = .ok (.iload 4, 2) := by decide +kernel
theorem dX8_heard_83 : decode cX8_heard 83 = .ok (.invokevirtual 226, 3) := by decide +kernel
theorem dX8_heard_86 : decode cX8_heard 86 = .ok (.aload_n 0, 1) := by decide +kernel
theorem dX8_heard_87 : decode cX8_heard 87 = .ok (.aload_n 2, 1) := by decide +kernel
theorem dX8_heard_88 : decode cX8_heard 88 = .ok (.invokevirtual 381, 3) := by decide +kernel
theorem dX8_heard_91 : decode cX8_heard 91 = .ok (.ifCond .eq 10, 3) := by decide +kernel
theorem dX8_heard_94 : decode cX8_heard 94 = .ok (.iload_n 3, 1) := by decide +kernel
theorem dX8_heard_95 : decode cX8_heard 95 = .ok (.iconst 1, 1) := by decide +kernel
theorem dX8_heard_96 : decode cX8_heard 96 = .ok (.iload 4, 2) := by decide +kernel
theorem dX8_heard_98 : decode cX8_heard 98 = .ok (.ishl, 1) := by decide +kernel
theorem dX8_heard_99 : decode cX8_heard 99 = .ok (.ior, 1) := by decide +kernel
theorem dX8_heard_100 : decode cX8_heard 100 = .ok (.istore_n 3, 1) := by decide +kernel
theorem dX8_heard_101 : decode cX8_heard 101 = .ok (.iinc 4 1, 3) := by decide +kernel
theorem dX8_heard_104 : decode cX8_heard 104 = .ok (.goto (-43), 3) := by decide +kernel
theorem dX8_heard_107 : decode cX8_heard 107 = .ok (.iload_n 3, 1) := by decide +kernel
theorem dX8_heard_108 : decode cX8_heard 108 = .ok (.ireturn, 1) := by decide +kernel
set_option maxHeartbeats 4000000 in
set_option maxRecDepth 100000 in
theorem m_X8_heard (l : Launch) (D : va_G) (cy : Nat → ClassId) (g : Nat → Nat) (σ : ST) (p1 : Int32) (sz : Nat) (hJ : J8 σ)  : Met l yX8_heard (ww yX8_heard cX8_heard 5 (some .int)) ({ frames := 6, cells := 0, slots := 0, locals := 384 }) (va_Pc [.ref (gO g 17), .int p1] (pr8 D cy g σ sz)) (qi8 D cy g sz (fun r τ => Fr (fO [9]) σ τ ∧ J8 τ ∧ True)) 0 0 (A8 cy g sz) := by
  refine Met.ofW (cc := cX8_heard) (maxL := 5) (ret := (some .int)) (by decide) rfl ?_
  intro p e s m args below meth c s₁ B hml hv
  obtain ⟨rfl, hsz, hP, hK, hD0, hC⟩ := hv
  have hx := B.exec
  have hb := B.bytes
  have hr := B.returns
  have hts := hts_g (atoms_spec (ws := ww yX8_heard cX8_heard 5 (some .int)) B.pre)
  have hown : s.vm.findClass RX8 = some m.cls := findClass_of_methodNamed B.named
  have hlocks := B.notSynchronized
  clear B
  subst hsz
  have hD := fun τ => A8_D (sz := s.heap.size) hD0 τ
  clear hD0
  have hS : va_S (A8 cy g s.heap.size) s.heap s.heap [] := va_S.rf
  have hl := lv_entry ([.ref (gO g 17), .int p1]) (n := 5) (Nat.le_of_ble_eq_true rfl)
  rw [lg_entry_eq]
  generalize (lg_sl ([.ref (gO g 17), .int p1]) ++ List.replicate (5 - (lg_sl ([.ref (gO g 17), .int p1])).length) Slot.unset).toArray = ls at hl ⊢
  have hl : lv_has ls 5 [(0, .ref (gO g 17)), (1, .int p1)] := hl
  refine lv_iload_n hx hb dX8_heard_0 rfl (lv_at hl 1 rfl) ?_
  refine va_calli (va_runS (As := [.int p1]) (rest := []) ⟨hx, hb, hml, hown, hts⟩ (m_X8_isSlot l D cy g σ  p1 _ hJ ) (va_cwS 1 hts (gd_S q1267 q1268 q125 q1269) rfl rfl rfl (by decide +kernel) ⟨(Nat.le_of_ble_eq_true rfl), (Nat.le_of_ble_eq_true rfl)⟩) (ps8 hP hK hD hC hS) rfl rfl hl.1 rfl (lv_room (Nat.le_of_ble_eq_true rfl)) dX8_heard_1 ⟨Nat.le_of_ble_eq_true rfl, Nat.le_of_ble_eq_true rfl⟩) hS (fun q _ h => up8 hS q h) (up8 hS) (fun r1 σ2 tS H1 locs ht hvm hw3 hB hz1 hk1 hS => ?_)
  have hP : va_P D clz (WD8 cy g σ2) H1 := by rw [← ht]; exact hB
  clear hB hz1 hk1 hvm ht
  generalize H1 = H at hP hS ⊢
  have hw3E : σ = σ2 := (hw3.1).symm
  subst hw3E
  have b4 : (0 : Int) ≤ r1.toInt ∧ r1.toInt ≤ 1 := hw3.2.1
  have b5 : (r1.toInt = 0) ∨ ((0 : Int) ≤ p1.toInt ∧ p1.toInt ≤ 3) := hw3.2.2.1
  have b6 : r1.toInt = 1 ∨ p1.toInt < 0 ∨ 3 < p1.toInt := hw3.2.2.2.1
  refine lv_if_eq (tgt := 17) hx hb dX8_heard_4 (by decide) (fun c7 => ?_) (fun c7 => ?_)
  ·
    have k8 := peq32 c7
    refine lv_bipush (v := (-2)) hx hb dX8_heard_17 (by decide) ?_
    exact W.iret (v := (-2)) hx hb hr (fun tS ht hW => ⟨⟨(-2), σ, rfl, ⟨Fr.rf, hJ, trivial⟩, (show va_P D clz (WD8 cy g σ) tS.heap by rw [ht]; exact hP)⟩, hS.F ht⟩) hS.2.2 dX8_heard_19
  ·
    have k9 := neq32 c7
    refine lv_aload_n hx hb dX8_heard_7 rfl (lv_at hl 0 rfl) ?_
    obtain ⟨dx10, edx10⟩ : ∃ z : Nat, ((σ 17).1 1).toInt.toNat = z := ⟨_, rfl⟩
    have hdx10 : 0 ≤ dx10 ∧ dx10 < 5 := mnow (by have f0 := j8_8_1 hJ rfl; omega) edx10
    refine g8_8_1 (o := dx10) hx hb hts hown hK hP edx10 (hts _ q435) dX8_heard_8 ?_
    refine g8_0_2 (x := ((σ dx10).1 2)) hx hb hts hown hK hP hdx10 (rfl) (hts _ q200) dX8_heard_11 ?_
    refine lv_if_ne (tgt := 20) hx hb dX8_heard_14 (by decide) (fun c11 => ?_) (fun c11 => ?_)
    ·
      have k12 := neq32 c11
      refine lv_aload_n hx hb dX8_heard_20 rfl (lv_at hl 0 rfl) ?_
      refine g8_8_5 hx hb hts hown hK hP (hts _ q439) dX8_heard_21 ?_
      refine lv_iload_n hx hb dX8_heard_24 rfl (lv_at hl 1 rfl) ?_
      obtain ⟨dx13, edx13⟩ : ∃ z : Nat, 5 + p1.toInt.toNat = z := ⟨_, rfl⟩
      have hdx13 : 5 ≤ dx13 ∧ dx13 < 9 := mrow (n := 4) (by have f0 := b5; have f1 := b6; have f2 := b4; have f3 := k9; have g0 := rg32 p1; have z0 : (0 : Int32).toInt = 0 := (by decide); omega) edx13 rfl
      refine l8_8_5 hx hb hK hP (vpo (by have f0 := b5; have f1 := b6; have f2 := b4; have f3 := k9; have g0 := rg32 p1; have z0 : (0 : Int32).toInt = 0 := (by decide); omega)) edx13 dX8_heard_25 ?_
      refine lv_astore_n (lv' := [(2, .ref (gO g dx13)), (0, .ref (gO g 17)), (1, .int p1)]) hx hb dX8_heard_26 rfl hl (by decide) rfl (fun ls hl => ?_)
      refine lv_aload_n hx hb dX8_heard_27 rfl (lv_at hl 0 rfl) ?_
      refine g8_5_0 (x := ((σ dx13).1 0)) hx hb hts hown hK hP hdx13 (rfl) (hts _ q417) dX8_heard_28 ?_
      refine lv_if_ne (tgt := 37) hx hb dX8_heard_31 (by decide) (fun c14 => ?_) (fun c14 => ?_)
      ·
        have k15 := neq32 c14
        refine lv_aload_n hx hb dX8_heard_37 rfl (lv_at hl 0 rfl) ?_
        refine g8_5_2 (x := ((σ dx13).1 2)) hx hb hts hown hK hP hdx13 (rfl) (hts _ q421) dX8_heard_38 ?_
        refine lv_iconst (v := 2) hx hb dX8_heard_41 (by decide) ?_
        refine lv_irem hx hb dX8_heard_42 (by decide) ?_
        refine lv_topi (fun x16 ex16 => ?_)
        have t17 := remC (n := 2) ex16 (by decide) (by have f0 := j8_5_2 hJ hdx13 rfl; omega)
        refine lv_if_ne (tgt := 53) hx hb dX8_heard_43 (by decide) (fun c18 => ?_) (fun c18 => ?_)
        ·
          have k19 := neq32 c18
          refine lv_bipush (v := (-2)) hx hb dX8_heard_53 (by decide) ?_
          exact W.iret (v := (-2)) hx hb hr (fun tS ht hW => ⟨⟨(-2), σ, rfl, ⟨Fr.rf, hJ, trivial⟩, (show va_P D clz (WD8 cy g σ) tS.heap by rw [ht]; exact hP)⟩, hS.F ht⟩) hS.2.2 dX8_heard_55
        ·
          have k20 := peq32 c18
          refine lv_aload_n hx hb dX8_heard_46 rfl (lv_at hl 0 rfl) ?_
          refine va_calli (va_runS (As := [.ref (gO g dx13)]) (rest := []) ⟨hx, hb, hml, hown, hts⟩ (m_X8_holdsPitches l D cy g σ  dx13 _ hJ (show 5 ≤ dx13 ∧ dx13 < 9 from hdx13)) (va_cwS 1 hts (gd_S q1291 q1292 q125 q1293) rfl rfl rfl (by decide +kernel) ⟨(Nat.le_of_ble_eq_true rfl), (Nat.le_of_ble_eq_true rfl)⟩) (ps8 hP hK hD hC hS) rfl rfl hl.1 rfl (lv_room (Nat.le_of_ble_eq_true rfl)) dX8_heard_47 ⟨Nat.le_of_ble_eq_true rfl, Nat.le_of_ble_eq_true rfl⟩) hS (fun q _ h => up8 hS q h) (up8 hS) (fun r21 σ22 tS H1 locs ht hvm hw23 hB hz1 hk1 hS => ?_)
          have hP : va_P D clz (WD8 cy g σ22) H1 := by rw [← ht]; exact hB
          clear hB hz1 hk1 hvm ht
          generalize H1 = H at hP hS ⊢
          have hw23E : σ = σ22 := (hw23.1).symm
          subst hw23E
          have b24 : (0 : Int) ≤ r21.toInt ∧ r21.toInt ≤ 1 := hw23.2.1
          refine lv_if_ne (tgt := 56) hx hb dX8_heard_50 (by decide) (fun c25 => ?_) (fun c25 => ?_)
          ·
            have k26 := neq32 c25
            refine lv_iconst (v := 0) hx hb dX8_heard_56 (by decide) ?_
            refine lv_istore_n (lv' := [(3, .int 0), (2, .ref (gO g dx13)), (0, .ref (gO g 17)), (1, .int p1)]) hx hb dX8_heard_57 rfl hl (by decide) rfl (fun ls hl => ?_)
            refine lv_iconst (v := 0) hx hb dX8_heard_58 (by decide) ?_
            refine lv_istore (lv' := [(4, .int 0), (3, .int 0), (2, .ref (gO g dx13)), (0, .ref (gO g 17)), (1, .int p1)]) hx hb dX8_heard_59 hl (by decide) rfl (fun ls hl => ?_)
            refine loop8 5 61 (fun x : LZ => [(4, .int (x.2.1 0)), (3, .int (x.2.1 1)), (2, .ref (gO g dx13)), (0, .ref (gO g 17)), (1, .int p1)]) (fun x : LZ => (Fr (fO [9]) σ x.1) ∧ (J8 x.1) ∧ ((0 : Int) ≤ (x.2.1 0).toInt ∧ (x.2.1 0).toInt ≤ 4) ∧ True) (fun x : LZ => ((5 : Int) - (x.2.1 0).toInt).toNat) ?_ (σ, lf [0, 0], lg []) ⟨Fr.rf, hJ, (show (0 : Int) ≤ (0 : Int32).toInt ∧ (0 : Int32).toInt ≤ 4 from (by have z0 : (0 : Int32).toInt = 0 := (by decide); omega)), trivial⟩ _ _ _ hP hS (lv_sub hl [0, 1, 2, 3, 4] rfl)
            intro y29 hI28 nl27 H locs ls hP hS hl
            obtain ⟨σ30, eσ30⟩ : ∃ z, z = y29.1 := ⟨_, rfl⟩
            rw [← eσ30] at hP hI28
            have hF31 : Fr (fO [9]) σ σ30 := hI28.1
            have hJ32 : J8 σ30 := hI28.2.1
            have b33 : (0 : Int) ≤ (y29.2.1 0).toInt ∧ (y29.2.1 0).toInt ≤ 4 := hI28.2.2.1
            have hl : lv_has ls 5 [(4, .int (y29.2.1 0)), (3, .int (y29.2.1 1)), (2, .ref (gO g dx13)), (0, .ref (gO g 17)), (1, .int p1)] := hl
            refine lv_iload hx hb dX8_heard_61 (lv_at hl 0 rfl) ?_
            refine lv_aload_n hx hb dX8_heard_63 rfl (lv_at hl 3 rfl) ?_
            refine g8_8_1 (o := dx10) hx hb hts hown hK hP ((congrArg (fun z : Int32 => z.toInt.toNat) ((hF31 17 1 (fO_n (nmc (by decide) nm0))).1)).trans edx10) (hts _ q435) dX8_heard_64 ?_
            refine g8_0_3 (x := ((σ dx10).1 3)) hx hb hts hown hK hP hdx10 ((hF31 dx10 3 (fO_n (nmc (nel hdx10 (by decide)) nm0))).1) (hts _ q204) dX8_heard_67 ?_
            refine lv_icmp_ge (tgt := 107) hx hb dX8_heard_70 (by decide) (fun c34 => ?_) (fun c34 => ?_)
            ·
              have k35 := ple32 c34
              refine lv_iload_n hx hb dX8_heard_107 rfl (lv_at hl 1 rfl) ?_
              exact W.iret (v := (y29.2.1 1)) hx hb hr (fun tS ht hW => ⟨⟨(y29.2.1 1), σ30, rfl, ⟨Fr.tr (Fr.rf) hF31 (fO_sub (fun _ q => q)), hJ32, trivial⟩, (show va_P D clz (WD8 cy g σ30) tS.heap by rw [ht]; exact hP)⟩, hS.F ht⟩) hS.2.2 dX8_heard_108
            ·
              have k36 := nle32 c34
              refine lv_aload_n hx hb dX8_heard_73 rfl (lv_at hl 3 rfl) ?_
              refine g8_8_6 hx hb hts hown hK hP (hts _ q440) dX8_heard_74 ?_
              refine lv_aload_n hx hb dX8_heard_77 rfl (lv_at hl 3 rfl) ?_
              refine g8_8_1 (o := dx10) hx hb hts hown hK hP ((congrArg (fun z : Int32 => z.toInt.toNat) ((hF31 17 1 (fO_n (nmc (by decide) nm0))).1)).trans edx10) (hts _ q435) dX8_heard_78 ?_
              refine lv_iload hx hb dX8_heard_81 (lv_at hl 0 rfl) ?_
              refine va_callv (va_runV (As := [.ref (gO g dx10), .int (y29.2.1 0)]) (rest := []) ⟨hx, hb, hml, hown, hts⟩ (m_X7_aim l D cy g σ30  9 dx10 (y29.2.1 0) _ hJ32 (show 9 ≤ 9 ∧ 9 < 12 from ⟨by decide, by decide⟩) (show 0 ≤ dx10 ∧ dx10 < 5 from hdx10)) (cwV 2 hts (gd_V q800 q801 q802 q128 q803) rfl rfl rfl (by decide +kernel) ⟨(Nat.le_of_ble_eq_true rfl), (Nat.le_of_ble_eq_true rfl)⟩) (pv8 hP hK hD hC hS (rv8_7 hK hP (by decide : 9 ≤ 9 ∧ 9 < 12))) rfl rfl hl.1 rfl (lv_room (Nat.le_of_ble_eq_true rfl)) dX8_heard_83 ⟨Nat.le_of_ble_eq_true rfl, Nat.le_of_ble_eq_true rfl⟩) hS (fun q _ h => up8 hS q h) (up8 hS) (fun σ38 tS H1 locs ht hvm hw39 hB hz1 hk1 hS => ?_)
              have hP : va_P D clz (WD8 cy g σ38) H1 := by rw [← ht]; exact hB
              clear hB hz1 hk1 hvm ht
              generalize H1 = H at hP hS ⊢
              have hF40 : Fr (fO [9]) σ30 σ38 := hw39.1
              have hJ41 : J8 σ38 := hw39.2.1
              refine lv_aload_n hx hb dX8_heard_86 rfl (lv_at hl 3 rfl) ?_
              refine lv_aload_n hx hb dX8_heard_87 rfl (lv_at hl 2 rfl) ?_
              refine va_calli (va_runV (As := [.ref (gO g dx13)]) (rest := []) ⟨hx, hb, hml, hown, hts⟩ (m_X8_couldSound l D cy g σ38  dx13 _ hJ41 (show 5 ≤ dx13 ∧ dx13 < 9 from hdx13)) (cwV 1 hts (gd_V q1295 q1297 q48 q125 q1298) rfl rfl rfl (by decide +kernel) ⟨(Nat.le_of_ble_eq_true rfl), (Nat.le_of_ble_eq_true rfl)⟩) (pv8 hP hK hD hC hS (rv8_8 hK hP)) rfl rfl hl.1 rfl (lv_room (Nat.le_of_ble_eq_true rfl)) dX8_heard_88 ⟨Nat.le_of_ble_eq_true rfl, Nat.le_of_ble_eq_true rfl⟩) hS (fun q _ h => up8 hS q h) (up8 hS) (fun r42 σ43 tS H1 locs ht hvm hw44 hB hz1 hk1 hS => ?_)
              have hP : va_P D clz (WD8 cy g σ43) H1 := by rw [← ht]; exact hB
              clear hB hz1 hk1 hvm ht
              generalize H1 = H at hP hS ⊢
              have hw44E : σ38 = σ43 := (hw44.1).symm
              subst hw44E
              have b45 : (0 : Int) ≤ r42.toInt ∧ r42.toInt ≤ 1 := hw44.2.1
              refine cut8 (D := D) (cy := cy) (g := g) (A := A8 cy g s.heap.size) (H0 := s.heap) 5 101 (fun x : LZ => [(4, .int (y29.2.1 0)), (3, .int (x.2.1 0)), (2, .ref (gO g dx13)), (0, .ref (gO g 17)), (1, .int p1)]) (fun x : LZ => []) (fun x : LZ => (x.1 = σ38) ∧ True) ?_ ?_
              ·
                intro y48 hI47 H locs ls hP hS hl
                rw [show y48.1 = σ38 from hI47.1] at hP
                have hl : lv_has ls 5 [(4, .int (y29.2.1 0)), (3, .int (y48.2.1 0)), (2, .ref (gO g dx13)), (0, .ref (gO g 17)), (1, .int p1)] := hl
                obtain ⟨x49, ex49⟩ : ∃ y : Int32, y = (y29.2.1 0) + 1 := ⟨_, rfl⟩
                have t50 := addO ex49 (by have f0 := b33; have f1 := k36; have f2 := j8_0_3 hJ hdx10 rfl; have g0 := rg32 (y29.2.1 0); have z1 : (1 : Int32).toInt = 1 := (by decide); omega)
                refine lv_iinc (v := x49) (lv' := [(4, .int x49), (3, .int (y48.2.1 0)), (2, .ref (gO g dx13)), (0, .ref (gO g 17)), (1, .int p1)]) hx hb dX8_heard_101 hl (k := 0) rfl (by rw [ex49]; rfl) (by decide) rfl (fun ls hl => ?_)
                refine lv_goto (tgt := 61) hx hb dX8_heard_104 (by decide) ?_
                have t51 : ((5 : Int) - x49.toInt).toNat < ((5 : Int) - (y29.2.1 0).toInt).toNat := (by have f0 := b33; have f1 := k36; have f2 := t50; have f3 := j8_0_3 hJ hdx10 rfl; have g0 := rg32 (y29.2.1 0); have g1 := rg32 x49; have z1 : (1 : Int32).toInt = 1 := (by decide); omega)
                exact nl27 (σ38, lf [x49, (y48.2.1 0)], lg []) ⟨Fr.tr (Fr.tr (Fr.rf) hF31 (fO_sub (fun _ q => q))) hF40 (fO_sub (fun _ q => q)), hJ41, (show (0 : Int) ≤ (x49 : Int32).toInt ∧ (x49 : Int32).toInt ≤ 4 from (by have f0 := t50; have f1 := b33; have f2 := k36; have f3 := j8_0_3 hJ hdx10 rfl; have g0 := rg32 x49; have z1 : (1 : Int32).toInt = 1 := (by decide); omega)), trivial⟩ (show ((5 : Int) - x49.toInt).toNat < _ from by first | exact t51 | (rw [← eσ30]; exact t51)) _ _ _ hP hS (lv_sub hl [0, 1, 2, 3, 4] rfl)
              ·
                intro nj46
                refine lv_if_eq (tgt := 101) hx hb dX8_heard_91 (by decide) (fun c52 => ?_) (fun c52 => ?_)
                ·
                  have k53 := peq32 c52
                  exact nj46 (σ38, lf [(y29.2.1 1)], lg []) ⟨rfl, trivial⟩ _ _ _ hP hS (lv_sub hl [0, 1, 2, 3, 4] rfl)
                ·
                  have k54 := neq32 c52
                  refine lv_iload_n hx hb dX8_heard_94 rfl (lv_at hl 1 rfl) ?_
                  refine lv_iconst (v := 1) hx hb dX8_heard_95 (by decide) ?_
                  refine lv_iload hx hb dX8_heard_96 (lv_at hl 0 rfl) ?_
                  refine lv_ishl hx hb dX8_heard_98 ?_
                  refine lv_topi (fun x55 ex55 => ?_)
                  have t56 := shl9 ex55 (by have f0 := b33; have f1 := k36; have f2 := j8_0_3 hJ hdx10 rfl; have g0 := rg32 (y29.2.1 0); omega)
                  refine lv_ior hx hb dX8_heard_99 ?_
                  refine lv_topi (fun x57 ex57 => ?_)
                  refine lv_istore_n (lv' := [(3, .int x57), (4, .int (y29.2.1 0)), (2, .ref (gO g dx13)), (0, .ref (gO g 17)), (1, .int p1)]) hx hb dX8_heard_100 rfl hl (by decide) rfl (fun ls hl => ?_)
                  exact nj46 (σ38, lf [x57], lg []) ⟨rfl, trivial⟩ _ _ _ hP hS (lv_sub hl [1, 0, 2, 3, 4] rfl)
          ·
            have k58 := peq32 c25
            refine lv_bipush (v := (-2)) hx hb dX8_heard_53 (by decide) ?_
            exact W.iret (v := (-2)) hx hb hr (fun tS ht hW => ⟨⟨(-2), σ, rfl, ⟨Fr.rf, hJ, trivial⟩, (show va_P D clz (WD8 cy g σ) tS.heap by rw [ht]; exact hP)⟩, hS.F ht⟩) hS.2.2 dX8_heard_55
      ·
        have k59 := peq32 c14
        refine lv_bipush (v := (-6)) hx hb dX8_heard_34 (by decide) ?_
        exact W.iret (v := (-6)) hx hb hr (fun tS ht hW => ⟨⟨(-6), σ, rfl, ⟨Fr.rf, hJ, trivial⟩, (show va_P D clz (WD8 cy g σ) tS.heap by rw [ht]; exact hP)⟩, hS.F ht⟩) hS.2.2 dX8_heard_36
    ·
      have k60 := peq32 c11
      refine lv_bipush (v := (-2)) hx hb dX8_heard_17 (by decide) ?_
      exact W.iret (v := (-2)) hx hb hr (fun tS ht hW => ⟨⟨(-2), σ, rfl, ⟨Fr.rf, hJ, trivial⟩, (show va_P D clz (WD8 cy g σ) tS.heap by rw [ht]; exact hP)⟩, hS.F ht⟩) hS.2.2 dX8_heard_19

theorem q1309 : Cond.code yX8_isSeed cX8_isSeed 1 (some .boolean) ∈ lw_g := lw_gm (List.mem_of_getElem? (i := 1309) (by decide +kernel)) rfl
theorem q1310 : Cond.constant RX8 395 (2000000000) ∈ lw_g := lw_gm (List.mem_of_getElem? (i := 1310) (by decide +kernel)) rfl
theorem dX8_isSeed_0 : decode cX8_isSeed 0 = .ok (.iload_n 0, 1) := by decide +kernel
theorem dX8_isSeed_1 : decode cX8_isSeed 1 = .ok (.ifCond .lt 14, 3) := by decide +kernel
theorem dX8_isSeed_4 : decode cX8_isSeed 4 = .ok (.iload_n 0, 1) := by decide +kernel
theorem dX8_isSeed_5 : decode cX8_isSeed 5 = .ok (.ldc_w 395, 3) := by decide +kernel
theorem dX8_isSeed_8 : decode cX8_isSeed 8 = .ok (.if_icmp .gt 7, 3) := by decide +kernel
theorem dX8_isSeed_11 : decode cX8_isSeed 11 = .ok (.iconst 1, 1) := by decide +kernel
theorem dX8_isSeed_12 : decode cX8_isSeed 12 = .ok (.goto 4, 3) := by decide +kernel
theorem dX8_isSeed_15 : decode cX8_isSeed 15 = .ok (.iconst 0, 1) := by decide +kernel
theorem dX8_isSeed_16 : decode cX8_isSeed 16 = .ok (.ireturn, 1) := by decide +kernel
set_option maxHeartbeats 4000000 in
set_option maxRecDepth 100000 in
theorem m_X8_isSeed (l : Launch) (D : va_G) (cy : Nat → ClassId) (g : Nat → Nat) (σ : ST) (p0 : Int32) (sz : Nat) (hJ : J8 σ)  : Met l yX8_isSeed (ww yX8_isSeed cX8_isSeed 1 (some .boolean)) ({ frames := 1, cells := 0, slots := 0, locals := 64 }) (va_Pc [.int p0] (pr8 D cy g σ sz)) (qi8 D cy g sz (fun r τ => τ = σ ∧ ((0 : Int) ≤ r.toInt ∧ r.toInt ≤ 1) ∧ True)) 0 0 (A8 cy g sz) := by
  refine Met.ofW (cc := cX8_isSeed) (maxL := 1) (ret := (some .boolean)) (by decide) rfl ?_
  intro p e s m args below meth c s₁ B hml hv
  obtain ⟨rfl, hsz, hP, hK, hD0, hC⟩ := hv
  have hx := B.exec
  have hb := B.bytes
  have hr := B.returns
  have hts := hts_g (atoms_spec (ws := ww yX8_isSeed cX8_isSeed 1 (some .boolean)) B.pre)
  have hown : s.vm.findClass RX8 = some m.cls := findClass_of_methodNamed B.named
  have hlocks := B.notSynchronized
  clear B
  subst hsz
  have hD := fun τ => A8_D (sz := s.heap.size) hD0 τ
  clear hD0
  have hS : va_S (A8 cy g s.heap.size) s.heap s.heap [] := va_S.rf
  have hl := lv_entry ([.int p0]) (n := 1) (Nat.le_of_ble_eq_true rfl)
  rw [lg_entry_eq]
  generalize (lg_sl ([.int p0]) ++ List.replicate (1 - (lg_sl ([.int p0])).length) Slot.unset).toArray = ls at hl ⊢
  have hl : lv_has ls 1 [(0, .int p0)] := hl
  refine lv_iload_n hx hb dX8_isSeed_0 rfl (lv_at hl 0 rfl) ?_
  refine lv_if_lt (tgt := 15) hx hb dX8_isSeed_1 (by decide) (fun c1 => ?_) (fun c1 => ?_)
  ·
    have k2 := plt32 c1
    refine lv_iconst (v := 0) hx hb dX8_isSeed_15 (by decide) ?_
    exact W.zret (v := 0) hx hb hr rfl (fun tS ht hW => ⟨⟨0, σ, rfl, ⟨rfl, (show (0 : Int) ≤ (0 : Int32).toInt ∧ (0 : Int32).toInt ≤ 1 from (by have z0 : (0 : Int32).toInt = 0 := (by decide); omega)), trivial⟩, (show va_P D clz (WD8 cy g σ) tS.heap by rw [ht]; exact hP)⟩, hS.F ht⟩) hS.2.2 dX8_isSeed_16
  ·
    have k3 := nlt32 c1
    refine lv_iload_n hx hb dX8_isSeed_4 rfl (lv_at hl 0 rfl) ?_
    refine lv_ldcw (v := 2000000000) hx hb hown (hts _ q1310) dX8_isSeed_5 ?_
    refine lv_icmp_gt (tgt := 15) hx hb dX8_isSeed_8 (by decide) (fun c4 => ?_) (fun c4 => ?_)
    ·
      have k5 := plt32 c4
      refine lv_iconst (v := 0) hx hb dX8_isSeed_15 (by decide) ?_
      exact W.zret (v := 0) hx hb hr rfl (fun tS ht hW => ⟨⟨0, σ, rfl, ⟨rfl, (show (0 : Int) ≤ (0 : Int32).toInt ∧ (0 : Int32).toInt ≤ 1 from (by have z0 : (0 : Int32).toInt = 0 := (by decide); omega)), trivial⟩, (show va_P D clz (WD8 cy g σ) tS.heap by rw [ht]; exact hP)⟩, hS.F ht⟩) hS.2.2 dX8_isSeed_16
    ·
      have k6 := nlt32 c4
      refine lv_iconst (v := 1) hx hb dX8_isSeed_11 (by decide) ?_
      refine lv_goto (tgt := 16) hx hb dX8_isSeed_12 (by decide) ?_
      exact W.zret (v := 1) hx hb hr rfl (fun tS ht hW => ⟨⟨1, σ, rfl, ⟨rfl, (show (0 : Int) ≤ (1 : Int32).toInt ∧ (1 : Int32).toInt ≤ 1 from (by have z1 : (1 : Int32).toInt = 1 := (by decide); omega)), trivial⟩, (show va_P D clz (WD8 cy g σ) tS.heap by rw [ht]; exact hP)⟩, hS.F ht⟩) hS.2.2 dX8_isSeed_16

theorem q1314 : Cond.code yX3_drawFrom cX3_drawFrom 6 none ∈ lw_g := lw_gm (List.mem_of_getElem? (i := 1314) (by decide +kernel)) rfl
theorem q286 : Cond.fieldLink RX3 175 "LipsAndSlides$Plays" "crackCount" "I" ∈ lw_g := lw_gm (List.mem_of_getElem? (i := 286) (by decide +kernel)) rfl
theorem q288 : Cond.fieldLink RX3 178 "LipsAndSlides$Plays" "firstCrack" "I" ∈ lw_g := lw_gm (List.mem_of_getElem? (i := 288) (by decide +kernel)) rfl
theorem q1315 : Cond.constantLong RX3 181 (1103515245) ∈ lw_g := lw_gm (List.mem_of_getElem? (i := 1315) (by decide +kernel)) rfl
theorem q1316 : Cond.constantLong RX3 183 (12345) ∈ lw_g := lw_gm (List.mem_of_getElem? (i := 1316) (by decide +kernel)) rfl
theorem q1317 : Cond.constantLong RX3 185 (2147483648) ∈ lw_g := lw_gm (List.mem_of_getElem? (i := 1317) (by decide +kernel)) rfl
theorem q1318 : Cond.constantLong RX3 187 (65536) ∈ lw_g := lw_gm (List.mem_of_getElem? (i := 1318) (by decide +kernel)) rfl
theorem q1319 : Cond.constantLong RX3 189 (100) ∈ lw_g := lw_gm (List.mem_of_getElem? (i := 1319) (by decide +kernel)) rfl
theorem dX3_drawFrom_0 : decode cX3_drawFrom 0 = .ok (.lload_n 1, 1) := by decide +kernel
theorem dX3_drawFrom_1 : decode cX3_drawFrom 1 = .ok (.lstore_n 3, 1) := by decide +kernel
theorem dX3_drawFrom_2 : decode cX3_drawFrom 2 = .ok (.aload_n 0, 1) := by decide +kernel
theorem dX3_drawFrom_3 : decode cX3_drawFrom 3 = .ok (.iconst 0, 1) := by decide +kernel
theorem dX3_drawFrom_4 : decode cX3_drawFrom 4 = .ok (.putfield 175, 3) := by decide +kernel
theorem dX3_drawFrom_7 : decode cX3_drawFrom 7 = .ok (.aload_n 0, 1) := by decide +kernel
theorem dX3_drawFrom_8 : decode cX3_drawFrom 8 = .ok (.iconst (-1), 1) := by decide +kernel
theorem dX3_drawFrom_9 : decode cX3_drawFrom 9 = .ok (.putfield 178, 3) := by decide +kernel
theorem dX3_drawFrom_12 : decode cX3_drawFrom 12 = .ok (.iconst 0, 1) := by decide +kernel
theorem dX3_drawFrom_13 : decode cX3_drawFrom 13 = .ok (.istore 5, 2) := by decide +kernel
theorem dX3_drawFrom_15 : decode cX3_drawFrom 15 = .ok (.iload 5, 2) := by decide +kernel
theorem dX3_drawFrom_17 : decode cX3_drawFrom 17 = .ok (.aload_n 0, 1) := by decide +kernel
theorem dX3_drawFrom_18 : decode cX3_drawFrom 18 = .ok (.getfield 75, 3) := by decide +kernel
theorem dX3_drawFrom_21 : decode cX3_drawFrom 21 = .ok (.if_icmp .ge 99, 3) := by decide +kernel
theorem dX3_drawFrom_24 : decode cX3_drawFrom 24 = .ok (.ldc2_w 181, 3) := by decide +kernel
theorem dX3_drawFrom_27 : decode cX3_drawFrom 27 = .ok (.lload_n 3, 1) := by decide +kernel
theorem dX3_drawFrom_28 : decode cX3_drawFrom 28 = .ok (.lmul, 1) := by decide +kernel
theorem dX3_drawFrom_29 : decode cX3_drawFrom 29 = .ok (.ldc2_w 183, 3) := by decide +kernel
theorem dX3_drawFrom_32 : decode cX3_drawFrom 32 = .ok (.ladd, 1) := by decide +kernel
theorem dX3_drawFrom_33 : decode cX3_drawFrom 33 = .ok (.ldc2_w 185, 3) := by decide +kernel
theorem dX3_drawFrom_36 : decode cX3_drawFrom 36 = .ok (.lrem, 1) := by decide +kernel
theorem dX3_drawFrom_37 : decode cX3_drawFrom 37 = .ok (.lstore_n 3, 1) := by decide +kernel
theorem dX3_drawFrom_38 : decode cX3_drawFrom 38 = .ok (.lload_n 3, 1) := by decide +kernel
theorem dX3_drawFrom_39 : decode cX3_drawFrom 39 = .ok (.ldc2_w 187, 3) := by decide +kernel
theorem dX3_drawFrom_42 : decode cX3_drawFrom 42 = .ok (.ldiv, 1) := by decide +kernel
theorem dX3_drawFrom_43 : decode cX3_drawFrom 43 = .ok (.ldc2_w 189, 3) := by decide +kernel
theorem dX3_drawFrom_46 : decode cX3_drawFrom 46 = .ok (.lrem, 1) := by decide +kernel
theorem dX3_drawFrom_47 : decode cX3_drawFrom 47 = .ok (.aload_n 0, 1) := by decide +kernel
theorem dX3_drawFrom_48 : decode cX3_drawFrom 48 = .ok (.getfield 46, 3) := by decide +kernel
theorem dX3_drawFrom_51 : decode cX3_drawFrom 51 = .ok (.aload_n 0, 1) := by decide +kernel
theorem dX3_drawFrom_52 : decode cX3_drawFrom 52 = .ok (.getfield 37, 3) := by decide +kernel
theorem dX3_drawFrom_55 : decode cX3_drawFrom 55 = .ok (.iload 5, 2) := by decide +kernel
theorem dX3_drawFrom_57 : decode cX3_drawFrom 57 = .ok (.iaload, 1) := by decide +kernel
theorem dX3_drawFrom_58 : decode cX3_drawFrom 58 = .ok (.iaload, 1) := by decide +kernel
theorem dX3_drawFrom_59 : decode cX3_drawFrom 59 = .ok (.iconst 2, 1) := by decide +kernel
theorem dX3_drawFrom_60 : decode cX3_drawFrom 60 = .ok (.aload_n 0, 1) := by decide +kernel
theorem dX3_drawFrom_61 : decode cX3_drawFrom 61 = .ok (.getfield 40, 3) := by decide +kernel
theorem dX3_drawFrom_64 : decode cX3_drawFrom 64 = .ok (.aload_n 0, 1) := by decide +kernel
theorem dX3_drawFrom_65 : decode cX3_drawFrom 65 = .ok (.getfield 37, 3) := by decide +kernel
theorem dX3_drawFrom_68 : decode cX3_drawFrom 68 = .ok (.iload 5, 2) := by decide +kernel
theorem dX3_drawFrom_70 : decode cX3_drawFrom 70 = .ok (.iaload, 1) := by decide +kernel
theorem dX3_drawFrom_71 : decode cX3_drawFrom 71 = .ok (.iaload, 1) := by decide +kernel
theorem dX3_drawFrom_72 : decode cX3_drawFrom 72 = .ok (.imul, 1) := by decide +kernel
theorem dX3_drawFrom_73 : decode cX3_drawFrom 73 = .ok (.iadd, 1) := by decide +kernel
theorem dX3_drawFrom_74 : decode cX3_drawFrom 74 = .ok (.i2l, 1) := by decide +kernel
theorem dX3_drawFrom_75 : decode cX3_drawFrom 75 = .ok (.lcmp, 1) := by decide +kernel
theorem dX3_drawFrom_76 : decode cX3_drawFrom 76 = .ok (.ifCond .ge 38, 3) := by decide +kernel
theorem dX3_drawFrom_79 : decode cX3_drawFrom 79 = .ok (.aload_n 0, 1) := by decide +kernel
theorem dX3_drawFrom_80 : decode cX3_drawFrom 80 = .ok (.aload_n 0, 1) := by decide +kernel
theorem dX3_drawFrom_81 : decode cX3_drawFrom 81 = .ok (.getfield 175, 3) := by decide +kernel
theorem dX3_drawFrom_84 : decode cX3_drawFrom 84 = .ok (.ifCond .ne 13, 3) := by decide +kernel
theorem dX3_drawFrom_87 : decode cX3_drawFrom 87 = .ok (.aload_n 0, 1) := by decide +kernel
theorem dX3_drawFrom_88 : decode cX3_drawFrom 88 = .ok (.getfield 22, 3) := by decide +kernel
theorem dX3_drawFrom_91 : decode cX3_drawFrom 91 = .ok (.iload 5, 2) := by decide +kernel
theorem dX3_drawFrom_93 : decode cX3_drawFrom 93 = .ok (.iaload, 1) := by decide +kernel
theorem dX3_drawFrom_94 : decode cX3_drawFrom 94 = .ok (.goto 7, 3) := by decide +kernel
theorem dX3_drawFrom_97 : decode cX3_drawFrom 97 = .ok (.aload_n 0, 1) := by decide +kernel
theorem dX3_drawFrom_98 : decode cX3_drawFrom 98 = .ok (.getfield 178, 3) := by decide +kernel
theorem dX3_drawFrom_101 : decode cX3_drawFrom 101 = .ok (.putfield 178, 3) := by decide +kernel
theorem dX3_drawFrom_104 : decode cX3_drawFrom 104 = .ok (.aload_n 0, 1) := by decide +kernel
theorem dX3_drawFrom_105 : decode cX3_drawFrom 105 = .ok (.dup, 1) := by decide +kernel
theorem dX3_drawFrom_106 : decode cX3_drawFrom 106 = .ok (.getfield 175, 3) := by decide +kernel
theorem dX3_drawFrom_109 : decode cX3_drawFrom 109 = .ok (.iconst 1, 1) := by decide +kernel
theorem dX3_drawFrom_110 : decode cX3_drawFrom 110 = .ok (.iadd, 1) := by decide +kernel
theorem dX3_drawFrom_111 : decode cX3_drawFrom 111 = .ok (.putfield 175, 3) := by decide +kernel
theorem dX3_drawFrom_114 : decode cX3_drawFrom 114 = .ok (.iinc 5 1, 3) := by decide +kernel
theorem dX3_drawFrom_117 : decode cX3_drawFrom 117 = .ok (.goto (-102), 3) := by decide +kernel
theorem dX3_drawFrom_120 : decode cX3_drawFrom 120 = .ok (.return_, 1) := by decide +kernel
set_option maxHeartbeats 4000000 in
set_option maxRecDepth 100000 in
theorem m_X3_drawFrom (l : Launch) (D : va_G) (cy : Nat → ClassId) (g : Nat → Nat) (σ : ST) (p1 : Int64) (sz : Nat) (hJ : J8 σ)  : Met l yX3_drawFrom (ww yX3_drawFrom cX3_drawFrom 6 none) ({ frames := 1, cells := 0, slots := 0, locals := 64 }) (va_Pc [.ref (gO g 13), .long p1] (pr8 D cy g σ sz)) (qv8 D cy g sz (fun τ => Fr (fO [13]) σ τ ∧ J8 τ ∧ True)) 0 0 (A8 cy g sz) := by
  refine Met.ofW (cc := cX3_drawFrom) (maxL := 6) (ret := none) (by decide) rfl ?_
  intro p e s m args below meth c s₁ B hml hv
  obtain ⟨rfl, hsz, hP, hK, hD0, hC⟩ := hv
  have hx := B.exec
  have hb := B.bytes
  have hr := B.returns
  have hts := hts_g (atoms_spec (ws := ww yX3_drawFrom cX3_drawFrom 6 none) B.pre)
  have hown : s.vm.findClass RX3 = some m.cls := findClass_of_methodNamed B.named
  have hlocks := B.notSynchronized
  clear B
  subst hsz
  have hD := fun τ => A8_D (sz := s.heap.size) hD0 τ
  clear hD0
  have hS : va_S (A8 cy g s.heap.size) s.heap s.heap [] := va_S.rf
  have hl := lv_entry ([.ref (gO g 13), .long p1]) (n := 6) (Nat.le_of_ble_eq_true rfl)
  rw [lg_entry_eq]
  generalize (lg_sl ([.ref (gO g 13), .long p1]) ++ List.replicate (6 - (lg_sl ([.ref (gO g 13), .long p1])).length) Slot.unset).toArray = ls at hl ⊢
  have hl : lv_has ls 6 [(0, .ref (gO g 13)), (1, .long p1)] := hl
  refine lv_lload_n hx hb dX3_drawFrom_0 rfl (lv_at hl 1 rfl) ?_
  refine lv_lstore_n (lv' := [(3, .long p1), (0, .ref (gO g 13)), (1, .long p1)]) hx hb dX3_drawFrom_1 rfl hl (by decide) rfl (fun ls hl => ?_)
  refine lv_aload_n hx hb dX3_drawFrom_2 rfl (lv_at hl 1 rfl) ?_
  refine lv_iconst (v := 0) hx hb dX3_drawFrom_3 (by decide) ?_
  refine p8_3_3 hx hb hts hown hK hP hD hS (hts _ q286) dX3_drawFrom_4 (fun H locs σ1 eσ1 hP hS => ?_)
  have hJ2 : J8 σ1 := hJ.I eσ1 rfl (show JI8 3 3 (0 : Int32) from trivial)
  refine lv_aload_n hx hb dX3_drawFrom_7 rfl (lv_at hl 1 rfl) ?_
  refine lv_iconst (v := (-1)) hx hb dX3_drawFrom_8 (by decide) ?_
  refine p8_3_4 hx hb hts hown hK hP hD hS (hts _ q288) dX3_drawFrom_9 (fun H locs σ3 eσ3 hP hS => ?_)
  have hJ4 : J8 σ3 := hJ2.I eσ3 rfl (show JI8 3 4 ((-1) : Int32) from trivial)
  refine lv_iconst (v := 0) hx hb dX3_drawFrom_12 (by decide) ?_
  refine lv_istore (lv' := [(5, .int 0), (3, .long p1), (0, .ref (gO g 13)), (1, .long p1)]) hx hb dX3_drawFrom_13 hl (by decide) rfl (fun ls hl => ?_)
  refine loop8 6 15 (fun x : LZ => [(5, .int (x.2.1 0)), (3, .long (x.2.2 0)), (0, .ref (gO g 13)), (1, .long p1)]) (fun x : LZ => (Fr (fO [13]) σ3 x.1) ∧ (J8 x.1) ∧ ((0 : Int) ≤ (x.2.1 0).toInt ∧ (x.2.1 0).toInt ≤ 16) ∧ True) (fun x : LZ => ((17 : Int) - (x.2.1 0).toInt).toNat) ?_ (σ3, lf [0], lg [p1]) ⟨Fr.rf, hJ4, (show (0 : Int) ≤ (0 : Int32).toInt ∧ (0 : Int32).toInt ≤ 16 from (by have z0 : (0 : Int32).toInt = 0 := (by decide); omega)), trivial⟩ _ _ _ hP hS (lv_sub hl [0, 1, 2, 3] rfl)
  intro y7 hI6 nl5 H locs ls hP hS hl
  obtain ⟨σ8, eσ8⟩ : ∃ z, z = y7.1 := ⟨_, rfl⟩
  rw [← eσ8] at hP hI6
  have hF9 : Fr (fO [13]) σ3 σ8 := hI6.1
  have hJ10 : J8 σ8 := hI6.2.1
  have b11 : (0 : Int) ≤ (y7.2.1 0).toInt ∧ (y7.2.1 0).toInt ≤ 16 := hI6.2.2.1
  have hl : lv_has ls 6 [(5, .int (y7.2.1 0)), (3, .long (y7.2.2 0)), (0, .ref (gO g 13)), (1, .long p1)] := hl
  refine lv_iload hx hb dX3_drawFrom_15 (lv_at hl 0 rfl) ?_
  refine lv_aload_n hx hb dX3_drawFrom_17 rfl (lv_at hl 2 rfl) ?_
  refine g8_3_0 (x := ((σ8 13).1 0)) hx hb hts hown hK hP (rfl) (hts _ q280) dX3_drawFrom_18 ?_
  refine lv_icmp_ge (tgt := 120) hx hb dX3_drawFrom_21 (by decide) (fun c12 => ?_) (fun c12 => ?_)
  ·
    have k13 := ple32 c12
    exact W.vret hx hb hr (fun tS ht hW => ⟨⟨σ8, rfl, ⟨Fr.tr (Fr.tr (Fr.tr (Fr.rf) (sI_f eσ1) (fN_O mem0)) (sI_f eσ3) (fN_O mem0)) hF9 (fO_sub (fun _ q => q)), hJ10, trivial⟩, (show va_P D clz (WD8 cy g σ8) tS.heap by rw [ht]; exact hP)⟩, hS.F ht⟩) hS.2.2 dX3_drawFrom_120
  ·
    have k14 := nle32 c12
    refine lv_ldc2 (v := 1103515245) hx hb hown (hts _ q1315) dX3_drawFrom_24 ?_
    refine lv_lload_n hx hb dX3_drawFrom_27 rfl (lv_at hl 1 rfl) ?_
    refine lv_lmul hx hb dX3_drawFrom_28 ?_
    refine lv_topl (fun x15 ex15 => ?_)
    refine lv_ldc2 (v := 12345) hx hb hown (hts _ q1316) dX3_drawFrom_29 ?_
    refine lv_ladd hx hb dX3_drawFrom_32 ?_
    refine lv_topl (fun x16 ex16 => ?_)
    refine lv_ldc2 (v := 2147483648) hx hb hown (hts _ q1317) dX3_drawFrom_33 ?_
    refine lv_lrem hx hb dX3_drawFrom_36 (by decide) ?_
    refine lv_topl (fun x17 ex17 => ?_)
    refine lv_lstore_n (lv' := [(3, .long x17), (5, .int (y7.2.1 0)), (0, .ref (gO g 13)), (1, .long p1)]) hx hb dX3_drawFrom_37 rfl hl (by decide) rfl (fun ls hl => ?_)
    refine lv_lload_n hx hb dX3_drawFrom_38 rfl (lv_at hl 0 rfl) ?_
    refine lv_ldc2 (v := 65536) hx hb hown (hts _ q1318) dX3_drawFrom_39 ?_
    refine lv_ldiv hx hb dX3_drawFrom_42 (by decide) ?_
    refine lv_topl (fun x18 ex18 => ?_)
    refine lv_ldc2 (v := 100) hx hb hown (hts _ q1319) dX3_drawFrom_43 ?_
    refine lv_lrem hx hb dX3_drawFrom_46 (by decide) ?_
    refine lv_topl (fun x19 ex19 => ?_)
    refine lv_aload_n hx hb dX3_drawFrom_47 rfl (lv_at hl 2 rfl) ?_
    refine g8_3_16 hx hb hts hown hK hP (hts _ q301) dX3_drawFrom_48 ?_
    refine lv_aload_n hx hb dX3_drawFrom_51 rfl (lv_at hl 2 rfl) ?_
    refine g8_3_13 hx hb hts hown hK hP (hts _ q298) dX3_drawFrom_52 ?_
    refine lv_iload hx hb dX3_drawFrom_55 (lv_at hl 1 rfl) ?_
    obtain ⟨x20, ex20⟩ : ∃ z, (σ8 13).2.2.1 13 (y7.2.1 0).toInt.toNat = z := ⟨_, rfl⟩
    refine l8_3_13 (x := x20) hx hb hK hP (vpo (by have f0 := b11; have f1 := k14; have f2 := j8_3_0 hJ10 rfl; have g0 := rg32 (y7.2.1 0); omega)) ex20 dX3_drawFrom_57 ?_
    have t21 := a8_3_13 hJ10 ex20
    obtain ⟨x22, ex22⟩ : ∃ z, (σ8 13).2.2.1 16 x20.toInt.toNat = z := ⟨_, rfl⟩
    refine l8_3_16 (x := x22) hx hb hK hP (vpo (by have f0 := t21; have g0 := rg32 x20; omega)) ex22 dX3_drawFrom_58 ?_
    refine lv_iconst (v := 2) hx hb dX3_drawFrom_59 (by decide) ?_
    refine lv_aload_n hx hb dX3_drawFrom_60 rfl (lv_at hl 2 rfl) ?_
    refine g8_3_14 hx hb hts hown hK hP (hts _ q299) dX3_drawFrom_61 ?_
    refine lv_aload_n hx hb dX3_drawFrom_64 rfl (lv_at hl 2 rfl) ?_
    refine g8_3_13 hx hb hts hown hK hP (hts _ q298) dX3_drawFrom_65 ?_
    refine lv_iload hx hb dX3_drawFrom_68 (lv_at hl 1 rfl) ?_
    refine l8_3_13 (x := x20) hx hb hK hP (vpo (by have f0 := b11; have f1 := k14; have f2 := j8_3_0 hJ10 rfl; have g0 := rg32 (y7.2.1 0); omega)) ex20 dX3_drawFrom_70 ?_
    obtain ⟨x23, ex23⟩ : ∃ z, (σ8 13).2.2.1 14 x20.toInt.toNat = z := ⟨_, rfl⟩
    refine l8_3_14 (x := x23) hx hb hK hP (vpo (by have f0 := t21; have g0 := rg32 x20; omega)) ex23 dX3_drawFrom_71 ?_
    refine lv_imul hx hb dX3_drawFrom_72 ?_
    refine lv_topi (fun x24 ex24 => ?_)
    refine lv_iadd hx hb dX3_drawFrom_73 ?_
    refine lv_topi (fun x25 ex25 => ?_)
    refine lv_i2l (v := x25.toInt64) hx hb dX3_drawFrom_74 rfl ?_
    refine W.lcmp hx hb dX3_drawFrom_75 ?_
    refine cut8 (D := D) (cy := cy) (g := g) (A := A8 cy g s.heap.size) (H0 := s.heap) 6 114 (fun x : LZ => [(3, .long x17), (5, .int (y7.2.1 0)), (0, .ref (gO g 13)), (1, .long p1)]) (fun x : LZ => []) (fun x : LZ => (Fr (fO [13]) σ8 x.1) ∧ (J8 x.1) ∧ True) ?_ ?_
    ·
      intro y28 hI27 H locs ls hP hS hl
      obtain ⟨σ29, eσ29⟩ : ∃ z, z = y28.1 := ⟨_, rfl⟩
      rw [← eσ29] at hP hI27
      have hF30 : Fr (fO [13]) σ8 σ29 := hI27.1
      have hJ31 : J8 σ29 := hI27.2.1
      have hl : lv_has ls 6 [(3, .long x17), (5, .int (y7.2.1 0)), (0, .ref (gO g 13)), (1, .long p1)] := hl
      obtain ⟨x32, ex32⟩ : ∃ y : Int32, y = (y7.2.1 0) + 1 := ⟨_, rfl⟩
      have t33 := addO ex32 (by have f0 := b11; have f1 := k14; have f2 := j8_3_0 hJ10 rfl; have g0 := rg32 (y7.2.1 0); have z1 : (1 : Int32).toInt = 1 := (by decide); omega)
      refine lv_iinc (v := x32) (lv' := [(5, .int x32), (3, .long x17), (0, .ref (gO g 13)), (1, .long p1)]) hx hb dX3_drawFrom_114 hl (k := 1) rfl (by rw [ex32]; rfl) (by decide) rfl (fun ls hl => ?_)
      refine lv_goto (tgt := 15) hx hb dX3_drawFrom_117 (by decide) ?_
      have t34 : ((17 : Int) - x32.toInt).toNat < ((17 : Int) - (y7.2.1 0).toInt).toNat := (by have f0 := b11; have f1 := k14; have f2 := t33; have f3 := j8_3_0 hJ10 rfl; have g0 := rg32 (y7.2.1 0); have g1 := rg32 x32; have z1 : (1 : Int32).toInt = 1 := (by decide); omega)
      exact nl5 (σ29, lf [x32], lg [x17]) ⟨Fr.tr (Fr.tr (Fr.rf) hF9 (fO_sub (fun _ q => q))) hF30 (fO_sub (fun _ q => q)), hJ31, (show (0 : Int) ≤ (x32 : Int32).toInt ∧ (x32 : Int32).toInt ≤ 16 from (by have f0 := t33; have f1 := b11; have f2 := k14; have f3 := j8_3_0 hJ10 rfl; have g0 := rg32 x32; have z1 : (1 : Int32).toInt = 1 := (by decide); omega)), trivial⟩ (show ((17 : Int) - x32.toInt).toNat < _ from by first | exact t34 | (rw [← eσ8]; exact t34)) _ _ _ hP hS (lv_sub hl [0, 1, 2, 3] rfl)
    ·
      intro nj26
      refine lv_if_ge (tgt := 114) hx hb dX3_drawFrom_76 (by decide) (fun c35 => ?_) (fun c35 => ?_)
      ·
        have k36 := ple64 ((lg_cmp_ge x19 x25.toInt64).mp c35)
        exact nj26 (σ8, lf [], lg []) ⟨Fr.rf, hJ10, trivial⟩ _ _ _ hP hS (lv_sub hl [0, 1, 2, 3] rfl)
      ·
        have k37 := nle64 (fun q => c35 ((lg_cmp_ge x19 x25.toInt64).mpr q))
        refine lv_aload_n hx hb dX3_drawFrom_79 rfl (lv_at hl 2 rfl) ?_
        refine lv_aload_n hx hb dX3_drawFrom_80 rfl (lv_at hl 2 rfl) ?_
        refine g8_3_3 (x := ((σ8 13).1 3)) hx hb hts hown hK hP (rfl) (hts _ q286) dX3_drawFrom_81 ?_
        refine cut8 (D := D) (cy := cy) (g := g) (A := A8 cy g s.heap.size) (H0 := s.heap) 6 101 (fun x : LZ => [(3, .long x17), (5, .int (y7.2.1 0)), (0, .ref (gO g 13)), (1, .long p1)]) (fun x : LZ => [.int (x.2.1 0), .ref (gO g 13)]) (fun x : LZ => (x.1 = σ8) ∧ True) ?_ ?_
        ·
          intro y40 hI39 H locs ls hP hS hl
          rw [show y40.1 = σ8 from hI39.1] at hP
          have hl : lv_has ls 6 [(3, .long x17), (5, .int (y7.2.1 0)), (0, .ref (gO g 13)), (1, .long p1)] := hl
          refine W.eq (g2 := F0 m 101 ls [.int (y40.2.1 0), .ref (gO g 13)]) rfl ?_
          refine p8_3_4 hx hb hts hown hK hP hD hS (hts _ q288) dX3_drawFrom_101 (fun H locs σ41 eσ41 hP hS => ?_)
          have hJ42 : J8 σ41 := hJ10.I eσ41 rfl (show JI8 3 4 (y40.2.1 0) from trivial)
          refine lv_aload_n hx hb dX3_drawFrom_104 rfl (lv_at hl 2 rfl) ?_
          refine lv_dup hx hb dX3_drawFrom_105 rfl ?_
          refine g8_3_3 (x := ((σ8 13).1 3)) hx hb hts hown hK hP (((sI_f eσ41) 13 3 (fN_k rfl)).1) (hts _ q286) dX3_drawFrom_106 ?_
          refine lv_iconst (v := 1) hx hb dX3_drawFrom_109 (by decide) ?_
          refine lv_iadd hx hb dX3_drawFrom_110 ?_
          refine lv_topi (fun x43 ex43 => ?_)
          refine p8_3_3 hx hb hts hown hK hP hD hS (hts _ q286) dX3_drawFrom_111 (fun H locs σ44 eσ44 hP hS => ?_)
          have hJ45 : J8 σ44 := hJ42.I eσ44 rfl (show JI8 3 3 x43 from trivial)
          exact nj26 (σ44, lf [], lg []) ⟨Fr.tr (Fr.tr (Fr.rf) (sI_f eσ41) (fN_O mem0)) (sI_f eσ44) (fN_O mem0), hJ45, trivial⟩ _ _ _ hP hS (lv_sub hl [0, 1, 2, 3] rfl)
        ·
          intro nj38
          refine lv_if_ne (tgt := 97) hx hb dX3_drawFrom_84 (by decide) (fun c46 => ?_) (fun c46 => ?_)
          ·
            have k47 := neq32 c46
            refine lv_aload_n hx hb dX3_drawFrom_97 rfl (lv_at hl 2 rfl) ?_
            refine g8_3_4 (x := ((σ8 13).1 4)) hx hb hts hown hK hP (rfl) (hts _ q288) dX3_drawFrom_98 ?_
            exact nj38 (σ8, lf [((σ8 13).1 4)], lg []) ⟨rfl, trivial⟩ _ _ _ hP hS (lv_sub hl [0, 1, 2, 3] rfl)
          ·
            have k48 := peq32 c46
            refine lv_aload_n hx hb dX3_drawFrom_87 rfl (lv_at hl 2 rfl) ?_
            refine g8_3_8 hx hb hts hown hK hP (hts _ q293) dX3_drawFrom_88 ?_
            refine lv_iload hx hb dX3_drawFrom_91 (lv_at hl 1 rfl) ?_
            obtain ⟨x49, ex49⟩ : ∃ z, (σ8 13).2.2.1 8 (y7.2.1 0).toInt.toNat = z := ⟨_, rfl⟩
            refine l8_3_8 (x := x49) hx hb hK hP (vpo (by have f0 := b11; have f1 := k14; have f2 := j8_3_0 hJ10 rfl; have g0 := rg32 (y7.2.1 0); omega)) ex49 dX3_drawFrom_93 ?_
            have t50 := a8_3_8 hJ10 ex49
            refine lv_goto (tgt := 101) hx hb dX3_drawFrom_94 (by decide) ?_
            exact nj38 (σ8, lf [x49], lg []) ⟨rfl, trivial⟩ _ _ _ hP hS (lv_sub hl [0, 1, 2, 3] rfl)

theorem q1306 : Cond.code yX8_cracks cX8_cracks 5 (some .int) ∈ lw_g := lw_gm (List.mem_of_getElem? (i := 1306) (by decide +kernel)) rfl
theorem q1307 : Cond.methodLink RX8 396 yX8_isSeed ∈ lw_g := lw_gm (List.mem_of_getElem? (i := 1307) (by decide +kernel)) rfl
theorem q1308 : Cond.static yX8_isSeed ∈ lw_g := lw_gm (List.mem_of_getElem? (i := 1308) (by decide +kernel)) rfl
theorem q1311 : Cond.methodLink RX8 399 yX3_drawFrom ∈ lw_g := lw_gm (List.mem_of_getElem? (i := 1311) (by decide +kernel)) rfl
theorem q1312 : Cond.instanceMethod yX3_drawFrom ∈ lw_g := lw_gm (List.mem_of_getElem? (i := 1312) (by decide +kernel)) rfl
theorem q1313 : Cond.selects RX3 yX3_drawFrom yX3_drawFrom ∈ lw_g := lw_gm (List.mem_of_getElem? (i := 1313) (by decide +kernel)) rfl
theorem q287 : Cond.fieldLink RX8 403 "LipsAndSlides$Plays" "crackCount" "I" ∈ lw_g := lw_gm (List.mem_of_getElem? (i := 287) (by decide +kernel)) rfl
theorem dX8_cracks_0 : decode cX8_cracks 0 = .ok (.iload_n 1, 1) := by decide +kernel
theorem dX8_cracks_1 : decode cX8_cracks 1 = .ok (.invokestatic 396, 3) := by decide +kernel
theorem dX8_cracks_4 : decode cX8_cracks 4 = .ok (.ifCond .ne 6, 3) := by decide +kernel
theorem dX8_cracks_7 : decode cX8_cracks 7 = .ok (.bipush (-2), 2) := by decide +kernel
theorem dX8_cracks_9 : decode cX8_cracks 9 = .ok (.ireturn, 1) := by decide +kernel
theorem dX8_cracks_10 : decode cX8_cracks 10 = .ok (.aload_n 0, 1) := by decide +kernel
theorem dX8_cracks_11 : decode cX8_cracks 11 = .ok (.iload_n 2, 1) := by decide +kernel
theorem dX8_cracks_12 : decode cX8_cracks 12 = .ok (.iload_n 3, 1) := by decide +kernel
theorem dX8_cracks_13 : decode cX8_cracks 13 = .ok (.invokevirtual 248, 3) := by decide +kernel
theorem dX8_cracks_16 : decode cX8_cracks 16 = .ok (.istore 4, 2) := by decide +kernel
theorem dX8_cracks_18 : decode cX8_cracks 18 = .ok (.iload 4, 2) := by decide +kernel
theorem dX8_cracks_20 : decode cX8_cracks 20 = .ok (.ifCond .eq 6, 3) := by decide +kernel
theorem dX8_cracks_23 : decode cX8_cracks 23 = .ok (.iload 4, 2) := by decide +kernel
theorem dX8_cracks_25 : decode cX8_cracks 25 = .ok (.ireturn, 1) := by decide +kernel
theorem dX8_cracks_26 : decode cX8_cracks 26 = .ok (.aload_n 0, 1) := by decide +kernel
theorem dX8_cracks_27 : decode cX8_cracks 27 = .ok (.getfield 53, 3) := by decide +kernel
theorem dX8_cracks_30 : decode cX8_cracks 30 = .ok (.iload_n 1, 1) := by decide +kernel
theorem dX8_cracks_31 : decode cX8_cracks 31 = .ok (.i2l, 1) := by decide +kernel
theorem dX8_cracks_32 : decode cX8_cracks 32 = .ok (.invokevirtual 399, 3) := by decide +kernel
theorem dX8_cracks_35 : decode cX8_cracks 35 = .ok (.aload_n 0, 1) := by decide +kernel
theorem dX8_cracks_36 : decode cX8_cracks 36 = .ok (.getfield 53, 3) := by decide +kernel
theorem dX8_cracks_39 : decode cX8_cracks 39 = .ok (.getfield 403, 3) := by decide +kernel
theorem dX8_cracks_42 : decode cX8_cracks 42 = .ok (.ireturn, 1) := by decide +kernel
set_option maxHeartbeats 4000000 in
set_option maxRecDepth 100000 in
theorem m_X8_cracks (l : Launch) (D : va_G) (cy : Nat → ClassId) (g : Nat → Nat) (σ : ST) (p1 : Int32) (p2 : Int32) (p3 : Int32) (sz : Nat) (hJ : J8 σ)  : Met l yX8_cracks (ww yX8_cracks cX8_cracks 5 (some .int)) ({ frames := 7, cells := 0, slots := 0, locals := 448 }) (va_Pc [.ref (gO g 17), .int p1, .int p2, .int p3] (pr8 D cy g σ sz)) (qi8 D cy g sz (fun r τ => Fr (fO [11, 13]) σ τ ∧ J8 τ ∧ True)) 0 0 (A8 cy g sz) := by
  refine Met.ofW (cc := cX8_cracks) (maxL := 5) (ret := (some .int)) (by decide) rfl ?_
  intro p e s m args below meth c s₁ B hml hv
  obtain ⟨rfl, hsz, hP, hK, hD0, hC⟩ := hv
  have hx := B.exec
  have hb := B.bytes
  have hr := B.returns
  have hts := hts_g (atoms_spec (ws := ww yX8_cracks cX8_cracks 5 (some .int)) B.pre)
  have hown : s.vm.findClass RX8 = some m.cls := findClass_of_methodNamed B.named
  have hlocks := B.notSynchronized
  clear B
  subst hsz
  have hD := fun τ => A8_D (sz := s.heap.size) hD0 τ
  clear hD0
  have hS : va_S (A8 cy g s.heap.size) s.heap s.heap [] := va_S.rf
  have hl := lv_entry ([.ref (gO g 17), .int p1, .int p2, .int p3]) (n := 5) (Nat.le_of_ble_eq_true rfl)
  rw [lg_entry_eq]
  generalize (lg_sl ([.ref (gO g 17), .int p1, .int p2, .int p3]) ++ List.replicate (5 - (lg_sl ([.ref (gO g 17), .int p1, .int p2, .int p3])).length) Slot.unset).toArray = ls at hl ⊢
  have hl : lv_has ls 5 [(0, .ref (gO g 17)), (1, .int p1), (2, .int p2), (3, .int p3)] := hl
  refine lv_iload_n hx hb dX8_cracks_0 rfl (lv_at hl 1 rfl) ?_
  refine va_calli (va_runS (As := [.int p1]) (rest := []) ⟨hx, hb, hml, hown, hts⟩ (m_X8_isSeed l D cy g σ  p1 _ hJ ) (va_cwS 1 hts (gd_S q1307 q1308 q125 q1309) rfl rfl rfl (by decide +kernel) ⟨(Nat.le_of_ble_eq_true rfl), (Nat.le_of_ble_eq_true rfl)⟩) (ps8 hP hK hD hC hS) rfl rfl hl.1 rfl (lv_room (Nat.le_of_ble_eq_true rfl)) dX8_cracks_1 ⟨Nat.le_of_ble_eq_true rfl, Nat.le_of_ble_eq_true rfl⟩) hS (fun q _ h => up8 hS q h) (up8 hS) (fun r1 σ2 tS H1 locs ht hvm hw3 hB hz1 hk1 hS => ?_)
  have hP : va_P D clz (WD8 cy g σ2) H1 := by rw [← ht]; exact hB
  clear hB hz1 hk1 hvm ht
  generalize H1 = H at hP hS ⊢
  have hw3E : σ = σ2 := (hw3.1).symm
  subst hw3E
  have b4 : (0 : Int) ≤ r1.toInt ∧ r1.toInt ≤ 1 := hw3.2.1
  refine lv_if_ne (tgt := 10) hx hb dX8_cracks_4 (by decide) (fun c5 => ?_) (fun c5 => ?_)
  ·
    have k6 := neq32 c5
    refine lv_aload_n hx hb dX8_cracks_10 rfl (lv_at hl 0 rfl) ?_
    refine lv_iload_n hx hb dX8_cracks_11 rfl (lv_at hl 2 rfl) ?_
    refine lv_iload_n hx hb dX8_cracks_12 rfl (lv_at hl 3 rfl) ?_
    refine va_calli (va_runV (As := [.int p2, .int p3]) (rest := []) ⟨hx, hb, hml, hown, hts⟩ (m_X8_layBest l D cy g σ  p2 p3 _ hJ ) (cwV 2 hts (gd_V q914 q916 q18 q125 q917) rfl rfl rfl (by decide +kernel) ⟨(Nat.le_of_ble_eq_true rfl), (Nat.le_of_ble_eq_true rfl)⟩) (pv8 hP hK hD hC hS (rv8_8 hK hP)) rfl rfl hl.1 rfl (lv_room (Nat.le_of_ble_eq_true rfl)) dX8_cracks_13 ⟨Nat.le_of_ble_eq_true rfl, Nat.le_of_ble_eq_true rfl⟩) hS (fun q _ h => up8 hS q h) (up8 hS) (fun r7 σ8 tS H1 locs ht hvm hw9 hB hz1 hk1 hS => ?_)
    have hP : va_P D clz (WD8 cy g σ8) H1 := by rw [← ht]; exact hB
    clear hB hz1 hk1 hvm ht
    generalize H1 = H at hP hS ⊢
    have hF10 : Fr (fO [11, 13]) σ σ8 := hw9.1
    have hJ11 : J8 σ8 := hw9.2.1
    have b12 : (-2 : Int) ≤ r7.toInt ∧ r7.toInt ≤ 0 := hw9.2.2.1
    refine lv_istore (lv' := [(4, .int r7), (0, .ref (gO g 17)), (1, .int p1), (2, .int p2), (3, .int p3)]) hx hb dX8_cracks_16 hl (by decide) rfl (fun ls hl => ?_)
    refine lv_iload hx hb dX8_cracks_18 (lv_at hl 0 rfl) ?_
    refine lv_if_eq (tgt := 26) hx hb dX8_cracks_20 (by decide) (fun c13 => ?_) (fun c13 => ?_)
    ·
      have k14 := peq32 c13
      refine lv_aload_n hx hb dX8_cracks_26 rfl (lv_at hl 1 rfl) ?_
      refine g8_8_8 hx hb hts hown hK hP (hts _ q442) dX8_cracks_27 ?_
      refine lv_iload_n hx hb dX8_cracks_30 rfl (lv_at hl 2 rfl) ?_
      refine lv_i2l (v := p1.toInt64) hx hb dX8_cracks_31 rfl ?_
      refine va_callv (va_runV (As := [.long p1.toInt64]) (rest := []) ⟨hx, hb, hml, hown, hts⟩ (m_X3_drawFrom l D cy g σ8  p1.toInt64 _ hJ11 ) (cwV 1 hts (gd_V q1311 q1312 q1313 q129 q1314) rfl rfl rfl (by decide +kernel) ⟨(Nat.le_of_ble_eq_true rfl), (Nat.le_of_ble_eq_true rfl)⟩) (pv8 hP hK hD hC hS (rv8_3 hK hP)) rfl rfl hl.1 rfl (lv_room (Nat.le_of_ble_eq_true rfl)) dX8_cracks_32 ⟨Nat.le_of_ble_eq_true rfl, Nat.le_of_ble_eq_true rfl⟩) hS (fun q _ h => up8 hS q h) (up8 hS) (fun σ16 tS H1 locs ht hvm hw17 hB hz1 hk1 hS => ?_)
      have hP : va_P D clz (WD8 cy g σ16) H1 := by rw [← ht]; exact hB
      clear hB hz1 hk1 hvm ht
      generalize H1 = H at hP hS ⊢
      have hF18 : Fr (fO [13]) σ8 σ16 := hw17.1
      have hJ19 : J8 σ16 := hw17.2.1
      refine lv_aload_n hx hb dX8_cracks_35 rfl (lv_at hl 1 rfl) ?_
      refine g8_8_8 hx hb hts hown hK hP (hts _ q442) dX8_cracks_36 ?_
      refine g8_3_3 (x := ((σ16 13).1 3)) hx hb hts hown hK hP (rfl) (hts _ q287) dX8_cracks_39 ?_
      exact W.iret (v := ((σ16 13).1 3)) hx hb hr (fun tS ht hW => ⟨⟨((σ16 13).1 3), σ16, rfl, ⟨Fr.tr (Fr.tr (Fr.rf) hF10 (fO_sub (fun _ q => q))) hF18 (fO_sub (by simp)), hJ19, trivial⟩, (show va_P D clz (WD8 cy g σ16) tS.heap by rw [ht]; exact hP)⟩, hS.F ht⟩) hS.2.2 dX8_cracks_42
    ·
      have k20 := neq32 c13
      refine lv_iload hx hb dX8_cracks_23 (lv_at hl 0 rfl) ?_
      exact W.iret (v := r7) hx hb hr (fun tS ht hW => ⟨⟨r7, σ8, rfl, ⟨Fr.tr (Fr.rf) hF10 (fO_sub (fun _ q => q)), hJ11, trivial⟩, (show va_P D clz (WD8 cy g σ8) tS.heap by rw [ht]; exact hP)⟩, hS.F ht⟩) hS.2.2 dX8_cracks_25
  ·
    have k21 := peq32 c5
    refine lv_bipush (v := (-2)) hx hb dX8_cracks_7 (by decide) ?_
    exact W.iret (v := (-2)) hx hb hr (fun tS ht hW => ⟨⟨(-2), σ, rfl, ⟨Fr.rf, hJ, trivial⟩, (show va_P D clz (WD8 cy g σ) tS.heap by rw [ht]; exact hP)⟩, hS.F ht⟩) hS.2.2 dX8_cracks_9

theorem q1323 : Cond.code yX8_cracked cX8_cracked 5 (some .int) ∈ lw_g := lw_gm (List.mem_of_getElem? (i := 1323) (by decide +kernel)) rfl
theorem q289 : Cond.fieldLink RX8 406 "LipsAndSlides$Plays" "firstCrack" "I" ∈ lw_g := lw_gm (List.mem_of_getElem? (i := 289) (by decide +kernel)) rfl
theorem dX8_cracked_0 : decode cX8_cracked 0 = .ok (.iload_n 1, 1) := by decide +kernel
theorem dX8_cracked_1 : decode cX8_cracked 1 = .ok (.invokestatic 396, 3) := by decide +kernel
theorem dX8_cracked_4 : decode cX8_cracked 4 = .ok (.ifCond .ne 6, 3) := by decide +kernel
theorem dX8_cracked_7 : decode cX8_cracked 7 = .ok (.bipush (-2), 2) := by decide +kernel
theorem dX8_cracked_9 : decode cX8_cracked 9 = .ok (.ireturn, 1) := by decide +kernel
theorem dX8_cracked_10 : decode cX8_cracked 10 = .ok (.aload_n 0, 1) := by decide +kernel
theorem dX8_cracked_11 : decode cX8_cracked 11 = .ok (.iload_n 2, 1) := by decide +kernel
theorem dX8_cracked_12 : decode cX8_cracked 12 = .ok (.iload_n 3, 1) := by decide +kernel
theorem dX8_cracked_13 : decode cX8_cracked 13 = .ok (.invokevirtual 248, 3) := by decide +kernel
theorem dX8_cracked_16 : decode cX8_cracked 16 = .ok (.istore 4, 2) := by decide +kernel
theorem dX8_cracked_18 : decode cX8_cracked 18 = .ok (.iload 4, 2) := by decide +kernel
theorem dX8_cracked_20 : decode cX8_cracked 20 = .ok (.ifCond .eq 6, 3) := by decide +kernel
theorem dX8_cracked_23 : decode cX8_cracked 23 = .ok (.iload 4, 2) := by decide +kernel
theorem dX8_cracked_25 : decode cX8_cracked 25 = .ok (.ireturn, 1) := by decide +kernel
theorem dX8_cracked_26 : decode cX8_cracked 26 = .ok (.aload_n 0, 1) := by decide +kernel
theorem dX8_cracked_27 : decode cX8_cracked 27 = .ok (.getfield 53, 3) := by decide +kernel
theorem dX8_cracked_30 : decode cX8_cracked 30 = .ok (.iload_n 1, 1) := by decide +kernel
theorem dX8_cracked_31 : decode cX8_cracked 31 = .ok (.i2l, 1) := by decide +kernel
theorem dX8_cracked_32 : decode cX8_cracked 32 = .ok (.invokevirtual 399, 3) := by decide +kernel
theorem dX8_cracked_35 : decode cX8_cracked 35 = .ok (.aload_n 0, 1) := by decide +kernel
theorem dX8_cracked_36 : decode cX8_cracked 36 = .ok (.getfield 53, 3) := by decide +kernel
theorem dX8_cracked_39 : decode cX8_cracked 39 = .ok (.getfield 406, 3) := by decide +kernel
theorem dX8_cracked_42 : decode cX8_cracked 42 = .ok (.ireturn, 1) := by decide +kernel
set_option maxHeartbeats 4000000 in
set_option maxRecDepth 100000 in
theorem m_X8_cracked (l : Launch) (D : va_G) (cy : Nat → ClassId) (g : Nat → Nat) (σ : ST) (p1 : Int32) (p2 : Int32) (p3 : Int32) (sz : Nat) (hJ : J8 σ)  : Met l yX8_cracked (ww yX8_cracked cX8_cracked 5 (some .int)) ({ frames := 7, cells := 0, slots := 0, locals := 448 }) (va_Pc [.ref (gO g 17), .int p1, .int p2, .int p3] (pr8 D cy g σ sz)) (qi8 D cy g sz (fun r τ => Fr (fO [11, 13]) σ τ ∧ J8 τ ∧ True)) 0 0 (A8 cy g sz) := by
  refine Met.ofW (cc := cX8_cracked) (maxL := 5) (ret := (some .int)) (by decide) rfl ?_
  intro p e s m args below meth c s₁ B hml hv
  obtain ⟨rfl, hsz, hP, hK, hD0, hC⟩ := hv
  have hx := B.exec
  have hb := B.bytes
  have hr := B.returns
  have hts := hts_g (atoms_spec (ws := ww yX8_cracked cX8_cracked 5 (some .int)) B.pre)
  have hown : s.vm.findClass RX8 = some m.cls := findClass_of_methodNamed B.named
  have hlocks := B.notSynchronized
  clear B
  subst hsz
  have hD := fun τ => A8_D (sz := s.heap.size) hD0 τ
  clear hD0
  have hS : va_S (A8 cy g s.heap.size) s.heap s.heap [] := va_S.rf
  have hl := lv_entry ([.ref (gO g 17), .int p1, .int p2, .int p3]) (n := 5) (Nat.le_of_ble_eq_true rfl)
  rw [lg_entry_eq]
  generalize (lg_sl ([.ref (gO g 17), .int p1, .int p2, .int p3]) ++ List.replicate (5 - (lg_sl ([.ref (gO g 17), .int p1, .int p2, .int p3])).length) Slot.unset).toArray = ls at hl ⊢
  have hl : lv_has ls 5 [(0, .ref (gO g 17)), (1, .int p1), (2, .int p2), (3, .int p3)] := hl
  refine lv_iload_n hx hb dX8_cracked_0 rfl (lv_at hl 1 rfl) ?_
  refine va_calli (va_runS (As := [.int p1]) (rest := []) ⟨hx, hb, hml, hown, hts⟩ (m_X8_isSeed l D cy g σ  p1 _ hJ ) (va_cwS 1 hts (gd_S q1307 q1308 q125 q1309) rfl rfl rfl (by decide +kernel) ⟨(Nat.le_of_ble_eq_true rfl), (Nat.le_of_ble_eq_true rfl)⟩) (ps8 hP hK hD hC hS) rfl rfl hl.1 rfl (lv_room (Nat.le_of_ble_eq_true rfl)) dX8_cracked_1 ⟨Nat.le_of_ble_eq_true rfl, Nat.le_of_ble_eq_true rfl⟩) hS (fun q _ h => up8 hS q h) (up8 hS) (fun r1 σ2 tS H1 locs ht hvm hw3 hB hz1 hk1 hS => ?_)
  have hP : va_P D clz (WD8 cy g σ2) H1 := by rw [← ht]; exact hB
  clear hB hz1 hk1 hvm ht
  generalize H1 = H at hP hS ⊢
  have hw3E : σ = σ2 := (hw3.1).symm
  subst hw3E
  have b4 : (0 : Int) ≤ r1.toInt ∧ r1.toInt ≤ 1 := hw3.2.1
  refine lv_if_ne (tgt := 10) hx hb dX8_cracked_4 (by decide) (fun c5 => ?_) (fun c5 => ?_)
  ·
    have k6 := neq32 c5
    refine lv_aload_n hx hb dX8_cracked_10 rfl (lv_at hl 0 rfl) ?_
    refine lv_iload_n hx hb dX8_cracked_11 rfl (lv_at hl 2 rfl) ?_
    refine lv_iload_n hx hb dX8_cracked_12 rfl (lv_at hl 3 rfl) ?_
    refine va_calli (va_runV (As := [.int p2, .int p3]) (rest := []) ⟨hx, hb, hml, hown, hts⟩ (m_X8_layBest l D cy g σ  p2 p3 _ hJ ) (cwV 2 hts (gd_V q914 q916 q18 q125 q917) rfl rfl rfl (by decide +kernel) ⟨(Nat.le_of_ble_eq_true rfl), (Nat.le_of_ble_eq_true rfl)⟩) (pv8 hP hK hD hC hS (rv8_8 hK hP)) rfl rfl hl.1 rfl (lv_room (Nat.le_of_ble_eq_true rfl)) dX8_cracked_13 ⟨Nat.le_of_ble_eq_true rfl, Nat.le_of_ble_eq_true rfl⟩) hS (fun q _ h => up8 hS q h) (up8 hS) (fun r7 σ8 tS H1 locs ht hvm hw9 hB hz1 hk1 hS => ?_)
    have hP : va_P D clz (WD8 cy g σ8) H1 := by rw [← ht]; exact hB
    clear hB hz1 hk1 hvm ht
    generalize H1 = H at hP hS ⊢
    have hF10 : Fr (fO [11, 13]) σ σ8 := hw9.1
    have hJ11 : J8 σ8 := hw9.2.1
    have b12 : (-2 : Int) ≤ r7.toInt ∧ r7.toInt ≤ 0 := hw9.2.2.1
    refine lv_istore (lv' := [(4, .int r7), (0, .ref (gO g 17)), (1, .int p1), (2, .int p2), (3, .int p3)]) hx hb dX8_cracked_16 hl (by decide) rfl (fun ls hl => ?_)
    refine lv_iload hx hb dX8_cracked_18 (lv_at hl 0 rfl) ?_
    refine lv_if_eq (tgt := 26) hx hb dX8_cracked_20 (by decide) (fun c13 => ?_) (fun c13 => ?_)
    ·
      have k14 := peq32 c13
      refine lv_aload_n hx hb dX8_cracked_26 rfl (lv_at hl 1 rfl) ?_
      refine g8_8_8 hx hb hts hown hK hP (hts _ q442) dX8_cracked_27 ?_
      refine lv_iload_n hx hb dX8_cracked_30 rfl (lv_at hl 2 rfl) ?_
      refine lv_i2l (v := p1.toInt64) hx hb dX8_cracked_31 rfl ?_
      refine va_callv (va_runV (As := [.long p1.toInt64]) (rest := []) ⟨hx, hb, hml, hown, hts⟩ (m_X3_drawFrom l D cy g σ8  p1.toInt64 _ hJ11 ) (cwV 1 hts (gd_V q1311 q1312 q1313 q129 q1314) rfl rfl rfl (by decide +kernel) ⟨(Nat.le_of_ble_eq_true rfl), (Nat.le_of_ble_eq_true rfl)⟩) (pv8 hP hK hD hC hS (rv8_3 hK hP)) rfl rfl hl.1 rfl (lv_room (Nat.le_of_ble_eq_true rfl)) dX8_cracked_32 ⟨Nat.le_of_ble_eq_true rfl, Nat.le_of_ble_eq_true rfl⟩) hS (fun q _ h => up8 hS q h) (up8 hS) (fun σ16 tS H1 locs ht hvm hw17 hB hz1 hk1 hS => ?_)
      have hP : va_P D clz (WD8 cy g σ16) H1 := by rw [← ht]; exact hB
      clear hB hz1 hk1 hvm ht
      generalize H1 = H at hP hS ⊢
      have hF18 : Fr (fO [13]) σ8 σ16 := hw17.1
      have hJ19 : J8 σ16 := hw17.2.1
      refine lv_aload_n hx hb dX8_cracked_35 rfl (lv_at hl 1 rfl) ?_
      refine g8_8_8 hx hb hts hown hK hP (hts _ q442) dX8_cracked_36 ?_
      refine g8_3_4 (x := ((σ16 13).1 4)) hx hb hts hown hK hP (rfl) (hts _ q289) dX8_cracked_39 ?_
      exact W.iret (v := ((σ16 13).1 4)) hx hb hr (fun tS ht hW => ⟨⟨((σ16 13).1 4), σ16, rfl, ⟨Fr.tr (Fr.tr (Fr.rf) hF10 (fO_sub (fun _ q => q))) hF18 (fO_sub (by simp)), hJ19, trivial⟩, (show va_P D clz (WD8 cy g σ16) tS.heap by rw [ht]; exact hP)⟩, hS.F ht⟩) hS.2.2 dX8_cracked_42
    ·
      have k20 := neq32 c13
      refine lv_iload hx hb dX8_cracked_23 (lv_at hl 0 rfl) ?_
      exact W.iret (v := r7) hx hb hr (fun tS ht hW => ⟨⟨r7, σ8, rfl, ⟨Fr.tr (Fr.rf) hF10 (fO_sub (fun _ q => q)), hJ11, trivial⟩, (show va_P D clz (WD8 cy g σ8) tS.heap by rw [ht]; exact hP)⟩, hS.F ht⟩) hS.2.2 dX8_cracked_25
  ·
    have k21 := peq32 c5
    refine lv_bipush (v := (-2)) hx hb dX8_cracked_7 (by decide) ?_
    exact W.iret (v := (-2)) hx hb hr (fun tS ht hW => ⟨⟨(-2), σ, rfl, ⟨Fr.rf, hJ, trivial⟩, (show va_P D clz (WD8 cy g σ) tS.heap by rw [ht]; exact hP)⟩, hS.F ht⟩) hS.2.2 dX8_cracked_9

theorem q1327 : Cond.code yX8_clean cX8_clean 8 (some .int) ∈ lw_g := lw_gm (List.mem_of_getElem? (i := 1327) (by decide +kernel)) rfl
theorem dX8_clean_0 : decode cX8_clean 0 = .ok (.iload_n 1, 1) := by decide +kernel
theorem dX8_clean_1 : decode cX8_clean 1 = .ok (.invokestatic 396, 3) := by decide +kernel
theorem dX8_clean_4 : decode cX8_clean 4 = .ok (.ifCond .eq 14, 3) := by decide +kernel
theorem dX8_clean_7 : decode cX8_clean 7 = .ok (.iload_n 2, 1) := by decide +kernel
theorem dX8_clean_8 : decode cX8_clean 8 = .ok (.iconst 1, 1) := by decide +kernel
theorem dX8_clean_9 : decode cX8_clean 9 = .ok (.if_icmp .lt 9, 3) := by decide +kernel
theorem dX8_clean_12 : decode cX8_clean 12 = .ok (.iload_n 2, 1) := by decide +kernel
theorem dX8_clean_13 : decode cX8_clean 13 = .ok (.bipush 20, 2) := by decide +kernel
theorem dX8_clean_15 : decode cX8_clean 15 = .ok (.if_icmp .le 6, 3) := by decide +kernel
theorem dX8_clean_18 : decode cX8_clean 18 = .ok (.bipush (-2), 2) := by decide +kernel
theorem dX8_clean_20 : decode cX8_clean 20 = .ok (.ireturn, 1) := by decide +kernel
theorem dX8_clean_21 : decode cX8_clean 21 = .ok (.aload_n 0, 1) := by decide +kernel
theorem dX8_clean_22 : decode cX8_clean 22 = .ok (.iload_n 3, 1) := by decide +kernel
theorem dX8_clean_23 : decode cX8_clean 23 = .ok (.iload 4, 2) := by decide +kernel
theorem dX8_clean_25 : decode cX8_clean 25 = .ok (.invokevirtual 248, 3) := by decide +kernel
theorem dX8_clean_28 : decode cX8_clean 28 = .ok (.istore 5, 2) := by decide +kernel
theorem dX8_clean_30 : decode cX8_clean 30 = .ok (.iload 5, 2) := by decide +kernel
theorem dX8_clean_32 : decode cX8_clean 32 = .ok (.ifCond .eq 6, 3) := by decide +kernel
theorem dX8_clean_35 : decode cX8_clean 35 = .ok (.iload 5, 2) := by decide +kernel
theorem dX8_clean_37 : decode cX8_clean 37 = .ok (.ireturn, 1) := by decide +kernel
theorem dX8_clean_38 : decode cX8_clean 38 = .ok (.iconst 0, 1) := by decide +kernel
theorem dX8_clean_39 : decode cX8_clean 39 = .ok (.istore 6, 2) := by decide +kernel
theorem dX8_clean_41 : decode cX8_clean 41 = .ok (.iconst 0, 1) := by decide +kernel
theorem dX8_clean_42 : decode cX8_clean 42 = .ok (.istore 7, 2) := by decide +kernel
theorem dX8_clean_44 : decode cX8_clean 44 = .ok (.iload 7, 2) := by decide +kernel
theorem dX8_clean_46 : decode cX8_clean 46 = .ok (.iload_n 2, 1) := by decide +kernel
theorem dX8_clean_47 : decode cX8_clean 47 = .ok (.if_icmp .ge 35, 3) := by decide +kernel
theorem dX8_clean_50 : decode cX8_clean 50 = .ok (.aload_n 0, 1) := by decide +kernel
theorem dX8_clean_51 : decode cX8_clean 51 = .ok (.getfield 53, 3) := by decide +kernel
theorem dX8_clean_54 : decode cX8_clean 54 = .ok (.iload_n 1, 1) := by decide +kernel
theorem dX8_clean_55 : decode cX8_clean 55 = .ok (.i2l, 1) := by decide +kernel
theorem dX8_clean_56 : decode cX8_clean 56 = .ok (.iload 7, 2) := by decide +kernel
theorem dX8_clean_58 : decode cX8_clean 58 = .ok (.i2l, 1) := by decide +kernel
theorem dX8_clean_59 : decode cX8_clean 59 = .ok (.ladd, 1) := by decide +kernel
theorem dX8_clean_60 : decode cX8_clean 60 = .ok (.invokevirtual 399, 3) := by decide +kernel
theorem dX8_clean_63 : decode cX8_clean 63 = .ok (.aload_n 0, 1) := by decide +kernel
theorem dX8_clean_64 : decode cX8_clean 64 = .ok (.getfield 53, 3) := by decide +kernel
theorem dX8_clean_67 : decode cX8_clean 67 = .ok (.getfield 403, 3) := by decide +kernel
theorem dX8_clean_70 : decode cX8_clean 70 = .ok (.ifCond .ne 6, 3) := by decide +kernel
theorem dX8_clean_73 : decode cX8_clean 73 = .ok (.iinc 6 1, 3) := by decide +kernel
theorem dX8_clean_76 : decode cX8_clean 76 = .ok (.iinc 7 1, 3) := by decide +kernel
theorem dX8_clean_79 : decode cX8_clean 79 = .ok (.goto (-35), 3) := by decide +kernel
theorem dX8_clean_82 : decode cX8_clean 82 = .ok (.iload 6, 2) := by decide +kernel
theorem dX8_clean_84 : decode cX8_clean 84 = .ok (.ireturn, 1) := by decide +kernel
set_option maxHeartbeats 4000000 in
set_option maxRecDepth 100000 in
theorem m_X8_clean (l : Launch) (D : va_G) (cy : Nat → ClassId) (g : Nat → Nat) (σ : ST) (p1 : Int32) (p2 : Int32) (p3 : Int32) (p4 : Int32) (sz : Nat) (hJ : J8 σ)  : Met l yX8_clean (ww yX8_clean cX8_clean 8 (some .int)) ({ frames := 7, cells := 0, slots := 0, locals := 448 }) (va_Pc [.ref (gO g 17), .int p1, .int p2, .int p3, .int p4] (pr8 D cy g σ sz)) (qi8 D cy g sz (fun r τ => Fr (fO [11, 13]) σ τ ∧ J8 τ ∧ True)) 0 0 (A8 cy g sz) := by
  refine Met.ofW (cc := cX8_clean) (maxL := 8) (ret := (some .int)) (by decide) rfl ?_
  intro p e s m args below meth c s₁ B hml hv
  obtain ⟨rfl, hsz, hP, hK, hD0, hC⟩ := hv
  have hx := B.exec
  have hb := B.bytes
  have hr := B.returns
  have hts := hts_g (atoms_spec (ws := ww yX8_clean cX8_clean 8 (some .int)) B.pre)
  have hown : s.vm.findClass RX8 = some m.cls := findClass_of_methodNamed B.named
  have hlocks := B.notSynchronized
  clear B
  subst hsz
  have hD := fun τ => A8_D (sz := s.heap.size) hD0 τ
  clear hD0
  have hS : va_S (A8 cy g s.heap.size) s.heap s.heap [] := va_S.rf
  have hl := lv_entry ([.ref (gO g 17), .int p1, .int p2, .int p3, .int p4]) (n := 8) (Nat.le_of_ble_eq_true rfl)
  rw [lg_entry_eq]
  generalize (lg_sl ([.ref (gO g 17), .int p1, .int p2, .int p3, .int p4]) ++ List.replicate (8 - (lg_sl ([.ref (gO g 17), .int p1, .int p2, .int p3, .int p4])).length) Slot.unset).toArray = ls at hl ⊢
  have hl : lv_has ls 8 [(0, .ref (gO g 17)), (1, .int p1), (2, .int p2), (3, .int p3), (4, .int p4)] := hl
  refine lv_iload_n hx hb dX8_clean_0 rfl (lv_at hl 1 rfl) ?_
  refine va_calli (va_runS (As := [.int p1]) (rest := []) ⟨hx, hb, hml, hown, hts⟩ (m_X8_isSeed l D cy g σ  p1 _ hJ ) (va_cwS 1 hts (gd_S q1307 q1308 q125 q1309) rfl rfl rfl (by decide +kernel) ⟨(Nat.le_of_ble_eq_true rfl), (Nat.le_of_ble_eq_true rfl)⟩) (ps8 hP hK hD hC hS) rfl rfl hl.1 rfl (lv_room (Nat.le_of_ble_eq_true rfl)) dX8_clean_1 ⟨Nat.le_of_ble_eq_true rfl, Nat.le_of_ble_eq_true rfl⟩) hS (fun q _ h => up8 hS q h) (up8 hS) (fun r1 σ2 tS H1 locs ht hvm hw3 hB hz1 hk1 hS => ?_)
  have hP : va_P D clz (WD8 cy g σ2) H1 := by rw [← ht]; exact hB
  clear hB hz1 hk1 hvm ht
  generalize H1 = H at hP hS ⊢
  have hw3E : σ = σ2 := (hw3.1).symm
  subst hw3E
  have b4 : (0 : Int) ≤ r1.toInt ∧ r1.toInt ≤ 1 := hw3.2.1
  refine lv_if_eq (tgt := 18) hx hb dX8_clean_4 (by decide) (fun c5 => ?_) (fun c5 => ?_)
  ·
    have k6 := peq32 c5
    refine lv_bipush (v := (-2)) hx hb dX8_clean_18 (by decide) ?_
    exact W.iret (v := (-2)) hx hb hr (fun tS ht hW => ⟨⟨(-2), σ, rfl, ⟨Fr.rf, hJ, trivial⟩, (show va_P D clz (WD8 cy g σ) tS.heap by rw [ht]; exact hP)⟩, hS.F ht⟩) hS.2.2 dX8_clean_20
  ·
    have k7 := neq32 c5
    refine lv_iload_n hx hb dX8_clean_7 rfl (lv_at hl 2 rfl) ?_
    refine lv_iconst (v := 1) hx hb dX8_clean_8 (by decide) ?_
    refine lv_icmp_lt (tgt := 18) hx hb dX8_clean_9 (by decide) (fun c8 => ?_) (fun c8 => ?_)
    ·
      have k9 := plt32 c8
      refine lv_bipush (v := (-2)) hx hb dX8_clean_18 (by decide) ?_
      exact W.iret (v := (-2)) hx hb hr (fun tS ht hW => ⟨⟨(-2), σ, rfl, ⟨Fr.rf, hJ, trivial⟩, (show va_P D clz (WD8 cy g σ) tS.heap by rw [ht]; exact hP)⟩, hS.F ht⟩) hS.2.2 dX8_clean_20
    ·
      have k10 := nlt32 c8
      refine lv_iload_n hx hb dX8_clean_12 rfl (lv_at hl 2 rfl) ?_
      refine lv_bipush (v := 20) hx hb dX8_clean_13 (by decide) ?_
      refine lv_icmp_le (tgt := 21) hx hb dX8_clean_15 (by decide) (fun c11 => ?_) (fun c11 => ?_)
      ·
        have k12 := ple32 c11
        refine lv_aload_n hx hb dX8_clean_21 rfl (lv_at hl 0 rfl) ?_
        refine lv_iload_n hx hb dX8_clean_22 rfl (lv_at hl 3 rfl) ?_
        refine lv_iload hx hb dX8_clean_23 (lv_at hl 4 rfl) ?_
        refine va_calli (va_runV (As := [.int p3, .int p4]) (rest := []) ⟨hx, hb, hml, hown, hts⟩ (m_X8_layBest l D cy g σ  p3 p4 _ hJ ) (cwV 2 hts (gd_V q914 q916 q18 q125 q917) rfl rfl rfl (by decide +kernel) ⟨(Nat.le_of_ble_eq_true rfl), (Nat.le_of_ble_eq_true rfl)⟩) (pv8 hP hK hD hC hS (rv8_8 hK hP)) rfl rfl hl.1 rfl (lv_room (Nat.le_of_ble_eq_true rfl)) dX8_clean_25 ⟨Nat.le_of_ble_eq_true rfl, Nat.le_of_ble_eq_true rfl⟩) hS (fun q _ h => up8 hS q h) (up8 hS) (fun r13 σ14 tS H1 locs ht hvm hw15 hB hz1 hk1 hS => ?_)
        have hP : va_P D clz (WD8 cy g σ14) H1 := by rw [← ht]; exact hB
        clear hB hz1 hk1 hvm ht
        generalize H1 = H at hP hS ⊢
        have hF16 : Fr (fO [11, 13]) σ σ14 := hw15.1
        have hJ17 : J8 σ14 := hw15.2.1
        have b18 : (-2 : Int) ≤ r13.toInt ∧ r13.toInt ≤ 0 := hw15.2.2.1
        refine lv_istore (lv' := [(5, .int r13), (0, .ref (gO g 17)), (1, .int p1), (2, .int p2), (3, .int p3), (4, .int p4)]) hx hb dX8_clean_28 hl (by decide) rfl (fun ls hl => ?_)
        refine lv_iload hx hb dX8_clean_30 (lv_at hl 0 rfl) ?_
        refine lv_if_eq (tgt := 38) hx hb dX8_clean_32 (by decide) (fun c19 => ?_) (fun c19 => ?_)
        ·
          have k20 := peq32 c19
          refine lv_iconst (v := 0) hx hb dX8_clean_38 (by decide) ?_
          refine lv_istore (lv' := [(6, .int 0), (5, .int r13), (0, .ref (gO g 17)), (1, .int p1), (2, .int p2), (3, .int p3), (4, .int p4)]) hx hb dX8_clean_39 hl (by decide) rfl (fun ls hl => ?_)
          refine lv_iconst (v := 0) hx hb dX8_clean_41 (by decide) ?_
          refine lv_istore (lv' := [(7, .int 0), (6, .int 0), (5, .int r13), (0, .ref (gO g 17)), (1, .int p1), (2, .int p2), (3, .int p3), (4, .int p4)]) hx hb dX8_clean_42 hl (by decide) rfl (fun ls hl => ?_)
          refine loop8 8 44 (fun x : LZ => [(7, .int (x.2.1 0)), (6, .int (x.2.1 1)), (5, .int r13), (0, .ref (gO g 17)), (1, .int p1), (2, .int p2), (3, .int p3), (4, .int p4)]) (fun x : LZ => (Fr (fO [13]) σ14 x.1) ∧ (J8 x.1) ∧ ((0 : Int) ≤ (x.2.1 0).toInt ∧ (x.2.1 0).toInt ≤ 20) ∧ True) (fun x : LZ => ((21 : Int) - (x.2.1 0).toInt).toNat) ?_ (σ14, lf [0, 0], lg []) ⟨Fr.rf, hJ17, (show (0 : Int) ≤ (0 : Int32).toInt ∧ (0 : Int32).toInt ≤ 20 from (by have z0 : (0 : Int32).toInt = 0 := (by decide); omega)), trivial⟩ _ _ _ hP hS (lv_sub hl [0, 1, 2, 3, 4, 5, 6, 7] rfl)
          intro y23 hI22 nl21 H locs ls hP hS hl
          obtain ⟨σ24, eσ24⟩ : ∃ z, z = y23.1 := ⟨_, rfl⟩
          rw [← eσ24] at hP hI22
          have hF25 : Fr (fO [13]) σ14 σ24 := hI22.1
          have hJ26 : J8 σ24 := hI22.2.1
          have b27 : (0 : Int) ≤ (y23.2.1 0).toInt ∧ (y23.2.1 0).toInt ≤ 20 := hI22.2.2.1
          have hl : lv_has ls 8 [(7, .int (y23.2.1 0)), (6, .int (y23.2.1 1)), (5, .int r13), (0, .ref (gO g 17)), (1, .int p1), (2, .int p2), (3, .int p3), (4, .int p4)] := hl
          refine lv_iload hx hb dX8_clean_44 (lv_at hl 0 rfl) ?_
          refine lv_iload_n hx hb dX8_clean_46 rfl (lv_at hl 5 rfl) ?_
          refine lv_icmp_ge (tgt := 82) hx hb dX8_clean_47 (by decide) (fun c28 => ?_) (fun c28 => ?_)
          ·
            have k29 := ple32 c28
            refine lv_iload hx hb dX8_clean_82 (lv_at hl 1 rfl) ?_
            exact W.iret (v := (y23.2.1 1)) hx hb hr (fun tS ht hW => ⟨⟨(y23.2.1 1), σ24, rfl, ⟨Fr.tr (Fr.tr (Fr.rf) hF16 (fO_sub (fun _ q => q))) hF25 (fO_sub (by simp)), hJ26, trivial⟩, (show va_P D clz (WD8 cy g σ24) tS.heap by rw [ht]; exact hP)⟩, hS.F ht⟩) hS.2.2 dX8_clean_84
          ·
            have k30 := nle32 c28
            refine lv_aload_n hx hb dX8_clean_50 rfl (lv_at hl 3 rfl) ?_
            refine g8_8_8 hx hb hts hown hK hP (hts _ q442) dX8_clean_51 ?_
            refine lv_iload_n hx hb dX8_clean_54 rfl (lv_at hl 4 rfl) ?_
            refine lv_i2l (v := p1.toInt64) hx hb dX8_clean_55 rfl ?_
            refine lv_iload hx hb dX8_clean_56 (lv_at hl 0 rfl) ?_
            refine lv_i2l (v := (y23.2.1 0).toInt64) hx hb dX8_clean_58 rfl ?_
            refine lv_ladd hx hb dX8_clean_59 ?_
            refine lv_topl (fun x31 ex31 => ?_)
            have t32 := addL ex31 (by have f0 := t64 (a := p1); have f1 := t64 (a := (y23.2.1 0)); have f2 := b27; have f3 := k30; have f4 := rg32 p1; have f5 := rg32 (y23.2.1 0); have f6 := k10; have f7 := k12; have g1 := rg32 p1; have z1 : (1 : Int32).toInt = 1 := (by decide); have z20 : (20 : Int32).toInt = 20 := (by decide); have w11 := t64 (a := (y23.2.1 0)); have w12 := t64 (a := p1); omega)
            refine va_callv (va_runV (As := [.long x31]) (rest := []) ⟨hx, hb, hml, hown, hts⟩ (m_X3_drawFrom l D cy g σ24  x31 _ hJ26 ) (cwV 1 hts (gd_V q1311 q1312 q1313 q129 q1314) rfl rfl rfl (by decide +kernel) ⟨(Nat.le_of_ble_eq_true rfl), (Nat.le_of_ble_eq_true rfl)⟩) (pv8 hP hK hD hC hS (rv8_3 hK hP)) rfl rfl hl.1 rfl (lv_room (Nat.le_of_ble_eq_true rfl)) dX8_clean_60 ⟨Nat.le_of_ble_eq_true rfl, Nat.le_of_ble_eq_true rfl⟩) hS (fun q _ h => up8 hS q h) (up8 hS) (fun σ34 tS H1 locs ht hvm hw35 hB hz1 hk1 hS => ?_)
            have hP : va_P D clz (WD8 cy g σ34) H1 := by rw [← ht]; exact hB
            clear hB hz1 hk1 hvm ht
            generalize H1 = H at hP hS ⊢
            have hF36 : Fr (fO [13]) σ24 σ34 := hw35.1
            have hJ37 : J8 σ34 := hw35.2.1
            refine lv_aload_n hx hb dX8_clean_63 rfl (lv_at hl 3 rfl) ?_
            refine g8_8_8 hx hb hts hown hK hP (hts _ q442) dX8_clean_64 ?_
            refine g8_3_3 (x := ((σ34 13).1 3)) hx hb hts hown hK hP (rfl) (hts _ q287) dX8_clean_67 ?_
            refine cut8 (D := D) (cy := cy) (g := g) (A := A8 cy g s.heap.size) (H0 := s.heap) 8 76 (fun x : LZ => [(7, .int (y23.2.1 0)), (6, .int (x.2.1 0)), (5, .int r13), (0, .ref (gO g 17)), (1, .int p1), (2, .int p2), (3, .int p3), (4, .int p4)]) (fun x : LZ => []) (fun x : LZ => (x.1 = σ34) ∧ True) ?_ ?_
            ·
              intro y40 hI39 H locs ls hP hS hl
              rw [show y40.1 = σ34 from hI39.1] at hP
              have hl : lv_has ls 8 [(7, .int (y23.2.1 0)), (6, .int (y40.2.1 0)), (5, .int r13), (0, .ref (gO g 17)), (1, .int p1), (2, .int p2), (3, .int p3), (4, .int p4)] := hl
              obtain ⟨x41, ex41⟩ : ∃ y : Int32, y = (y23.2.1 0) + 1 := ⟨_, rfl⟩
              have t42 := addO ex41 (by have f0 := b27; have f1 := k30; have f2 := t64 (a := (y23.2.1 0)); have f3 := rg32 (y23.2.1 0); have f4 := k10; have f5 := k12; have f6 := t32; have f7 := t64 (a := p1); have f8 := rg32 p1; have g0 := rg32 (y23.2.1 0); have g2 := rg32 p1; have z1 : (1 : Int32).toInt = 1 := (by decide); have z20 : (20 : Int32).toInt = 20 := (by decide); have w13 := t64 (a := (y23.2.1 0)); have w14 := t64 (a := p1); omega)
              refine lv_iinc (v := x41) (lv' := [(7, .int x41), (6, .int (y40.2.1 0)), (5, .int r13), (0, .ref (gO g 17)), (1, .int p1), (2, .int p2), (3, .int p3), (4, .int p4)]) hx hb dX8_clean_76 hl (k := 0) rfl (by rw [ex41]; rfl) (by decide) rfl (fun ls hl => ?_)
              refine lv_goto (tgt := 44) hx hb dX8_clean_79 (by decide) ?_
              have t43 : ((21 : Int) - x41.toInt).toNat < ((21 : Int) - (y23.2.1 0).toInt).toNat := (by have f0 := b27; have f1 := k30; have f2 := t64 (a := (y23.2.1 0)); have f3 := rg32 (y23.2.1 0); have f4 := t42; have f5 := k10; have f6 := k12; have f7 := t32; have f8 := t64 (a := p1); have f9 := rg32 p1; have g0 := rg32 (y23.2.1 0); have g2 := rg32 p1; have g5 := rg32 x41; have z1 : (1 : Int32).toInt = 1 := (by decide); have z20 : (20 : Int32).toInt = 20 := (by decide); have w15 := t64 (a := (y23.2.1 0)); have w16 := t64 (a := p1); omega)
              exact nl21 (σ34, lf [x41, (y40.2.1 0)], lg []) ⟨Fr.tr (Fr.tr (Fr.rf) hF25 (fO_sub (fun _ q => q))) hF36 (fO_sub (fun _ q => q)), hJ37, (show (0 : Int) ≤ (x41 : Int32).toInt ∧ (x41 : Int32).toInt ≤ 20 from (by have f0 := t42; have f1 := b27; have f2 := k30; have f3 := t64 (a := (y23.2.1 0)); have f4 := rg32 (y23.2.1 0); have f5 := k10; have f6 := k12; have f7 := t32; have f8 := t64 (a := p1); have g1 := rg32 p1; have g4 := rg32 x41; have z1 : (1 : Int32).toInt = 1 := (by decide); have z20 : (20 : Int32).toInt = 20 := (by decide); have w13 := t64 (a := (y23.2.1 0)); have w14 := t64 (a := p1); omega)), trivial⟩ (show ((21 : Int) - x41.toInt).toNat < _ from by first | exact t43 | (rw [← eσ24]; exact t43)) _ _ _ hP hS (lv_sub hl [0, 1, 2, 3, 4, 5, 6, 7] rfl)
            ·
              intro nj38
              refine lv_if_ne (tgt := 76) hx hb dX8_clean_70 (by decide) (fun c44 => ?_) (fun c44 => ?_)
              ·
                have k45 := neq32 c44
                exact nj38 (σ34, lf [(y23.2.1 1)], lg []) ⟨rfl, trivial⟩ _ _ _ hP hS (lv_sub hl [0, 1, 2, 3, 4, 5, 6, 7] rfl)
              ·
                have k46 := peq32 c44
                obtain ⟨x47, ex47⟩ : ∃ y : Int32, y = (y23.2.1 1) + 1 := ⟨_, rfl⟩
                refine lv_iinc (v := x47) (lv' := [(6, .int x47), (7, .int (y23.2.1 0)), (5, .int r13), (0, .ref (gO g 17)), (1, .int p1), (2, .int p2), (3, .int p3), (4, .int p4)]) hx hb dX8_clean_73 hl (k := 1) rfl (by rw [ex47]; rfl) (by decide) rfl (fun ls hl => ?_)
                exact nj38 (σ34, lf [x47], lg []) ⟨rfl, trivial⟩ _ _ _ hP hS (lv_sub hl [1, 0, 2, 3, 4, 5, 6, 7] rfl)
        ·
          have k48 := neq32 c19
          refine lv_iload hx hb dX8_clean_35 (lv_at hl 0 rfl) ?_
          exact W.iret (v := r13) hx hb hr (fun tS ht hW => ⟨⟨r13, σ14, rfl, ⟨Fr.tr (Fr.rf) hF16 (fO_sub (fun _ q => q)), hJ17, trivial⟩, (show va_P D clz (WD8 cy g σ14) tS.heap by rw [ht]; exact hP)⟩, hS.F ht⟩) hS.2.2 dX8_clean_37
      ·
        have k49 := nle32 c11
        refine lv_bipush (v := (-2)) hx hb dX8_clean_18 (by decide) ?_
        exact W.iret (v := (-2)) hx hb hr (fun tS ht hW => ⟨⟨(-2), σ, rfl, ⟨Fr.rf, hJ, trivial⟩, (show va_P D clz (WD8 cy g σ) tS.heap by rw [ht]; exact hP)⟩, hS.F ht⟩) hS.2.2 dX8_clean_20

