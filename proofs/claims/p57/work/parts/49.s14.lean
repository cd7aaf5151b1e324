theorem q1132 : Cond.code yX8_load cX8_load 5 (some .int) ∈ lw_g := lw_gm (List.mem_of_getElem? (i := 1132) (by decide +kernel)) rfl
theorem q1133 : Cond.methodLink RX8 308 yX0_hasTone ∈ lw_g := lw_gm (List.mem_of_getElem? (i := 1133) (by decide +kernel)) rfl
theorem q1134 : Cond.methodLink RX8 311 yX8_loadBehind ∈ lw_g := lw_gm (List.mem_of_getElem? (i := 1134) (by decide +kernel)) rfl
theorem q1136 : Cond.instanceMethod yX8_loadBehind ∈ lw_g := lw_gm (List.mem_of_getElem? (i := 1136) (by decide +kernel)) rfl
theorem q35 : Cond.selects RX8 yX8_loadBehind yX8_loadBehind ∈ lw_g := lw_gm (List.mem_of_getElem? (i := 35) (by decide +kernel)) rfl
theorem dX8_load_0 : decode cX8_load 0 = .ok (.aload_n 0, 1) := by decide +kernel
theorem dX8_load_1 : decode cX8_load 1 = .ok (.getfield 19, 3) := by decide +kernel
theorem dX8_load_4 : decode cX8_load 4 = .ok (.iload_n 2, 1) := by decide +kernel
theorem dX8_load_5 : decode cX8_load 5 = .ok (.iload_n 3, 1) := by decide +kernel
theorem dX8_load_6 : decode cX8_load 6 = .ok (.invokevirtual 308, 3) := by decide +kernel
theorem dX8_load_9 : decode cX8_load 9 = .ok (.ifCond .ne 6, 3) := by decide +kernel
theorem dX8_load_12 : decode cX8_load 12 = .ok (.bipush (-2), 2) := by decide +kernel
theorem dX8_load_14 : decode cX8_load 14 = .ok (.ireturn, 1) := by decide +kernel
theorem dX8_load_15 : decode cX8_load 15 = .ok (.aload_n 0, 1) := by decide +kernel
theorem dX8_load_16 : decode cX8_load 16 = .ok (.iload_n 1, 1) := by decide +kernel
theorem dX8_load_17 : decode cX8_load 17 = .ok (.iload_n 2, 1) := by decide +kernel
theorem dX8_load_18 : decode cX8_load 18 = .ok (.invokevirtual 248, 3) := by decide +kernel
theorem dX8_load_21 : decode cX8_load 21 = .ok (.istore 4, 2) := by decide +kernel
theorem dX8_load_23 : decode cX8_load 23 = .ok (.iload 4, 2) := by decide +kernel
theorem dX8_load_25 : decode cX8_load 25 = .ok (.ifCond .ne 12, 3) := by decide +kernel
theorem dX8_load_28 : decode cX8_load 28 = .ok (.aload_n 0, 1) := by decide +kernel
theorem dX8_load_29 : decode cX8_load 29 = .ok (.iload_n 2, 1) := by decide +kernel
theorem dX8_load_30 : decode cX8_load 30 = .ok (.iload_n 3, 1) := by decide +kernel
theorem dX8_load_31 : decode cX8_load 31 = .ok (.invokevirtual 311, 3) := by decide +kernel
theorem dX8_load_34 : decode cX8_load 34 = .ok (.goto 5, 3) := by decide +kernel
theorem dX8_load_37 : decode cX8_load 37 = .ok (.iload 4, 2) := by decide +kernel
theorem dX8_load_39 : decode cX8_load 39 = .ok (.ireturn, 1) := by decide +kernel
set_option maxHeartbeats 4000000 in
set_option maxRecDepth 100000 in
theorem m_X8_load (l : Launch) (D : va_G) (cy : Nat → ClassId) (g : Nat → Nat) (σ : ST) (p1 : Int32) (p2 : Int32) (p3 : Int32) (sz : Nat) (hJ : J8 σ)  : Met l yX8_load (ww yX8_load cX8_load 5 (some .int)) ({ frames := 7, cells := 0, slots := 0, locals := 448 }) (va_Pc [.ref (gO g 17), .int p1, .int p2, .int p3] (pr8 D cy g σ sz)) (qi8 D cy g sz (fun r τ => Fr (fO [11, 13]) σ τ ∧ J8 τ ∧ True)) 0 0 (A8 cy g sz) := by
  refine Met.ofW (cc := cX8_load) (maxL := 5) (ret := (some .int)) (by decide) rfl ?_
  intro p e s m args below meth c s₁ B hml hv
  obtain ⟨rfl, hsz, hP, hK, hD0, hC⟩ := hv
  have hx := B.exec
  have hb := B.bytes
  have hr := B.returns
  have hts := hts_g (atoms_spec (ws := ww yX8_load cX8_load 5 (some .int)) B.pre)
  have hown : s.vm.findClass RX8 = some m.cls := findClass_of_methodNamed B.named
  have hlocks := B.notSynchronized
  clear B
  subst hsz
  have hD := fun τ => A8_D (sz := s.heap.size) hD0 τ
  clear hD0
  have hS : va_S (A8 cy g s.heap.size) s.heap s.heap [] := va_S.rf
  have hl := lv_entry ([.ref (gO g 17), .int p1, .int p2, .int p3]) (n := 5) (Nat.le_of_ble_eq_true rfl)
  rw [lg_entry_eq]
  generalize (lg_sl ([.ref (gO g 17), .int p1, .int p2, .int p3]) ++ List.replicate (5 - (lg_sl ([.ref (gO g 17), .int p1, .int p2, .int p3])).length) Slot.unset).toArray = ls at hl ⊢
  have hl : lv_has ls 5 [(0, .ref (gO g 17)), (1, .int p1), (2, .int p2), (3, .int p3)] := hl
  refine lv_aload_n hx hb dX8_load_0 rfl (lv_at hl 0 rfl) ?_
  obtain ⟨dx1, edx1⟩ : ∃ z : Nat, ((σ 17).1 1).toInt.toNat = z := ⟨_, rfl⟩
  have hdx1 : 0 ≤ dx1 ∧ dx1 < 5 := mnow (by have f0 := j8_8_1 hJ rfl; omega) edx1
  refine g8_8_1 (o := dx1) hx hb hts hown hK hP edx1 (hts _ q435) dX8_load_1 ?_
  refine lv_iload_n hx hb dX8_load_4 rfl (lv_at hl 2 rfl) ?_
  refine lv_iload_n hx hb dX8_load_5 rfl (lv_at hl 3 rfl) ?_
  refine va_calli (va_runV (As := [.int p2, .int p3]) (rest := []) ⟨hx, hb, hml, hown, hts⟩ (m_X0_hasTone l D cy g σ  dx1 p2 p3 _ hJ (show 0 ≤ dx1 ∧ dx1 < 5 from hdx1)) (cwV 2 hts (gd_V q1133 q665 q666 q127 q667) rfl rfl rfl (by decide +kernel) ⟨(Nat.le_of_ble_eq_true rfl), (Nat.le_of_ble_eq_true rfl)⟩) (pv8 hP hK hD hC hS (rv8_0 hK hP hdx1)) rfl rfl hl.1 rfl (lv_room (Nat.le_of_ble_eq_true rfl)) dX8_load_6 ⟨Nat.le_of_ble_eq_true rfl, Nat.le_of_ble_eq_true rfl⟩) hS (fun q _ h => up8 hS q h) (up8 hS) (fun r2 σ3 tS H1 locs ht hvm hw4 hB hz1 hk1 hS => ?_)
  have hP : va_P D clz (WD8 cy g σ3) H1 := by rw [← ht]; exact hB
  clear hB hz1 hk1 hvm ht
  generalize H1 = H at hP hS ⊢
  have hw4E : σ = σ3 := (hw4.1).symm
  subst hw4E
  have b5 : (0 : Int) ≤ r2.toInt ∧ r2.toInt ≤ 1 := hw4.2.1
  have b6 : (r2.toInt = 0) ∨ ((0 : Int) ≤ p2.toInt ∧ p2.toInt ≤ 2 ∧ (0 : Int) ≤ p3.toInt ∧ p3.toInt ≤ 15) := hw4.2.2.1
  refine lv_if_ne (tgt := 15) hx hb dX8_load_9 (by decide) (fun c7 => ?_) (fun c7 => ?_)
  ·
    have k8 := neq32 c7
    refine lv_aload_n hx hb dX8_load_15 rfl (lv_at hl 0 rfl) ?_
    refine lv_iload_n hx hb dX8_load_16 rfl (lv_at hl 1 rfl) ?_
    refine lv_iload_n hx hb dX8_load_17 rfl (lv_at hl 2 rfl) ?_
    refine va_calli (va_runV (As := [.int p1, .int p2]) (rest := []) ⟨hx, hb, hml, hown, hts⟩ (m_X8_layBest l D cy g σ  p1 p2 _ hJ ) (cwV 2 hts (gd_V q914 q916 q18 q125 q917) rfl rfl rfl (by decide +kernel) ⟨(Nat.le_of_ble_eq_true rfl), (Nat.le_of_ble_eq_true rfl)⟩) (pv8 hP hK hD hC hS (rv8_8 hK hP)) rfl rfl hl.1 rfl (lv_room (Nat.le_of_ble_eq_true rfl)) dX8_load_18 ⟨Nat.le_of_ble_eq_true rfl, Nat.le_of_ble_eq_true rfl⟩) hS (fun q _ h => up8 hS q h) (up8 hS) (fun r9 σ10 tS H1 locs ht hvm hw11 hB hz1 hk1 hS => ?_)
    have hP : va_P D clz (WD8 cy g σ10) H1 := by rw [← ht]; exact hB
    clear hB hz1 hk1 hvm ht
    generalize H1 = H at hP hS ⊢
    have hF12 : Fr (fO [11, 13]) σ σ10 := hw11.1
    have hJ13 : J8 σ10 := hw11.2.1
    have b14 : (-2 : Int) ≤ r9.toInt ∧ r9.toInt ≤ 0 := hw11.2.2.1
    refine lv_istore (lv' := [(4, .int r9), (0, .ref (gO g 17)), (1, .int p1), (2, .int p2), (3, .int p3)]) hx hb dX8_load_21 hl (by decide) rfl (fun ls hl => ?_)
    refine lv_iload hx hb dX8_load_23 (lv_at hl 0 rfl) ?_
    refine lv_if_ne (tgt := 37) hx hb dX8_load_25 (by decide) (fun c15 => ?_) (fun c15 => ?_)
    ·
      have k16 := neq32 c15
      refine lv_iload hx hb dX8_load_37 (lv_at hl 0 rfl) ?_
      exact W.iret (v := r9) hx hb hr (fun tS ht hW => ⟨⟨r9, σ10, rfl, ⟨Fr.tr (Fr.rf) hF12 (fO_sub (fun _ q => q)), hJ13, trivial⟩, (show va_P D clz (WD8 cy g σ10) tS.heap by rw [ht]; exact hP)⟩, hS.F ht⟩) hS.2.2 dX8_load_39
    ·
      have k17 := peq32 c15
      refine lv_aload_n hx hb dX8_load_28 rfl (lv_at hl 1 rfl) ?_
      refine lv_iload_n hx hb dX8_load_29 rfl (lv_at hl 3 rfl) ?_
      refine lv_iload_n hx hb dX8_load_30 rfl (lv_at hl 4 rfl) ?_
      refine va_calli (va_runV (As := [.int p2, .int p3]) (rest := []) ⟨hx, hb, hml, hown, hts⟩ (m_X8_loadBehind l D cy g σ10  p2 p3 _ hJ13 (show (0 : Int) ≤ p2.toInt ∧ p2.toInt ≤ 2 from (by have f0 := b6; have f1 := b5; have f2 := k8; have g0 := rg32 p2; have z0 : (0 : Int32).toInt = 0 := (by decide); omega)) (show (0 : Int) ≤ p3.toInt ∧ p3.toInt ≤ 15 from (by have f0 := b6; have f1 := b5; have f2 := k8; have g0 := rg32 p2; have g1 := rg32 p3; have z0 : (0 : Int32).toInt = 0 := (by decide); omega))) (cwV 2 hts (gd_V q1134 q1136 q35 q125 q1137) rfl rfl rfl (by decide +kernel) ⟨(Nat.le_of_ble_eq_true rfl), (Nat.le_of_ble_eq_true rfl)⟩) (pv8 hP hK hD hC hS (rv8_8 hK hP)) rfl rfl hl.1 rfl (lv_room (Nat.le_of_ble_eq_true rfl)) dX8_load_31 ⟨Nat.le_of_ble_eq_true rfl, Nat.le_of_ble_eq_true rfl⟩) hS (fun q _ h => up8 hS q h) (up8 hS) (fun r18 σ19 tS H1 locs ht hvm hw20 hB hz1 hk1 hS => ?_)
      have hP : va_P D clz (WD8 cy g σ19) H1 := by rw [← ht]; exact hB
      clear hB hz1 hk1 hvm ht
      generalize H1 = H at hP hS ⊢
      have hw20E : σ10 = σ19 := (hw20.1).symm
      subst hw20E
      refine lv_goto (tgt := 39) hx hb dX8_load_34 (by decide) ?_
      exact W.iret (v := r18) hx hb hr (fun tS ht hW => ⟨⟨r18, σ10, rfl, ⟨Fr.tr (Fr.rf) hF12 (fO_sub (fun _ q => q)), hJ13, trivial⟩, (show va_P D clz (WD8 cy g σ10) tS.heap by rw [ht]; exact hP)⟩, hS.F ht⟩) hS.2.2 dX8_load_39
  ·
    have k21 := peq32 c7
    refine lv_bipush (v := (-2)) hx hb dX8_load_12 (by decide) ?_
    exact W.iret (v := (-2)) hx hb hr (fun tS ht hW => ⟨⟨(-2), σ, rfl, ⟨Fr.rf, hJ, trivial⟩, (show va_P D clz (WD8 cy g σ) tS.heap by rw [ht]; exact hP)⟩, hS.F ht⟩) hS.2.2 dX8_load_14

theorem q1150 : Cond.code yX8_firstTired cX8_firstTired 5 (some .int) ∈ lw_g := lw_gm (List.mem_of_getElem? (i := 1150) (by decide +kernel)) rfl
theorem dX8_firstTired_0 : decode cX8_firstTired 0 = .ok (.iconst 0, 1) := by decide +kernel
theorem dX8_firstTired_1 : decode cX8_firstTired 1 = .ok (.istore_n 3, 1) := by decide +kernel
theorem dX8_firstTired_2 : decode cX8_firstTired 2 = .ok (.iconst 0, 1) := by decide +kernel
theorem dX8_firstTired_3 : decode cX8_firstTired 3 = .ok (.istore 4, 2) := by decide +kernel
theorem dX8_firstTired_5 : decode cX8_firstTired 5 = .ok (.iload 4, 2) := by decide +kernel
theorem dX8_firstTired_7 : decode cX8_firstTired 7 = .ok (.aload_n 0, 1) := by decide +kernel
theorem dX8_firstTired_8 : decode cX8_firstTired 8 = .ok (.getfield 19, 3) := by decide +kernel
theorem dX8_firstTired_11 : decode cX8_firstTired 11 = .ok (.iload_n 2, 1) := by decide +kernel
theorem dX8_firstTired_12 : decode cX8_firstTired 12 = .ok (.invokevirtual 146, 3) := by decide +kernel
theorem dX8_firstTired_15 : decode cX8_firstTired 15 = .ok (.if_icmp .ge 34, 3) := by decide +kernel
theorem dX8_firstTired_18 : decode cX8_firstTired 18 = .ok (.aload_n 0, 1) := by decide +kernel
theorem dX8_firstTired_19 : decode cX8_firstTired 19 = .ok (.iload_n 3, 1) := by decide +kernel
theorem dX8_firstTired_20 : decode cX8_firstTired 20 = .ok (.iload_n 2, 1) := by decide +kernel
theorem dX8_firstTired_21 : decode cX8_firstTired 21 = .ok (.iload 4, 2) := by decide +kernel
theorem dX8_firstTired_23 : decode cX8_firstTired 23 = .ok (.invokevirtual 320, 3) := by decide +kernel
theorem dX8_firstTired_26 : decode cX8_firstTired 26 = .ok (.istore_n 3, 1) := by decide +kernel
theorem dX8_firstTired_27 : decode cX8_firstTired 27 = .ok (.iload_n 3, 1) := by decide +kernel
theorem dX8_firstTired_28 : decode cX8_firstTired 28 = .ok (.aload_n 0, 1) := by decide +kernel
theorem dX8_firstTired_29 : decode cX8_firstTired 29 = .ok (.getfield 19, 3) := by decide +kernel
theorem dX8_firstTired_32 : decode cX8_firstTired 32 = .ok (.iload_n 1, 1) := by decide +kernel
theorem dX8_firstTired_33 : decode cX8_firstTired 33 = .ok (.iconst 3, 1) := by decide +kernel
theorem dX8_firstTired_34 : decode cX8_firstTired 34 = .ok (.invokevirtual 135, 3) := by decide +kernel
theorem dX8_firstTired_37 : decode cX8_firstTired 37 = .ok (.if_icmp .le 6, 3) := by decide +kernel
theorem dX8_firstTired_40 : decode cX8_firstTired 40 = .ok (.iload 4, 2) := by decide +kernel
theorem dX8_firstTired_42 : decode cX8_firstTired 42 = .ok (.ireturn, 1) := by decide +kernel
theorem dX8_firstTired_43 : decode cX8_firstTired 43 = .ok (.iinc 4 1, 3) := by decide +kernel
theorem dX8_firstTired_46 : decode cX8_firstTired 46 = .ok (.goto (-41), 3) := by decide +kernel
theorem dX8_firstTired_49 : decode cX8_firstTired 49 = .ok (.iconst (-1), 1) := by decide +kernel
theorem dX8_firstTired_50 : decode cX8_firstTired 50 = .ok (.ireturn, 1) := by decide +kernel
set_option maxHeartbeats 4000000 in
set_option maxRecDepth 100000 in
theorem m_X8_firstTired (l : Launch) (D : va_G) (cy : Nat → ClassId) (g : Nat → Nat) (σ : ST) (p1 : Int32) (p2 : Int32) (sz : Nat) (hJ : J8 σ)  : Met l yX8_firstTired (ww yX8_firstTired cX8_firstTired 5 (some .int)) ({ frames := 5, cells := 0, slots := 0, locals := 320 }) (va_Pc [.ref (gO g 17), .int p1, .int p2] (pr8 D cy g σ sz)) (qi8 D cy g sz (fun r τ => τ = σ ∧ ((-1 : Int) ≤ r.toInt ∧ r.toInt ≤ 15) ∧ True)) 0 0 (A8 cy g sz) := by
  refine Met.ofW (cc := cX8_firstTired) (maxL := 5) (ret := (some .int)) (by decide) rfl ?_
  intro p e s m args below meth c s₁ B hml hv
  obtain ⟨rfl, hsz, hP, hK, hD0, hC⟩ := hv
  have hx := B.exec
  have hb := B.bytes
  have hr := B.returns
  have hts := hts_g (atoms_spec (ws := ww yX8_firstTired cX8_firstTired 5 (some .int)) B.pre)
  have hown : s.vm.findClass RX8 = some m.cls := findClass_of_methodNamed B.named
  have hlocks := B.notSynchronized
  clear B
  subst hsz
  have hD := fun τ => A8_D (sz := s.heap.size) hD0 τ
  clear hD0
  have hS : va_S (A8 cy g s.heap.size) s.heap s.heap [] := va_S.rf
  have hl := lv_entry ([.ref (gO g 17), .int p1, .int p2]) (n := 5) (Nat.le_of_ble_eq_true rfl)
  rw [lg_entry_eq]
  generalize (lg_sl ([.ref (gO g 17), .int p1, .int p2]) ++ List.replicate (5 - (lg_sl ([.ref (gO g 17), .int p1, .int p2])).length) Slot.unset).toArray = ls at hl ⊢
  have hl : lv_has ls 5 [(0, .ref (gO g 17)), (1, .int p1), (2, .int p2)] := hl
  refine lv_iconst (v := 0) hx hb dX8_firstTired_0 (by decide) ?_
  refine lv_istore_n (lv' := [(3, .int 0), (0, .ref (gO g 17)), (1, .int p1), (2, .int p2)]) hx hb dX8_firstTired_1 rfl hl (by decide) rfl (fun ls hl => ?_)
  refine lv_iconst (v := 0) hx hb dX8_firstTired_2 (by decide) ?_
  refine lv_istore (lv' := [(4, .int 0), (3, .int 0), (0, .ref (gO g 17)), (1, .int p1), (2, .int p2)]) hx hb dX8_firstTired_3 hl (by decide) rfl (fun ls hl => ?_)
  refine loop8 5 5 (fun x : LZ => [(4, .int (x.2.1 0)), (3, .int (x.2.1 1)), (0, .ref (gO g 17)), (1, .int p1), (2, .int p2)]) (fun x : LZ => (x.1 = σ) ∧ ((0 : Int) ≤ (x.2.1 0).toInt ∧ (x.2.1 0).toInt ≤ 16) ∧ True) (fun x : LZ => ((17 : Int) - (x.2.1 0).toInt).toNat) ?_ (σ, lf [0, 0], lg []) ⟨rfl, (show (0 : Int) ≤ (0 : Int32).toInt ∧ (0 : Int32).toInt ≤ 16 from (by have z0 : (0 : Int32).toInt = 0 := (by decide); omega)), trivial⟩ _ _ _ hP hS (lv_sub hl [0, 1, 2, 3, 4] rfl)
  intro y3 hI2 nl1 H locs ls hP hS hl
  rw [show y3.1 = σ from hI2.1] at hP
  have b4 : (0 : Int) ≤ (y3.2.1 0).toInt ∧ (y3.2.1 0).toInt ≤ 16 := hI2.2.1
  have hl : lv_has ls 5 [(4, .int (y3.2.1 0)), (3, .int (y3.2.1 1)), (0, .ref (gO g 17)), (1, .int p1), (2, .int p2)] := hl
  refine lv_iload hx hb dX8_firstTired_5 (lv_at hl 0 rfl) ?_
  refine lv_aload_n hx hb dX8_firstTired_7 rfl (lv_at hl 2 rfl) ?_
  obtain ⟨dx5, edx5⟩ : ∃ z : Nat, ((σ 17).1 1).toInt.toNat = z := ⟨_, rfl⟩
  have hdx5 : 0 ≤ dx5 ∧ dx5 < 5 := mnow (by have f0 := j8_8_1 hJ rfl; omega) edx5
  refine g8_8_1 (o := dx5) hx hb hts hown hK hP edx5 (hts _ q435) dX8_firstTired_8 ?_
  refine lv_iload_n hx hb dX8_firstTired_11 rfl (lv_at hl 4 rfl) ?_
  refine va_calli (va_runV (As := [.int p2]) (rest := [.int (y3.2.1 0)]) ⟨hx, hb, hml, hown, hts⟩ (m_X0_tonesOf l D cy g σ  dx5 p2 _ hJ (show 0 ≤ dx5 ∧ dx5 < 5 from hdx5)) (cwV 1 hts (gd_V q739 q657 q658 q127 q659) rfl rfl rfl (by decide +kernel) ⟨(Nat.le_of_ble_eq_true rfl), (Nat.le_of_ble_eq_true rfl)⟩) (pv8 hP hK hD hC hS (rv8_0 hK hP hdx5)) rfl rfl hl.1 rfl (lv_room (Nat.le_of_ble_eq_true rfl)) dX8_firstTired_12 ⟨Nat.le_of_ble_eq_true rfl, Nat.le_of_ble_eq_true rfl⟩) hS (fun q _ h => up8 hS q h) (up8 hS) (fun r6 σ7 tS H1 locs ht hvm hw8 hB hz1 hk1 hS => ?_)
  have hP : va_P D clz (WD8 cy g σ7) H1 := by rw [← ht]; exact hB
  clear hB hz1 hk1 hvm ht
  generalize H1 = H at hP hS ⊢
  have hw8E : σ = σ7 := (hw8.1).symm
  subst hw8E
  have b9 : (0 : Int) ≤ r6.toInt ∧ r6.toInt ≤ 16 := hw8.2.1
  refine lv_icmp_ge (tgt := 49) hx hb dX8_firstTired_15 (by decide) (fun c10 => ?_) (fun c10 => ?_)
  ·
    have k11 := ple32 c10
    refine lv_iconst (v := (-1)) hx hb dX8_firstTired_49 (by decide) ?_
    exact W.iret (v := (-1)) hx hb hr (fun tS ht hW => ⟨⟨(-1), σ, rfl, ⟨rfl, (show (-1 : Int) ≤ ((-1) : Int32).toInt ∧ ((-1) : Int32).toInt ≤ 15 from (by have zm1 : ((-1) : Int32).toInt = (-1) := (by decide); omega)), trivial⟩, (show va_P D clz (WD8 cy g σ) tS.heap by rw [ht]; exact hP)⟩, hS.F ht⟩) hS.2.2 dX8_firstTired_50
  ·
    have k12 := nle32 c10
    refine lv_aload_n hx hb dX8_firstTired_18 rfl (lv_at hl 2 rfl) ?_
    refine lv_iload_n hx hb dX8_firstTired_19 rfl (lv_at hl 1 rfl) ?_
    refine lv_iload_n hx hb dX8_firstTired_20 rfl (lv_at hl 4 rfl) ?_
    refine lv_iload hx hb dX8_firstTired_21 (lv_at hl 0 rfl) ?_
    refine va_calli (va_runV (As := [.int (y3.2.1 1), .int p2, .int (y3.2.1 0)]) (rest := []) ⟨hx, hb, hml, hown, hts⟩ (m_X8_loadAfter l D cy g σ  (y3.2.1 1) p2 (y3.2.1 0) _ hJ (show (0 : Int) ≤ (y3.2.1 0).toInt ∧ (y3.2.1 0).toInt ≤ 15 from (by have f0 := b4; have f1 := k12; have f2 := b9; have g0 := rg32 (y3.2.1 0); omega))) (cwV 3 hts (gd_V q1138 q1140 q36 q125 q1141) rfl rfl rfl (by decide +kernel) ⟨(Nat.le_of_ble_eq_true rfl), (Nat.le_of_ble_eq_true rfl)⟩) (pv8 hP hK hD hC hS (rv8_8 hK hP)) rfl rfl hl.1 rfl (lv_room (Nat.le_of_ble_eq_true rfl)) dX8_firstTired_23 ⟨Nat.le_of_ble_eq_true rfl, Nat.le_of_ble_eq_true rfl⟩) hS (fun q _ h => up8 hS q h) (up8 hS) (fun r13 σ14 tS H1 locs ht hvm hw15 hB hz1 hk1 hS => ?_)
    have hP : va_P D clz (WD8 cy g σ14) H1 := by rw [← ht]; exact hB
    clear hB hz1 hk1 hvm ht
    generalize H1 = H at hP hS ⊢
    have hw15E : σ = σ14 := (hw15.1).symm
    subst hw15E
    refine lv_istore_n (lv' := [(3, .int r13), (4, .int (y3.2.1 0)), (0, .ref (gO g 17)), (1, .int p1), (2, .int p2)]) hx hb dX8_firstTired_26 rfl hl (by decide) rfl (fun ls hl => ?_)
    refine lv_iload_n hx hb dX8_firstTired_27 rfl (lv_at hl 0 rfl) ?_
    refine lv_aload_n hx hb dX8_firstTired_28 rfl (lv_at hl 2 rfl) ?_
    refine g8_8_1 (o := dx5) hx hb hts hown hK hP edx5 (hts _ q435) dX8_firstTired_29 ?_
    refine lv_iload_n hx hb dX8_firstTired_32 rfl (lv_at hl 3 rfl) ?_
    refine lv_iconst (v := 3) hx hb dX8_firstTired_33 (by decide) ?_
    refine va_calli (va_runV (As := [.int p1, .int 3]) (rest := [.int r13]) ⟨hx, hb, hml, hown, hts⟩ (m_X0_playerField l D cy g σ  dx5 p1 (3) _ hJ (show 0 ≤ dx5 ∧ dx5 < 5 from hdx5)) (cwV 2 hts (gd_V q725 q726 q727 q127 q728) rfl rfl rfl (by decide +kernel) ⟨(Nat.le_of_ble_eq_true rfl), (Nat.le_of_ble_eq_true rfl)⟩) (pv8 hP hK hD hC hS (rv8_0 hK hP hdx5)) rfl rfl hl.1 rfl (lv_room (Nat.le_of_ble_eq_true rfl)) dX8_firstTired_34 ⟨Nat.le_of_ble_eq_true rfl, Nat.le_of_ble_eq_true rfl⟩) hS (fun q _ h => up8 hS q h) (up8 hS) (fun r16 σ17 tS H1 locs ht hvm hw18 hB hz1 hk1 hS => ?_)
    have hP : va_P D clz (WD8 cy g σ17) H1 := by rw [← ht]; exact hB
    clear hB hz1 hk1 hvm ht
    generalize H1 = H at hP hS ⊢
    have hw18E : σ = σ17 := (hw18.1).symm
    subst hw18E
    refine lv_icmp_le (tgt := 43) hx hb dX8_firstTired_37 (by decide) (fun c19 => ?_) (fun c19 => ?_)
    ·
      have k20 := ple32 c19
      obtain ⟨x21, ex21⟩ : ∃ y : Int32, y = (y3.2.1 0) + 1 := ⟨_, rfl⟩
      have t22 := addO ex21 (by have f0 := b4; have f1 := k12; have f2 := b9; have g0 := rg32 (y3.2.1 0); have z1 : (1 : Int32).toInt = 1 := (by decide); omega)
      refine lv_iinc (v := x21) (lv' := [(4, .int x21), (3, .int r13), (0, .ref (gO g 17)), (1, .int p1), (2, .int p2)]) hx hb dX8_firstTired_43 hl (k := 1) rfl (by rw [ex21]; rfl) (by decide) rfl (fun ls hl => ?_)
      refine lv_goto (tgt := 5) hx hb dX8_firstTired_46 (by decide) ?_
      have t23 : ((17 : Int) - x21.toInt).toNat < ((17 : Int) - (y3.2.1 0).toInt).toNat := (by have f0 := b4; have f1 := k12; have f2 := t22; have f3 := b9; have g0 := rg32 (y3.2.1 0); have g1 := rg32 x21; have z1 : (1 : Int32).toInt = 1 := (by decide); omega)
      exact nl1 (σ, lf [x21, r13], lg []) ⟨rfl, (show (0 : Int) ≤ (x21 : Int32).toInt ∧ (x21 : Int32).toInt ≤ 16 from (by have f0 := t22; have f1 := b4; have f2 := k12; have f3 := b9; have g0 := rg32 x21; have z1 : (1 : Int32).toInt = 1 := (by decide); omega)), trivial⟩ (show ((17 : Int) - x21.toInt).toNat < _ from t23) _ _ _ hP hS (lv_sub hl [0, 1, 2, 3, 4] rfl)
    ·
      have k24 := nle32 c19
      refine lv_iload hx hb dX8_firstTired_40 (lv_at hl 1 rfl) ?_
      exact W.iret (v := (y3.2.1 0)) hx hb hr (fun tS ht hW => ⟨⟨(y3.2.1 0), σ, rfl, ⟨rfl, (show (-1 : Int) ≤ (y3.2.1 0).toInt ∧ (y3.2.1 0).toInt ≤ 15 from (by have f0 := b4; have f1 := k12; have f2 := b9; have g0 := rg32 (y3.2.1 0); omega)), trivial⟩, (show va_P D clz (WD8 cy g σ) tS.heap by rw [ht]; exact hP)⟩, hS.F ht⟩) hS.2.2 dX8_firstTired_42

theorem q1146 : Cond.code yX8_tired cX8_tired 4 (some .int) ∈ lw_g := lw_gm (List.mem_of_getElem? (i := 1146) (by decide +kernel)) rfl
theorem q1147 : Cond.methodLink RX8 314 yX8_firstTired ∈ lw_g := lw_gm (List.mem_of_getElem? (i := 1147) (by decide +kernel)) rfl
theorem q1149 : Cond.instanceMethod yX8_firstTired ∈ lw_g := lw_gm (List.mem_of_getElem? (i := 1149) (by decide +kernel)) rfl
theorem q37 : Cond.selects RX8 yX8_firstTired yX8_firstTired ∈ lw_g := lw_gm (List.mem_of_getElem? (i := 37) (by decide +kernel)) rfl
theorem dX8_tired_0 : decode cX8_tired 0 = .ok (.aload_n 0, 1) := by decide +kernel
theorem dX8_tired_1 : decode cX8_tired 1 = .ok (.iload_n 1, 1) := by decide +kernel
theorem dX8_tired_2 : decode cX8_tired 2 = .ok (.iload_n 2, 1) := by decide +kernel
theorem dX8_tired_3 : decode cX8_tired 3 = .ok (.invokevirtual 248, 3) := by decide +kernel
theorem dX8_tired_6 : decode cX8_tired 6 = .ok (.istore_n 3, 1) := by decide +kernel
theorem dX8_tired_7 : decode cX8_tired 7 = .ok (.iload_n 3, 1) := by decide +kernel
theorem dX8_tired_8 : decode cX8_tired 8 = .ok (.ifCond .ne 12, 3) := by decide +kernel
theorem dX8_tired_11 : decode cX8_tired 11 = .ok (.aload_n 0, 1) := by decide +kernel
theorem dX8_tired_12 : decode cX8_tired 12 = .ok (.iload_n 1, 1) := by decide +kernel
theorem dX8_tired_13 : decode cX8_tired 13 = .ok (.iload_n 2, 1) := by decide +kernel
theorem dX8_tired_14 : decode cX8_tired 14 = .ok (.invokevirtual 314, 3) := by decide +kernel
theorem dX8_tired_17 : decode cX8_tired 17 = .ok (.goto 4, 3) := by decide +kernel
theorem dX8_tired_20 : decode cX8_tired 20 = .ok (.iload_n 3, 1) := by decide +kernel
theorem dX8_tired_21 : decode cX8_tired 21 = .ok (.ireturn, 1) := by decide +kernel
set_option maxHeartbeats 4000000 in
set_option maxRecDepth 100000 in
theorem m_X8_tired (l : Launch) (D : va_G) (cy : Nat → ClassId) (g : Nat → Nat) (σ : ST) (p1 : Int32) (p2 : Int32) (sz : Nat) (hJ : J8 σ)  : Met l yX8_tired (ww yX8_tired cX8_tired 4 (some .int)) ({ frames := 7, cells := 0, slots := 0, locals := 448 }) (va_Pc [.ref (gO g 17), .int p1, .int p2] (pr8 D cy g σ sz)) (qi8 D cy g sz (fun r τ => Fr (fO [11, 13]) σ τ ∧ J8 τ ∧ ((-2 : Int) ≤ r.toInt ∧ r.toInt ≤ 15) ∧ True)) 0 0 (A8 cy g sz) := by
  refine Met.ofW (cc := cX8_tired) (maxL := 4) (ret := (some .int)) (by decide) rfl ?_
  intro p e s m args below meth c s₁ B hml hv
  obtain ⟨rfl, hsz, hP, hK, hD0, hC⟩ := hv
  have hx := B.exec
  have hb := B.bytes
  have hr := B.returns
  have hts := hts_g (atoms_spec (ws := ww yX8_tired cX8_tired 4 (some .int)) B.pre)
  have hown : s.vm.findClass RX8 = some m.cls := findClass_of_methodNamed B.named
  have hlocks := B.notSynchronized
  clear B
  subst hsz
  have hD := fun τ => A8_D (sz := s.heap.size) hD0 τ
  clear hD0
  have hS : va_S (A8 cy g s.heap.size) s.heap s.heap [] := va_S.rf
  have hl := lv_entry ([.ref (gO g 17), .int p1, .int p2]) (n := 4) (Nat.le_of_ble_eq_true rfl)
  rw [lg_entry_eq]
  generalize (lg_sl ([.ref (gO g 17), .int p1, .int p2]) ++ List.replicate (4 - (lg_sl ([.ref (gO g 17), .int p1, .int p2])).length) Slot.unset).toArray = ls at hl ⊢
  have hl : lv_has ls 4 [(0, .ref (gO g 17)), (1, .int p1), (2, .int p2)] := hl
  refine lv_aload_n hx hb dX8_tired_0 rfl (lv_at hl 0 rfl) ?_
  refine lv_iload_n hx hb dX8_tired_1 rfl (lv_at hl 1 rfl) ?_
  refine lv_iload_n hx hb dX8_tired_2 rfl (lv_at hl 2 rfl) ?_
  refine va_calli (va_runV (As := [.int p1, .int p2]) (rest := []) ⟨hx, hb, hml, hown, hts⟩ (m_X8_layBest l D cy g σ  p1 p2 _ hJ ) (cwV 2 hts (gd_V q914 q916 q18 q125 q917) rfl rfl rfl (by decide +kernel) ⟨(Nat.le_of_ble_eq_true rfl), (Nat.le_of_ble_eq_true rfl)⟩) (pv8 hP hK hD hC hS (rv8_8 hK hP)) rfl rfl hl.1 rfl (lv_room (Nat.le_of_ble_eq_true rfl)) dX8_tired_3 ⟨Nat.le_of_ble_eq_true rfl, Nat.le_of_ble_eq_true rfl⟩) hS (fun q _ h => up8 hS q h) (up8 hS) (fun r1 σ2 tS H1 locs ht hvm hw3 hB hz1 hk1 hS => ?_)
  have hP : va_P D clz (WD8 cy g σ2) H1 := by rw [← ht]; exact hB
  clear hB hz1 hk1 hvm ht
  generalize H1 = H at hP hS ⊢
  have hF4 : Fr (fO [11, 13]) σ σ2 := hw3.1
  have hJ5 : J8 σ2 := hw3.2.1
  have b6 : (-2 : Int) ≤ r1.toInt ∧ r1.toInt ≤ 0 := hw3.2.2.1
  refine lv_istore_n (lv' := [(3, .int r1), (0, .ref (gO g 17)), (1, .int p1), (2, .int p2)]) hx hb dX8_tired_6 rfl hl (by decide) rfl (fun ls hl => ?_)
  refine lv_iload_n hx hb dX8_tired_7 rfl (lv_at hl 0 rfl) ?_
  refine lv_if_ne (tgt := 20) hx hb dX8_tired_8 (by decide) (fun c7 => ?_) (fun c7 => ?_)
  ·
    have k8 := neq32 c7
    refine lv_iload_n hx hb dX8_tired_20 rfl (lv_at hl 0 rfl) ?_
    exact W.iret (v := r1) hx hb hr (fun tS ht hW => ⟨⟨r1, σ2, rfl, ⟨Fr.tr (Fr.rf) hF4 (fO_sub (fun _ q => q)), hJ5, (show (-2 : Int) ≤ r1.toInt ∧ r1.toInt ≤ 15 from (by have f0 := b6; have f1 := k8; have g0 := rg32 r1; have z0 : (0 : Int32).toInt = 0 := (by decide); omega)), trivial⟩, (show va_P D clz (WD8 cy g σ2) tS.heap by rw [ht]; exact hP)⟩, hS.F ht⟩) hS.2.2 dX8_tired_21
  ·
    have k9 := peq32 c7
    refine lv_aload_n hx hb dX8_tired_11 rfl (lv_at hl 1 rfl) ?_
    refine lv_iload_n hx hb dX8_tired_12 rfl (lv_at hl 2 rfl) ?_
    refine lv_iload_n hx hb dX8_tired_13 rfl (lv_at hl 3 rfl) ?_
    refine va_calli (va_runV (As := [.int p1, .int p2]) (rest := []) ⟨hx, hb, hml, hown, hts⟩ (m_X8_firstTired l D cy g σ2  p1 p2 _ hJ5 ) (cwV 2 hts (gd_V q1147 q1149 q37 q125 q1150) rfl rfl rfl (by decide +kernel) ⟨(Nat.le_of_ble_eq_true rfl), (Nat.le_of_ble_eq_true rfl)⟩) (pv8 hP hK hD hC hS (rv8_8 hK hP)) rfl rfl hl.1 rfl (lv_room (Nat.le_of_ble_eq_true rfl)) dX8_tired_14 ⟨Nat.le_of_ble_eq_true rfl, Nat.le_of_ble_eq_true rfl⟩) hS (fun q _ h => up8 hS q h) (up8 hS) (fun r10 σ11 tS H1 locs ht hvm hw12 hB hz1 hk1 hS => ?_)
    have hP : va_P D clz (WD8 cy g σ11) H1 := by rw [← ht]; exact hB
    clear hB hz1 hk1 hvm ht
    generalize H1 = H at hP hS ⊢
    have hw12E : σ2 = σ11 := (hw12.1).symm
    subst hw12E
    have b13 : (-1 : Int) ≤ r10.toInt ∧ r10.toInt ≤ 15 := hw12.2.1
    refine lv_goto (tgt := 21) hx hb dX8_tired_17 (by decide) ?_
    exact W.iret (v := r10) hx hb hr (fun tS ht hW => ⟨⟨r10, σ2, rfl, ⟨Fr.tr (Fr.rf) hF4 (fO_sub (fun _ q => q)), hJ5, (show (-2 : Int) ≤ r10.toInt ∧ r10.toInt ≤ 15 from (by have f0 := b13; have g0 := rg32 r10; omega)), trivial⟩, (show va_P D clz (WD8 cy g σ2) tS.heap by rw [ht]; exact hP)⟩, hS.F ht⟩) hS.2.2 dX8_tired_21

theorem q1158 : Cond.code yX0_soundingFrom cX0_soundingFrom 5 (some .int) ∈ lw_g := lw_gm (List.mem_of_getElem? (i := 1158) (by decide +kernel)) rfl
theorem q1159 : Cond.methodLink RX0 86 yX0_isSounding ∈ lw_g := lw_gm (List.mem_of_getElem? (i := 1159) (by decide +kernel)) rfl
theorem dX0_soundingFrom_0 : decode cX0_soundingFrom 0 = .ok (.iconst 0, 1) := by decide +kernel
theorem dX0_soundingFrom_1 : decode cX0_soundingFrom 1 = .ok (.istore_n 3, 1) := by decide +kernel
theorem dX0_soundingFrom_2 : decode cX0_soundingFrom 2 = .ok (.iload_n 2, 1) := by decide +kernel
theorem dX0_soundingFrom_3 : decode cX0_soundingFrom 3 = .ok (.istore 4, 2) := by decide +kernel
theorem dX0_soundingFrom_5 : decode cX0_soundingFrom 5 = .ok (.iload 4, 2) := by decide +kernel
theorem dX0_soundingFrom_7 : decode cX0_soundingFrom 7 = .ok (.aload_n 0, 1) := by decide +kernel
theorem dX0_soundingFrom_8 : decode cX0_soundingFrom 8 = .ok (.iload_n 1, 1) := by decide +kernel
theorem dX0_soundingFrom_9 : decode cX0_soundingFrom 9 = .ok (.invokevirtual 82, 3) := by decide +kernel
theorem dX0_soundingFrom_12 : decode cX0_soundingFrom 12 = .ok (.if_icmp .ge 22, 3) := by decide +kernel
theorem dX0_soundingFrom_15 : decode cX0_soundingFrom 15 = .ok (.aload_n 0, 1) := by decide +kernel
theorem dX0_soundingFrom_16 : decode cX0_soundingFrom 16 = .ok (.iload_n 1, 1) := by decide +kernel
theorem dX0_soundingFrom_17 : decode cX0_soundingFrom 17 = .ok (.iload 4, 2) := by decide +kernel
theorem dX0_soundingFrom_19 : decode cX0_soundingFrom 19 = .ok (.invokevirtual 86, 3) := by decide +kernel
theorem dX0_soundingFrom_22 : decode cX0_soundingFrom 22 = .ok (.ifCond .eq 6, 3) := by decide +kernel
theorem dX0_soundingFrom_25 : decode cX0_soundingFrom 25 = .ok (.iinc 3 1, 3) := by decide +kernel
theorem dX0_soundingFrom_28 : decode cX0_soundingFrom 28 = .ok (.iinc 4 1, 3) := by decide +kernel
theorem dX0_soundingFrom_31 : decode cX0_soundingFrom 31 = .ok (.goto (-26), 3) := by decide +kernel
theorem dX0_soundingFrom_34 : decode cX0_soundingFrom 34 = .ok (.iload_n 3, 1) := by decide +kernel
theorem dX0_soundingFrom_35 : decode cX0_soundingFrom 35 = .ok (.ireturn, 1) := by decide +kernel
set_option maxHeartbeats 4000000 in
set_option maxRecDepth 100000 in
theorem m_X0_soundingFrom (l : Launch) (D : va_G) (cy : Nat → ClassId) (g : Nat → Nat) (σ : ST) (d0 : Nat) (p1 : Int32) (p2 : Int32) (sz : Nat) (hJ : J8 σ) (hd0 : 0 ≤ d0 ∧ d0 < 5) (h0 : (0 : Int) ≤ p2.toInt ∧ p2.toInt ≤ 15) : Met l yX0_soundingFrom (ww yX0_soundingFrom cX0_soundingFrom 5 (some .int)) ({ frames := 5, cells := 0, slots := 0, locals := 320 }) (va_Pc [.ref (gO g d0), .int p1, .int p2] (pr8 D cy g σ sz)) (qi8 D cy g sz (fun r τ => τ = σ ∧ True)) 0 0 (A8 cy g sz) := by
  refine Met.ofW (cc := cX0_soundingFrom) (maxL := 5) (ret := (some .int)) (by decide) rfl ?_
  intro p e s m args below meth c s₁ B hml hv
  obtain ⟨rfl, hsz, hP, hK, hD0, hC⟩ := hv
  have hx := B.exec
  have hb := B.bytes
  have hr := B.returns
  have hts := hts_g (atoms_spec (ws := ww yX0_soundingFrom cX0_soundingFrom 5 (some .int)) B.pre)
  have hown : s.vm.findClass RX0 = some m.cls := findClass_of_methodNamed B.named
  have hlocks := B.notSynchronized
  clear B
  subst hsz
  have hD := fun τ => A8_D (sz := s.heap.size) hD0 τ
  clear hD0
  have hS : va_S (A8 cy g s.heap.size) s.heap s.heap [] := va_S.rf
  have hl := lv_entry ([.ref (gO g d0), .int p1, .int p2]) (n := 5) (Nat.le_of_ble_eq_true rfl)
  rw [lg_entry_eq]
  generalize (lg_sl ([.ref (gO g d0), .int p1, .int p2]) ++ List.replicate (5 - (lg_sl ([.ref (gO g d0), .int p1, .int p2])).length) Slot.unset).toArray = ls at hl ⊢
  have hl : lv_has ls 5 [(0, .ref (gO g d0)), (1, .int p1), (2, .int p2)] := hl
  refine lv_iconst (v := 0) hx hb dX0_soundingFrom_0 (by decide) ?_
  refine lv_istore_n (lv' := [(3, .int 0), (0, .ref (gO g d0)), (1, .int p1), (2, .int p2)]) hx hb dX0_soundingFrom_1 rfl hl (by decide) rfl (fun ls hl => ?_)
  refine lv_iload_n hx hb dX0_soundingFrom_2 rfl (lv_at hl 3 rfl) ?_
  refine lv_istore (lv' := [(4, .int p2), (3, .int 0), (0, .ref (gO g d0)), (1, .int p1), (2, .int p2)]) hx hb dX0_soundingFrom_3 hl (by decide) rfl (fun ls hl => ?_)
  refine loop8 5 5 (fun x : LZ => [(4, .int (x.2.1 0)), (3, .int (x.2.1 1)), (0, .ref (gO g d0)), (1, .int p1), (2, .int p2)]) (fun x : LZ => (x.1 = σ) ∧ ((0 : Int) ≤ (x.2.1 0).toInt ∧ (x.2.1 0).toInt ≤ 16) ∧ True) (fun x : LZ => ((17 : Int) - (x.2.1 0).toInt).toNat) ?_ (σ, lf [p2, 0], lg []) ⟨rfl, (show (0 : Int) ≤ (p2 : Int32).toInt ∧ (p2 : Int32).toInt ≤ 16 from (by have f0 := h0; have g0 := rg32 p2; omega)), trivial⟩ _ _ _ hP hS (lv_sub hl [0, 1, 2, 3, 4] rfl)
  intro y3 hI2 nl1 H locs ls hP hS hl
  rw [show y3.1 = σ from hI2.1] at hP
  have b4 : (0 : Int) ≤ (y3.2.1 0).toInt ∧ (y3.2.1 0).toInt ≤ 16 := hI2.2.1
  have hl : lv_has ls 5 [(4, .int (y3.2.1 0)), (3, .int (y3.2.1 1)), (0, .ref (gO g d0)), (1, .int p1), (2, .int p2)] := hl
  refine lv_iload hx hb dX0_soundingFrom_5 (lv_at hl 0 rfl) ?_
  refine lv_aload_n hx hb dX0_soundingFrom_7 rfl (lv_at hl 2 rfl) ?_
  refine lv_iload_n hx hb dX0_soundingFrom_8 rfl (lv_at hl 3 rfl) ?_
  refine va_calli (va_runV (As := [.int p1]) (rest := [.int (y3.2.1 0)]) ⟨hx, hb, hml, hown, hts⟩ (m_X0_tonesOf l D cy g σ  d0 p1 _ hJ (show 0 ≤ d0 ∧ d0 < 5 from hd0)) (cwV 1 hts (gd_V q656 q657 q658 q127 q659) rfl rfl rfl (by decide +kernel) ⟨(Nat.le_of_ble_eq_true rfl), (Nat.le_of_ble_eq_true rfl)⟩) (pv8 hP hK hD hC hS (rv8_0 hK hP hd0)) rfl rfl hl.1 rfl (lv_room (Nat.le_of_ble_eq_true rfl)) dX0_soundingFrom_9 ⟨Nat.le_of_ble_eq_true rfl, Nat.le_of_ble_eq_true rfl⟩) hS (fun q _ h => up8 hS q h) (up8 hS) (fun r5 σ6 tS H1 locs ht hvm hw7 hB hz1 hk1 hS => ?_)
  have hP : va_P D clz (WD8 cy g σ6) H1 := by rw [← ht]; exact hB
  clear hB hz1 hk1 hvm ht
  generalize H1 = H at hP hS ⊢
  have hw7E : σ = σ6 := (hw7.1).symm
  subst hw7E
  have b8 : (0 : Int) ≤ r5.toInt ∧ r5.toInt ≤ 16 := hw7.2.1
  refine lv_icmp_ge (tgt := 34) hx hb dX0_soundingFrom_12 (by decide) (fun c9 => ?_) (fun c9 => ?_)
  ·
    have k10 := ple32 c9
    refine lv_iload_n hx hb dX0_soundingFrom_34 rfl (lv_at hl 1 rfl) ?_
    exact W.iret (v := (y3.2.1 1)) hx hb hr (fun tS ht hW => ⟨⟨(y3.2.1 1), σ, rfl, ⟨rfl, trivial⟩, (show va_P D clz (WD8 cy g σ) tS.heap by rw [ht]; exact hP)⟩, hS.F ht⟩) hS.2.2 dX0_soundingFrom_35
  ·
    have k11 := nle32 c9
    refine lv_aload_n hx hb dX0_soundingFrom_15 rfl (lv_at hl 2 rfl) ?_
    refine lv_iload_n hx hb dX0_soundingFrom_16 rfl (lv_at hl 3 rfl) ?_
    refine lv_iload hx hb dX0_soundingFrom_17 (lv_at hl 0 rfl) ?_
    refine va_calli (va_runV (As := [.int p1, .int (y3.2.1 0)]) (rest := []) ⟨hx, hb, hml, hown, hts⟩ (m_X0_isSounding l D cy g σ  d0 p1 (y3.2.1 0) _ hJ (show 0 ≤ d0 ∧ d0 < 5 from hd0)) (cwV 2 hts (gd_V q1159 q783 q784 q127 q785) rfl rfl rfl (by decide +kernel) ⟨(Nat.le_of_ble_eq_true rfl), (Nat.le_of_ble_eq_true rfl)⟩) (pv8 hP hK hD hC hS (rv8_0 hK hP hd0)) rfl rfl hl.1 rfl (lv_room (Nat.le_of_ble_eq_true rfl)) dX0_soundingFrom_19 ⟨Nat.le_of_ble_eq_true rfl, Nat.le_of_ble_eq_true rfl⟩) hS (fun q _ h => up8 hS q h) (up8 hS) (fun r12 σ13 tS H1 locs ht hvm hw14 hB hz1 hk1 hS => ?_)
    have hP : va_P D clz (WD8 cy g σ13) H1 := by rw [← ht]; exact hB
    clear hB hz1 hk1 hvm ht
    generalize H1 = H at hP hS ⊢
    have hw14E : σ = σ13 := (hw14.1).symm
    subst hw14E
    have b15 : (0 : Int) ≤ r12.toInt ∧ r12.toInt ≤ 1 := hw14.2.1
    have b16 : (r12.toInt = 0) ∨ ((0 : Int) ≤ p1.toInt ∧ p1.toInt ≤ 2 ∧ (0 : Int) ≤ (y3.2.1 0).toInt ∧ (y3.2.1 0).toInt ≤ 15) := hw14.2.2.1
    refine cut8 (D := D) (cy := cy) (g := g) (A := A8 cy g s.heap.size) (H0 := s.heap) 5 28 (fun x : LZ => [(4, .int (y3.2.1 0)), (3, .int (x.2.1 0)), (0, .ref (gO g d0)), (1, .int p1), (2, .int p2)]) (fun x : LZ => []) (fun x : LZ => (x.1 = σ) ∧ True) ?_ ?_
    ·
      intro y19 hI18 H locs ls hP hS hl
      rw [show y19.1 = σ from hI18.1] at hP
      have hl : lv_has ls 5 [(4, .int (y3.2.1 0)), (3, .int (y19.2.1 0)), (0, .ref (gO g d0)), (1, .int p1), (2, .int p2)] := hl
      obtain ⟨x20, ex20⟩ : ∃ y : Int32, y = (y3.2.1 0) + 1 := ⟨_, rfl⟩
      have t21 := addO ex20 (by have f0 := b4; have f1 := k11; have f2 := b16; have f3 := b8; have f4 := b15; have g0 := rg32 (y3.2.1 0); have g1 := rg32 p1; have z1 : (1 : Int32).toInt = 1 := (by decide); omega)
      refine lv_iinc (v := x20) (lv' := [(4, .int x20), (3, .int (y19.2.1 0)), (0, .ref (gO g d0)), (1, .int p1), (2, .int p2)]) hx hb dX0_soundingFrom_28 hl (k := 0) rfl (by rw [ex20]; rfl) (by decide) rfl (fun ls hl => ?_)
      refine lv_goto (tgt := 5) hx hb dX0_soundingFrom_31 (by decide) ?_
      have t22 : ((17 : Int) - x20.toInt).toNat < ((17 : Int) - (y3.2.1 0).toInt).toNat := (by have f0 := b4; have f1 := k11; have f2 := b16; have f3 := t21; have f4 := b8; have f5 := b15; have g0 := rg32 (y3.2.1 0); have g1 := rg32 p1; have g2 := rg32 x20; have z1 : (1 : Int32).toInt = 1 := (by decide); omega)
      exact nl1 (σ, lf [x20, (y19.2.1 0)], lg []) ⟨rfl, (show (0 : Int) ≤ (x20 : Int32).toInt ∧ (x20 : Int32).toInt ≤ 16 from (by have f0 := t21; have f1 := b4; have f2 := k11; have f3 := b16; have f4 := b8; have f5 := b15; have g0 := rg32 p1; have g1 := rg32 x20; have z1 : (1 : Int32).toInt = 1 := (by decide); omega)), trivial⟩ (show ((17 : Int) - x20.toInt).toNat < _ from t22) _ _ _ hP hS (lv_sub hl [0, 1, 2, 3, 4] rfl)
    ·
      intro nj17
      refine lv_if_eq (tgt := 28) hx hb dX0_soundingFrom_22 (by decide) (fun c23 => ?_) (fun c23 => ?_)
      ·
        have k24 := peq32 c23
        exact nj17 (σ, lf [(y3.2.1 1)], lg []) ⟨rfl, trivial⟩ _ _ _ hP hS (lv_sub hl [0, 1, 2, 3, 4] rfl)
      ·
        have k25 := neq32 c23
        obtain ⟨x26, ex26⟩ : ∃ y : Int32, y = (y3.2.1 1) + 1 := ⟨_, rfl⟩
        refine lv_iinc (v := x26) (lv' := [(3, .int x26), (4, .int (y3.2.1 0)), (0, .ref (gO g d0)), (1, .int p1), (2, .int p2)]) hx hb dX0_soundingFrom_25 hl (k := 1) rfl (by rw [ex26]; rfl) (by decide) rfl (fun ls hl => ?_)
        exact nj17 (σ, lf [x26], lg []) ⟨rfl, trivial⟩ _ _ _ hP hS (lv_sub hl [1, 0, 2, 3, 4] rfl)

theorem q1154 : Cond.code yX8_spared cX8_spared 5 (some .int) ∈ lw_g := lw_gm (List.mem_of_getElem? (i := 1154) (by decide +kernel)) rfl
theorem q1155 : Cond.methodLink RX8 317 yX0_soundingFrom ∈ lw_g := lw_gm (List.mem_of_getElem? (i := 1155) (by decide +kernel)) rfl
theorem q1156 : Cond.instanceMethod yX0_soundingFrom ∈ lw_g := lw_gm (List.mem_of_getElem? (i := 1156) (by decide +kernel)) rfl
theorem q1157 : Cond.selects RX0 yX0_soundingFrom yX0_soundingFrom ∈ lw_g := lw_gm (List.mem_of_getElem? (i := 1157) (by decide +kernel)) rfl
theorem dX8_spared_0 : decode cX8_spared 0 = .ok (.aload_n 0, 1) := by decide +kernel
theorem dX8_spared_1 : decode cX8_spared 1 = .ok (.iload_n 1, 1) := by decide +kernel
theorem dX8_spared_2 : decode cX8_spared 2 = .ok (.iload_n 2, 1) := by decide +kernel
theorem dX8_spared_3 : decode cX8_spared 3 = .ok (.invokevirtual 248, 3) := by decide +kernel
theorem dX8_spared_6 : decode cX8_spared 6 = .ok (.istore_n 3, 1) := by decide +kernel
theorem dX8_spared_7 : decode cX8_spared 7 = .ok (.iload_n 3, 1) := by decide +kernel
theorem dX8_spared_8 : decode cX8_spared 8 = .ok (.ifCond .eq 5, 3) := by decide +kernel
theorem dX8_spared_11 : decode cX8_spared 11 = .ok (.iload_n 3, 1) := by decide +kernel
theorem dX8_spared_12 : decode cX8_spared 12 = .ok (.ireturn, 1) := by decide +kernel
theorem dX8_spared_13 : decode cX8_spared 13 = .ok (.aload_n 0, 1) := by decide +kernel
theorem dX8_spared_14 : decode cX8_spared 14 = .ok (.iload_n 1, 1) := by decide +kernel
theorem dX8_spared_15 : decode cX8_spared 15 = .ok (.iload_n 2, 1) := by decide +kernel
theorem dX8_spared_16 : decode cX8_spared 16 = .ok (.invokevirtual 314, 3) := by decide +kernel
theorem dX8_spared_19 : decode cX8_spared 19 = .ok (.istore 4, 2) := by decide +kernel
theorem dX8_spared_21 : decode cX8_spared 21 = .ok (.iload 4, 2) := by decide +kernel
theorem dX8_spared_23 : decode cX8_spared 23 = .ok (.iconst (-1), 1) := by decide +kernel
theorem dX8_spared_24 : decode cX8_spared 24 = .ok (.if_icmp .ne 7, 3) := by decide +kernel
theorem dX8_spared_27 : decode cX8_spared 27 = .ok (.iconst 0, 1) := by decide +kernel
theorem dX8_spared_28 : decode cX8_spared 28 = .ok (.goto 13, 3) := by decide +kernel
theorem dX8_spared_31 : decode cX8_spared 31 = .ok (.aload_n 0, 1) := by decide +kernel
theorem dX8_spared_32 : decode cX8_spared 32 = .ok (.getfield 19, 3) := by decide +kernel
theorem dX8_spared_35 : decode cX8_spared 35 = .ok (.iload_n 2, 1) := by decide +kernel
theorem dX8_spared_36 : decode cX8_spared 36 = .ok (.iload 4, 2) := by decide +kernel
theorem dX8_spared_38 : decode cX8_spared 38 = .ok (.invokevirtual 317, 3) := by decide +kernel
theorem dX8_spared_41 : decode cX8_spared 41 = .ok (.ireturn, 1) := by decide +kernel
set_option maxHeartbeats 4000000 in
set_option maxRecDepth 100000 in
theorem m_X8_spared (l : Launch) (D : va_G) (cy : Nat → ClassId) (g : Nat → Nat) (σ : ST) (p1 : Int32) (p2 : Int32) (sz : Nat) (hJ : J8 σ)  : Met l yX8_spared (ww yX8_spared cX8_spared 5 (some .int)) ({ frames := 7, cells := 0, slots := 0, locals := 448 }) (va_Pc [.ref (gO g 17), .int p1, .int p2] (pr8 D cy g σ sz)) (qi8 D cy g sz (fun r τ => Fr (fO [11, 13]) σ τ ∧ J8 τ ∧ True)) 0 0 (A8 cy g sz) := by
  refine Met.ofW (cc := cX8_spared) (maxL := 5) (ret := (some .int)) (by decide) rfl ?_
  intro p e s m args below meth c s₁ B hml hv
  obtain ⟨rfl, hsz, hP, hK, hD0, hC⟩ := hv
  have hx := B.exec
  have hb := B.bytes
  have hr := B.returns
  have hts := hts_g (atoms_spec (ws := ww yX8_spared cX8_spared 5 (some .int)) B.pre)
  have hown : s.vm.findClass RX8 = some m.cls := findClass_of_methodNamed B.named
  have hlocks := B.notSynchronized
  clear B
  subst hsz
  have hD := fun τ => A8_D (sz := s.heap.size) hD0 τ
  clear hD0
  have hS : va_S (A8 cy g s.heap.size) s.heap s.heap [] := va_S.rf
  have hl := lv_entry ([.ref (gO g 17), .int p1, .int p2]) (n := 5) (Nat.le_of_ble_eq_true rfl)
  rw [lg_entry_eq]
  generalize (lg_sl ([.ref (gO g 17), .int p1, .int p2]) ++ List.replicate (5 - (lg_sl ([.ref (gO g 17), .int p1, .int p2])).length) Slot.unset).toArray = ls at hl ⊢
  have hl : lv_has ls 5 [(0, .ref (gO g 17)), (1, .int p1), (2, .int p2)] := hl
  refine lv_aload_n hx hb dX8_spared_0 rfl (lv_at hl 0 rfl) ?_
  refine lv_iload_n hx hb dX8_spared_1 rfl (lv_at hl 1 rfl) ?_
  refine lv_iload_n hx hb dX8_spared_2 rfl (lv_at hl 2 rfl) ?_
  refine va_calli (va_runV (As := [.int p1, .int p2]) (rest := []) ⟨hx, hb, hml, hown, hts⟩ (m_X8_layBest l D cy g σ  p1 p2 _ hJ ) (cwV 2 hts (gd_V q914 q916 q18 q125 q917) rfl rfl rfl (by decide +kernel) ⟨(Nat.le_of_ble_eq_true rfl), (Nat.le_of_ble_eq_true rfl)⟩) (pv8 hP hK hD hC hS (rv8_8 hK hP)) rfl rfl hl.1 rfl (lv_room (Nat.le_of_ble_eq_true rfl)) dX8_spared_3 ⟨Nat.le_of_ble_eq_true rfl, Nat.le_of_ble_eq_true rfl⟩) hS (fun q _ h => up8 hS q h) (up8 hS) (fun r1 σ2 tS H1 locs ht hvm hw3 hB hz1 hk1 hS => ?_)
  have hP : va_P D clz (WD8 cy g σ2) H1 := by rw [← ht]; exact hB
  clear hB hz1 hk1 hvm ht
  generalize H1 = H at hP hS ⊢
  have hF4 : Fr (fO [11, 13]) σ σ2 := hw3.1
  have hJ5 : J8 σ2 := hw3.2.1
  have b6 : (-2 : Int) ≤ r1.toInt ∧ r1.toInt ≤ 0 := hw3.2.2.1
  refine lv_istore_n (lv' := [(3, .int r1), (0, .ref (gO g 17)), (1, .int p1), (2, .int p2)]) hx hb dX8_spared_6 rfl hl (by decide) rfl (fun ls hl => ?_)
  refine lv_iload_n hx hb dX8_spared_7 rfl (lv_at hl 0 rfl) ?_
  refine lv_if_eq (tgt := 13) hx hb dX8_spared_8 (by decide) (fun c7 => ?_) (fun c7 => ?_)
  ·
    have k8 := peq32 c7
    refine lv_aload_n hx hb dX8_spared_13 rfl (lv_at hl 1 rfl) ?_
    refine lv_iload_n hx hb dX8_spared_14 rfl (lv_at hl 2 rfl) ?_
    refine lv_iload_n hx hb dX8_spared_15 rfl (lv_at hl 3 rfl) ?_
    refine va_calli (va_runV (As := [.int p1, .int p2]) (rest := []) ⟨hx, hb, hml, hown, hts⟩ (m_X8_firstTired l D cy g σ2  p1 p2 _ hJ5 ) (cwV 2 hts (gd_V q1147 q1149 q37 q125 q1150) rfl rfl rfl (by decide +kernel) ⟨(Nat.le_of_ble_eq_true rfl), (Nat.le_of_ble_eq_true rfl)⟩) (pv8 hP hK hD hC hS (rv8_8 hK hP)) rfl rfl hl.1 rfl (lv_room (Nat.le_of_ble_eq_true rfl)) dX8_spared_16 ⟨Nat.le_of_ble_eq_true rfl, Nat.le_of_ble_eq_true rfl⟩) hS (fun q _ h => up8 hS q h) (up8 hS) (fun r9 σ10 tS H1 locs ht hvm hw11 hB hz1 hk1 hS => ?_)
    have hP : va_P D clz (WD8 cy g σ10) H1 := by rw [← ht]; exact hB
    clear hB hz1 hk1 hvm ht
    generalize H1 = H at hP hS ⊢
    have hw11E : σ2 = σ10 := (hw11.1).symm
    subst hw11E
    have b12 : (-1 : Int) ≤ r9.toInt ∧ r9.toInt ≤ 15 := hw11.2.1
    refine lv_istore (lv' := [(4, .int r9), (3, .int r1), (0, .ref (gO g 17)), (1, .int p1), (2, .int p2)]) hx hb dX8_spared_19 hl (by decide) rfl (fun ls hl => ?_)
    refine lv_iload hx hb dX8_spared_21 (lv_at hl 0 rfl) ?_
    refine lv_iconst (v := (-1)) hx hb dX8_spared_23 (by decide) ?_
    refine lv_icmp_ne (tgt := 31) hx hb dX8_spared_24 (by decide) (fun c13 => ?_) (fun c13 => ?_)
    ·
      have k14 := neq32 c13
      refine lv_aload_n hx hb dX8_spared_31 rfl (lv_at hl 2 rfl) ?_
      obtain ⟨dx15, edx15⟩ : ∃ z : Nat, ((σ 17).1 1).toInt.toNat = z := ⟨_, rfl⟩
      have hdx15 : 0 ≤ dx15 ∧ dx15 < 5 := mnow (by have f0 := j8_8_1 hJ rfl; omega) edx15
      refine g8_8_1 (o := dx15) hx hb hts hown hK hP ((congrArg (fun z : Int32 => z.toInt.toNat) ((hF4 17 1 (fO_n (nmc (by decide) (nmc (by decide) nm0)))).1)).trans edx15) (hts _ q435) dX8_spared_32 ?_
      refine lv_iload_n hx hb dX8_spared_35 rfl (lv_at hl 4 rfl) ?_
      refine lv_iload hx hb dX8_spared_36 (lv_at hl 0 rfl) ?_
      refine va_calli (va_runV (As := [.int p2, .int r9]) (rest := []) ⟨hx, hb, hml, hown, hts⟩ (m_X0_soundingFrom l D cy g σ2  dx15 p2 r9 _ hJ5 (show 0 ≤ dx15 ∧ dx15 < 5 from hdx15) (show (0 : Int) ≤ r9.toInt ∧ r9.toInt ≤ 15 from (by have f0 := b12; have f1 := k14; have g0 := rg32 r9; have zm1 : ((-1) : Int32).toInt = (-1) := (by decide); omega))) (cwV 2 hts (gd_V q1155 q1156 q1157 q127 q1158) rfl rfl rfl (by decide +kernel) ⟨(Nat.le_of_ble_eq_true rfl), (Nat.le_of_ble_eq_true rfl)⟩) (pv8 hP hK hD hC hS (rv8_0 hK hP hdx15)) rfl rfl hl.1 rfl (lv_room (Nat.le_of_ble_eq_true rfl)) dX8_spared_38 ⟨Nat.le_of_ble_eq_true rfl, Nat.le_of_ble_eq_true rfl⟩) hS (fun q _ h => up8 hS q h) (up8 hS) (fun r16 σ17 tS H1 locs ht hvm hw18 hB hz1 hk1 hS => ?_)
      have hP : va_P D clz (WD8 cy g σ17) H1 := by rw [← ht]; exact hB
      clear hB hz1 hk1 hvm ht
      generalize H1 = H at hP hS ⊢
      have hw18E : σ2 = σ17 := (hw18.1).symm
      subst hw18E
      exact W.iret (v := r16) hx hb hr (fun tS ht hW => ⟨⟨r16, σ2, rfl, ⟨Fr.tr (Fr.rf) hF4 (fO_sub (fun _ q => q)), hJ5, trivial⟩, (show va_P D clz (WD8 cy g σ2) tS.heap by rw [ht]; exact hP)⟩, hS.F ht⟩) hS.2.2 dX8_spared_41
    ·
      have k19 := peq32 c13
      refine lv_iconst (v := 0) hx hb dX8_spared_27 (by decide) ?_
      refine lv_goto (tgt := 41) hx hb dX8_spared_28 (by decide) ?_
      exact W.iret (v := 0) hx hb hr (fun tS ht hW => ⟨⟨0, σ2, rfl, ⟨Fr.tr (Fr.rf) hF4 (fO_sub (fun _ q => q)), hJ5, trivial⟩, (show va_P D clz (WD8 cy g σ2) tS.heap by rw [ht]; exact hP)⟩, hS.F ht⟩) hS.2.2 dX8_spared_41
  ·
    have k20 := neq32 c7
    refine lv_iload_n hx hb dX8_spared_11 rfl (lv_at hl 0 rfl) ?_
    exact W.iret (v := r1) hx hb hr (fun tS ht hW => ⟨⟨r1, σ2, rfl, ⟨Fr.tr (Fr.rf) hF4 (fO_sub (fun _ q => q)), hJ5, trivial⟩, (show va_P D clz (WD8 cy g σ2) tS.heap by rw [ht]; exact hP)⟩, hS.F ht⟩) hS.2.2 dX8_spared_12

theorem q1167 : Cond.code yX8_isDouble cX8_isDouble 3 (some .boolean) ∈ lw_g := lw_gm (List.mem_of_getElem? (i := 1167) (by decide +kernel)) rfl
theorem q1168 : Cond.methodLink RX8 328 yJ6_bitCount_0f7a4 ∈ lw_g := lw_gm (List.mem_of_getElem? (i := 1168) (by decide +kernel)) rfl
theorem dX8_isDouble_0 : decode cX8_isDouble 0 = .ok (.iload_n 1, 1) := by decide +kernel
theorem dX8_isDouble_1 : decode cX8_isDouble 1 = .ok (.invokestatic 328, 3) := by decide +kernel
theorem dX8_isDouble_4 : decode cX8_isDouble 4 = .ok (.istore_n 2, 1) := by decide +kernel
theorem dX8_isDouble_5 : decode cX8_isDouble 5 = .ok (.iload_n 1, 1) := by decide +kernel
theorem dX8_isDouble_6 : decode cX8_isDouble 6 = .ok (.ifCond .le 25, 3) := by decide +kernel
theorem dX8_isDouble_9 : decode cX8_isDouble 9 = .ok (.iload_n 1, 1) := by decide +kernel
theorem dX8_isDouble_10 : decode cX8_isDouble 10 = .ok (.iconst 1, 1) := by decide +kernel
theorem dX8_isDouble_11 : decode cX8_isDouble 11 = .ok (.aload_n 0, 1) := by decide +kernel
theorem dX8_isDouble_12 : decode cX8_isDouble 12 = .ok (.getfield 19, 3) := by decide +kernel
theorem dX8_isDouble_15 : decode cX8_isDouble 15 = .ok (.getfield 113, 3) := by decide +kernel
theorem dX8_isDouble_18 : decode cX8_isDouble 18 = .ok (.ishl, 1) := by decide +kernel
theorem dX8_isDouble_19 : decode cX8_isDouble 19 = .ok (.if_icmp .ge 12, 3) := by decide +kernel
theorem dX8_isDouble_22 : decode cX8_isDouble 22 = .ok (.iload_n 2, 1) := by decide +kernel
theorem dX8_isDouble_23 : decode cX8_isDouble 23 = .ok (.iconst 3, 1) := by decide +kernel
theorem dX8_isDouble_24 : decode cX8_isDouble 24 = .ok (.if_icmp .gt 7, 3) := by decide +kernel
theorem dX8_isDouble_27 : decode cX8_isDouble 27 = .ok (.iconst 1, 1) := by decide +kernel
theorem dX8_isDouble_28 : decode cX8_isDouble 28 = .ok (.goto 4, 3) := by decide +kernel
theorem dX8_isDouble_31 : decode cX8_isDouble 31 = .ok (.iconst 0, 1) := by decide +kernel
theorem dX8_isDouble_32 : decode cX8_isDouble 32 = .ok (.ireturn, 1) := by decide +kernel
set_option maxHeartbeats 4000000 in
set_option maxRecDepth 100000 in
theorem m_X8_isDouble (l : Launch) (D : va_G) (cy : Nat → ClassId) (g : Nat → Nat) (σ : ST) (p1 : Int32) (sz : Nat) (hJ : J8 σ)  : Met l yX8_isDouble (ww yX8_isDouble cX8_isDouble 3 (some .boolean)) ({ frames := 2, cells := 0, slots := 0, locals := 128 }) (va_Pc [.ref (gO g 17), .int p1] (pr8 D cy g σ sz)) (qi8 D cy g sz (fun r τ => τ = σ ∧ ((0 : Int) ≤ r.toInt ∧ r.toInt ≤ 1) ∧ True)) 0 0 (A8 cy g sz) := by
  refine Met.ofW (cc := cX8_isDouble) (maxL := 3) (ret := (some .boolean)) (by decide) rfl ?_
  intro p e s m args below meth c s₁ B hml hv
  obtain ⟨rfl, hsz, hP, hK, hD0, hC⟩ := hv
  have hx := B.exec
  have hb := B.bytes
  have hr := B.returns
  have hts := hts_g (atoms_spec (ws := ww yX8_isDouble cX8_isDouble 3 (some .boolean)) B.pre)
  have hown : s.vm.findClass RX8 = some m.cls := findClass_of_methodNamed B.named
  have hlocks := B.notSynchronized
  clear B
  subst hsz
  have hD := fun τ => A8_D (sz := s.heap.size) hD0 τ
  clear hD0
  have hS : va_S (A8 cy g s.heap.size) s.heap s.heap [] := va_S.rf
  have hl := lv_entry ([.ref (gO g 17), .int p1]) (n := 3) (Nat.le_of_ble_eq_true rfl)
  rw [lg_entry_eq]
  generalize (lg_sl ([.ref (gO g 17), .int p1]) ++ List.replicate (3 - (lg_sl ([.ref (gO g 17), .int p1])).length) Slot.unset).toArray = ls at hl ⊢
  have hl : lv_has ls 3 [(0, .ref (gO g 17)), (1, .int p1)] := hl
  refine lv_iload_n hx hb dX8_isDouble_0 rfl (lv_at hl 1 rfl) ?_
  refine va_calli (va_runS (As := [.int p1]) (rest := []) ⟨hx, hb, hml, hown, hts⟩ (m_J6_bitCount_0f7a4 l D cy g σ  p1 _ hJ ) (va_cwS 1 hts (gd_S q1168 q905 q140 q906) rfl rfl rfl (by decide +kernel) ⟨(Nat.le_of_ble_eq_true rfl), (Nat.le_of_ble_eq_true rfl)⟩) (ps8 hP hK hD hC hS) rfl rfl hl.1 rfl (lv_room (Nat.le_of_ble_eq_true rfl)) dX8_isDouble_1 ⟨Nat.le_of_ble_eq_true rfl, Nat.le_of_ble_eq_true rfl⟩) hS (fun q _ h => up8 hS q h) (up8 hS) (fun r1 σ2 tS H1 locs ht hvm hw3 hB hz1 hk1 hS => ?_)
  have hP : va_P D clz (WD8 cy g σ2) H1 := by rw [← ht]; exact hB
  clear hB hz1 hk1 hvm ht
  generalize H1 = H at hP hS ⊢
  have hw3E : σ = σ2 := (hw3.1).symm
  subst hw3E
  have b4 : (0 : Int) ≤ r1.toInt ∧ r1.toInt ≤ 63 := hw3.2.1
  refine lv_istore_n (lv' := [(2, .int r1), (0, .ref (gO g 17)), (1, .int p1)]) hx hb dX8_isDouble_4 rfl hl (by decide) rfl (fun ls hl => ?_)
  refine lv_iload_n hx hb dX8_isDouble_5 rfl (lv_at hl 2 rfl) ?_
  refine lv_if_le (tgt := 31) hx hb dX8_isDouble_6 (by decide) (fun c5 => ?_) (fun c5 => ?_)
  ·
    have k6 := ple32 c5
    refine lv_iconst (v := 0) hx hb dX8_isDouble_31 (by decide) ?_
    exact W.zret (v := 0) hx hb hr rfl (fun tS ht hW => ⟨⟨0, σ, rfl, ⟨rfl, (show (0 : Int) ≤ (0 : Int32).toInt ∧ (0 : Int32).toInt ≤ 1 from (by have z0 : (0 : Int32).toInt = 0 := (by decide); omega)), trivial⟩, (show va_P D clz (WD8 cy g σ) tS.heap by rw [ht]; exact hP)⟩, hS.F ht⟩) hS.2.2 dX8_isDouble_32
  ·
    have k7 := nle32 c5
    refine lv_iload_n hx hb dX8_isDouble_9 rfl (lv_at hl 2 rfl) ?_
    refine lv_iconst (v := 1) hx hb dX8_isDouble_10 (by decide) ?_
    refine lv_aload_n hx hb dX8_isDouble_11 rfl (lv_at hl 1 rfl) ?_
    obtain ⟨dx8, edx8⟩ : ∃ z : Nat, ((σ 17).1 1).toInt.toNat = z := ⟨_, rfl⟩
    have hdx8 : 0 ≤ dx8 ∧ dx8 < 5 := mnow (by have f0 := j8_8_1 hJ rfl; omega) edx8
    refine g8_8_1 (o := dx8) hx hb hts hown hK hP edx8 (hts _ q435) dX8_isDouble_12 ?_
    refine g8_0_4 (x := ((σ dx8).1 4)) hx hb hts hown hK hP hdx8 (rfl) (hts _ q207) dX8_isDouble_15 ?_
    refine lv_ishl hx hb dX8_isDouble_18 ?_
    refine lv_topi (fun x9 ex9 => ?_)
    have t10 := shl9 ex9 (by have f0 := j8_0_4 hJ hdx8 rfl; omega)
    refine lv_icmp_ge (tgt := 31) hx hb dX8_isDouble_19 (by decide) (fun c11 => ?_) (fun c11 => ?_)
    ·
      have k12 := ple32 c11
      refine lv_iconst (v := 0) hx hb dX8_isDouble_31 (by decide) ?_
      exact W.zret (v := 0) hx hb hr rfl (fun tS ht hW => ⟨⟨0, σ, rfl, ⟨rfl, (show (0 : Int) ≤ (0 : Int32).toInt ∧ (0 : Int32).toInt ≤ 1 from (by have z0 : (0 : Int32).toInt = 0 := (by decide); omega)), trivial⟩, (show va_P D clz (WD8 cy g σ) tS.heap by rw [ht]; exact hP)⟩, hS.F ht⟩) hS.2.2 dX8_isDouble_32
    ·
      have k13 := nle32 c11
      refine lv_iload_n hx hb dX8_isDouble_22 rfl (lv_at hl 0 rfl) ?_
      refine lv_iconst (v := 3) hx hb dX8_isDouble_23 (by decide) ?_
      refine lv_icmp_gt (tgt := 31) hx hb dX8_isDouble_24 (by decide) (fun c14 => ?_) (fun c14 => ?_)
      ·
        have k15 := plt32 c14
        refine lv_iconst (v := 0) hx hb dX8_isDouble_31 (by decide) ?_
        exact W.zret (v := 0) hx hb hr rfl (fun tS ht hW => ⟨⟨0, σ, rfl, ⟨rfl, (show (0 : Int) ≤ (0 : Int32).toInt ∧ (0 : Int32).toInt ≤ 1 from (by have z0 : (0 : Int32).toInt = 0 := (by decide); omega)), trivial⟩, (show va_P D clz (WD8 cy g σ) tS.heap by rw [ht]; exact hP)⟩, hS.F ht⟩) hS.2.2 dX8_isDouble_32
      ·
        have k16 := nlt32 c14
        refine lv_iconst (v := 1) hx hb dX8_isDouble_27 (by decide) ?_
        refine lv_goto (tgt := 32) hx hb dX8_isDouble_28 (by decide) ?_
        exact W.zret (v := 1) hx hb hr rfl (fun tS ht hW => ⟨⟨1, σ, rfl, ⟨rfl, (show (0 : Int) ≤ (1 : Int32).toInt ∧ (1 : Int32).toInt ≤ 1 from (by have z1 : (1 : Int32).toInt = 1 := (by decide); omega)), trivial⟩, (show va_P D clz (WD8 cy g σ) tS.heap by rw [ht]; exact hP)⟩, hS.F ht⟩) hS.2.2 dX8_isDouble_32

theorem q1172 : Cond.code yX1_aim cX1_aim 5 none ∈ lw_g := lw_gm (List.mem_of_getElem? (i := 1172) (by decide +kernel)) rfl
theorem q367 : Cond.fieldLink RX1 30 "LipsAndSlides$Doubles" "size" "I" ∈ lw_g := lw_gm (List.mem_of_getElem? (i := 367) (by decide +kernel)) rfl
theorem q205 : Cond.fieldLink RX1 34 "LipsAndSlides$Desk" "players" "I" ∈ lw_g := lw_gm (List.mem_of_getElem? (i := 205) (by decide +kernel)) rfl
theorem q1174 : Cond.methodLink RX1 43 yX0_tonesOf ∈ lw_g := lw_gm (List.mem_of_getElem? (i := 1174) (by decide +kernel)) rfl
theorem q368 : Cond.fieldLink RX1 47 "LipsAndSlides$Doubles" "length" "I" ∈ lw_g := lw_gm (List.mem_of_getElem? (i := 368) (by decide +kernel)) rfl
theorem q369 : Cond.fieldLink RX1 58 "LipsAndSlides$Doubles" "stamp" "I" ∈ lw_g := lw_gm (List.mem_of_getElem? (i := 369) (by decide +kernel)) rfl
theorem q373 : Cond.fieldLink RX1 21 "LipsAndSlides$Doubles" "resting" "[I" ∈ lw_g := lw_gm (List.mem_of_getElem? (i := 373) (by decide +kernel)) rfl
theorem q1175 : Cond.methodLink RX1 50 yX0_isRest ∈ lw_g := lw_gm (List.mem_of_getElem? (i := 1175) (by decide +kernel)) rfl
theorem q372 : Cond.fieldLink RX1 18 "LipsAndSlides$Doubles" "before" "[I" ∈ lw_g := lw_gm (List.mem_of_getElem? (i := 372) (by decide +kernel)) rfl
theorem q1176 : Cond.methodLink RX1 54 yX0_toneField ∈ lw_g := lw_gm (List.mem_of_getElem? (i := 1176) (by decide +kernel)) rfl
theorem q370 : Cond.fieldLink RX1 9 "LipsAndSlides$Doubles" "number" "[I" ∈ lw_g := lw_gm (List.mem_of_getElem? (i := 370) (by decide +kernel)) rfl
theorem q371 : Cond.fieldLink RX1 15 "LipsAndSlides$Doubles" "air" "[I" ∈ lw_g := lw_gm (List.mem_of_getElem? (i := 371) (by decide +kernel)) rfl
theorem q1173 : Cond.methodLink RX1 39 yX0_playerField ∈ lw_g := lw_gm (List.mem_of_getElem? (i := 1173) (by decide +kernel)) rfl
theorem dX1_aim_0 : decode cX1_aim 0 = .ok (.aload_n 0, 1) := by decide +kernel
theorem dX1_aim_1 : decode cX1_aim 1 = .ok (.iconst 0, 1) := by decide +kernel
theorem dX1_aim_2 : decode cX1_aim 2 = .ok (.putfield 30, 3) := by decide +kernel
theorem dX1_aim_5 : decode cX1_aim 5 = .ok (.iconst 0, 1) := by decide +kernel
theorem dX1_aim_6 : decode cX1_aim 6 = .ok (.istore 4, 2) := by decide +kernel
theorem dX1_aim_8 : decode cX1_aim 8 = .ok (.iload 4, 2) := by decide +kernel
theorem dX1_aim_10 : decode cX1_aim 10 = .ok (.aload_n 1, 1) := by decide +kernel
theorem dX1_aim_11 : decode cX1_aim 11 = .ok (.getfield 34, 3) := by decide +kernel
theorem dX1_aim_14 : decode cX1_aim 14 = .ok (.if_icmp .ge 64, 3) := by decide +kernel
theorem dX1_aim_17 : decode cX1_aim 17 = .ok (.aload_n 0, 1) := by decide +kernel
theorem dX1_aim_18 : decode cX1_aim 18 = .ok (.getfield 30, 3) := by decide +kernel
theorem dX1_aim_21 : decode cX1_aim 21 = .ok (.iconst 3, 1) := by decide +kernel
theorem dX1_aim_22 : decode cX1_aim 22 = .ok (.if_icmp .ge 56, 3) := by decide +kernel
theorem dX1_aim_25 : decode cX1_aim 25 = .ok (.iload_n 2, 1) := by decide +kernel
theorem dX1_aim_26 : decode cX1_aim 26 = .ok (.iload 4, 2) := by decide +kernel
theorem dX1_aim_28 : decode cX1_aim 28 = .ok (.ishr, 1) := by decide +kernel
theorem dX1_aim_29 : decode cX1_aim 29 = .ok (.iconst 1, 1) := by decide +kernel
theorem dX1_aim_30 : decode cX1_aim 30 = .ok (.iand, 1) := by decide +kernel
theorem dX1_aim_31 : decode cX1_aim 31 = .ok (.iconst 1, 1) := by decide +kernel
theorem dX1_aim_32 : decode cX1_aim 32 = .ok (.if_icmp .ne 40, 3) := by decide +kernel
theorem dX1_aim_35 : decode cX1_aim 35 = .ok (.aload_n 0, 1) := by decide +kernel
theorem dX1_aim_36 : decode cX1_aim 36 = .ok (.getfield 9, 3) := by decide +kernel
theorem dX1_aim_39 : decode cX1_aim 39 = .ok (.aload_n 0, 1) := by decide +kernel
theorem dX1_aim_40 : decode cX1_aim 40 = .ok (.getfield 30, 3) := by decide +kernel
theorem dX1_aim_43 : decode cX1_aim 43 = .ok (.iload 4, 2) := by decide +kernel
theorem dX1_aim_45 : decode cX1_aim 45 = .ok (.iastore, 1) := by decide +kernel
theorem dX1_aim_46 : decode cX1_aim 46 = .ok (.aload_n 0, 1) := by decide +kernel
theorem dX1_aim_47 : decode cX1_aim 47 = .ok (.getfield 15, 3) := by decide +kernel
theorem dX1_aim_50 : decode cX1_aim 50 = .ok (.aload_n 0, 1) := by decide +kernel
theorem dX1_aim_51 : decode cX1_aim 51 = .ok (.getfield 30, 3) := by decide +kernel
theorem dX1_aim_54 : decode cX1_aim 54 = .ok (.aload_n 1, 1) := by decide +kernel
theorem dX1_aim_55 : decode cX1_aim 55 = .ok (.iload 4, 2) := by decide +kernel
theorem dX1_aim_57 : decode cX1_aim 57 = .ok (.iconst 2, 1) := by decide +kernel
theorem dX1_aim_58 : decode cX1_aim 58 = .ok (.invokevirtual 39, 3) := by decide +kernel
theorem dX1_aim_61 : decode cX1_aim 61 = .ok (.iastore, 1) := by decide +kernel
theorem dX1_aim_62 : decode cX1_aim 62 = .ok (.aload_n 0, 1) := by decide +kernel
theorem dX1_aim_63 : decode cX1_aim 63 = .ok (.dup, 1) := by decide +kernel
theorem dX1_aim_64 : decode cX1_aim 64 = .ok (.getfield 30, 3) := by decide +kernel
theorem dX1_aim_67 : decode cX1_aim 67 = .ok (.iconst 1, 1) := by decide +kernel
theorem dX1_aim_68 : decode cX1_aim 68 = .ok (.iadd, 1) := by decide +kernel
theorem dX1_aim_69 : decode cX1_aim 69 = .ok (.putfield 30, 3) := by decide +kernel
theorem dX1_aim_72 : decode cX1_aim 72 = .ok (.iinc 4 1, 3) := by decide +kernel
theorem dX1_aim_75 : decode cX1_aim 75 = .ok (.goto (-67), 3) := by decide +kernel
theorem dX1_aim_78 : decode cX1_aim 78 = .ok (.aload_n 0, 1) := by decide +kernel
theorem dX1_aim_79 : decode cX1_aim 79 = .ok (.aload_n 1, 1) := by decide +kernel
theorem dX1_aim_80 : decode cX1_aim 80 = .ok (.iload_n 3, 1) := by decide +kernel
theorem dX1_aim_81 : decode cX1_aim 81 = .ok (.invokevirtual 43, 3) := by decide +kernel
theorem dX1_aim_84 : decode cX1_aim 84 = .ok (.putfield 47, 3) := by decide +kernel
theorem dX1_aim_87 : decode cX1_aim 87 = .ok (.iconst 0, 1) := by decide +kernel
theorem dX1_aim_88 : decode cX1_aim 88 = .ok (.istore 4, 2) := by decide +kernel
theorem dX1_aim_90 : decode cX1_aim 90 = .ok (.iload 4, 2) := by decide +kernel
theorem dX1_aim_92 : decode cX1_aim 92 = .ok (.aload_n 0, 1) := by decide +kernel
theorem dX1_aim_93 : decode cX1_aim 93 = .ok (.getfield 47, 3) := by decide +kernel
theorem dX1_aim_96 : decode cX1_aim 96 = .ok (.if_icmp .ge 78, 3) := by decide +kernel
theorem dX1_aim_99 : decode cX1_aim 99 = .ok (.iload 4, 2) := by decide +kernel
theorem dX1_aim_101 : decode cX1_aim 101 = .ok (.bipush 16, 2) := by decide +kernel
theorem dX1_aim_103 : decode cX1_aim 103 = .ok (.if_icmp .ge 71, 3) := by decide +kernel
theorem dX1_aim_106 : decode cX1_aim 106 = .ok (.aload_n 0, 1) := by decide +kernel
theorem dX1_aim_107 : decode cX1_aim 107 = .ok (.getfield 21, 3) := by decide +kernel
theorem dX1_aim_110 : decode cX1_aim 110 = .ok (.iload 4, 2) := by decide +kernel
theorem dX1_aim_112 : decode cX1_aim 112 = .ok (.aload_n 1, 1) := by decide +kernel
theorem dX1_aim_113 : decode cX1_aim 113 = .ok (.iload_n 3, 1) := by decide +kernel
theorem dX1_aim_114 : decode cX1_aim 114 = .ok (.iload 4, 2) := by decide +kernel
theorem dX1_aim_116 : decode cX1_aim 116 = .ok (.invokevirtual 50, 3) := by decide +kernel
theorem dX1_aim_119 : decode cX1_aim 119 = .ok (.ifCond .eq 7, 3) := by decide +kernel
theorem dX1_aim_122 : decode cX1_aim 122 = .ok (.iconst 1, 1) := by decide +kernel
theorem dX1_aim_123 : decode cX1_aim 123 = .ok (.goto 4, 3) := by decide +kernel
theorem dX1_aim_126 : decode cX1_aim 126 = .ok (.iconst 0, 1) := by decide +kernel
theorem dX1_aim_127 : decode cX1_aim 127 = .ok (.iastore, 1) := by decide +kernel
theorem dX1_aim_128 : decode cX1_aim 128 = .ok (.aload_n 0, 1) := by decide +kernel
theorem dX1_aim_129 : decode cX1_aim 129 = .ok (.getfield 18, 3) := by decide +kernel
theorem dX1_aim_132 : decode cX1_aim 132 = .ok (.iload 4, 2) := by decide +kernel
theorem dX1_aim_134 : decode cX1_aim 134 = .ok (.iconst 1, 1) := by decide +kernel
theorem dX1_aim_135 : decode cX1_aim 135 = .ok (.iadd, 1) := by decide +kernel
theorem dX1_aim_136 : decode cX1_aim 136 = .ok (.aload_n 0, 1) := by decide +kernel
theorem dX1_aim_137 : decode cX1_aim 137 = .ok (.getfield 18, 3) := by decide +kernel
theorem dX1_aim_140 : decode cX1_aim 140 = .ok (.iload 4, 2) := by decide +kernel
theorem dX1_aim_142 : decode cX1_aim 142 = .ok (.iaload, 1) := by decide +kernel
theorem dX1_aim_143 : decode cX1_aim 143 = .ok (.aload_n 0, 1) := by decide +kernel
theorem dX1_aim_144 : decode cX1_aim 144 = .ok (.getfield 21, 3) := by decide +kernel
theorem dX1_aim_147 : decode cX1_aim 147 = .ok (.iload 4, 2) := by decide +kernel
theorem dX1_aim_149 : decode cX1_aim 149 = .ok (.iaload, 1) := by decide +kernel
theorem dX1_aim_150 : decode cX1_aim 150 = .ok (.iconst 1, 1) := by decide +kernel
theorem dX1_aim_151 : decode cX1_aim 151 = .ok (.if_icmp .ne 7, 3) := by decide +kernel
theorem dX1_aim_154 : decode cX1_aim 154 = .ok (.iconst 0, 1) := by decide +kernel
theorem dX1_aim_155 : decode cX1_aim 155 = .ok (.goto 11, 3) := by decide +kernel
theorem dX1_aim_158 : decode cX1_aim 158 = .ok (.aload_n 1, 1) := by decide +kernel
theorem dX1_aim_159 : decode cX1_aim 159 = .ok (.iload_n 3, 1) := by decide +kernel
theorem dX1_aim_160 : decode cX1_aim 160 = .ok (.iload 4, 2) := by decide +kernel
theorem dX1_aim_162 : decode cX1_aim 162 = .ok (.iconst 1, 1) := by decide +kernel
theorem dX1_aim_163 : decode cX1_aim 163 = .ok (.invokevirtual 54, 3) := by decide +kernel
theorem dX1_aim_166 : decode cX1_aim 166 = .ok (.iadd, 1) := by decide +kernel
theorem dX1_aim_167 : decode cX1_aim 167 = .ok (.iastore, 1) := by decide +kernel
theorem dX1_aim_168 : decode cX1_aim 168 = .ok (.iinc 4 1, 3) := by decide +kernel
theorem dX1_aim_171 : decode cX1_aim 171 = .ok (.goto (-81), 3) := by decide +kernel
theorem dX1_aim_174 : decode cX1_aim 174 = .ok (.aload_n 0, 1) := by decide +kernel
theorem dX1_aim_175 : decode cX1_aim 175 = .ok (.dup, 1) := by decide +kernel
theorem dX1_aim_176 : decode cX1_aim 176 = .ok (.getfield 58, 3) := by decide +kernel
theorem dX1_aim_179 : decode cX1_aim 179 = .ok (.iconst 1, 1) := by decide +kernel
theorem dX1_aim_180 : decode cX1_aim 180 = .ok (.iadd, 1) := by decide +kernel
theorem dX1_aim_181 : decode cX1_aim 181 = .ok (.putfield 58, 3) := by decide +kernel
theorem dX1_aim_184 : decode cX1_aim 184 = .ok (.return_, 1) := by decide +kernel
set_option maxHeartbeats 4000000 in
set_option maxRecDepth 100000 in
theorem m_X1_aim (l : Launch) (D : va_G) (cy : Nat → ClassId) (g : Nat → Nat) (σ : ST) (d1 : Nat) (p2 : Int32) (p3 : Int32) (sz : Nat) (hJ : J8 σ) (hd1 : 0 ≤ d1 ∧ d1 < 5) (h0 : (0 : Int) ≤ p3.toInt ∧ p3.toInt ≤ 2) : Met l yX1_aim (ww yX1_aim cX1_aim 5 none) ({ frames := 4, cells := 0, slots := 0, locals := 256 }) (va_Pc [.ref (gO g 15), .ref (gO g d1), .int p2, .int p3] (pr8 D cy g σ sz)) (qv8 D cy g sz (fun τ => Fr (fO [15]) σ τ ∧ J8 τ ∧ True)) 0 0 (A8 cy g sz) := by
  refine Met.ofW (cc := cX1_aim) (maxL := 5) (ret := none) (by decide) rfl ?_
  intro p e s m args below meth c s₁ B hml hv
  obtain ⟨rfl, hsz, hP, hK, hD0, hC⟩ := hv
  have hx := B.exec
  have hb := B.bytes
  have hr := B.returns
  have hts := hts_g (atoms_spec (ws := ww yX1_aim cX1_aim 5 none) B.pre)
  have hown : s.vm.findClass RX1 = some m.cls := findClass_of_methodNamed B.named
  have hlocks := B.notSynchronized
  clear B
  subst hsz
  have hD := fun τ => A8_D (sz := s.heap.size) hD0 τ
  clear hD0
  have hS : va_S (A8 cy g s.heap.size) s.heap s.heap [] := va_S.rf
  have hl := lv_entry ([.ref (gO g 15), .ref (gO g d1), .int p2, .int p3]) (n := 5) (Nat.le_of_ble_eq_true rfl)
  rw [lg_entry_eq]
  generalize (lg_sl ([.ref (gO g 15), .ref (gO g d1), .int p2, .int p3]) ++ List.replicate (5 - (lg_sl ([.ref (gO g 15), .ref (gO g d1), .int p2, .int p3])).length) Slot.unset).toArray = ls at hl ⊢
  have hl : lv_has ls 5 [(0, .ref (gO g 15)), (1, .ref (gO g d1)), (2, .int p2), (3, .int p3)] := hl
  refine lv_aload_n hx hb dX1_aim_0 rfl (lv_at hl 0 rfl) ?_
  refine lv_iconst (v := 0) hx hb dX1_aim_1 (by decide) ?_
  refine p8_1_0 hx hb hts hown hK hP hD hS (hts _ q367) dX1_aim_2 (fun H locs σ1 eσ1 hP hS => ?_)
  have hJ2 : J8 σ1 := hJ.I eσ1 rfl (show JI8 1 0 (0 : Int32) from (by constructor <;> decide))
  refine lv_iconst (v := 0) hx hb dX1_aim_5 (by decide) ?_
  refine lv_istore (lv' := [(4, .int 0), (0, .ref (gO g 15)), (1, .ref (gO g d1)), (2, .int p2), (3, .int p3)]) hx hb dX1_aim_6 hl (by decide) rfl (fun ls hl => ?_)
  refine loop8 5 8 (fun x : LZ => [(4, .int (x.2.1 0)), (0, .ref (gO g 15)), (1, .ref (gO g d1)), (2, .int p2), (3, .int p3)]) (fun x : LZ => (Fr (fO [15]) σ1 x.1) ∧ (J8 x.1) ∧ ((0 : Int) ≤ (x.2.1 0).toInt ∧ (x.2.1 0).toInt ≤ 9) ∧ True) (fun x : LZ => ((10 : Int) - (x.2.1 0).toInt).toNat) ?_ (σ1, lf [0], lg []) ⟨Fr.rf, hJ2, (show (0 : Int) ≤ (0 : Int32).toInt ∧ (0 : Int32).toInt ≤ 9 from (by have z0 : (0 : Int32).toInt = 0 := (by decide); omega)), trivial⟩ _ _ _ hP hS (lv_sub hl [0, 1, 2, 3, 4] rfl)
  intro y5 hI4 nl3 H locs ls hP hS hl
  obtain ⟨σ6, eσ6⟩ : ∃ z, z = y5.1 := ⟨_, rfl⟩
  rw [← eσ6] at hP hI4
  have hF7 : Fr (fO [15]) σ1 σ6 := hI4.1
  have hJ8 : J8 σ6 := hI4.2.1
  have b9 : (0 : Int) ≤ (y5.2.1 0).toInt ∧ (y5.2.1 0).toInt ≤ 9 := hI4.2.2.1
  have hl : lv_has ls 5 [(4, .int (y5.2.1 0)), (0, .ref (gO g 15)), (1, .ref (gO g d1)), (2, .int p2), (3, .int p3)] := hl
  refine lv_iload hx hb dX1_aim_8 (lv_at hl 0 rfl) ?_
  refine lv_aload_n hx hb dX1_aim_10 rfl (lv_at hl 2 rfl) ?_
  refine g8_0_4 (x := ((σ d1).1 4)) hx hb hts hown hK hP hd1 (((hF7 d1 4 (fO_n (nmc (nel hd1 (by decide)) nm0))).1).trans (((sI_f eσ1) d1 4 (fN_o (nel hd1 (by decide)))).1)) (hts _ q205) dX1_aim_11 ?_
  refine cut8 (D := D) (cy := cy) (g := g) (A := A8 cy g s.heap.size) (H0 := s.heap) 5 78 (fun x : LZ => [(4, .int (y5.2.1 0)), (0, .ref (gO g 15)), (1, .ref (gO g d1)), (2, .int p2), (3, .int p3)]) (fun x : LZ => []) (fun x : LZ => (x.1 = σ6) ∧ True) ?_ ?_
  ·
    intro y12 hI11 H locs ls hP hS hl
    rw [show y12.1 = σ6 from hI11.1] at hP
    have hl : lv_has ls 5 [(4, .int (y5.2.1 0)), (0, .ref (gO g 15)), (1, .ref (gO g d1)), (2, .int p2), (3, .int p3)] := hl
    refine lv_aload_n hx hb dX1_aim_78 rfl (lv_at hl 1 rfl) ?_
    refine lv_aload_n hx hb dX1_aim_79 rfl (lv_at hl 2 rfl) ?_
    refine lv_iload_n hx hb dX1_aim_80 rfl (lv_at hl 4 rfl) ?_
    refine va_calli (va_runV (As := [.int p3]) (rest := [.ref (gO g 15)]) ⟨hx, hb, hml, hown, hts⟩ (m_X0_tonesOf l D cy g σ6  d1 p3 _ hJ8 (show 0 ≤ d1 ∧ d1 < 5 from hd1)) (cwV 1 hts (gd_V q1174 q657 q658 q127 q659) rfl rfl rfl (by decide +kernel) ⟨(Nat.le_of_ble_eq_true rfl), (Nat.le_of_ble_eq_true rfl)⟩) (pv8 hP hK hD hC hS (rv8_0 hK hP hd1)) rfl rfl hl.1 rfl (lv_room (Nat.le_of_ble_eq_true rfl)) dX1_aim_81 ⟨Nat.le_of_ble_eq_true rfl, Nat.le_of_ble_eq_true rfl⟩) hS (fun q _ h => up8 hS q h) (up8 hS) (fun r13 σ14 tS H1 locs ht hvm hw15 hB hz1 hk1 hS => ?_)
    have hP : va_P D clz (WD8 cy g σ14) H1 := by rw [← ht]; exact hB
    clear hB hz1 hk1 hvm ht
    generalize H1 = H at hP hS ⊢
    have hw15E : σ6 = σ14 := (hw15.1).symm
    subst hw15E
    have b16 : (0 : Int) ≤ r13.toInt ∧ r13.toInt ≤ 16 := hw15.2.1
    refine p8_1_1 hx hb hts hown hK hP hD hS (hts _ q368) dX1_aim_84 (fun H locs σ17 eσ17 hP hS => ?_)
    have hJ18 : J8 σ17 := hJ8.I eσ17 rfl (show JI8 1 1 r13 from (by have f0 := b16; have g0 := rg32 r13; exact ⟨by omega, by omega⟩))
    refine lv_iconst (v := 0) hx hb dX1_aim_87 (by decide) ?_
    refine lv_istore (lv' := [(4, .int 0), (0, .ref (gO g 15)), (1, .ref (gO g d1)), (2, .int p2), (3, .int p3)]) hx hb dX1_aim_88 hl (by decide) rfl (fun ls hl => ?_)
    refine loop8 5 90 (fun x : LZ => [(4, .int (x.2.1 0)), (0, .ref (gO g 15)), (1, .ref (gO g d1)), (2, .int p2), (3, .int p3)]) (fun x : LZ => (Fr (fO [15]) σ17 x.1) ∧ (J8 x.1) ∧ ((0 : Int) ≤ (x.2.1 0).toInt ∧ (x.2.1 0).toInt ≤ 16) ∧ True) (fun x : LZ => ((17 : Int) - (x.2.1 0).toInt).toNat) ?_ (σ17, lf [0], lg []) ⟨Fr.rf, hJ18, (show (0 : Int) ≤ (0 : Int32).toInt ∧ (0 : Int32).toInt ≤ 16 from (by have z0 : (0 : Int32).toInt = 0 := (by decide); omega)), trivial⟩ _ _ _ hP hS (lv_sub hl [0, 1, 2, 3, 4] rfl)
    intro y21 hI20 nl19 H locs ls hP hS hl
    obtain ⟨σ22, eσ22⟩ : ∃ z, z = y21.1 := ⟨_, rfl⟩
    rw [← eσ22] at hP hI20
    have hF23 : Fr (fO [15]) σ17 σ22 := hI20.1
    have hJ24 : J8 σ22 := hI20.2.1
    have b25 : (0 : Int) ≤ (y21.2.1 0).toInt ∧ (y21.2.1 0).toInt ≤ 16 := hI20.2.2.1
    have hl : lv_has ls 5 [(4, .int (y21.2.1 0)), (0, .ref (gO g 15)), (1, .ref (gO g d1)), (2, .int p2), (3, .int p3)] := hl
    refine lv_iload hx hb dX1_aim_90 (lv_at hl 0 rfl) ?_
    refine lv_aload_n hx hb dX1_aim_92 rfl (lv_at hl 1 rfl) ?_
    refine g8_1_1 (x := ((σ22 15).1 1)) hx hb hts hown hK hP (rfl) (hts _ q368) dX1_aim_93 ?_
    refine cut8 (D := D) (cy := cy) (g := g) (A := A8 cy g s.heap.size) (H0 := s.heap) 5 174 (fun x : LZ => [(4, .int (y21.2.1 0)), (0, .ref (gO g 15)), (1, .ref (gO g d1)), (2, .int p2), (3, .int p3)]) (fun x : LZ => []) (fun x : LZ => (x.1 = σ22) ∧ True) ?_ ?_
    ·
      intro y28 hI27 H locs ls hP hS hl
      rw [show y28.1 = σ22 from hI27.1] at hP
      have hl : lv_has ls 5 [(4, .int (y21.2.1 0)), (0, .ref (gO g 15)), (1, .ref (gO g d1)), (2, .int p2), (3, .int p3)] := hl
      refine lv_aload_n hx hb dX1_aim_174 rfl (lv_at hl 1 rfl) ?_
      refine lv_dup hx hb dX1_aim_175 rfl ?_
      refine g8_1_2 (x := ((σ22 15).1 2)) hx hb hts hown hK hP (rfl) (hts _ q369) dX1_aim_176 ?_
      refine lv_iconst (v := 1) hx hb dX1_aim_179 (by decide) ?_
      refine lv_iadd hx hb dX1_aim_180 ?_
      refine lv_topi (fun x29 ex29 => ?_)
      refine p8_1_2 hx hb hts hown hK hP hD hS (hts _ q369) dX1_aim_181 (fun H locs σ30 eσ30 hP hS => ?_)
      have hJ31 : J8 σ30 := hJ24.I eσ30 rfl (show JI8 1 2 x29 from trivial)
      exact W.vret hx hb hr (fun tS ht hW => ⟨⟨σ30, rfl, ⟨Fr.tr (Fr.tr (Fr.tr (Fr.tr (Fr.tr (Fr.rf) (sI_f eσ1) (fN_O mem0)) hF7 (fO_sub (fun _ q => q))) (sI_f eσ17) (fN_O mem0)) hF23 (fO_sub (fun _ q => q))) (sI_f eσ30) (fN_O mem0), hJ31, trivial⟩, (show va_P D clz (WD8 cy g σ30) tS.heap by rw [ht]; exact hP)⟩, hS.F ht⟩) hS.2.2 dX1_aim_184
    ·
      intro nj26
      refine lv_icmp_ge (tgt := 174) hx hb dX1_aim_96 (by decide) (fun c32 => ?_) (fun c32 => ?_)
      ·
        have k33 := ple32 c32
        exact nj26 (σ22, lf [], lg []) ⟨rfl, trivial⟩ _ _ _ hP hS (lv_sub hl [0, 1, 2, 3, 4] rfl)
      ·
        have k34 := nle32 c32
        refine lv_iload hx hb dX1_aim_99 (lv_at hl 0 rfl) ?_
        refine lv_bipush (v := 16) hx hb dX1_aim_101 (by decide) ?_
        refine lv_icmp_ge (tgt := 174) hx hb dX1_aim_103 (by decide) (fun c35 => ?_) (fun c35 => ?_)
        ·
          have k36 := ple32 c35
          exact False.elim (by have f0 := b25; have f1 := k34; have f2 := k36; have f3 := j8_1_1 hJ24 rfl; have g0 := rg32 (y21.2.1 0); have z16 : (16 : Int32).toInt = 16 := (by decide); omega)
        ·
          have k37 := nle32 c35
          refine lv_aload_n hx hb dX1_aim_106 rfl (lv_at hl 1 rfl) ?_
          refine g8_1_6 hx hb hts hown hK hP (hts _ q373) dX1_aim_107 ?_
          refine lv_iload hx hb dX1_aim_110 (lv_at hl 0 rfl) ?_
          refine lv_aload_n hx hb dX1_aim_112 rfl (lv_at hl 2 rfl) ?_
          refine lv_iload_n hx hb dX1_aim_113 rfl (lv_at hl 4 rfl) ?_
          refine lv_iload hx hb dX1_aim_114 (lv_at hl 0 rfl) ?_
          refine va_calli (va_runV (As := [.int p3, .int (y21.2.1 0)]) (rest := [.int (y21.2.1 0), .ref (gR g 15 6)]) ⟨hx, hb, hml, hown, hts⟩ (m_X0_isRest l D cy g σ22  d1 p3 (y21.2.1 0) _ hJ24 (show 0 ≤ d1 ∧ d1 < 5 from hd1) (show (0 : Int) ≤ (y21.2.1 0).toInt ∧ (y21.2.1 0).toInt ≤ 15 from (by have f0 := b25; have f1 := k34; have f2 := k37; have f3 := j8_1_1 hJ24 rfl; have g0 := rg32 (y21.2.1 0); have z16 : (16 : Int32).toInt = 16 := (by decide); omega))) (cwV 2 hts (gd_V q1175 q750 q751 q127 q752) rfl rfl rfl (by decide +kernel) ⟨(Nat.le_of_ble_eq_true rfl), (Nat.le_of_ble_eq_true rfl)⟩) (pv8 hP hK hD hC hS (rv8_0 hK hP hd1)) rfl rfl hl.1 rfl (lv_room (Nat.le_of_ble_eq_true rfl)) dX1_aim_116 ⟨Nat.le_of_ble_eq_true rfl, Nat.le_of_ble_eq_true rfl⟩) hS (fun q _ h => up8 hS q h) (up8 hS) (fun r38 σ39 tS H1 locs ht hvm hw40 hB hz1 hk1 hS => ?_)
          have hP : va_P D clz (WD8 cy g σ39) H1 := by rw [← ht]; exact hB
          clear hB hz1 hk1 hvm ht
          generalize H1 = H at hP hS ⊢
          have hw40E : σ22 = σ39 := (hw40.1).symm
          subst hw40E
          have b41 : (0 : Int) ≤ r38.toInt ∧ r38.toInt ≤ 1 := hw40.2.1
          refine cut8 (D := D) (cy := cy) (g := g) (A := A8 cy g s.heap.size) (H0 := s.heap) 5 127 (fun x : LZ => [(4, .int (y21.2.1 0)), (0, .ref (gO g 15)), (1, .ref (gO g d1)), (2, .int p2), (3, .int p3)]) (fun x : LZ => [.int (x.2.1 0), .int (y21.2.1 0), .ref (gR g 15 6)]) (fun x : LZ => (x.1 = σ22) ∧ ((0 : Int) ≤ (x.2.1 0).toInt ∧ (x.2.1 0).toInt ≤ 1) ∧ True) ?_ ?_
          ·
            intro y44 hI43 H locs ls hP hS hl
            rw [show y44.1 = σ22 from hI43.1] at hP
            have b45 : (0 : Int) ≤ (y44.2.1 0).toInt ∧ (y44.2.1 0).toInt ≤ 1 := hI43.2.1
            have hl : lv_has ls 5 [(4, .int (y21.2.1 0)), (0, .ref (gO g 15)), (1, .ref (gO g d1)), (2, .int p2), (3, .int p3)] := hl
            refine W.eq (g2 := F0 m 127 ls [.int (y44.2.1 0), .int (y21.2.1 0), .ref (gR g 15 6)]) rfl ?_
            refine t8_1_6 hx hb hK hP hD hS (vpo (by have f0 := b25; have f1 := k34; have f2 := k37; have f3 := j8_1_1 hJ24 rfl; have g0 := rg32 (y21.2.1 0); have z16 : (16 : Int32).toInt = 16 := (by decide); omega)) dX1_aim_127 (fun H locs σ46 eσ46 hP hS => ?_)
            have hJ47 : J8 σ46 := hJ24.A eσ46 rfl (show PA8 1 6 (y44.2.1 0) from trivial)
            refine lv_aload_n hx hb dX1_aim_128 rfl (lv_at hl 1 rfl) ?_
            refine g8_1_5 hx hb hts hown hK hP (hts _ q372) dX1_aim_129 ?_
            refine lv_iload hx hb dX1_aim_132 (lv_at hl 0 rfl) ?_
            refine lv_iconst (v := 1) hx hb dX1_aim_134 (by decide) ?_
            refine lv_iadd hx hb dX1_aim_135 ?_
            refine lv_topi (fun x48 ex48 => ?_)
            have t49 := addO ex48 (by have f0 := b25; have f1 := k34; have f2 := k37; have f3 := j8_1_1 hJ24 rfl; have g0 := rg32 (y21.2.1 0); have z1 : (1 : Int32).toInt = 1 := (by decide); have z16 : (16 : Int32).toInt = 16 := (by decide); omega)
            refine lv_aload_n hx hb dX1_aim_136 rfl (lv_at hl 1 rfl) ?_
            refine g8_1_5 hx hb hts hown hK hP (hts _ q372) dX1_aim_137 ?_
            refine lv_iload hx hb dX1_aim_140 (lv_at hl 0 rfl) ?_
            obtain ⟨x50, ex50⟩ : ∃ z, (σ22 15).2.2.1 5 (y21.2.1 0).toInt.toNat = z := ⟨_, rfl⟩
            refine l8_1_5 (x := x50) hx hb hK hP (vpo (by have f0 := b25; have f1 := k34; have f2 := k37; have f3 := t49; have f4 := j8_1_1 hJ24 rfl; have g0 := rg32 (y21.2.1 0); have z1 : (1 : Int32).toInt = 1 := (by decide); have z16 : (16 : Int32).toInt = 16 := (by decide); omega)) ((congrFun (((sA_f eσ46) 15 5 (fN_k rfl)).2.2.1) _).trans ex50) dX1_aim_142 ?_
            refine lv_aload_n hx hb dX1_aim_143 rfl (lv_at hl 1 rfl) ?_
            refine g8_1_6 hx hb hts hown hK hP (hts _ q373) dX1_aim_144 ?_
            refine lv_iload hx hb dX1_aim_147 (lv_at hl 0 rfl) ?_
            obtain ⟨x51, ex51⟩ : ∃ z, (σ46 15).2.2.1 6 (y21.2.1 0).toInt.toNat = z := ⟨_, rfl⟩
            refine l8_1_6 (x := x51) hx hb hK hP (vpo (by have f0 := b25; have f1 := k34; have f2 := k37; have f3 := t49; have f4 := j8_1_1 hJ24 rfl; have g0 := rg32 (y21.2.1 0); have z1 : (1 : Int32).toInt = 1 := (by decide); have z16 : (16 : Int32).toInt = 16 := (by decide); omega)) ex51 dX1_aim_149 ?_
            refine lv_iconst (v := 1) hx hb dX1_aim_150 (by decide) ?_
            refine cut8 (D := D) (cy := cy) (g := g) (A := A8 cy g s.heap.size) (H0 := s.heap) 5 166 (fun x : LZ => [(4, .int (y21.2.1 0)), (0, .ref (gO g 15)), (1, .ref (gO g d1)), (2, .int p2), (3, .int p3)]) (fun x : LZ => [.int (x.2.1 0), .int x50, .int x48, .ref (gR g 15 5)]) (fun x : LZ => (x.1 = σ46) ∧ True) ?_ ?_
            ·
              intro y54 hI53 H locs ls hP hS hl
              rw [show y54.1 = σ46 from hI53.1] at hP
              have hl : lv_has ls 5 [(4, .int (y21.2.1 0)), (0, .ref (gO g 15)), (1, .ref (gO g d1)), (2, .int p2), (3, .int p3)] := hl
              refine W.eq (g2 := F0 m 166 ls [.int (y54.2.1 0), .int x50, .int x48, .ref (gR g 15 5)]) rfl ?_
              refine lv_iadd hx hb dX1_aim_166 ?_
              refine lv_topi (fun x55 ex55 => ?_)
              refine t8_1_5 hx hb hK hP hD hS (vpo (by have f0 := t49; have f1 := b25; have f2 := k34; have f3 := k37; have f4 := j8_1_1 hJ24 rfl; have g0 := rg32 x48; have z1 : (1 : Int32).toInt = 1 := (by decide); have z16 : (16 : Int32).toInt = 16 := (by decide); omega)) dX1_aim_167 (fun H locs σ56 eσ56 hP hS => ?_)
              have hJ57 : J8 σ56 := hJ47.A eσ56 rfl (show PA8 1 5 x55 from trivial)
              obtain ⟨x58, ex58⟩ : ∃ y : Int32, y = (y21.2.1 0) + 1 := ⟨_, rfl⟩
              have t59 := addO ex58 (by have f0 := b25; have f1 := k34; have f2 := k37; have f3 := t49; have f4 := j8_1_1 hJ24 rfl; have g0 := rg32 (y21.2.1 0); have z1 : (1 : Int32).toInt = 1 := (by decide); have z16 : (16 : Int32).toInt = 16 := (by decide); omega)
              refine lv_iinc (v := x58) (lv' := [(4, .int x58), (0, .ref (gO g 15)), (1, .ref (gO g d1)), (2, .int p2), (3, .int p3)]) hx hb dX1_aim_168 hl (k := 0) rfl (by rw [ex58]; rfl) (by decide) rfl (fun ls hl => ?_)
              refine lv_goto (tgt := 90) hx hb dX1_aim_171 (by decide) ?_
              have t60 : ((17 : Int) - x58.toInt).toNat < ((17 : Int) - (y21.2.1 0).toInt).toNat := (by have f0 := b25; have f1 := k34; have f2 := k37; have f3 := t49; have f4 := t59; have f5 := j8_1_1 hJ24 rfl; have g0 := rg32 (y21.2.1 0); have g1 := rg32 x58; have z1 : (1 : Int32).toInt = 1 := (by decide); have z16 : (16 : Int32).toInt = 16 := (by decide); omega)
              exact nl19 (σ56, lf [x58], lg []) ⟨Fr.tr (Fr.tr (Fr.tr (Fr.rf) hF23 (fO_sub (fun _ q => q))) (sA_f eσ46) (fN_O mem0)) (sA_f eσ56) (fN_O mem0), hJ57, (show (0 : Int) ≤ (x58 : Int32).toInt ∧ (x58 : Int32).toInt ≤ 16 from (by have f0 := t59; have f1 := b25; have f2 := k34; have f3 := k37; have f4 := t49; have f5 := j8_1_1 hJ24 rfl; have g0 := rg32 x58; have z1 : (1 : Int32).toInt = 1 := (by decide); have z16 : (16 : Int32).toInt = 16 := (by decide); omega)), trivial⟩ (show ((17 : Int) - x58.toInt).toNat < _ from by first | exact t60 | (rw [← eσ22]; exact t60)) _ _ _ hP hS (lv_sub hl [0, 1, 2, 3, 4] rfl)
            ·
              intro nj52
              refine lv_icmp_ne (tgt := 158) hx hb dX1_aim_151 (by decide) (fun c61 => ?_) (fun c61 => ?_)
              ·
                have k62 := neq32 c61
                refine lv_aload_n hx hb dX1_aim_158 rfl (lv_at hl 2 rfl) ?_
                refine lv_iload_n hx hb dX1_aim_159 rfl (lv_at hl 4 rfl) ?_
                refine lv_iload hx hb dX1_aim_160 (lv_at hl 0 rfl) ?_
                refine lv_iconst (v := 1) hx hb dX1_aim_162 (by decide) ?_
                refine va_calli (va_runV (As := [.int p3, .int (y21.2.1 0), .int 1]) (rest := [.int x50, .int x48, .ref (gR g 15 5)]) ⟨hx, hb, hml, hown, hts⟩ (m_X0_toneField l D cy g σ46  d1 p3 (y21.2.1 0) (1) _ hJ47 (show 0 ≤ d1 ∧ d1 < 5 from hd1)) (cwV 3 hts (gd_V q1176 q661 q662 q127 q663) rfl rfl rfl (by decide +kernel) ⟨(Nat.le_of_ble_eq_true rfl), (Nat.le_of_ble_eq_true rfl)⟩) (pv8 hP hK hD hC hS (rv8_0 hK hP hd1)) rfl rfl hl.1 rfl (lv_room (Nat.le_of_ble_eq_true rfl)) dX1_aim_163 ⟨Nat.le_of_ble_eq_true rfl, Nat.le_of_ble_eq_true rfl⟩) hS (fun q _ h => up8 hS q h) (up8 hS) (fun r63 σ64 tS H1 locs ht hvm hw65 hB hz1 hk1 hS => ?_)
                have hP : va_P D clz (WD8 cy g σ64) H1 := by rw [← ht]; exact hB
                clear hB hz1 hk1 hvm ht
                generalize H1 = H at hP hS ⊢
                have hw65E : σ46 = σ64 := (hw65.1).symm
                subst hw65E
                exact nj52 (σ46, lf [r63], lg []) ⟨rfl, trivial⟩ _ _ _ hP hS (lv_sub hl [0, 1, 2, 3, 4] rfl)
              ·
                have k66 := peq32 c61
                refine lv_iconst (v := 0) hx hb dX1_aim_154 (by decide) ?_
                refine lv_goto (tgt := 166) hx hb dX1_aim_155 (by decide) ?_
                exact nj52 (σ46, lf [0], lg []) ⟨rfl, trivial⟩ _ _ _ hP hS (lv_sub hl [0, 1, 2, 3, 4] rfl)
          ·
            intro nj42
            refine lv_if_eq (tgt := 126) hx hb dX1_aim_119 (by decide) (fun c67 => ?_) (fun c67 => ?_)
            ·
              have k68 := peq32 c67
              refine lv_iconst (v := 0) hx hb dX1_aim_126 (by decide) ?_
              exact nj42 (σ22, lf [0], lg []) ⟨rfl, (show (0 : Int) ≤ (0 : Int32).toInt ∧ (0 : Int32).toInt ≤ 1 from (by have z0 : (0 : Int32).toInt = 0 := (by decide); omega)), trivial⟩ _ _ _ hP hS (lv_sub hl [0, 1, 2, 3, 4] rfl)
            ·
              have k69 := neq32 c67
              refine lv_iconst (v := 1) hx hb dX1_aim_122 (by decide) ?_
              refine lv_goto (tgt := 127) hx hb dX1_aim_123 (by decide) ?_
              exact nj42 (σ22, lf [1], lg []) ⟨rfl, (show (0 : Int) ≤ (1 : Int32).toInt ∧ (1 : Int32).toInt ≤ 1 from (by have z1 : (1 : Int32).toInt = 1 := (by decide); omega)), trivial⟩ _ _ _ hP hS (lv_sub hl [0, 1, 2, 3, 4] rfl)
  ·
    intro nj10
    refine lv_icmp_ge (tgt := 78) hx hb dX1_aim_14 (by decide) (fun c70 => ?_) (fun c70 => ?_)
    ·
      have k71 := ple32 c70
      exact nj10 (σ6, lf [], lg []) ⟨rfl, trivial⟩ _ _ _ hP hS (lv_sub hl [0, 1, 2, 3, 4] rfl)
    ·
      have k72 := nle32 c70
      refine lv_aload_n hx hb dX1_aim_17 rfl (lv_at hl 1 rfl) ?_
      refine g8_1_0 (x := ((σ6 15).1 0)) hx hb hts hown hK hP (rfl) (hts _ q367) dX1_aim_18 ?_
      refine lv_iconst (v := 3) hx hb dX1_aim_21 (by decide) ?_
      refine lv_icmp_ge (tgt := 78) hx hb dX1_aim_22 (by decide) (fun c73 => ?_) (fun c73 => ?_)
      ·
        have k74 := ple32 c73
        exact nj10 (σ6, lf [], lg []) ⟨rfl, trivial⟩ _ _ _ hP hS (lv_sub hl [0, 1, 2, 3, 4] rfl)
      ·
        have k75 := nle32 c73
        refine lv_iload_n hx hb dX1_aim_25 rfl (lv_at hl 3 rfl) ?_
        refine lv_iload hx hb dX1_aim_26 (lv_at hl 0 rfl) ?_
        refine lv_ishr hx hb dX1_aim_28 ?_
        refine lv_topi (fun x76 ex76 => ?_)
        refine lv_iconst (v := 1) hx hb dX1_aim_29 (by decide) ?_
        refine lv_iand hx hb dX1_aim_30 ?_
        refine lv_topi (fun x77 ex77 => ?_)
        have t78 := andM 1 ex77 (by decide) (by decide)
        refine lv_iconst (v := 1) hx hb dX1_aim_31 (by decide) ?_
        refine cut8 (D := D) (cy := cy) (g := g) (A := A8 cy g s.heap.size) (H0 := s.heap) 5 72 (fun x : LZ => [(4, .int (y5.2.1 0)), (0, .ref (gO g 15)), (1, .ref (gO g d1)), (2, .int p2), (3, .int p3)]) (fun x : LZ => []) (fun x : LZ => (Fr (fO [15]) σ6 x.1) ∧ (J8 x.1) ∧ True) ?_ ?_
        ·
          intro y81 hI80 H locs ls hP hS hl
          obtain ⟨σ82, eσ82⟩ : ∃ z, z = y81.1 := ⟨_, rfl⟩
          rw [← eσ82] at hP hI80
          have hF83 : Fr (fO [15]) σ6 σ82 := hI80.1
          have hJ84 : J8 σ82 := hI80.2.1
          have hl : lv_has ls 5 [(4, .int (y5.2.1 0)), (0, .ref (gO g 15)), (1, .ref (gO g d1)), (2, .int p2), (3, .int p3)] := hl
          obtain ⟨x85, ex85⟩ : ∃ y : Int32, y = (y5.2.1 0) + 1 := ⟨_, rfl⟩
          have t86 := addO ex85 (by have f0 := b9; have f1 := k72; have f2 := j8_0_4 hJ hd1 rfl; have g0 := rg32 (y5.2.1 0); have z1 : (1 : Int32).toInt = 1 := (by decide); omega)
          refine lv_iinc (v := x85) (lv' := [(4, .int x85), (0, .ref (gO g 15)), (1, .ref (gO g d1)), (2, .int p2), (3, .int p3)]) hx hb dX1_aim_72 hl (k := 0) rfl (by rw [ex85]; rfl) (by decide) rfl (fun ls hl => ?_)
          refine lv_goto (tgt := 8) hx hb dX1_aim_75 (by decide) ?_
          have t87 : ((10 : Int) - x85.toInt).toNat < ((10 : Int) - (y5.2.1 0).toInt).toNat := (by have f0 := b9; have f1 := k72; have f2 := t86; have f3 := j8_0_4 hJ hd1 rfl; have g0 := rg32 (y5.2.1 0); have g1 := rg32 x85; have z1 : (1 : Int32).toInt = 1 := (by decide); omega)
          exact nl3 (σ82, lf [x85], lg []) ⟨Fr.tr (Fr.tr (Fr.rf) hF7 (fO_sub (fun _ q => q))) hF83 (fO_sub (fun _ q => q)), hJ84, (show (0 : Int) ≤ (x85 : Int32).toInt ∧ (x85 : Int32).toInt ≤ 9 from (by have f0 := t86; have f1 := b9; have f2 := k72; have f3 := j8_0_4 hJ hd1 rfl; have g0 := rg32 x85; have z1 : (1 : Int32).toInt = 1 := (by decide); omega)), trivial⟩ (show ((10 : Int) - x85.toInt).toNat < _ from by first | exact t87 | (rw [← eσ6]; exact t87)) _ _ _ hP hS (lv_sub hl [0, 1, 2, 3, 4] rfl)
        ·
          intro nj79
          refine lv_icmp_ne (tgt := 72) hx hb dX1_aim_32 (by decide) (fun c88 => ?_) (fun c88 => ?_)
          ·
            have k89 := neq32 c88
            exact nj79 (σ6, lf [], lg []) ⟨Fr.rf, hJ8, trivial⟩ _ _ _ hP hS (lv_sub hl [0, 1, 2, 3, 4] rfl)
          ·
            have k90 := peq32 c88
            refine lv_aload_n hx hb dX1_aim_35 rfl (lv_at hl 1 rfl) ?_
            refine g8_1_3 hx hb hts hown hK hP (hts _ q370) dX1_aim_36 ?_
            refine lv_aload_n hx hb dX1_aim_39 rfl (lv_at hl 1 rfl) ?_
            refine g8_1_0 (x := ((σ6 15).1 0)) hx hb hts hown hK hP (rfl) (hts _ q367) dX1_aim_40 ?_
            refine lv_iload hx hb dX1_aim_43 (lv_at hl 0 rfl) ?_
            refine t8_1_3 hx hb hK hP hD hS (vpo (by have f0 := j8_1_0 hJ8 rfl; have f1 := k75; have z3 : (3 : Int32).toInt = 3 := (by decide); omega)) dX1_aim_45 (fun H locs σ91 eσ91 hP hS => ?_)
            have hJ92 : J8 σ91 := hJ8.A eσ91 rfl (show PA8 1 3 (y5.2.1 0) from trivial)
            refine lv_aload_n hx hb dX1_aim_46 rfl (lv_at hl 1 rfl) ?_
            refine g8_1_4 hx hb hts hown hK hP (hts _ q371) dX1_aim_47 ?_
            refine lv_aload_n hx hb dX1_aim_50 rfl (lv_at hl 1 rfl) ?_
            refine g8_1_0 (x := ((σ6 15).1 0)) hx hb hts hown hK hP (((sA_f eσ91) 15 0 (fN_k rfl)).1) (hts _ q367) dX1_aim_51 ?_
            refine lv_aload_n hx hb dX1_aim_54 rfl (lv_at hl 2 rfl) ?_
            refine lv_iload hx hb dX1_aim_55 (lv_at hl 0 rfl) ?_
            refine lv_iconst (v := 2) hx hb dX1_aim_57 (by decide) ?_
            refine va_calli (va_runV (As := [.int (y5.2.1 0), .int 2]) (rest := [.int ((σ6 15).1 0), .ref (gR g 15 4)]) ⟨hx, hb, hml, hown, hts⟩ (m_X0_playerField l D cy g σ91  d1 (y5.2.1 0) (2) _ hJ92 (show 0 ≤ d1 ∧ d1 < 5 from hd1)) (cwV 2 hts (gd_V q1173 q726 q727 q127 q728) rfl rfl rfl (by decide +kernel) ⟨(Nat.le_of_ble_eq_true rfl), (Nat.le_of_ble_eq_true rfl)⟩) (pv8 hP hK hD hC hS (rv8_0 hK hP hd1)) rfl rfl hl.1 rfl (lv_room (Nat.le_of_ble_eq_true rfl)) dX1_aim_58 ⟨Nat.le_of_ble_eq_true rfl, Nat.le_of_ble_eq_true rfl⟩) hS (fun q _ h => up8 hS q h) (up8 hS) (fun r93 σ94 tS H1 locs ht hvm hw95 hB hz1 hk1 hS => ?_)
            have hP : va_P D clz (WD8 cy g σ94) H1 := by rw [← ht]; exact hB
            clear hB hz1 hk1 hvm ht
            generalize H1 = H at hP hS ⊢
            have hw95E : σ91 = σ94 := (hw95.1).symm
            subst hw95E
            refine t8_1_4 hx hb hK hP hD hS (vpo (by have f0 := j8_1_0 hJ8 rfl; have f1 := k75; have z3 : (3 : Int32).toInt = 3 := (by decide); omega)) dX1_aim_61 (fun H locs σ96 eσ96 hP hS => ?_)
            have hJ97 : J8 σ96 := hJ92.A eσ96 rfl (show PA8 1 4 r93 from trivial)
            refine lv_aload_n hx hb dX1_aim_62 rfl (lv_at hl 1 rfl) ?_
            refine lv_dup hx hb dX1_aim_63 rfl ?_
            refine g8_1_0 (x := ((σ6 15).1 0)) hx hb hts hown hK hP ((((sA_f eσ96) 15 0 (fN_k rfl)).1).trans (((sA_f eσ91) 15 0 (fN_k rfl)).1)) (hts _ q367) dX1_aim_64 ?_
            refine lv_iconst (v := 1) hx hb dX1_aim_67 (by decide) ?_
            refine lv_iadd hx hb dX1_aim_68 ?_
            refine lv_topi (fun x98 ex98 => ?_)
            have t99 := addO ex98 (by have f0 := j8_1_0 hJ8 rfl; have f1 := k75; have z1 : (1 : Int32).toInt = 1 := (by decide); have z3 : (3 : Int32).toInt = 3 := (by decide); omega)
            refine p8_1_0 hx hb hts hown hK hP hD hS (hts _ q367) dX1_aim_69 (fun H locs σ100 eσ100 hP hS => ?_)
            have hJ101 : J8 σ100 := hJ97.I eσ100 rfl (show JI8 1 0 x98 from (by have f0 := t99; have f1 := j8_1_0 hJ8 rfl; have f2 := k75; have g0 := rg32 x98; have z1 : (1 : Int32).toInt = 1 := (by decide); have z3 : (3 : Int32).toInt = 3 := (by decide); exact ⟨by omega, by omega⟩))
            exact nj79 (σ100, lf [], lg []) ⟨Fr.tr (Fr.tr (Fr.tr (Fr.rf) (sA_f eσ91) (fN_O mem0)) (sA_f eσ96) (fN_O mem0)) (sI_f eσ100) (fN_O mem0), hJ101, trivial⟩ _ _ _ hP hS (lv_sub hl [0, 1, 2, 3, 4] rfl)

theorem q1187 : Cond.code yX1_cellOf cX1_cellOf 5 (some .int) ∈ lw_g := lw_gm (List.mem_of_getElem? (i := 1187) (by decide +kernel)) rfl
theorem dX1_cellOf_0 : decode cX1_cellOf 0 = .ok (.iload_n 0, 1) := by decide +kernel
theorem dX1_cellOf_1 : decode cX1_cellOf 1 = .ok (.iload_n 0, 1) := by decide +kernel
theorem dX1_cellOf_2 : decode cX1_cellOf 2 = .ok (.iconst 1, 1) := by decide +kernel
theorem dX1_cellOf_3 : decode cX1_cellOf 3 = .ok (.iadd, 1) := by decide +kernel
theorem dX1_cellOf_4 : decode cX1_cellOf 4 = .ok (.imul, 1) := by decide +kernel
theorem dX1_cellOf_5 : decode cX1_cellOf 5 = .ok (.iconst 2, 1) := by decide +kernel
theorem dX1_cellOf_6 : decode cX1_cellOf 6 = .ok (.idiv, 1) := by decide +kernel
theorem dX1_cellOf_7 : decode cX1_cellOf 7 = .ok (.istore 4, 2) := by decide +kernel
theorem dX1_cellOf_9 : decode cX1_cellOf 9 = .ok (.iload 4, 2) := by decide +kernel
theorem dX1_cellOf_11 : decode cX1_cellOf 11 = .ok (.iload 4, 2) := by decide +kernel
theorem dX1_cellOf_13 : decode cX1_cellOf 13 = .ok (.imul, 1) := by decide +kernel
theorem dX1_cellOf_14 : decode cX1_cellOf 14 = .ok (.iload_n 1, 1) := by decide +kernel
theorem dX1_cellOf_15 : decode cX1_cellOf 15 = .ok (.iload_n 0, 1) := by decide +kernel
theorem dX1_cellOf_16 : decode cX1_cellOf 16 = .ok (.iconst 1, 1) := by decide +kernel
theorem dX1_cellOf_17 : decode cX1_cellOf 17 = .ok (.iadd, 1) := by decide +kernel
theorem dX1_cellOf_18 : decode cX1_cellOf 18 = .ok (.imul, 1) := by decide +kernel
theorem dX1_cellOf_19 : decode cX1_cellOf 19 = .ok (.iload_n 2, 1) := by decide +kernel
theorem dX1_cellOf_20 : decode cX1_cellOf 20 = .ok (.iadd, 1) := by decide +kernel
theorem dX1_cellOf_21 : decode cX1_cellOf 21 = .ok (.iload_n 0, 1) := by decide +kernel
theorem dX1_cellOf_22 : decode cX1_cellOf 22 = .ok (.iconst 1, 1) := by decide +kernel
theorem dX1_cellOf_23 : decode cX1_cellOf 23 = .ok (.iadd, 1) := by decide +kernel
theorem dX1_cellOf_24 : decode cX1_cellOf 24 = .ok (.imul, 1) := by decide +kernel
theorem dX1_cellOf_25 : decode cX1_cellOf 25 = .ok (.iadd, 1) := by decide +kernel
theorem dX1_cellOf_26 : decode cX1_cellOf 26 = .ok (.iload_n 3, 1) := by decide +kernel
theorem dX1_cellOf_27 : decode cX1_cellOf 27 = .ok (.iadd, 1) := by decide +kernel
theorem dX1_cellOf_28 : decode cX1_cellOf 28 = .ok (.ireturn, 1) := by decide +kernel
set_option maxHeartbeats 4000000 in
set_option maxRecDepth 100000 in
theorem m_X1_cellOf (l : Launch) (D : va_G) (cy : Nat → ClassId) (g : Nat → Nat) (σ : ST) (p0 : Int32) (p1 : Int32) (p2 : Int32) (p3 : Int32) (sz : Nat) (hJ : J8 σ) (h0 : (0 : Int) ≤ p0.toInt ∧ p0.toInt ≤ 15) (h1 : (0 : Int) ≤ p1.toInt ∧ p1.toInt ≤ 16) (h2 : (0 : Int) ≤ p2.toInt ∧ p2.toInt ≤ 16) (h3 : (0 : Int) ≤ p3.toInt ∧ p3.toInt ≤ 16) : Met l yX1_cellOf (ww yX1_cellOf cX1_cellOf 5 (some .int)) ({ frames := 1, cells := 0, slots := 0, locals := 64 }) (va_Pc [.int p0, .int p1, .int p2, .int p3] (pr8 D cy g σ sz)) (qi8 D cy g sz (fun r τ => τ = σ ∧ ((0 : Int) ≤ r.toInt ∧ r.toInt ≤ 61968) ∧ True)) 0 0 (A8 cy g sz) := by
  refine Met.ofW (cc := cX1_cellOf) (maxL := 5) (ret := (some .int)) (by decide) rfl ?_
  intro p e s m args below meth c s₁ B hml hv
  obtain ⟨rfl, hsz, hP, hK, hD0, hC⟩ := hv
  have hx := B.exec
  have hb := B.bytes
  have hr := B.returns
  have hts := hts_g (atoms_spec (ws := ww yX1_cellOf cX1_cellOf 5 (some .int)) B.pre)
  have hown : s.vm.findClass RX1 = some m.cls := findClass_of_methodNamed B.named
  have hlocks := B.notSynchronized
  clear B
  subst hsz
  have hD := fun τ => A8_D (sz := s.heap.size) hD0 τ
  clear hD0
  have hS : va_S (A8 cy g s.heap.size) s.heap s.heap [] := va_S.rf
  have hl := lv_entry ([.int p0, .int p1, .int p2, .int p3]) (n := 5) (Nat.le_of_ble_eq_true rfl)
  rw [lg_entry_eq]
  generalize (lg_sl ([.int p0, .int p1, .int p2, .int p3]) ++ List.replicate (5 - (lg_sl ([.int p0, .int p1, .int p2, .int p3])).length) Slot.unset).toArray = ls at hl ⊢
  have hl : lv_has ls 5 [(0, .int p0), (1, .int p1), (2, .int p2), (3, .int p3)] := hl
  refine lv_iload_n hx hb dX1_cellOf_0 rfl (lv_at hl 0 rfl) ?_
  refine lv_iload_n hx hb dX1_cellOf_1 rfl (lv_at hl 0 rfl) ?_
  refine lv_iconst (v := 1) hx hb dX1_cellOf_2 (by decide) ?_
  refine lv_iadd hx hb dX1_cellOf_3 ?_
  refine lv_topi (fun x1 ex1 => ?_)
  have t2 := addO ex1 (by have f0 := h0; have g0 := rg32 p0; have z1 : (1 : Int32).toInt = 1 := (by decide); omega)
  refine lv_imul hx hb dX1_cellOf_4 ?_
  refine lv_topi (fun x3 ex3 => ?_)
  have t4 := mulP ex3 (show (0 : Int) ≤ p0.toInt ∧ p0.toInt ≤ 15 from (by have f0 := h0; have f1 := t2; have g0 := rg32 p0; have z1 : (1 : Int32).toInt = 1 := (by decide); omega)) (show (1 : Int) ≤ x1.toInt ∧ x1.toInt ≤ 16 from (by have f0 := t2; have f1 := h0; have g0 := rg32 x1; have z1 : (1 : Int32).toInt = 1 := (by decide); omega)) (by decide) (by decide) (by decide)
  refine lv_iconst (v := 2) hx hb dX1_cellOf_5 (by decide) ?_
  refine lv_idiv hx hb dX1_cellOf_6 (by decide) ?_
  refine lv_topi (fun x5 ex5 => ?_)
  have t6 := divC (n := 2) ex5 (by decide) (by have f0 := t4; have g0 := rg32 x3; omega)
  refine lv_istore (lv' := [(4, .int x5), (0, .int p0), (1, .int p1), (2, .int p2), (3, .int p3)]) hx hb dX1_cellOf_7 hl (by decide) rfl (fun ls hl => ?_)
  refine lv_iload hx hb dX1_cellOf_9 (lv_at hl 0 rfl) ?_
  refine lv_iload hx hb dX1_cellOf_11 (lv_at hl 0 rfl) ?_
  refine lv_imul hx hb dX1_cellOf_13 ?_
  refine lv_topi (fun x7 ex7 => ?_)
  have t8 := mulP ex7 (show (0 : Int) ≤ x5.toInt ∧ x5.toInt ≤ 120 from (by have f0 := t6; have f1 := t4; have g0 := rg32 x5; omega)) (show (0 : Int) ≤ x5.toInt ∧ x5.toInt ≤ 120 from (by have f0 := t6; have f1 := t4; have g0 := rg32 x5; omega)) (by decide) (by decide) (by decide)
  refine lv_iload_n hx hb dX1_cellOf_14 rfl (lv_at hl 2 rfl) ?_
  refine lv_iload_n hx hb dX1_cellOf_15 rfl (lv_at hl 1 rfl) ?_
  refine lv_iconst (v := 1) hx hb dX1_cellOf_16 (by decide) ?_
  refine lv_iadd hx hb dX1_cellOf_17 ?_
  refine lv_topi (fun x9 ex9 => ?_)
  have t10 := addO ex9 (by have f0 := h0; have f1 := t2; have g0 := rg32 p0; have z1 : (1 : Int32).toInt = 1 := (by decide); omega)
  refine lv_imul hx hb dX1_cellOf_18 ?_
  refine lv_topi (fun x11 ex11 => ?_)
  have t12 := mulP ex11 (show (0 : Int) ≤ p1.toInt ∧ p1.toInt ≤ 16 from (by have f0 := h1; have g0 := rg32 p1; omega)) (show (1 : Int) ≤ x9.toInt ∧ x9.toInt ≤ 16 from (by have f0 := t10; have f1 := h0; have f2 := t2; have g0 := rg32 x9; have z1 : (1 : Int32).toInt = 1 := (by decide); omega)) (by decide) (by decide) (by decide)
  refine lv_iload_n hx hb dX1_cellOf_19 rfl (lv_at hl 3 rfl) ?_
  refine lv_iadd hx hb dX1_cellOf_20 ?_
  refine lv_topi (fun x13 ex13 => ?_)
  have t14 := addO ex13 (by have f0 := h2; have f1 := t12; have g0 := rg32 p2; have g1 := rg32 x11; omega)
  refine lv_iload_n hx hb dX1_cellOf_21 rfl (lv_at hl 1 rfl) ?_
  refine lv_iconst (v := 1) hx hb dX1_cellOf_22 (by decide) ?_
  refine lv_iadd hx hb dX1_cellOf_23 ?_
  refine lv_topi (fun x15 ex15 => ?_)
  have t16 := addO ex15 (by have f0 := h0; have f1 := t2; have f2 := t10; have g0 := rg32 p0; have z1 : (1 : Int32).toInt = 1 := (by decide); omega)
  refine lv_imul hx hb dX1_cellOf_24 ?_
  refine lv_topi (fun x17 ex17 => ?_)
  have t18 := mulP ex17 (show (0 : Int) ≤ x13.toInt ∧ x13.toInt ≤ 272 from (by have f0 := t14; have f1 := h2; have f2 := t12; have g0 := rg32 x13; omega)) (show (1 : Int) ≤ x15.toInt ∧ x15.toInt ≤ 16 from (by have f0 := t16; have f1 := h0; have f2 := t2; have f3 := t10; have g0 := rg32 x15; have z1 : (1 : Int32).toInt = 1 := (by decide); omega)) (by decide) (by decide) (by decide)
  refine lv_iadd hx hb dX1_cellOf_25 ?_
  refine lv_topi (fun x19 ex19 => ?_)
  have t20 := addO ex19 (by have f0 := t8; have f1 := t18; have g0 := rg32 x17; have g1 := rg32 x7; omega)
  refine lv_iload_n hx hb dX1_cellOf_26 rfl (lv_at hl 4 rfl) ?_
  refine lv_iadd hx hb dX1_cellOf_27 ?_
  refine lv_topi (fun x21 ex21 => ?_)
  have t22 := addO ex21 (by have f0 := h3; have f1 := t20; have f2 := t8; have f3 := t18; have g0 := rg32 p3; have g1 := rg32 x19; omega)
  exact W.iret (v := x21) hx hb hr (fun tS ht hW => ⟨⟨x21, σ, rfl, ⟨rfl, (show (0 : Int) ≤ x21.toInt ∧ x21.toInt ≤ 61968 from (by have f0 := t22; have f1 := h3; have f2 := t20; have f3 := t8; have f4 := t18; have g0 := rg32 x21; omega)), trivial⟩, (show va_P D clz (WD8 cy g σ) tS.heap by rw [ht]; exact hP)⟩, hS.F ht⟩) hS.2.2 dX1_cellOf_28

theorem q1191 : Cond.code yX1_mostLeaving cX1_mostLeaving 1 (some .int) ∈ lw_g := lw_gm (List.mem_of_getElem? (i := 1191) (by decide +kernel)) rfl
theorem dX1_mostLeaving_0 : decode cX1_mostLeaving 0 = .ok (.aload_n 0, 1) := by decide +kernel
theorem dX1_mostLeaving_1 : decode cX1_mostLeaving 1 = .ok (.getfield 30, 3) := by decide +kernel
theorem dX1_mostLeaving_4 : decode cX1_mostLeaving 4 = .ok (.iconst 1, 1) := by decide +kernel
theorem dX1_mostLeaving_5 : decode cX1_mostLeaving 5 = .ok (.if_icmp .le 10, 3) := by decide +kernel
theorem dX1_mostLeaving_8 : decode cX1_mostLeaving 8 = .ok (.aload_n 0, 1) := by decide +kernel
theorem dX1_mostLeaving_9 : decode cX1_mostLeaving 9 = .ok (.getfield 30, 3) := by decide +kernel
theorem dX1_mostLeaving_12 : decode cX1_mostLeaving 12 = .ok (.goto 4, 3) := by decide +kernel
theorem dX1_mostLeaving_15 : decode cX1_mostLeaving 15 = .ok (.iconst 0, 1) := by decide +kernel
theorem dX1_mostLeaving_16 : decode cX1_mostLeaving 16 = .ok (.ireturn, 1) := by decide +kernel
set_option maxHeartbeats 4000000 in
set_option maxRecDepth 100000 in
theorem m_X1_mostLeaving (l : Launch) (D : va_G) (cy : Nat → ClassId) (g : Nat → Nat) (σ : ST)  (sz : Nat) (hJ : J8 σ)  : Met l yX1_mostLeaving (ww yX1_mostLeaving cX1_mostLeaving 1 (some .int)) ({ frames := 1, cells := 0, slots := 0, locals := 64 }) (va_Pc [.ref (gO g 15)] (pr8 D cy g σ sz)) (qi8 D cy g sz (fun r τ => τ = σ ∧ ((0 : Int) ≤ r.toInt ∧ r.toInt ≤ 3) ∧ True)) 0 0 (A8 cy g sz) := by
  refine Met.ofW (cc := cX1_mostLeaving) (maxL := 1) (ret := (some .int)) (by decide) rfl ?_
  intro p e s m args below meth c s₁ B hml hv
  obtain ⟨rfl, hsz, hP, hK, hD0, hC⟩ := hv
  have hx := B.exec
  have hb := B.bytes
  have hr := B.returns
  have hts := hts_g (atoms_spec (ws := ww yX1_mostLeaving cX1_mostLeaving 1 (some .int)) B.pre)
  have hown : s.vm.findClass RX1 = some m.cls := findClass_of_methodNamed B.named
  have hlocks := B.notSynchronized
  clear B
  subst hsz
  have hD := fun τ => A8_D (sz := s.heap.size) hD0 τ
  clear hD0
  have hS : va_S (A8 cy g s.heap.size) s.heap s.heap [] := va_S.rf
  have hl := lv_entry ([.ref (gO g 15)]) (n := 1) (Nat.le_of_ble_eq_true rfl)
  rw [lg_entry_eq]
  generalize (lg_sl ([.ref (gO g 15)]) ++ List.replicate (1 - (lg_sl ([.ref (gO g 15)])).length) Slot.unset).toArray = ls at hl ⊢
  have hl : lv_has ls 1 [(0, .ref (gO g 15))] := hl
  refine lv_aload_n hx hb dX1_mostLeaving_0 rfl (lv_at hl 0 rfl) ?_
  refine g8_1_0 (x := ((σ 15).1 0)) hx hb hts hown hK hP (rfl) (hts _ q367) dX1_mostLeaving_1 ?_
  refine lv_iconst (v := 1) hx hb dX1_mostLeaving_4 (by decide) ?_
  refine lv_icmp_le (tgt := 15) hx hb dX1_mostLeaving_5 (by decide) (fun c1 => ?_) (fun c1 => ?_)
  ·
    have k2 := ple32 c1
    refine lv_iconst (v := 0) hx hb dX1_mostLeaving_15 (by decide) ?_
    exact W.iret (v := 0) hx hb hr (fun tS ht hW => ⟨⟨0, σ, rfl, ⟨rfl, (show (0 : Int) ≤ (0 : Int32).toInt ∧ (0 : Int32).toInt ≤ 3 from (by have z0 : (0 : Int32).toInt = 0 := (by decide); omega)), trivial⟩, (show va_P D clz (WD8 cy g σ) tS.heap by rw [ht]; exact hP)⟩, hS.F ht⟩) hS.2.2 dX1_mostLeaving_16
  ·
    have k3 := nle32 c1
    refine lv_aload_n hx hb dX1_mostLeaving_8 rfl (lv_at hl 0 rfl) ?_
    refine g8_1_0 (x := ((σ 15).1 0)) hx hb hts hown hK hP (rfl) (hts _ q367) dX1_mostLeaving_9 ?_
    refine lv_goto (tgt := 16) hx hb dX1_mostLeaving_12 (by decide) ?_
    exact W.iret (v := ((σ 15).1 0)) hx hb hr (fun tS ht hW => ⟨⟨((σ 15).1 0), σ, rfl, ⟨rfl, (show (0 : Int) ≤ ((σ 15).1 0).toInt ∧ ((σ 15).1 0).toInt ≤ 3 from (by have f0 := j8_1_0 hJ rfl; have f1 := k3; have z1 : (1 : Int32).toInt = 1 := (by decide); omega)), trivial⟩, (show va_P D clz (WD8 cy g σ) tS.heap by rw [ht]; exact hP)⟩, hS.F ht⟩) hS.2.2 dX1_mostLeaving_16

theorem q1199 : Cond.code yX1_airDoes cX1_airDoes 4 (some .boolean) ∈ lw_g := lw_gm (List.mem_of_getElem? (i := 1199) (by decide +kernel)) rfl
theorem dX1_airDoes_0 : decode cX1_airDoes 0 = .ok (.iload_n 1, 1) := by decide +kernel
theorem dX1_airDoes_1 : decode cX1_airDoes 1 = .ok (.aload_n 0, 1) := by decide +kernel
theorem dX1_airDoes_2 : decode cX1_airDoes 2 = .ok (.getfield 30, 3) := by decide +kernel
theorem dX1_airDoes_5 : decode cX1_airDoes 5 = .ok (.if_icmp .ge 12, 3) := by decide +kernel
theorem dX1_airDoes_8 : decode cX1_airDoes 8 = .ok (.iload_n 2, 1) := by decide +kernel
theorem dX1_airDoes_9 : decode cX1_airDoes 9 = .ok (.ifCond .lt 8, 3) := by decide +kernel
theorem dX1_airDoes_12 : decode cX1_airDoes 12 = .ok (.iload_n 2, 1) := by decide +kernel
theorem dX1_airDoes_13 : decode cX1_airDoes 13 = .ok (.iload_n 3, 1) := by decide +kernel
theorem dX1_airDoes_14 : decode cX1_airDoes 14 = .ok (.if_icmp .le 5, 3) := by decide +kernel
theorem dX1_airDoes_17 : decode cX1_airDoes 17 = .ok (.iconst 1, 1) := by decide +kernel
theorem dX1_airDoes_18 : decode cX1_airDoes 18 = .ok (.ireturn, 1) := by decide +kernel
theorem dX1_airDoes_19 : decode cX1_airDoes 19 = .ok (.aload_n 0, 1) := by decide +kernel
theorem dX1_airDoes_20 : decode cX1_airDoes 20 = .ok (.getfield 18, 3) := by decide +kernel
theorem dX1_airDoes_23 : decode cX1_airDoes 23 = .ok (.iload_n 3, 1) := by decide +kernel
theorem dX1_airDoes_24 : decode cX1_airDoes 24 = .ok (.iconst 1, 1) := by decide +kernel
theorem dX1_airDoes_25 : decode cX1_airDoes 25 = .ok (.iadd, 1) := by decide +kernel
theorem dX1_airDoes_26 : decode cX1_airDoes 26 = .ok (.iaload, 1) := by decide +kernel
theorem dX1_airDoes_27 : decode cX1_airDoes 27 = .ok (.aload_n 0, 1) := by decide +kernel
theorem dX1_airDoes_28 : decode cX1_airDoes 28 = .ok (.getfield 18, 3) := by decide +kernel
theorem dX1_airDoes_31 : decode cX1_airDoes 31 = .ok (.iload_n 2, 1) := by decide +kernel
theorem dX1_airDoes_32 : decode cX1_airDoes 32 = .ok (.iaload, 1) := by decide +kernel
theorem dX1_airDoes_33 : decode cX1_airDoes 33 = .ok (.isub, 1) := by decide +kernel
theorem dX1_airDoes_34 : decode cX1_airDoes 34 = .ok (.aload_n 0, 1) := by decide +kernel
theorem dX1_airDoes_35 : decode cX1_airDoes 35 = .ok (.getfield 15, 3) := by decide +kernel
theorem dX1_airDoes_38 : decode cX1_airDoes 38 = .ok (.iload_n 1, 1) := by decide +kernel
theorem dX1_airDoes_39 : decode cX1_airDoes 39 = .ok (.iaload, 1) := by decide +kernel
theorem dX1_airDoes_40 : decode cX1_airDoes 40 = .ok (.if_icmp .gt 7, 3) := by decide +kernel
theorem dX1_airDoes_43 : decode cX1_airDoes 43 = .ok (.iconst 1, 1) := by decide +kernel
theorem dX1_airDoes_44 : decode cX1_airDoes 44 = .ok (.goto 4, 3) := by decide +kernel
theorem dX1_airDoes_47 : decode cX1_airDoes 47 = .ok (.iconst 0, 1) := by decide +kernel
theorem dX1_airDoes_48 : decode cX1_airDoes 48 = .ok (.ireturn, 1) := by decide +kernel
set_option maxHeartbeats 4000000 in
set_option maxRecDepth 100000 in
theorem m_X1_airDoes (l : Launch) (D : va_G) (cy : Nat → ClassId) (g : Nat → Nat) (σ : ST) (p1 : Int32) (p2 : Int32) (p3 : Int32) (sz : Nat) (hJ : J8 σ) (h0 : (0 : Int) ≤ p1.toInt ∧ p1.toInt ≤ 2) (h1 : (0 : Int) ≤ p2.toInt ∧ p2.toInt ≤ 16) (h2 : (0 : Int) ≤ p3.toInt ∧ p3.toInt ≤ 15) : Met l yX1_airDoes (ww yX1_airDoes cX1_airDoes 4 (some .boolean)) ({ frames := 1, cells := 0, slots := 0, locals := 64 }) (va_Pc [.ref (gO g 15), .int p1, .int p2, .int p3] (pr8 D cy g σ sz)) (qi8 D cy g sz (fun r τ => τ = σ ∧ ((0 : Int) ≤ r.toInt ∧ r.toInt ≤ 1) ∧ True)) 0 0 (A8 cy g sz) := by
  refine Met.ofW (cc := cX1_airDoes) (maxL := 4) (ret := (some .boolean)) (by decide) rfl ?_
  intro p e s m args below meth c s₁ B hml hv
  obtain ⟨rfl, hsz, hP, hK, hD0, hC⟩ := hv
  have hx := B.exec
  have hb := B.bytes
  have hr := B.returns
  have hts := hts_g (atoms_spec (ws := ww yX1_airDoes cX1_airDoes 4 (some .boolean)) B.pre)
  have hown : s.vm.findClass RX1 = some m.cls := findClass_of_methodNamed B.named
  have hlocks := B.notSynchronized
  clear B
  subst hsz
  have hD := fun τ => A8_D (sz := s.heap.size) hD0 τ
  clear hD0
  have hS : va_S (A8 cy g s.heap.size) s.heap s.heap [] := va_S.rf
  have hl := lv_entry ([.ref (gO g 15), .int p1, .int p2, .int p3]) (n := 4) (Nat.le_of_ble_eq_true rfl)
  rw [lg_entry_eq]
  generalize (lg_sl ([.ref (gO g 15), .int p1, .int p2, .int p3]) ++ List.replicate (4 - (lg_sl ([.ref (gO g 15), .int p1, .int p2, .int p3])).length) Slot.unset).toArray = ls at hl ⊢
  have hl : lv_has ls 4 [(0, .ref (gO g 15)), (1, .int p1), (2, .int p2), (3, .int p3)] := hl
  refine lv_iload_n hx hb dX1_airDoes_0 rfl (lv_at hl 1 rfl) ?_
  refine lv_aload_n hx hb dX1_airDoes_1 rfl (lv_at hl 0 rfl) ?_
  refine g8_1_0 (x := ((σ 15).1 0)) hx hb hts hown hK hP (rfl) (hts _ q367) dX1_airDoes_2 ?_
  refine lv_icmp_ge (tgt := 17) hx hb dX1_airDoes_5 (by decide) (fun c1 => ?_) (fun c1 => ?_)
  ·
    have k2 := ple32 c1
    refine lv_iconst (v := 1) hx hb dX1_airDoes_17 (by decide) ?_
    exact W.zret (v := 1) hx hb hr rfl (fun tS ht hW => ⟨⟨1, σ, rfl, ⟨rfl, (show (0 : Int) ≤ (1 : Int32).toInt ∧ (1 : Int32).toInt ≤ 1 from (by have z1 : (1 : Int32).toInt = 1 := (by decide); omega)), trivial⟩, (show va_P D clz (WD8 cy g σ) tS.heap by rw [ht]; exact hP)⟩, hS.F ht⟩) hS.2.2 dX1_airDoes_18
  ·
    have k3 := nle32 c1
    refine lv_iload_n hx hb dX1_airDoes_8 rfl (lv_at hl 2 rfl) ?_
    refine lv_if_lt (tgt := 17) hx hb dX1_airDoes_9 (by decide) (fun c4 => ?_) (fun c4 => ?_)
    ·
      have k5 := plt32 c4
      exact False.elim (by have f0 := h1; have f1 := k5; have g0 := rg32 p2; have z0 : (0 : Int32).toInt = 0 := (by decide); omega)
    ·
      have k6 := nlt32 c4
      refine lv_iload_n hx hb dX1_airDoes_12 rfl (lv_at hl 2 rfl) ?_
      refine lv_iload_n hx hb dX1_airDoes_13 rfl (lv_at hl 3 rfl) ?_
      refine lv_icmp_le (tgt := 19) hx hb dX1_airDoes_14 (by decide) (fun c7 => ?_) (fun c7 => ?_)
      ·
        have k8 := ple32 c7
        refine lv_aload_n hx hb dX1_airDoes_19 rfl (lv_at hl 0 rfl) ?_
        refine g8_1_5 hx hb hts hown hK hP (hts _ q372) dX1_airDoes_20 ?_
        refine lv_iload_n hx hb dX1_airDoes_23 rfl (lv_at hl 3 rfl) ?_
        refine lv_iconst (v := 1) hx hb dX1_airDoes_24 (by decide) ?_
        refine lv_iadd hx hb dX1_airDoes_25 ?_
        refine lv_topi (fun x9 ex9 => ?_)
        have t10 := addO ex9 (by have f0 := h2; have f1 := k8; have f2 := h1; have f3 := k6; have g0 := rg32 p3; have z0 : (0 : Int32).toInt = 0 := (by decide); have z1 : (1 : Int32).toInt = 1 := (by decide); omega)
        obtain ⟨x11, ex11⟩ : ∃ z, (σ 15).2.2.1 5 x9.toInt.toNat = z := ⟨_, rfl⟩
        refine l8_1_5 (x := x11) hx hb hK hP (vpo (by have f0 := t10; have f1 := h2; have f2 := k8; have f3 := h1; have f4 := k6; have g0 := rg32 x9; have z0 : (0 : Int32).toInt = 0 := (by decide); have z1 : (1 : Int32).toInt = 1 := (by decide); omega)) ex11 dX1_airDoes_26 ?_
        refine lv_aload_n hx hb dX1_airDoes_27 rfl (lv_at hl 0 rfl) ?_
        refine g8_1_5 hx hb hts hown hK hP (hts _ q372) dX1_airDoes_28 ?_
        refine lv_iload_n hx hb dX1_airDoes_31 rfl (lv_at hl 2 rfl) ?_
        obtain ⟨x12, ex12⟩ : ∃ z, (σ 15).2.2.1 5 p2.toInt.toNat = z := ⟨_, rfl⟩
        refine l8_1_5 (x := x12) hx hb hK hP (vpo (by have f0 := h1; have f1 := k6; have f2 := k8; have f3 := h2; have f4 := t10; have g0 := rg32 p2; have z0 : (0 : Int32).toInt = 0 := (by decide); have z1 : (1 : Int32).toInt = 1 := (by decide); omega)) ex12 dX1_airDoes_32 ?_
        refine lv_isub hx hb dX1_airDoes_33 ?_
        refine lv_topi (fun x13 ex13 => ?_)
        refine lv_aload_n hx hb dX1_airDoes_34 rfl (lv_at hl 0 rfl) ?_
        refine g8_1_4 hx hb hts hown hK hP (hts _ q371) dX1_airDoes_35 ?_
        refine lv_iload_n hx hb dX1_airDoes_38 rfl (lv_at hl 1 rfl) ?_
        obtain ⟨x14, ex14⟩ : ∃ z, (σ 15).2.2.1 4 p1.toInt.toNat = z := ⟨_, rfl⟩
        refine l8_1_4 (x := x14) hx hb hK hP (vpo (by have f0 := h0; have f1 := k3; have f2 := j8_1_0 hJ rfl; have g0 := rg32 p1; omega)) ex14 dX1_airDoes_39 ?_
        refine lv_icmp_gt (tgt := 47) hx hb dX1_airDoes_40 (by decide) (fun c15 => ?_) (fun c15 => ?_)
        ·
          have k16 := plt32 c15
          refine lv_iconst (v := 0) hx hb dX1_airDoes_47 (by decide) ?_
          exact W.zret (v := 0) hx hb hr rfl (fun tS ht hW => ⟨⟨0, σ, rfl, ⟨rfl, (show (0 : Int) ≤ (0 : Int32).toInt ∧ (0 : Int32).toInt ≤ 1 from (by have z0 : (0 : Int32).toInt = 0 := (by decide); omega)), trivial⟩, (show va_P D clz (WD8 cy g σ) tS.heap by rw [ht]; exact hP)⟩, hS.F ht⟩) hS.2.2 dX1_airDoes_48
        ·
          have k17 := nlt32 c15
          refine lv_iconst (v := 1) hx hb dX1_airDoes_43 (by decide) ?_
          refine lv_goto (tgt := 48) hx hb dX1_airDoes_44 (by decide) ?_
          exact W.zret (v := 1) hx hb hr rfl (fun tS ht hW => ⟨⟨1, σ, rfl, ⟨rfl, (show (0 : Int) ≤ (1 : Int32).toInt ∧ (1 : Int32).toInt ≤ 1 from (by have z1 : (1 : Int32).toInt = 1 := (by decide); omega)), trivial⟩, (show va_P D clz (WD8 cy g σ) tS.heap by rw [ht]; exact hP)⟩, hS.F ht⟩) hS.2.2 dX1_airDoes_48
      ·
        have k18 := nle32 c7
        refine lv_iconst (v := 1) hx hb dX1_airDoes_17 (by decide) ?_
        exact W.zret (v := 1) hx hb hr rfl (fun tS ht hW => ⟨⟨1, σ, rfl, ⟨rfl, (show (0 : Int) ≤ (1 : Int32).toInt ∧ (1 : Int32).toInt ≤ 1 from (by have z1 : (1 : Int32).toInt = 1 := (by decide); omega)), trivial⟩, (show va_P D clz (WD8 cy g σ) tS.heap by rw [ht]; exact hP)⟩, hS.F ht⟩) hS.2.2 dX1_airDoes_18

