theorem q949 : Cond.code yX3_findBest cX3_findBest 4 (some .boolean) ∈ lw_g := lw_gm (List.mem_of_getElem? (i := 949) (by decide +kernel)) rfl
theorem q950 : Cond.methodLink RX3 142 yX3_weigh ∈ lw_g := lw_gm (List.mem_of_getElem? (i := 950) (by decide +kernel)) rfl
theorem q952 : Cond.instanceMethod yX3_weigh ∈ lw_g := lw_gm (List.mem_of_getElem? (i := 952) (by decide +kernel)) rfl
theorem q22 : Cond.selects RX3 yX3_weigh yX3_weigh ∈ lw_g := lw_gm (List.mem_of_getElem? (i := 22) (by decide +kernel)) rfl
theorem q984 : Cond.methodLink RX3 146 yX3_leastAtFirst ∈ lw_g := lw_gm (List.mem_of_getElem? (i := 984) (by decide +kernel)) rfl
theorem q986 : Cond.instanceMethod yX3_leastAtFirst ∈ lw_g := lw_gm (List.mem_of_getElem? (i := 986) (by decide +kernel)) rfl
theorem q28 : Cond.selects RX3 yX3_leastAtFirst yX3_leastAtFirst ∈ lw_g := lw_gm (List.mem_of_getElem? (i := 28) (by decide +kernel)) rfl
theorem q282 : Cond.fieldLink RX3 150 "LipsAndSlides$Plays" "bestCost" "I" ∈ lw_g := lw_gm (List.mem_of_getElem? (i := 282) (by decide +kernel)) rfl
theorem q284 : Cond.fieldLink RX3 153 "LipsAndSlides$Plays" "bestSour" "I" ∈ lw_g := lw_gm (List.mem_of_getElem? (i := 284) (by decide +kernel)) rfl
theorem q988 : Cond.methodLink RX3 156 yX3_firstWayWith ∈ lw_g := lw_gm (List.mem_of_getElem? (i := 988) (by decide +kernel)) rfl
theorem q990 : Cond.instanceMethod yX3_firstWayWith ∈ lw_g := lw_gm (List.mem_of_getElem? (i := 990) (by decide +kernel)) rfl
theorem q29 : Cond.selects RX3 yX3_firstWayWith yX3_firstWayWith ∈ lw_g := lw_gm (List.mem_of_getElem? (i := 29) (by decide +kernel)) rfl
theorem dX3_findBest_0 : decode cX3_findBest 0 = .ok (.aload_n 0, 1) := by decide +kernel
theorem dX3_findBest_1 : decode cX3_findBest 1 = .ok (.iconst 0, 1) := by decide +kernel
theorem dX3_findBest_2 : decode cX3_findBest 2 = .ok (.invokevirtual 142, 3) := by decide +kernel
theorem dX3_findBest_5 : decode cX3_findBest 5 = .ok (.aload_n 0, 1) := by decide +kernel
theorem dX3_findBest_6 : decode cX3_findBest 6 = .ok (.invokevirtual 146, 3) := by decide +kernel
theorem dX3_findBest_9 : decode cX3_findBest 9 = .ok (.istore_n 1, 1) := by decide +kernel
theorem dX3_findBest_10 : decode cX3_findBest 10 = .ok (.iload_n 1, 1) := by decide +kernel
theorem dX3_findBest_11 : decode cX3_findBest 11 = .ok (.ldc 125, 2) := by decide +kernel
theorem dX3_findBest_13 : decode cX3_findBest 13 = .ok (.if_icmp .ne 5, 3) := by decide +kernel
theorem dX3_findBest_16 : decode cX3_findBest 16 = .ok (.iconst 0, 1) := by decide +kernel
theorem dX3_findBest_17 : decode cX3_findBest 17 = .ok (.ireturn, 1) := by decide +kernel
theorem dX3_findBest_18 : decode cX3_findBest 18 = .ok (.aload_n 0, 1) := by decide +kernel
theorem dX3_findBest_19 : decode cX3_findBest 19 = .ok (.iload_n 1, 1) := by decide +kernel
theorem dX3_findBest_20 : decode cX3_findBest 20 = .ok (.sipush 10000, 3) := by decide +kernel
theorem dX3_findBest_23 : decode cX3_findBest 23 = .ok (.idiv, 1) := by decide +kernel
theorem dX3_findBest_24 : decode cX3_findBest 24 = .ok (.putfield 150, 3) := by decide +kernel
theorem dX3_findBest_27 : decode cX3_findBest 27 = .ok (.aload_n 0, 1) := by decide +kernel
theorem dX3_findBest_28 : decode cX3_findBest 28 = .ok (.iload_n 1, 1) := by decide +kernel
theorem dX3_findBest_29 : decode cX3_findBest 29 = .ok (.sipush 10000, 3) := by decide +kernel
theorem dX3_findBest_32 : decode cX3_findBest 32 = .ok (.irem, 1) := by decide +kernel
theorem dX3_findBest_33 : decode cX3_findBest 33 = .ok (.putfield 153, 3) := by decide +kernel
theorem dX3_findBest_36 : decode cX3_findBest 36 = .ok (.iload_n 1, 1) := by decide +kernel
theorem dX3_findBest_37 : decode cX3_findBest 37 = .ok (.istore_n 2, 1) := by decide +kernel
theorem dX3_findBest_38 : decode cX3_findBest 38 = .ok (.iconst 0, 1) := by decide +kernel
theorem dX3_findBest_39 : decode cX3_findBest 39 = .ok (.istore_n 3, 1) := by decide +kernel
theorem dX3_findBest_40 : decode cX3_findBest 40 = .ok (.iload_n 3, 1) := by decide +kernel
theorem dX3_findBest_41 : decode cX3_findBest 41 = .ok (.aload_n 0, 1) := by decide +kernel
theorem dX3_findBest_42 : decode cX3_findBest 42 = .ok (.getfield 75, 3) := by decide +kernel
theorem dX3_findBest_45 : decode cX3_findBest 45 = .ok (.if_icmp .ge 45, 3) := by decide +kernel
theorem dX3_findBest_48 : decode cX3_findBest 48 = .ok (.aload_n 0, 1) := by decide +kernel
theorem dX3_findBest_49 : decode cX3_findBest 49 = .ok (.getfield 37, 3) := by decide +kernel
theorem dX3_findBest_52 : decode cX3_findBest 52 = .ok (.iload_n 3, 1) := by decide +kernel
theorem dX3_findBest_53 : decode cX3_findBest 53 = .ok (.aload_n 0, 1) := by decide +kernel
theorem dX3_findBest_54 : decode cX3_findBest 54 = .ok (.iload_n 3, 1) := by decide +kernel
theorem dX3_findBest_55 : decode cX3_findBest 55 = .ok (.iload_n 2, 1) := by decide +kernel
theorem dX3_findBest_56 : decode cX3_findBest 56 = .ok (.invokevirtual 156, 3) := by decide +kernel
theorem dX3_findBest_59 : decode cX3_findBest 59 = .ok (.iastore, 1) := by decide +kernel
theorem dX3_findBest_60 : decode cX3_findBest 60 = .ok (.aload_n 0, 1) := by decide +kernel
theorem dX3_findBest_61 : decode cX3_findBest 61 = .ok (.getfield 52, 3) := by decide +kernel
theorem dX3_findBest_64 : decode cX3_findBest 64 = .ok (.aload_n 0, 1) := by decide +kernel
theorem dX3_findBest_65 : decode cX3_findBest 65 = .ok (.getfield 37, 3) := by decide +kernel
theorem dX3_findBest_68 : decode cX3_findBest 68 = .ok (.iload_n 3, 1) := by decide +kernel
theorem dX3_findBest_69 : decode cX3_findBest 69 = .ok (.iaload, 1) := by decide +kernel
theorem dX3_findBest_70 : decode cX3_findBest 70 = .ok (.iaload, 1) := by decide +kernel
theorem dX3_findBest_71 : decode cX3_findBest 71 = .ok (.aload_n 0, 1) := by decide +kernel
theorem dX3_findBest_72 : decode cX3_findBest 72 = .ok (.getfield 46, 3) := by decide +kernel
theorem dX3_findBest_75 : decode cX3_findBest 75 = .ok (.aload_n 0, 1) := by decide +kernel
theorem dX3_findBest_76 : decode cX3_findBest 76 = .ok (.getfield 37, 3) := by decide +kernel
theorem dX3_findBest_79 : decode cX3_findBest 79 = .ok (.iload_n 3, 1) := by decide +kernel
theorem dX3_findBest_80 : decode cX3_findBest 80 = .ok (.iaload, 1) := by decide +kernel
theorem dX3_findBest_81 : decode cX3_findBest 81 = .ok (.iaload, 1) := by decide +kernel
theorem dX3_findBest_82 : decode cX3_findBest 82 = .ok (.isub, 1) := by decide +kernel
theorem dX3_findBest_83 : decode cX3_findBest 83 = .ok (.istore_n 2, 1) := by decide +kernel
theorem dX3_findBest_84 : decode cX3_findBest 84 = .ok (.iinc 3 1, 3) := by decide +kernel
theorem dX3_findBest_87 : decode cX3_findBest 87 = .ok (.goto (-47), 3) := by decide +kernel
theorem dX3_findBest_90 : decode cX3_findBest 90 = .ok (.iconst 1, 1) := by decide +kernel
theorem dX3_findBest_91 : decode cX3_findBest 91 = .ok (.ireturn, 1) := by decide +kernel
set_option maxHeartbeats 4000000 in
set_option maxRecDepth 100000 in
theorem m_X3_findBest (l : Launch) (D : va_G) (cy : Nat → ClassId) (g : Nat → Nat) (σ : ST)  (sz : Nat) (hJ : J8 σ)  : Met l yX3_findBest (ww yX3_findBest cX3_findBest 4 (some .boolean)) ({ frames := 5, cells := 0, slots := 0, locals := 320 }) (va_Pc [.ref (gO g 13)] (pr8 D cy g σ sz)) (qi8 D cy g sz (fun r τ => Fr (fO [13]) σ τ ∧ J8 τ ∧ ((0 : Int) ≤ r.toInt ∧ r.toInt ≤ 1) ∧ True)) 0 0 (A8 cy g sz) := by
  refine Met.ofW (cc := cX3_findBest) (maxL := 4) (ret := (some .boolean)) (by decide) rfl ?_
  intro p e s m args below meth c s₁ B hml hv
  obtain ⟨rfl, hsz, hP, hK, hD0, hC⟩ := hv
  have hx := B.exec
  have hb := B.bytes
  have hr := B.returns
  have hts := hts_g (atoms_spec (ws := ww yX3_findBest cX3_findBest 4 (some .boolean)) B.pre)
  have hown : s.vm.findClass RX3 = some m.cls := findClass_of_methodNamed B.named
  have hlocks := B.notSynchronized
  clear B
  subst hsz
  have hD := fun τ => A8_D (sz := s.heap.size) hD0 τ
  clear hD0
  have hS : va_S (A8 cy g s.heap.size) s.heap s.heap [] := va_S.rf
  have hl := lv_entry ([.ref (gO g 13)]) (n := 4) (Nat.le_of_ble_eq_true rfl)
  rw [lg_entry_eq]
  generalize (lg_sl ([.ref (gO g 13)]) ++ List.replicate (4 - (lg_sl ([.ref (gO g 13)])).length) Slot.unset).toArray = ls at hl ⊢
  have hl : lv_has ls 4 [(0, .ref (gO g 13))] := hl
  refine lv_aload_n hx hb dX3_findBest_0 rfl (lv_at hl 0 rfl) ?_
  refine lv_iconst (v := 0) hx hb dX3_findBest_1 (by decide) ?_
  refine va_callv (va_runV (As := [.int 0]) (rest := []) ⟨hx, hb, hml, hown, hts⟩ (m_X3_weigh l D cy g σ  (0) _ hJ (show (0 : Int) ≤ (0 : Int32).toInt ∧ (0 : Int32).toInt ≤ 3 from (by have z0 : (0 : Int32).toInt = 0 := (by decide); omega))) (cwV 1 hts (gd_V q950 q952 q22 q129 q953) rfl rfl rfl (by decide +kernel) ⟨(Nat.le_of_ble_eq_true rfl), (Nat.le_of_ble_eq_true rfl)⟩) (pv8 hP hK hD hC hS (rv8_3 hK hP)) rfl rfl hl.1 rfl (lv_room (Nat.le_of_ble_eq_true rfl)) dX3_findBest_2 ⟨Nat.le_of_ble_eq_true rfl, Nat.le_of_ble_eq_true rfl⟩) hS (fun q _ h => up8 hS q h) (up8 hS) (fun σ2 tS H1 locs ht hvm hw3 hB hz1 hk1 hS => ?_)
  have hP : va_P D clz (WD8 cy g σ2) H1 := by rw [← ht]; exact hB
  clear hB hz1 hk1 hvm ht
  generalize H1 = H at hP hS ⊢
  have hF4 : Fr (fO [13]) σ σ2 := hw3.1
  have hJ5 : J8 σ2 := hw3.2.1
  refine lv_aload_n hx hb dX3_findBest_5 rfl (lv_at hl 0 rfl) ?_
  refine va_calli (va_runV (As := []) (rest := []) ⟨hx, hb, hml, hown, hts⟩ (m_X3_leastAtFirst l D cy g σ2   _ hJ5 ) (cwV 0 hts (gd_V q984 q986 q28 q129 q987) rfl rfl rfl (by decide +kernel) ⟨(Nat.le_of_ble_eq_true rfl), (Nat.le_of_ble_eq_true rfl)⟩) (pv8 hP hK hD hC hS (rv8_3 hK hP)) rfl rfl hl.1 rfl (lv_room (Nat.le_of_ble_eq_true rfl)) dX3_findBest_6 ⟨Nat.le_of_ble_eq_true rfl, Nat.le_of_ble_eq_true rfl⟩) hS (fun q _ h => up8 hS q h) (up8 hS) (fun r6 σ7 tS H1 locs ht hvm hw8 hB hz1 hk1 hS => ?_)
  have hP : va_P D clz (WD8 cy g σ7) H1 := by rw [← ht]; exact hB
  clear hB hz1 hk1 hvm ht
  generalize H1 = H at hP hS ⊢
  have hw8E : σ2 = σ7 := (hw8.1).symm
  subst hw8E
  have b9 : (-2147483648 : Int) ≤ r6.toInt ∧ r6.toInt ≤ 1000000000 := hw8.2.1
  refine lv_istore_n (lv' := [(1, .int r6), (0, .ref (gO g 13))]) hx hb dX3_findBest_9 rfl hl (by decide) rfl (fun ls hl => ?_)
  refine lv_iload_n hx hb dX3_findBest_10 rfl (lv_at hl 0 rfl) ?_
  refine lv_ldc (v := 1000000000) hx hb hown (hts _ q958) dX3_findBest_11 ?_
  refine lv_icmp_ne (tgt := 18) hx hb dX3_findBest_13 (by decide) (fun c10 => ?_) (fun c10 => ?_)
  ·
    have k11 := neq32 c10
    refine lv_aload_n hx hb dX3_findBest_18 rfl (lv_at hl 1 rfl) ?_
    refine lv_iload_n hx hb dX3_findBest_19 rfl (lv_at hl 0 rfl) ?_
    refine lv_sipush (v := 10000) hx hb dX3_findBest_20 (by decide) ?_
    refine lv_idiv hx hb dX3_findBest_23 (by decide) ?_
    refine lv_topi (fun x12 ex12 => ?_)
    refine p8_3_1 hx hb hts hown hK hP hD hS (hts _ q282) dX3_findBest_24 (fun H locs σ13 eσ13 hP hS => ?_)
    have hJ14 : J8 σ13 := hJ5.I eσ13 rfl (show JI8 3 1 x12 from trivial)
    refine lv_aload_n hx hb dX3_findBest_27 rfl (lv_at hl 1 rfl) ?_
    refine lv_iload_n hx hb dX3_findBest_28 rfl (lv_at hl 0 rfl) ?_
    refine lv_sipush (v := 10000) hx hb dX3_findBest_29 (by decide) ?_
    refine lv_irem hx hb dX3_findBest_32 (by decide) ?_
    refine lv_topi (fun x15 ex15 => ?_)
    refine p8_3_2 hx hb hts hown hK hP hD hS (hts _ q284) dX3_findBest_33 (fun H locs σ16 eσ16 hP hS => ?_)
    have hJ17 : J8 σ16 := hJ14.I eσ16 rfl (show JI8 3 2 x15 from trivial)
    refine lv_iload_n hx hb dX3_findBest_36 rfl (lv_at hl 0 rfl) ?_
    refine lv_istore_n (lv' := [(2, .int r6), (1, .int r6), (0, .ref (gO g 13))]) hx hb dX3_findBest_37 rfl hl (by decide) rfl (fun ls hl => ?_)
    refine lv_iconst (v := 0) hx hb dX3_findBest_38 (by decide) ?_
    refine lv_istore_n (lv' := [(3, .int 0), (2, .int r6), (1, .int r6), (0, .ref (gO g 13))]) hx hb dX3_findBest_39 rfl hl (by decide) rfl (fun ls hl => ?_)
    refine loop8 4 40 (fun x : LZ => [(3, .int (x.2.1 0)), (2, .int (x.2.1 1)), (1, .int r6), (0, .ref (gO g 13))]) (fun x : LZ => (Fr (fO [13]) σ16 x.1) ∧ (J8 x.1) ∧ ((0 : Int) ≤ (x.2.1 0).toInt ∧ (x.2.1 0).toInt ≤ 16) ∧ True) (fun x : LZ => ((17 : Int) - (x.2.1 0).toInt).toNat) ?_ (σ16, lf [0, r6], lg []) ⟨Fr.rf, hJ17, (show (0 : Int) ≤ (0 : Int32).toInt ∧ (0 : Int32).toInt ≤ 16 from (by have z0 : (0 : Int32).toInt = 0 := (by decide); omega)), trivial⟩ _ _ _ hP hS (lv_sub hl [0, 1, 2, 3] rfl)
    intro y20 hI19 nl18 H locs ls hP hS hl
    obtain ⟨σ21, eσ21⟩ : ∃ z, z = y20.1 := ⟨_, rfl⟩
    rw [← eσ21] at hP hI19
    have hF22 : Fr (fO [13]) σ16 σ21 := hI19.1
    have hJ23 : J8 σ21 := hI19.2.1
    have b24 : (0 : Int) ≤ (y20.2.1 0).toInt ∧ (y20.2.1 0).toInt ≤ 16 := hI19.2.2.1
    have hl : lv_has ls 4 [(3, .int (y20.2.1 0)), (2, .int (y20.2.1 1)), (1, .int r6), (0, .ref (gO g 13))] := hl
    refine lv_iload_n hx hb dX3_findBest_40 rfl (lv_at hl 0 rfl) ?_
    refine lv_aload_n hx hb dX3_findBest_41 rfl (lv_at hl 3 rfl) ?_
    refine g8_3_0 (x := ((σ21 13).1 0)) hx hb hts hown hK hP (rfl) (hts _ q280) dX3_findBest_42 ?_
    refine lv_icmp_ge (tgt := 90) hx hb dX3_findBest_45 (by decide) (fun c25 => ?_) (fun c25 => ?_)
    ·
      have k26 := ple32 c25
      refine lv_iconst (v := 1) hx hb dX3_findBest_90 (by decide) ?_
      exact W.zret (v := 1) hx hb hr rfl (fun tS ht hW => ⟨⟨1, σ21, rfl, ⟨Fr.tr (Fr.tr (Fr.tr (Fr.tr (Fr.rf) hF4 (fO_sub (fun _ q => q))) (sI_f eσ13) (fN_O mem0)) (sI_f eσ16) (fN_O mem0)) hF22 (fO_sub (fun _ q => q)), hJ23, (show (0 : Int) ≤ (1 : Int32).toInt ∧ (1 : Int32).toInt ≤ 1 from (by have z1 : (1 : Int32).toInt = 1 := (by decide); omega)), trivial⟩, (show va_P D clz (WD8 cy g σ21) tS.heap by rw [ht]; exact hP)⟩, hS.F ht⟩) hS.2.2 dX3_findBest_91
    ·
      have k27 := nle32 c25
      refine lv_aload_n hx hb dX3_findBest_48 rfl (lv_at hl 3 rfl) ?_
      refine g8_3_13 hx hb hts hown hK hP (hts _ q298) dX3_findBest_49 ?_
      refine lv_iload_n hx hb dX3_findBest_52 rfl (lv_at hl 0 rfl) ?_
      refine lv_aload_n hx hb dX3_findBest_53 rfl (lv_at hl 3 rfl) ?_
      refine lv_iload_n hx hb dX3_findBest_54 rfl (lv_at hl 0 rfl) ?_
      refine lv_iload_n hx hb dX3_findBest_55 rfl (lv_at hl 1 rfl) ?_
      refine va_calli (va_runV (As := [.int (y20.2.1 0), .int (y20.2.1 1)]) (rest := [.int (y20.2.1 0), .ref (gR g 13 13)]) ⟨hx, hb, hml, hown, hts⟩ (m_X3_firstWayWith l D cy g σ21  (y20.2.1 0) (y20.2.1 1) _ hJ23 (show (0 : Int) ≤ (y20.2.1 0).toInt ∧ (y20.2.1 0).toInt ≤ 15 from (by have f0 := b24; have f1 := k27; have f2 := j8_3_0 hJ23 rfl; have g0 := rg32 (y20.2.1 0); omega))) (cwV 2 hts (gd_V q988 q990 q29 q129 q991) rfl rfl rfl (by decide +kernel) ⟨(Nat.le_of_ble_eq_true rfl), (Nat.le_of_ble_eq_true rfl)⟩) (pv8 hP hK hD hC hS (rv8_3 hK hP)) rfl rfl hl.1 rfl (lv_room (Nat.le_of_ble_eq_true rfl)) dX3_findBest_56 ⟨Nat.le_of_ble_eq_true rfl, Nat.le_of_ble_eq_true rfl⟩) hS (fun q _ h => up8 hS q h) (up8 hS) (fun r28 σ29 tS H1 locs ht hvm hw30 hB hz1 hk1 hS => ?_)
      have hP : va_P D clz (WD8 cy g σ29) H1 := by rw [← ht]; exact hB
      clear hB hz1 hk1 hvm ht
      generalize H1 = H at hP hS ⊢
      have hw30E : σ21 = σ29 := (hw30.1).symm
      subst hw30E
      have b31 : (0 : Int) ≤ r28.toInt ∧ r28.toInt ≤ 1407 := hw30.2.1
      refine t8_3_13 hx hb hK hP hD hS (vpo (by have f0 := b24; have f1 := k27; have f2 := j8_3_0 hJ23 rfl; have g0 := rg32 (y20.2.1 0); omega)) dX3_findBest_59 (fun H locs σ32 eσ32 hP hS => ?_)
      have hJ33 : J8 σ32 := hJ23.A eσ32 rfl (show PA8 3 13 r28 from (by have f0 := b31; have g0 := rg32 r28; exact ⟨by omega, by omega⟩))
      refine lv_aload_n hx hb dX3_findBest_60 rfl (lv_at hl 3 rfl) ?_
      refine g8_3_18 hx hb hts hown hK hP (hts _ q303) dX3_findBest_61 ?_
      refine lv_aload_n hx hb dX3_findBest_64 rfl (lv_at hl 3 rfl) ?_
      refine g8_3_13 hx hb hts hown hK hP (hts _ q298) dX3_findBest_65 ?_
      refine lv_iload_n hx hb dX3_findBest_68 rfl (lv_at hl 0 rfl) ?_
      obtain ⟨x34, ex34⟩ : ∃ z, (σ32 13).2.2.1 13 (y20.2.1 0).toInt.toNat = z := ⟨_, rfl⟩
      refine l8_3_13 (x := x34) hx hb hK hP (vpo (by have f0 := b24; have f1 := k27; have f2 := j8_3_0 hJ23 rfl; have g0 := rg32 (y20.2.1 0); omega)) ex34 dX3_findBest_69 ?_
      have t35 := a8_3_13 hJ33 ex34
      obtain ⟨x36, ex36⟩ : ∃ z, (σ21 13).2.2.1 18 x34.toInt.toNat = z := ⟨_, rfl⟩
      refine l8_3_18 (x := x36) hx hb hK hP (vpo (by have f0 := t35; have g0 := rg32 x34; omega)) ((congrFun (((sA_f eσ32) 13 18 (fN_k rfl)).2.2.1) _).trans ex36) dX3_findBest_70 ?_
      refine lv_aload_n hx hb dX3_findBest_71 rfl (lv_at hl 3 rfl) ?_
      refine g8_3_16 hx hb hts hown hK hP (hts _ q301) dX3_findBest_72 ?_
      refine lv_aload_n hx hb dX3_findBest_75 rfl (lv_at hl 3 rfl) ?_
      refine g8_3_13 hx hb hts hown hK hP (hts _ q298) dX3_findBest_76 ?_
      refine lv_iload_n hx hb dX3_findBest_79 rfl (lv_at hl 0 rfl) ?_
      refine l8_3_13 (x := x34) hx hb hK hP (vpo (by have f0 := b24; have f1 := k27; have f2 := j8_3_0 hJ23 rfl; have g0 := rg32 (y20.2.1 0); omega)) ex34 dX3_findBest_80 ?_
      obtain ⟨x37, ex37⟩ : ∃ z, (σ21 13).2.2.1 16 x34.toInt.toNat = z := ⟨_, rfl⟩
      refine l8_3_16 (x := x37) hx hb hK hP (vpo (by have f0 := t35; have g0 := rg32 x34; omega)) ((congrFun (((sA_f eσ32) 13 16 (fN_k rfl)).2.2.1) _).trans ex37) dX3_findBest_81 ?_
      refine lv_isub hx hb dX3_findBest_82 ?_
      refine lv_topi (fun x38 ex38 => ?_)
      refine lv_istore_n (lv' := [(2, .int x38), (3, .int (y20.2.1 0)), (1, .int r6), (0, .ref (gO g 13))]) hx hb dX3_findBest_83 rfl hl (by decide) rfl (fun ls hl => ?_)
      obtain ⟨x39, ex39⟩ : ∃ y : Int32, y = (y20.2.1 0) + 1 := ⟨_, rfl⟩
      have t40 := addO ex39 (by have f0 := b24; have f1 := k27; have f2 := j8_3_0 hJ23 rfl; have g0 := rg32 (y20.2.1 0); have z1 : (1 : Int32).toInt = 1 := (by decide); omega)
      refine lv_iinc (v := x39) (lv' := [(3, .int x39), (2, .int x38), (1, .int r6), (0, .ref (gO g 13))]) hx hb dX3_findBest_84 hl (k := 1) rfl (by rw [ex39]; rfl) (by decide) rfl (fun ls hl => ?_)
      refine lv_goto (tgt := 40) hx hb dX3_findBest_87 (by decide) ?_
      have t41 : ((17 : Int) - x39.toInt).toNat < ((17 : Int) - (y20.2.1 0).toInt).toNat := (by have f0 := b24; have f1 := k27; have f2 := t40; have f3 := j8_3_0 hJ23 rfl; have g0 := rg32 (y20.2.1 0); have g1 := rg32 x39; have z1 : (1 : Int32).toInt = 1 := (by decide); omega)
      exact nl18 (σ32, lf [x39, x38], lg []) ⟨Fr.tr (Fr.tr (Fr.rf) hF22 (fO_sub (fun _ q => q))) (sA_f eσ32) (fN_O mem0), hJ33, (show (0 : Int) ≤ (x39 : Int32).toInt ∧ (x39 : Int32).toInt ≤ 16 from (by have f0 := t40; have f1 := b24; have f2 := k27; have f3 := j8_3_0 hJ23 rfl; have g0 := rg32 x39; have z1 : (1 : Int32).toInt = 1 := (by decide); omega)), trivial⟩ (show ((17 : Int) - x39.toInt).toNat < _ from by first | exact t41 | (rw [← eσ21]; exact t41)) _ _ _ hP hS (lv_sub hl [0, 1, 2, 3] rfl)
  ·
    have k42 := peq32 c10
    refine lv_iconst (v := 0) hx hb dX3_findBest_16 (by decide) ?_
    exact W.zret (v := 0) hx hb hr rfl (fun tS ht hW => ⟨⟨0, σ2, rfl, ⟨Fr.tr (Fr.rf) hF4 (fO_sub (fun _ q => q)), hJ5, (show (0 : Int) ≤ (0 : Int32).toInt ∧ (0 : Int32).toInt ≤ 1 from (by have z0 : (0 : Int32).toInt = 0 := (by decide); omega)), trivial⟩, (show va_P D clz (WD8 cy g σ2) tS.heap by rw [ht]; exact hP)⟩, hS.F ht⟩) hS.2.2 dX3_findBest_17

theorem q917 : Cond.code yX8_layBest cX8_layBest 3 (some .int) ∈ lw_g := lw_gm (List.mem_of_getElem? (i := 917) (by decide +kernel)) rfl
theorem q918 : Cond.methodLink RX8 235 yX8_hasPair ∈ lw_g := lw_gm (List.mem_of_getElem? (i := 918) (by decide +kernel)) rfl
theorem q920 : Cond.instanceMethod yX8_hasPair ∈ lw_g := lw_gm (List.mem_of_getElem? (i := 920) (by decide +kernel)) rfl
theorem q19 : Cond.selects RX8 yX8_hasPair yX8_hasPair ∈ lw_g := lw_gm (List.mem_of_getElem? (i := 19) (by decide +kernel)) rfl
theorem q442 : Cond.fieldLink RX8 53 "LipsAndSlides" "score" "LLipsAndSlides$Plays;" ∈ lw_g := lw_gm (List.mem_of_getElem? (i := 442) (by decide +kernel)) rfl
theorem q922 : Cond.methodLink RX8 238 yX3_aim ∈ lw_g := lw_gm (List.mem_of_getElem? (i := 922) (by decide +kernel)) rfl
theorem q923 : Cond.instanceMethod yX3_aim ∈ lw_g := lw_gm (List.mem_of_getElem? (i := 923) (by decide +kernel)) rfl
theorem q924 : Cond.selects RX3 yX3_aim yX3_aim ∈ lw_g := lw_gm (List.mem_of_getElem? (i := 924) (by decide +kernel)) rfl
theorem q936 : Cond.methodLink RX8 241 yX3_layWays ∈ lw_g := lw_gm (List.mem_of_getElem? (i := 936) (by decide +kernel)) rfl
theorem q937 : Cond.instanceMethod yX3_layWays ∈ lw_g := lw_gm (List.mem_of_getElem? (i := 937) (by decide +kernel)) rfl
theorem q938 : Cond.selects RX3 yX3_layWays yX3_layWays ∈ lw_g := lw_gm (List.mem_of_getElem? (i := 938) (by decide +kernel)) rfl
theorem q946 : Cond.methodLink RX8 245 yX3_findBest ∈ lw_g := lw_gm (List.mem_of_getElem? (i := 946) (by decide +kernel)) rfl
theorem q947 : Cond.instanceMethod yX3_findBest ∈ lw_g := lw_gm (List.mem_of_getElem? (i := 947) (by decide +kernel)) rfl
theorem q948 : Cond.selects RX3 yX3_findBest yX3_findBest ∈ lw_g := lw_gm (List.mem_of_getElem? (i := 948) (by decide +kernel)) rfl
theorem dX8_layBest_0 : decode cX8_layBest 0 = .ok (.aload_n 0, 1) := by decide +kernel
theorem dX8_layBest_1 : decode cX8_layBest 1 = .ok (.iload_n 1, 1) := by decide +kernel
theorem dX8_layBest_2 : decode cX8_layBest 2 = .ok (.iload_n 2, 1) := by decide +kernel
theorem dX8_layBest_3 : decode cX8_layBest 3 = .ok (.invokevirtual 235, 3) := by decide +kernel
theorem dX8_layBest_6 : decode cX8_layBest 6 = .ok (.ifCond .ne 6, 3) := by decide +kernel
theorem dX8_layBest_9 : decode cX8_layBest 9 = .ok (.bipush (-2), 2) := by decide +kernel
theorem dX8_layBest_11 : decode cX8_layBest 11 = .ok (.ireturn, 1) := by decide +kernel
theorem dX8_layBest_12 : decode cX8_layBest 12 = .ok (.aload_n 0, 1) := by decide +kernel
theorem dX8_layBest_13 : decode cX8_layBest 13 = .ok (.getfield 53, 3) := by decide +kernel
theorem dX8_layBest_16 : decode cX8_layBest 16 = .ok (.aload_n 0, 1) := by decide +kernel
theorem dX8_layBest_17 : decode cX8_layBest 17 = .ok (.getfield 19, 3) := by decide +kernel
theorem dX8_layBest_20 : decode cX8_layBest 20 = .ok (.iload_n 1, 1) := by decide +kernel
theorem dX8_layBest_21 : decode cX8_layBest 21 = .ok (.iload_n 2, 1) := by decide +kernel
theorem dX8_layBest_22 : decode cX8_layBest 22 = .ok (.invokevirtual 238, 3) := by decide +kernel
theorem dX8_layBest_25 : decode cX8_layBest 25 = .ok (.aload_n 0, 1) := by decide +kernel
theorem dX8_layBest_26 : decode cX8_layBest 26 = .ok (.getfield 53, 3) := by decide +kernel
theorem dX8_layBest_29 : decode cX8_layBest 29 = .ok (.aload_n 0, 1) := by decide +kernel
theorem dX8_layBest_30 : decode cX8_layBest 30 = .ok (.getfield 19, 3) := by decide +kernel
theorem dX8_layBest_33 : decode cX8_layBest 33 = .ok (.getfield 104, 3) := by decide +kernel
theorem dX8_layBest_36 : decode cX8_layBest 36 = .ok (.iconst 0, 1) := by decide +kernel
theorem dX8_layBest_37 : decode cX8_layBest 37 = .ok (.invokevirtual 241, 3) := by decide +kernel
theorem dX8_layBest_40 : decode cX8_layBest 40 = .ok (.aload_n 0, 1) := by decide +kernel
theorem dX8_layBest_41 : decode cX8_layBest 41 = .ok (.getfield 53, 3) := by decide +kernel
theorem dX8_layBest_44 : decode cX8_layBest 44 = .ok (.invokevirtual 245, 3) := by decide +kernel
theorem dX8_layBest_47 : decode cX8_layBest 47 = .ok (.ifCond .eq 7, 3) := by decide +kernel
theorem dX8_layBest_50 : decode cX8_layBest 50 = .ok (.iconst 0, 1) := by decide +kernel
theorem dX8_layBest_51 : decode cX8_layBest 51 = .ok (.goto 4, 3) := by decide +kernel
theorem dX8_layBest_54 : decode cX8_layBest 54 = .ok (.iconst (-1), 1) := by decide +kernel
theorem dX8_layBest_55 : decode cX8_layBest 55 = .ok (.ireturn, 1) := by decide +kernel
set_option maxHeartbeats 4000000 in
set_option maxRecDepth 100000 in
theorem m_X8_layBest (l : Launch) (D : va_G) (cy : Nat → ClassId) (g : Nat → Nat) (σ : ST) (p1 : Int32) (p2 : Int32) (sz : Nat) (hJ : J8 σ)  : Met l yX8_layBest (ww yX8_layBest cX8_layBest 3 (some .int)) ({ frames := 6, cells := 0, slots := 0, locals := 384 }) (va_Pc [.ref (gO g 17), .int p1, .int p2] (pr8 D cy g σ sz)) (qi8 D cy g sz (fun r τ => Fr (fO [11, 13]) σ τ ∧ J8 τ ∧ ((-2 : Int) ≤ r.toInt ∧ r.toInt ≤ 0) ∧ True)) 0 0 (A8 cy g sz) := by
  refine Met.ofW (cc := cX8_layBest) (maxL := 3) (ret := (some .int)) (by decide) rfl ?_
  intro p e s m args below meth c s₁ B hml hv
  obtain ⟨rfl, hsz, hP, hK, hD0, hC⟩ := hv
  have hx := B.exec
  have hb := B.bytes
  have hr := B.returns
  have hts := hts_g (atoms_spec (ws := ww yX8_layBest cX8_layBest 3 (some .int)) B.pre)
  have hown : s.vm.findClass RX8 = some m.cls := findClass_of_methodNamed B.named
  have hlocks := B.notSynchronized
  clear B
  subst hsz
  have hD := fun τ => A8_D (sz := s.heap.size) hD0 τ
  clear hD0
  have hS : va_S (A8 cy g s.heap.size) s.heap s.heap [] := va_S.rf
  have hl := lv_entry ([.ref (gO g 17), .int p1, .int p2]) (n := 3) (Nat.le_of_ble_eq_true rfl)
  rw [lg_entry_eq]
  generalize (lg_sl ([.ref (gO g 17), .int p1, .int p2]) ++ List.replicate (3 - (lg_sl ([.ref (gO g 17), .int p1, .int p2])).length) Slot.unset).toArray = ls at hl ⊢
  have hl : lv_has ls 3 [(0, .ref (gO g 17)), (1, .int p1), (2, .int p2)] := hl
  refine lv_aload_n hx hb dX8_layBest_0 rfl (lv_at hl 0 rfl) ?_
  refine lv_iload_n hx hb dX8_layBest_1 rfl (lv_at hl 1 rfl) ?_
  refine lv_iload_n hx hb dX8_layBest_2 rfl (lv_at hl 2 rfl) ?_
  refine va_calli (va_runV (As := [.int p1, .int p2]) (rest := []) ⟨hx, hb, hml, hown, hts⟩ (m_X8_hasPair l D cy g σ  p1 p2 _ hJ ) (cwV 2 hts (gd_V q918 q920 q19 q125 q921) rfl rfl rfl (by decide +kernel) ⟨(Nat.le_of_ble_eq_true rfl), (Nat.le_of_ble_eq_true rfl)⟩) (pv8 hP hK hD hC hS (rv8_8 hK hP)) rfl rfl hl.1 rfl (lv_room (Nat.le_of_ble_eq_true rfl)) dX8_layBest_3 ⟨Nat.le_of_ble_eq_true rfl, Nat.le_of_ble_eq_true rfl⟩) hS (fun q _ h => up8 hS q h) (up8 hS) (fun r1 σ2 tS H1 locs ht hvm hw3 hB hz1 hk1 hS => ?_)
  have hP : va_P D clz (WD8 cy g σ2) H1 := by rw [← ht]; exact hB
  clear hB hz1 hk1 hvm ht
  generalize H1 = H at hP hS ⊢
  have hw3E : σ = σ2 := (hw3.1).symm
  subst hw3E
  have b4 : (0 : Int) ≤ r1.toInt ∧ r1.toInt ≤ 1 := hw3.2.1
  refine lv_if_ne (tgt := 12) hx hb dX8_layBest_6 (by decide) (fun c5 => ?_) (fun c5 => ?_)
  ·
    have k6 := neq32 c5
    refine lv_aload_n hx hb dX8_layBest_12 rfl (lv_at hl 0 rfl) ?_
    refine g8_8_8 hx hb hts hown hK hP (hts _ q442) dX8_layBest_13 ?_
    refine lv_aload_n hx hb dX8_layBest_16 rfl (lv_at hl 0 rfl) ?_
    obtain ⟨dx7, edx7⟩ : ∃ z : Nat, ((σ 17).1 1).toInt.toNat = z := ⟨_, rfl⟩
    have hdx7 : 0 ≤ dx7 ∧ dx7 < 5 := mnow (by have f0 := j8_8_1 hJ rfl; omega) edx7
    refine g8_8_1 (o := dx7) hx hb hts hown hK hP edx7 (hts _ q435) dX8_layBest_17 ?_
    refine lv_iload_n hx hb dX8_layBest_20 rfl (lv_at hl 1 rfl) ?_
    refine lv_iload_n hx hb dX8_layBest_21 rfl (lv_at hl 2 rfl) ?_
    refine va_callv (va_runV (As := [.ref (gO g dx7), .int p1, .int p2]) (rest := []) ⟨hx, hb, hml, hown, hts⟩ (m_X3_aim l D cy g σ  dx7 p1 p2 _ hJ (show 0 ≤ dx7 ∧ dx7 < 5 from hdx7)) (cwV 3 hts (gd_V q922 q923 q924 q129 q925) rfl rfl rfl (by decide +kernel) ⟨(Nat.le_of_ble_eq_true rfl), (Nat.le_of_ble_eq_true rfl)⟩) (pv8 hP hK hD hC hS (rv8_3 hK hP)) rfl rfl hl.1 rfl (lv_room (Nat.le_of_ble_eq_true rfl)) dX8_layBest_22 ⟨Nat.le_of_ble_eq_true rfl, Nat.le_of_ble_eq_true rfl⟩) hS (fun q _ h => up8 hS q h) (up8 hS) (fun σ9 tS H1 locs ht hvm hw10 hB hz1 hk1 hS => ?_)
    have hP : va_P D clz (WD8 cy g σ9) H1 := by rw [← ht]; exact hB
    clear hB hz1 hk1 hvm ht
    generalize H1 = H at hP hS ⊢
    have hF11 : Fr (fO [11, 13]) σ σ9 := hw10.1
    have hJ12 : J8 σ9 := hw10.2.1
    refine lv_aload_n hx hb dX8_layBest_25 rfl (lv_at hl 0 rfl) ?_
    refine g8_8_8 hx hb hts hown hK hP (hts _ q442) dX8_layBest_26 ?_
    refine lv_aload_n hx hb dX8_layBest_29 rfl (lv_at hl 0 rfl) ?_
    refine g8_8_1 (o := dx7) hx hb hts hown hK hP ((congrArg (fun z : Int32 => z.toInt.toNat) ((hF11 17 1 (fO_n (nmc (by decide) (nmc (by decide) nm0)))).1)).trans edx7) (hts _ q435) dX8_layBest_30 ?_
    refine g8_0_0 (x := ((σ dx7).1 0)) hx hb hts hown hK hP hdx7 ((hF11 dx7 0 (fO_n (nmc (nel hdx7 (by decide)) (nmc (nel hdx7 (by decide)) nm0)))).1) (hts _ q194) dX8_layBest_33 ?_
    refine lv_iconst (v := 0) hx hb dX8_layBest_36 (by decide) ?_
    refine va_callv (va_runV (As := [.int ((σ dx7).1 0), .int 0]) (rest := []) ⟨hx, hb, hml, hown, hts⟩ (m_X3_layWays l D cy g σ9  ((σ dx7).1 0) (0) _ hJ12 ) (cwV 2 hts (gd_V q936 q937 q938 q129 q939) rfl rfl rfl (by decide +kernel) ⟨(Nat.le_of_ble_eq_true rfl), (Nat.le_of_ble_eq_true rfl)⟩) (pv8 hP hK hD hC hS (rv8_3 hK hP)) rfl rfl hl.1 rfl (lv_room (Nat.le_of_ble_eq_true rfl)) dX8_layBest_37 ⟨Nat.le_of_ble_eq_true rfl, Nat.le_of_ble_eq_true rfl⟩) hS (fun q _ h => up8 hS q h) (up8 hS) (fun σ14 tS H1 locs ht hvm hw15 hB hz1 hk1 hS => ?_)
    have hP : va_P D clz (WD8 cy g σ14) H1 := by rw [← ht]; exact hB
    clear hB hz1 hk1 hvm ht
    generalize H1 = H at hP hS ⊢
    have hF16 : Fr (fO [13]) σ9 σ14 := hw15.1
    have hJ17 : J8 σ14 := hw15.2.1
    refine lv_aload_n hx hb dX8_layBest_40 rfl (lv_at hl 0 rfl) ?_
    refine g8_8_8 hx hb hts hown hK hP (hts _ q442) dX8_layBest_41 ?_
    refine va_calli (va_runV (As := []) (rest := []) ⟨hx, hb, hml, hown, hts⟩ (m_X3_findBest l D cy g σ14   _ hJ17 ) (cwV 0 hts (gd_V q946 q947 q948 q129 q949) rfl rfl rfl (by decide +kernel) ⟨(Nat.le_of_ble_eq_true rfl), (Nat.le_of_ble_eq_true rfl)⟩) (pv8 hP hK hD hC hS (rv8_3 hK hP)) rfl rfl hl.1 rfl (lv_room (Nat.le_of_ble_eq_true rfl)) dX8_layBest_44 ⟨Nat.le_of_ble_eq_true rfl, Nat.le_of_ble_eq_true rfl⟩) hS (fun q _ h => up8 hS q h) (up8 hS) (fun r18 σ19 tS H1 locs ht hvm hw20 hB hz1 hk1 hS => ?_)
    have hP : va_P D clz (WD8 cy g σ19) H1 := by rw [← ht]; exact hB
    clear hB hz1 hk1 hvm ht
    generalize H1 = H at hP hS ⊢
    have hF21 : Fr (fO [13]) σ14 σ19 := hw20.1
    have hJ22 : J8 σ19 := hw20.2.1
    have b23 : (0 : Int) ≤ r18.toInt ∧ r18.toInt ≤ 1 := hw20.2.2.1
    refine lv_if_eq (tgt := 54) hx hb dX8_layBest_47 (by decide) (fun c24 => ?_) (fun c24 => ?_)
    ·
      have k25 := peq32 c24
      refine lv_iconst (v := (-1)) hx hb dX8_layBest_54 (by decide) ?_
      exact W.iret (v := (-1)) hx hb hr (fun tS ht hW => ⟨⟨(-1), σ19, rfl, ⟨Fr.tr (Fr.tr (Fr.tr (Fr.rf) hF11 (fO_sub (fun _ q => q))) hF16 (fO_sub (by simp))) hF21 (fO_sub (by simp)), hJ22, (show (-2 : Int) ≤ ((-1) : Int32).toInt ∧ ((-1) : Int32).toInt ≤ 0 from (by have zm1 : ((-1) : Int32).toInt = (-1) := (by decide); omega)), trivial⟩, (show va_P D clz (WD8 cy g σ19) tS.heap by rw [ht]; exact hP)⟩, hS.F ht⟩) hS.2.2 dX8_layBest_55
    ·
      have k26 := neq32 c24
      refine lv_iconst (v := 0) hx hb dX8_layBest_50 (by decide) ?_
      refine lv_goto (tgt := 55) hx hb dX8_layBest_51 (by decide) ?_
      exact W.iret (v := 0) hx hb hr (fun tS ht hW => ⟨⟨0, σ19, rfl, ⟨Fr.tr (Fr.tr (Fr.tr (Fr.rf) hF11 (fO_sub (fun _ q => q))) hF16 (fO_sub (by simp))) hF21 (fO_sub (by simp)), hJ22, (show (-2 : Int) ≤ (0 : Int32).toInt ∧ (0 : Int32).toInt ≤ 0 from (by have z0 : (0 : Int32).toInt = 0 := (by decide); omega)), trivial⟩, (show va_P D clz (WD8 cy g σ19) tS.heap by rw [ht]; exact hP)⟩, hS.F ht⟩) hS.2.2 dX8_layBest_55
  ·
    have k27 := peq32 c5
    refine lv_bipush (v := (-2)) hx hb dX8_layBest_9 (by decide) ?_
    exact W.iret (v := (-2)) hx hb hr (fun tS ht hW => ⟨⟨(-2), σ, rfl, ⟨Fr.rf, hJ, (show (-2 : Int) ≤ ((-2) : Int32).toInt ∧ ((-2) : Int32).toInt ≤ 0 from (by have zm2 : ((-2) : Int32).toInt = (-2) := (by decide); omega)), trivial⟩, (show va_P D clz (WD8 cy g σ) tS.heap by rw [ht]; exact hP)⟩, hS.F ht⟩) hS.2.2 dX8_layBest_11

theorem q913 : Cond.code yX8_plays cX8_plays 4 (some .int) ∈ lw_g := lw_gm (List.mem_of_getElem? (i := 913) (by decide +kernel)) rfl
theorem q914 : Cond.methodLink RX8 248 yX8_layBest ∈ lw_g := lw_gm (List.mem_of_getElem? (i := 914) (by decide +kernel)) rfl
theorem q916 : Cond.instanceMethod yX8_layBest ∈ lw_g := lw_gm (List.mem_of_getElem? (i := 916) (by decide +kernel)) rfl
theorem q18 : Cond.selects RX8 yX8_layBest yX8_layBest ∈ lw_g := lw_gm (List.mem_of_getElem? (i := 18) (by decide +kernel)) rfl
theorem dX8_plays_0 : decode cX8_plays 0 = .ok (.aload_n 0, 1) := by decide +kernel
theorem dX8_plays_1 : decode cX8_plays 1 = .ok (.iload_n 1, 1) := by decide +kernel
theorem dX8_plays_2 : decode cX8_plays 2 = .ok (.iload_n 2, 1) := by decide +kernel
theorem dX8_plays_3 : decode cX8_plays 3 = .ok (.invokevirtual 248, 3) := by decide +kernel
theorem dX8_plays_6 : decode cX8_plays 6 = .ok (.istore_n 3, 1) := by decide +kernel
theorem dX8_plays_7 : decode cX8_plays 7 = .ok (.iload_n 3, 1) := by decide +kernel
theorem dX8_plays_8 : decode cX8_plays 8 = .ok (.bipush (-2), 2) := by decide +kernel
theorem dX8_plays_10 : decode cX8_plays 10 = .ok (.if_icmp .ne 6, 3) := by decide +kernel
theorem dX8_plays_13 : decode cX8_plays 13 = .ok (.bipush (-2), 2) := by decide +kernel
theorem dX8_plays_15 : decode cX8_plays 15 = .ok (.ireturn, 1) := by decide +kernel
theorem dX8_plays_16 : decode cX8_plays 16 = .ok (.iload_n 3, 1) := by decide +kernel
theorem dX8_plays_17 : decode cX8_plays 17 = .ok (.ifCond .ne 7, 3) := by decide +kernel
theorem dX8_plays_20 : decode cX8_plays 20 = .ok (.iconst 1, 1) := by decide +kernel
theorem dX8_plays_21 : decode cX8_plays 21 = .ok (.goto 4, 3) := by decide +kernel
theorem dX8_plays_24 : decode cX8_plays 24 = .ok (.iconst 0, 1) := by decide +kernel
theorem dX8_plays_25 : decode cX8_plays 25 = .ok (.ireturn, 1) := by decide +kernel
set_option maxHeartbeats 4000000 in
set_option maxRecDepth 100000 in
theorem m_X8_plays (l : Launch) (D : va_G) (cy : Nat → ClassId) (g : Nat → Nat) (σ : ST) (p1 : Int32) (p2 : Int32) (sz : Nat) (hJ : J8 σ)  : Met l yX8_plays (ww yX8_plays cX8_plays 4 (some .int)) ({ frames := 7, cells := 0, slots := 0, locals := 448 }) (va_Pc [.ref (gO g 17), .int p1, .int p2] (pr8 D cy g σ sz)) (qi8 D cy g sz (fun r τ => Fr (fO [11, 13]) σ τ ∧ J8 τ ∧ ((-2 : Int) ≤ r.toInt ∧ r.toInt ≤ 1) ∧ True)) 0 0 (A8 cy g sz) := by
  refine Met.ofW (cc := cX8_plays) (maxL := 4) (ret := (some .int)) (by decide) rfl ?_
  intro p e s m args below meth c s₁ B hml hv
  obtain ⟨rfl, hsz, hP, hK, hD0, hC⟩ := hv
  have hx := B.exec
  have hb := B.bytes
  have hr := B.returns
  have hts := hts_g (atoms_spec (ws := ww yX8_plays cX8_plays 4 (some .int)) B.pre)
  have hown : s.vm.findClass RX8 = some m.cls := findClass_of_methodNamed B.named
  have hlocks := B.notSynchronized
  clear B
  subst hsz
  have hD := fun τ => A8_D (sz := s.heap.size) hD0 τ
  clear hD0
  have hS : va_S (A8 cy g s.heap.size) s.heap s.heap [] := va_S.rf
  have hl := lv_entry ([.ref (gO g 17), .int p1, .int p2]) (n := 4) (Nat.le_of_ble_eq_true rfl)
  rw [lg_entry_eq]
  generalize (lg_sl ([.ref (gO g 17), .int p1, .int p2]) ++ List.replicate (4 - (lg_sl ([.ref (gO g 17), .int p1, .int p2])).length) Slot.unset).toArray = ls at hl ⊢
  have hl : lv_has ls 4 [(0, .ref (gO g 17)), (1, .int p1), (2, .int p2)] := hl
  refine lv_aload_n hx hb dX8_plays_0 rfl (lv_at hl 0 rfl) ?_
  refine lv_iload_n hx hb dX8_plays_1 rfl (lv_at hl 1 rfl) ?_
  refine lv_iload_n hx hb dX8_plays_2 rfl (lv_at hl 2 rfl) ?_
  refine va_calli (va_runV (As := [.int p1, .int p2]) (rest := []) ⟨hx, hb, hml, hown, hts⟩ (m_X8_layBest l D cy g σ  p1 p2 _ hJ ) (cwV 2 hts (gd_V q914 q916 q18 q125 q917) rfl rfl rfl (by decide +kernel) ⟨(Nat.le_of_ble_eq_true rfl), (Nat.le_of_ble_eq_true rfl)⟩) (pv8 hP hK hD hC hS (rv8_8 hK hP)) rfl rfl hl.1 rfl (lv_room (Nat.le_of_ble_eq_true rfl)) dX8_plays_3 ⟨Nat.le_of_ble_eq_true rfl, Nat.le_of_ble_eq_true rfl⟩) hS (fun q _ h => up8 hS q h) (up8 hS) (fun r1 σ2 tS H1 locs ht hvm hw3 hB hz1 hk1 hS => ?_)
  have hP : va_P D clz (WD8 cy g σ2) H1 := by rw [← ht]; exact hB
  clear hB hz1 hk1 hvm ht
  generalize H1 = H at hP hS ⊢
  have hF4 : Fr (fO [11, 13]) σ σ2 := hw3.1
  have hJ5 : J8 σ2 := hw3.2.1
  have b6 : (-2 : Int) ≤ r1.toInt ∧ r1.toInt ≤ 0 := hw3.2.2.1
  refine lv_istore_n (lv' := [(3, .int r1), (0, .ref (gO g 17)), (1, .int p1), (2, .int p2)]) hx hb dX8_plays_6 rfl hl (by decide) rfl (fun ls hl => ?_)
  refine lv_iload_n hx hb dX8_plays_7 rfl (lv_at hl 0 rfl) ?_
  refine lv_bipush (v := (-2)) hx hb dX8_plays_8 (by decide) ?_
  refine lv_icmp_ne (tgt := 16) hx hb dX8_plays_10 (by decide) (fun c7 => ?_) (fun c7 => ?_)
  ·
    have k8 := neq32 c7
    refine lv_iload_n hx hb dX8_plays_16 rfl (lv_at hl 0 rfl) ?_
    refine lv_if_ne (tgt := 24) hx hb dX8_plays_17 (by decide) (fun c9 => ?_) (fun c9 => ?_)
    ·
      have k10 := neq32 c9
      refine lv_iconst (v := 0) hx hb dX8_plays_24 (by decide) ?_
      exact W.iret (v := 0) hx hb hr (fun tS ht hW => ⟨⟨0, σ2, rfl, ⟨Fr.tr (Fr.rf) hF4 (fO_sub (fun _ q => q)), hJ5, (show (-2 : Int) ≤ (0 : Int32).toInt ∧ (0 : Int32).toInt ≤ 1 from (by have z0 : (0 : Int32).toInt = 0 := (by decide); omega)), trivial⟩, (show va_P D clz (WD8 cy g σ2) tS.heap by rw [ht]; exact hP)⟩, hS.F ht⟩) hS.2.2 dX8_plays_25
    ·
      have k11 := peq32 c9
      refine lv_iconst (v := 1) hx hb dX8_plays_20 (by decide) ?_
      refine lv_goto (tgt := 25) hx hb dX8_plays_21 (by decide) ?_
      exact W.iret (v := 1) hx hb hr (fun tS ht hW => ⟨⟨1, σ2, rfl, ⟨Fr.tr (Fr.rf) hF4 (fO_sub (fun _ q => q)), hJ5, (show (-2 : Int) ≤ (1 : Int32).toInt ∧ (1 : Int32).toInt ≤ 1 from (by have z1 : (1 : Int32).toInt = 1 := (by decide); omega)), trivial⟩, (show va_P D clz (WD8 cy g σ2) tS.heap by rw [ht]; exact hP)⟩, hS.F ht⟩) hS.2.2 dX8_plays_25
  ·
    have k12 := peq32 c7
    refine lv_bipush (v := (-2)) hx hb dX8_plays_13 (by decide) ?_
    exact W.iret (v := (-2)) hx hb hr (fun tS ht hW => ⟨⟨(-2), σ2, rfl, ⟨Fr.tr (Fr.rf) hF4 (fO_sub (fun _ q => q)), hJ5, (show (-2 : Int) ≤ ((-2) : Int32).toInt ∧ ((-2) : Int32).toInt ≤ 1 from (by have zm2 : ((-2) : Int32).toInt = (-2) := (by decide); omega)), trivial⟩, (show va_P D clz (WD8 cy g σ2) tS.heap by rw [ht]; exact hP)⟩, hS.F ht⟩) hS.2.2 dX8_plays_15

theorem q995 : Cond.code yX8_cost cX8_cost 4 (some .int) ∈ lw_g := lw_gm (List.mem_of_getElem? (i := 995) (by decide +kernel)) rfl
theorem q283 : Cond.fieldLink RX8 251 "LipsAndSlides$Plays" "bestCost" "I" ∈ lw_g := lw_gm (List.mem_of_getElem? (i := 283) (by decide +kernel)) rfl
theorem dX8_cost_0 : decode cX8_cost 0 = .ok (.aload_n 0, 1) := by decide +kernel
theorem dX8_cost_1 : decode cX8_cost 1 = .ok (.iload_n 1, 1) := by decide +kernel
theorem dX8_cost_2 : decode cX8_cost 2 = .ok (.iload_n 2, 1) := by decide +kernel
theorem dX8_cost_3 : decode cX8_cost 3 = .ok (.invokevirtual 248, 3) := by decide +kernel
theorem dX8_cost_6 : decode cX8_cost 6 = .ok (.istore_n 3, 1) := by decide +kernel
theorem dX8_cost_7 : decode cX8_cost 7 = .ok (.iload_n 3, 1) := by decide +kernel
theorem dX8_cost_8 : decode cX8_cost 8 = .ok (.ifCond .ne 13, 3) := by decide +kernel
theorem dX8_cost_11 : decode cX8_cost 11 = .ok (.aload_n 0, 1) := by decide +kernel
theorem dX8_cost_12 : decode cX8_cost 12 = .ok (.getfield 53, 3) := by decide +kernel
theorem dX8_cost_15 : decode cX8_cost 15 = .ok (.getfield 251, 3) := by decide +kernel
theorem dX8_cost_18 : decode cX8_cost 18 = .ok (.goto 4, 3) := by decide +kernel
theorem dX8_cost_21 : decode cX8_cost 21 = .ok (.iload_n 3, 1) := by decide +kernel
theorem dX8_cost_22 : decode cX8_cost 22 = .ok (.ireturn, 1) := by decide +kernel
set_option maxHeartbeats 4000000 in
set_option maxRecDepth 100000 in
theorem m_X8_cost (l : Launch) (D : va_G) (cy : Nat → ClassId) (g : Nat → Nat) (σ : ST) (p1 : Int32) (p2 : Int32) (sz : Nat) (hJ : J8 σ)  : Met l yX8_cost (ww yX8_cost cX8_cost 4 (some .int)) ({ frames := 7, cells := 0, slots := 0, locals := 448 }) (va_Pc [.ref (gO g 17), .int p1, .int p2] (pr8 D cy g σ sz)) (qi8 D cy g sz (fun r τ => Fr (fO [11, 13]) σ τ ∧ J8 τ ∧ True)) 0 0 (A8 cy g sz) := by
  refine Met.ofW (cc := cX8_cost) (maxL := 4) (ret := (some .int)) (by decide) rfl ?_
  intro p e s m args below meth c s₁ B hml hv
  obtain ⟨rfl, hsz, hP, hK, hD0, hC⟩ := hv
  have hx := B.exec
  have hb := B.bytes
  have hr := B.returns
  have hts := hts_g (atoms_spec (ws := ww yX8_cost cX8_cost 4 (some .int)) B.pre)
  have hown : s.vm.findClass RX8 = some m.cls := findClass_of_methodNamed B.named
  have hlocks := B.notSynchronized
  clear B
  subst hsz
  have hD := fun τ => A8_D (sz := s.heap.size) hD0 τ
  clear hD0
  have hS : va_S (A8 cy g s.heap.size) s.heap s.heap [] := va_S.rf
  have hl := lv_entry ([.ref (gO g 17), .int p1, .int p2]) (n := 4) (Nat.le_of_ble_eq_true rfl)
  rw [lg_entry_eq]
  generalize (lg_sl ([.ref (gO g 17), .int p1, .int p2]) ++ List.replicate (4 - (lg_sl ([.ref (gO g 17), .int p1, .int p2])).length) Slot.unset).toArray = ls at hl ⊢
  have hl : lv_has ls 4 [(0, .ref (gO g 17)), (1, .int p1), (2, .int p2)] := hl
  refine lv_aload_n hx hb dX8_cost_0 rfl (lv_at hl 0 rfl) ?_
  refine lv_iload_n hx hb dX8_cost_1 rfl (lv_at hl 1 rfl) ?_
  refine lv_iload_n hx hb dX8_cost_2 rfl (lv_at hl 2 rfl) ?_
  refine va_calli (va_runV (As := [.int p1, .int p2]) (rest := []) ⟨hx, hb, hml, hown, hts⟩ (m_X8_layBest l D cy g σ  p1 p2 _ hJ ) (cwV 2 hts (gd_V q914 q916 q18 q125 q917) rfl rfl rfl (by decide +kernel) ⟨(Nat.le_of_ble_eq_true rfl), (Nat.le_of_ble_eq_true rfl)⟩) (pv8 hP hK hD hC hS (rv8_8 hK hP)) rfl rfl hl.1 rfl (lv_room (Nat.le_of_ble_eq_true rfl)) dX8_cost_3 ⟨Nat.le_of_ble_eq_true rfl, Nat.le_of_ble_eq_true rfl⟩) hS (fun q _ h => up8 hS q h) (up8 hS) (fun r1 σ2 tS H1 locs ht hvm hw3 hB hz1 hk1 hS => ?_)
  have hP : va_P D clz (WD8 cy g σ2) H1 := by rw [← ht]; exact hB
  clear hB hz1 hk1 hvm ht
  generalize H1 = H at hP hS ⊢
  have hF4 : Fr (fO [11, 13]) σ σ2 := hw3.1
  have hJ5 : J8 σ2 := hw3.2.1
  have b6 : (-2 : Int) ≤ r1.toInt ∧ r1.toInt ≤ 0 := hw3.2.2.1
  refine lv_istore_n (lv' := [(3, .int r1), (0, .ref (gO g 17)), (1, .int p1), (2, .int p2)]) hx hb dX8_cost_6 rfl hl (by decide) rfl (fun ls hl => ?_)
  refine lv_iload_n hx hb dX8_cost_7 rfl (lv_at hl 0 rfl) ?_
  refine lv_if_ne (tgt := 21) hx hb dX8_cost_8 (by decide) (fun c7 => ?_) (fun c7 => ?_)
  ·
    have k8 := neq32 c7
    refine lv_iload_n hx hb dX8_cost_21 rfl (lv_at hl 0 rfl) ?_
    exact W.iret (v := r1) hx hb hr (fun tS ht hW => ⟨⟨r1, σ2, rfl, ⟨Fr.tr (Fr.rf) hF4 (fO_sub (fun _ q => q)), hJ5, trivial⟩, (show va_P D clz (WD8 cy g σ2) tS.heap by rw [ht]; exact hP)⟩, hS.F ht⟩) hS.2.2 dX8_cost_22
  ·
    have k9 := peq32 c7
    refine lv_aload_n hx hb dX8_cost_11 rfl (lv_at hl 1 rfl) ?_
    refine g8_8_8 hx hb hts hown hK hP (hts _ q442) dX8_cost_12 ?_
    refine g8_3_1 (x := ((σ2 13).1 1)) hx hb hts hown hK hP (rfl) (hts _ q283) dX8_cost_15 ?_
    refine lv_goto (tgt := 22) hx hb dX8_cost_18 (by decide) ?_
    exact W.iret (v := ((σ2 13).1 1)) hx hb hr (fun tS ht hW => ⟨⟨((σ2 13).1 1), σ2, rfl, ⟨Fr.tr (Fr.rf) hF4 (fO_sub (fun _ q => q)), hJ5, trivial⟩, (show va_P D clz (WD8 cy g σ2) tS.heap by rw [ht]; exact hP)⟩, hS.F ht⟩) hS.2.2 dX8_cost_22

theorem q999 : Cond.code yX8_sour cX8_sour 4 (some .int) ∈ lw_g := lw_gm (List.mem_of_getElem? (i := 999) (by decide +kernel)) rfl
theorem q285 : Cond.fieldLink RX8 254 "LipsAndSlides$Plays" "bestSour" "I" ∈ lw_g := lw_gm (List.mem_of_getElem? (i := 285) (by decide +kernel)) rfl
theorem dX8_sour_0 : decode cX8_sour 0 = .ok (.aload_n 0, 1) := by decide +kernel
theorem dX8_sour_1 : decode cX8_sour 1 = .ok (.iload_n 1, 1) := by decide +kernel
theorem dX8_sour_2 : decode cX8_sour 2 = .ok (.iload_n 2, 1) := by decide +kernel
theorem dX8_sour_3 : decode cX8_sour 3 = .ok (.invokevirtual 248, 3) := by decide +kernel
theorem dX8_sour_6 : decode cX8_sour 6 = .ok (.istore_n 3, 1) := by decide +kernel
theorem dX8_sour_7 : decode cX8_sour 7 = .ok (.iload_n 3, 1) := by decide +kernel
theorem dX8_sour_8 : decode cX8_sour 8 = .ok (.ifCond .ne 13, 3) := by decide +kernel
theorem dX8_sour_11 : decode cX8_sour 11 = .ok (.aload_n 0, 1) := by decide +kernel
theorem dX8_sour_12 : decode cX8_sour 12 = .ok (.getfield 53, 3) := by decide +kernel
theorem dX8_sour_15 : decode cX8_sour 15 = .ok (.getfield 254, 3) := by decide +kernel
theorem dX8_sour_18 : decode cX8_sour 18 = .ok (.goto 4, 3) := by decide +kernel
theorem dX8_sour_21 : decode cX8_sour 21 = .ok (.iload_n 3, 1) := by decide +kernel
theorem dX8_sour_22 : decode cX8_sour 22 = .ok (.ireturn, 1) := by decide +kernel
set_option maxHeartbeats 4000000 in
set_option maxRecDepth 100000 in
theorem m_X8_sour (l : Launch) (D : va_G) (cy : Nat → ClassId) (g : Nat → Nat) (σ : ST) (p1 : Int32) (p2 : Int32) (sz : Nat) (hJ : J8 σ)  : Met l yX8_sour (ww yX8_sour cX8_sour 4 (some .int)) ({ frames := 7, cells := 0, slots := 0, locals := 448 }) (va_Pc [.ref (gO g 17), .int p1, .int p2] (pr8 D cy g σ sz)) (qi8 D cy g sz (fun r τ => Fr (fO [11, 13]) σ τ ∧ J8 τ ∧ True)) 0 0 (A8 cy g sz) := by
  refine Met.ofW (cc := cX8_sour) (maxL := 4) (ret := (some .int)) (by decide) rfl ?_
  intro p e s m args below meth c s₁ B hml hv
  obtain ⟨rfl, hsz, hP, hK, hD0, hC⟩ := hv
  have hx := B.exec
  have hb := B.bytes
  have hr := B.returns
  have hts := hts_g (atoms_spec (ws := ww yX8_sour cX8_sour 4 (some .int)) B.pre)
  have hown : s.vm.findClass RX8 = some m.cls := findClass_of_methodNamed B.named
  have hlocks := B.notSynchronized
  clear B
  subst hsz
  have hD := fun τ => A8_D (sz := s.heap.size) hD0 τ
  clear hD0
  have hS : va_S (A8 cy g s.heap.size) s.heap s.heap [] := va_S.rf
  have hl := lv_entry ([.ref (gO g 17), .int p1, .int p2]) (n := 4) (Nat.le_of_ble_eq_true rfl)
  rw [lg_entry_eq]
  generalize (lg_sl ([.ref (gO g 17), .int p1, .int p2]) ++ List.replicate (4 - (lg_sl ([.ref (gO g 17), .int p1, .int p2])).length) Slot.unset).toArray = ls at hl ⊢
  have hl : lv_has ls 4 [(0, .ref (gO g 17)), (1, .int p1), (2, .int p2)] := hl
  refine lv_aload_n hx hb dX8_sour_0 rfl (lv_at hl 0 rfl) ?_
  refine lv_iload_n hx hb dX8_sour_1 rfl (lv_at hl 1 rfl) ?_
  refine lv_iload_n hx hb dX8_sour_2 rfl (lv_at hl 2 rfl) ?_
  refine va_calli (va_runV (As := [.int p1, .int p2]) (rest := []) ⟨hx, hb, hml, hown, hts⟩ (m_X8_layBest l D cy g σ  p1 p2 _ hJ ) (cwV 2 hts (gd_V q914 q916 q18 q125 q917) rfl rfl rfl (by decide +kernel) ⟨(Nat.le_of_ble_eq_true rfl), (Nat.le_of_ble_eq_true rfl)⟩) (pv8 hP hK hD hC hS (rv8_8 hK hP)) rfl rfl hl.1 rfl (lv_room (Nat.le_of_ble_eq_true rfl)) dX8_sour_3 ⟨Nat.le_of_ble_eq_true rfl, Nat.le_of_ble_eq_true rfl⟩) hS (fun q _ h => up8 hS q h) (up8 hS) (fun r1 σ2 tS H1 locs ht hvm hw3 hB hz1 hk1 hS => ?_)
  have hP : va_P D clz (WD8 cy g σ2) H1 := by rw [← ht]; exact hB
  clear hB hz1 hk1 hvm ht
  generalize H1 = H at hP hS ⊢
  have hF4 : Fr (fO [11, 13]) σ σ2 := hw3.1
  have hJ5 : J8 σ2 := hw3.2.1
  have b6 : (-2 : Int) ≤ r1.toInt ∧ r1.toInt ≤ 0 := hw3.2.2.1
  refine lv_istore_n (lv' := [(3, .int r1), (0, .ref (gO g 17)), (1, .int p1), (2, .int p2)]) hx hb dX8_sour_6 rfl hl (by decide) rfl (fun ls hl => ?_)
  refine lv_iload_n hx hb dX8_sour_7 rfl (lv_at hl 0 rfl) ?_
  refine lv_if_ne (tgt := 21) hx hb dX8_sour_8 (by decide) (fun c7 => ?_) (fun c7 => ?_)
  ·
    have k8 := neq32 c7
    refine lv_iload_n hx hb dX8_sour_21 rfl (lv_at hl 0 rfl) ?_
    exact W.iret (v := r1) hx hb hr (fun tS ht hW => ⟨⟨r1, σ2, rfl, ⟨Fr.tr (Fr.rf) hF4 (fO_sub (fun _ q => q)), hJ5, trivial⟩, (show va_P D clz (WD8 cy g σ2) tS.heap by rw [ht]; exact hP)⟩, hS.F ht⟩) hS.2.2 dX8_sour_22
  ·
    have k9 := peq32 c7
    refine lv_aload_n hx hb dX8_sour_11 rfl (lv_at hl 1 rfl) ?_
    refine g8_8_8 hx hb hts hown hK hP (hts _ q442) dX8_sour_12 ?_
    refine g8_3_2 (x := ((σ2 13).1 2)) hx hb hts hown hK hP (rfl) (hts _ q285) dX8_sour_15 ?_
    refine lv_goto (tgt := 22) hx hb dX8_sour_18 (by decide) ?_
    exact W.iret (v := ((σ2 13).1 2)) hx hb hr (fun tS ht hW => ⟨⟨((σ2 13).1 2), σ2, rfl, ⟨Fr.tr (Fr.rf) hF4 (fO_sub (fun _ q => q)), hJ5, trivial⟩, (show va_P D clz (WD8 cy g σ2) tS.heap by rw [ht]; exact hP)⟩, hS.F ht⟩) hS.2.2 dX8_sour_22

theorem q1007 : Cond.code yX3_stepOf cX3_stepOf 3 (some .int) ∈ lw_g := lw_gm (List.mem_of_getElem? (i := 1007) (by decide +kernel)) rfl
theorem dX3_stepOf_0 : decode cX3_stepOf 0 = .ok (.iconst 0, 1) := by decide +kernel
theorem dX3_stepOf_1 : decode cX3_stepOf 1 = .ok (.istore_n 2, 1) := by decide +kernel
theorem dX3_stepOf_2 : decode cX3_stepOf 2 = .ok (.iload_n 2, 1) := by decide +kernel
theorem dX3_stepOf_3 : decode cX3_stepOf 3 = .ok (.aload_n 0, 1) := by decide +kernel
theorem dX3_stepOf_4 : decode cX3_stepOf 4 = .ok (.getfield 75, 3) := by decide +kernel
theorem dX3_stepOf_7 : decode cX3_stepOf 7 = .ok (.if_icmp .ge 21, 3) := by decide +kernel
theorem dX3_stepOf_10 : decode cX3_stepOf 10 = .ok (.aload_n 0, 1) := by decide +kernel
theorem dX3_stepOf_11 : decode cX3_stepOf 11 = .ok (.getfield 22, 3) := by decide +kernel
theorem dX3_stepOf_14 : decode cX3_stepOf 14 = .ok (.iload_n 2, 1) := by decide +kernel
theorem dX3_stepOf_15 : decode cX3_stepOf 15 = .ok (.iaload, 1) := by decide +kernel
theorem dX3_stepOf_16 : decode cX3_stepOf 16 = .ok (.iload_n 1, 1) := by decide +kernel
theorem dX3_stepOf_17 : decode cX3_stepOf 17 = .ok (.if_icmp .ne 5, 3) := by decide +kernel
theorem dX3_stepOf_20 : decode cX3_stepOf 20 = .ok (.iload_n 2, 1) := by decide +kernel
theorem dX3_stepOf_21 : decode cX3_stepOf 21 = .ok (.ireturn, 1) := by decide +kernel
theorem dX3_stepOf_22 : decode cX3_stepOf 22 = .ok (.iinc 2 1, 3) := by decide +kernel
theorem dX3_stepOf_25 : decode cX3_stepOf 25 = .ok (.goto (-23), 3) := by decide +kernel
theorem dX3_stepOf_28 : decode cX3_stepOf 28 = .ok (.iconst (-1), 1) := by decide +kernel
theorem dX3_stepOf_29 : decode cX3_stepOf 29 = .ok (.ireturn, 1) := by decide +kernel
set_option maxHeartbeats 4000000 in
set_option maxRecDepth 100000 in
theorem m_X3_stepOf (l : Launch) (D : va_G) (cy : Nat → ClassId) (g : Nat → Nat) (σ : ST) (p1 : Int32) (sz : Nat) (hJ : J8 σ)  : Met l yX3_stepOf (ww yX3_stepOf cX3_stepOf 3 (some .int)) ({ frames := 1, cells := 0, slots := 0, locals := 64 }) (va_Pc [.ref (gO g 13), .int p1] (pr8 D cy g σ sz)) (qi8 D cy g sz (fun r τ => τ = σ ∧ ((-1 : Int) ≤ r.toInt ∧ r.toInt ≤ 15) ∧ True)) 0 0 (A8 cy g sz) := by
  refine Met.ofW (cc := cX3_stepOf) (maxL := 3) (ret := (some .int)) (by decide) rfl ?_
  intro p e s m args below meth c s₁ B hml hv
  obtain ⟨rfl, hsz, hP, hK, hD0, hC⟩ := hv
  have hx := B.exec
  have hb := B.bytes
  have hr := B.returns
  have hts := hts_g (atoms_spec (ws := ww yX3_stepOf cX3_stepOf 3 (some .int)) B.pre)
  have hown : s.vm.findClass RX3 = some m.cls := findClass_of_methodNamed B.named
  have hlocks := B.notSynchronized
  clear B
  subst hsz
  have hD := fun τ => A8_D (sz := s.heap.size) hD0 τ
  clear hD0
  have hS : va_S (A8 cy g s.heap.size) s.heap s.heap [] := va_S.rf
  have hl := lv_entry ([.ref (gO g 13), .int p1]) (n := 3) (Nat.le_of_ble_eq_true rfl)
  rw [lg_entry_eq]
  generalize (lg_sl ([.ref (gO g 13), .int p1]) ++ List.replicate (3 - (lg_sl ([.ref (gO g 13), .int p1])).length) Slot.unset).toArray = ls at hl ⊢
  have hl : lv_has ls 3 [(0, .ref (gO g 13)), (1, .int p1)] := hl
  refine lv_iconst (v := 0) hx hb dX3_stepOf_0 (by decide) ?_
  refine lv_istore_n (lv' := [(2, .int 0), (0, .ref (gO g 13)), (1, .int p1)]) hx hb dX3_stepOf_1 rfl hl (by decide) rfl (fun ls hl => ?_)
  refine loop8 3 2 (fun x : LZ => [(2, .int (x.2.1 0)), (0, .ref (gO g 13)), (1, .int p1)]) (fun x : LZ => (x.1 = σ) ∧ ((0 : Int) ≤ (x.2.1 0).toInt ∧ (x.2.1 0).toInt ≤ 16) ∧ True) (fun x : LZ => ((17 : Int) - (x.2.1 0).toInt).toNat) ?_ (σ, lf [0], lg []) ⟨rfl, (show (0 : Int) ≤ (0 : Int32).toInt ∧ (0 : Int32).toInt ≤ 16 from (by have z0 : (0 : Int32).toInt = 0 := (by decide); omega)), trivial⟩ _ _ _ hP hS (lv_sub hl [0, 1, 2] rfl)
  intro y3 hI2 nl1 H locs ls hP hS hl
  rw [show y3.1 = σ from hI2.1] at hP
  have b4 : (0 : Int) ≤ (y3.2.1 0).toInt ∧ (y3.2.1 0).toInt ≤ 16 := hI2.2.1
  have hl : lv_has ls 3 [(2, .int (y3.2.1 0)), (0, .ref (gO g 13)), (1, .int p1)] := hl
  refine lv_iload_n hx hb dX3_stepOf_2 rfl (lv_at hl 0 rfl) ?_
  refine lv_aload_n hx hb dX3_stepOf_3 rfl (lv_at hl 1 rfl) ?_
  refine g8_3_0 (x := ((σ 13).1 0)) hx hb hts hown hK hP (rfl) (hts _ q280) dX3_stepOf_4 ?_
  refine lv_icmp_ge (tgt := 28) hx hb dX3_stepOf_7 (by decide) (fun c5 => ?_) (fun c5 => ?_)
  ·
    have k6 := ple32 c5
    refine lv_iconst (v := (-1)) hx hb dX3_stepOf_28 (by decide) ?_
    exact W.iret (v := (-1)) hx hb hr (fun tS ht hW => ⟨⟨(-1), σ, rfl, ⟨rfl, (show (-1 : Int) ≤ ((-1) : Int32).toInt ∧ ((-1) : Int32).toInt ≤ 15 from (by have zm1 : ((-1) : Int32).toInt = (-1) := (by decide); omega)), trivial⟩, (show va_P D clz (WD8 cy g σ) tS.heap by rw [ht]; exact hP)⟩, hS.F ht⟩) hS.2.2 dX3_stepOf_29
  ·
    have k7 := nle32 c5
    refine lv_aload_n hx hb dX3_stepOf_10 rfl (lv_at hl 1 rfl) ?_
    refine g8_3_8 hx hb hts hown hK hP (hts _ q293) dX3_stepOf_11 ?_
    refine lv_iload_n hx hb dX3_stepOf_14 rfl (lv_at hl 0 rfl) ?_
    obtain ⟨x8, ex8⟩ : ∃ z, (σ 13).2.2.1 8 (y3.2.1 0).toInt.toNat = z := ⟨_, rfl⟩
    refine l8_3_8 (x := x8) hx hb hK hP (vpo (by have f0 := b4; have f1 := k7; have f2 := j8_3_0 hJ rfl; have g0 := rg32 (y3.2.1 0); omega)) ex8 dX3_stepOf_15 ?_
    have t9 := a8_3_8 hJ ex8
    refine lv_iload_n hx hb dX3_stepOf_16 rfl (lv_at hl 2 rfl) ?_
    refine lv_icmp_ne (tgt := 22) hx hb dX3_stepOf_17 (by decide) (fun c10 => ?_) (fun c10 => ?_)
    ·
      have k11 := neq32 c10
      obtain ⟨x12, ex12⟩ : ∃ y : Int32, y = (y3.2.1 0) + 1 := ⟨_, rfl⟩
      have t13 := addO ex12 (by have f0 := b4; have f1 := k7; have f2 := j8_3_0 hJ rfl; have g0 := rg32 (y3.2.1 0); have z1 : (1 : Int32).toInt = 1 := (by decide); omega)
      refine lv_iinc (v := x12) (lv' := [(2, .int x12), (0, .ref (gO g 13)), (1, .int p1)]) hx hb dX3_stepOf_22 hl (k := 0) rfl (by rw [ex12]; rfl) (by decide) rfl (fun ls hl => ?_)
      refine lv_goto (tgt := 2) hx hb dX3_stepOf_25 (by decide) ?_
      have t14 : ((17 : Int) - x12.toInt).toNat < ((17 : Int) - (y3.2.1 0).toInt).toNat := (by have f0 := b4; have f1 := k7; have f2 := t13; have f3 := j8_3_0 hJ rfl; have g0 := rg32 (y3.2.1 0); have g1 := rg32 x12; have z1 : (1 : Int32).toInt = 1 := (by decide); omega)
      exact nl1 (σ, lf [x12], lg []) ⟨rfl, (show (0 : Int) ≤ (x12 : Int32).toInt ∧ (x12 : Int32).toInt ≤ 16 from (by have f0 := t13; have f1 := b4; have f2 := k7; have f3 := j8_3_0 hJ rfl; have g0 := rg32 x12; have z1 : (1 : Int32).toInt = 1 := (by decide); omega)), trivial⟩ (show ((17 : Int) - x12.toInt).toNat < _ from t14) _ _ _ hP hS (lv_sub hl [0, 1, 2] rfl)
    ·
      have k15 := peq32 c10
      refine lv_iload_n hx hb dX3_stepOf_20 rfl (lv_at hl 0 rfl) ?_
      exact W.iret (v := (y3.2.1 0)) hx hb hr (fun tS ht hW => ⟨⟨(y3.2.1 0), σ, rfl, ⟨rfl, (show (-1 : Int) ≤ (y3.2.1 0).toInt ∧ (y3.2.1 0).toInt ≤ 15 from (by have f0 := b4; have f1 := k7; have f2 := j8_3_0 hJ rfl; have g0 := rg32 (y3.2.1 0); omega)), trivial⟩, (show va_P D clz (WD8 cy g σ) tS.heap by rw [ht]; exact hP)⟩, hS.F ht⟩) hS.2.2 dX3_stepOf_21

theorem q1011 : Cond.code yX3_pickedAt cX3_pickedAt 3 (some .int) ∈ lw_g := lw_gm (List.mem_of_getElem? (i := 1011) (by decide +kernel)) rfl
theorem dX3_pickedAt_0 : decode cX3_pickedAt 0 = .ok (.iload_n 1, 1) := by decide +kernel
theorem dX3_pickedAt_1 : decode cX3_pickedAt 1 = .ok (.ifCond .lt 11, 3) := by decide +kernel
theorem dX3_pickedAt_4 : decode cX3_pickedAt 4 = .ok (.iload_n 1, 1) := by decide +kernel
theorem dX3_pickedAt_5 : decode cX3_pickedAt 5 = .ok (.aload_n 0, 1) := by decide +kernel
theorem dX3_pickedAt_6 : decode cX3_pickedAt 6 = .ok (.getfield 75, 3) := by decide +kernel
theorem dX3_pickedAt_9 : decode cX3_pickedAt 9 = .ok (.if_icmp .lt 5, 3) := by decide +kernel
theorem dX3_pickedAt_12 : decode cX3_pickedAt 12 = .ok (.iconst (-1), 1) := by decide +kernel
theorem dX3_pickedAt_13 : decode cX3_pickedAt 13 = .ok (.ireturn, 1) := by decide +kernel
theorem dX3_pickedAt_14 : decode cX3_pickedAt 14 = .ok (.iload_n 2, 1) := by decide +kernel
theorem dX3_pickedAt_15 : decode cX3_pickedAt 15 = .ok (.ifCond .ne 15, 3) := by decide +kernel
theorem dX3_pickedAt_18 : decode cX3_pickedAt 18 = .ok (.aload_n 0, 1) := by decide +kernel
theorem dX3_pickedAt_19 : decode cX3_pickedAt 19 = .ok (.getfield 40, 3) := by decide +kernel
theorem dX3_pickedAt_22 : decode cX3_pickedAt 22 = .ok (.aload_n 0, 1) := by decide +kernel
theorem dX3_pickedAt_23 : decode cX3_pickedAt 23 = .ok (.getfield 37, 3) := by decide +kernel
theorem dX3_pickedAt_26 : decode cX3_pickedAt 26 = .ok (.iload_n 1, 1) := by decide +kernel
theorem dX3_pickedAt_27 : decode cX3_pickedAt 27 = .ok (.iaload, 1) := by decide +kernel
theorem dX3_pickedAt_28 : decode cX3_pickedAt 28 = .ok (.iaload, 1) := by decide +kernel
theorem dX3_pickedAt_29 : decode cX3_pickedAt 29 = .ok (.ireturn, 1) := by decide +kernel
theorem dX3_pickedAt_30 : decode cX3_pickedAt 30 = .ok (.iload_n 2, 1) := by decide +kernel
theorem dX3_pickedAt_31 : decode cX3_pickedAt 31 = .ok (.iconst 1, 1) := by decide +kernel
theorem dX3_pickedAt_32 : decode cX3_pickedAt 32 = .ok (.if_icmp .ne 17, 3) := by decide +kernel
theorem dX3_pickedAt_35 : decode cX3_pickedAt 35 = .ok (.aload_n 0, 1) := by decide +kernel
theorem dX3_pickedAt_36 : decode cX3_pickedAt 36 = .ok (.getfield 43, 3) := by decide +kernel
theorem dX3_pickedAt_39 : decode cX3_pickedAt 39 = .ok (.aload_n 0, 1) := by decide +kernel
theorem dX3_pickedAt_40 : decode cX3_pickedAt 40 = .ok (.getfield 37, 3) := by decide +kernel
theorem dX3_pickedAt_43 : decode cX3_pickedAt 43 = .ok (.iload_n 1, 1) := by decide +kernel
theorem dX3_pickedAt_44 : decode cX3_pickedAt 44 = .ok (.iaload, 1) := by decide +kernel
theorem dX3_pickedAt_45 : decode cX3_pickedAt 45 = .ok (.iaload, 1) := by decide +kernel
theorem dX3_pickedAt_46 : decode cX3_pickedAt 46 = .ok (.goto 16, 3) := by decide +kernel
theorem dX3_pickedAt_49 : decode cX3_pickedAt 49 = .ok (.aload_n 0, 1) := by decide +kernel
theorem dX3_pickedAt_50 : decode cX3_pickedAt 50 = .ok (.getfield 37, 3) := by decide +kernel
theorem dX3_pickedAt_53 : decode cX3_pickedAt 53 = .ok (.iload_n 1, 1) := by decide +kernel
theorem dX3_pickedAt_54 : decode cX3_pickedAt 54 = .ok (.iaload, 1) := by decide +kernel
theorem dX3_pickedAt_55 : decode cX3_pickedAt 55 = .ok (.aload_n 0, 1) := by decide +kernel
theorem dX3_pickedAt_56 : decode cX3_pickedAt 56 = .ok (.getfield 34, 3) := by decide +kernel
theorem dX3_pickedAt_59 : decode cX3_pickedAt 59 = .ok (.iload_n 1, 1) := by decide +kernel
theorem dX3_pickedAt_60 : decode cX3_pickedAt 60 = .ok (.iaload, 1) := by decide +kernel
theorem dX3_pickedAt_61 : decode cX3_pickedAt 61 = .ok (.isub, 1) := by decide +kernel
theorem dX3_pickedAt_62 : decode cX3_pickedAt 62 = .ok (.ireturn, 1) := by decide +kernel
set_option maxHeartbeats 4000000 in
set_option maxRecDepth 100000 in
theorem m_X3_pickedAt (l : Launch) (D : va_G) (cy : Nat → ClassId) (g : Nat → Nat) (σ : ST) (p1 : Int32) (p2 : Int32) (sz : Nat) (hJ : J8 σ) (h0 : (-1 : Int) ≤ p1.toInt ∧ p1.toInt ≤ 15) (h1 : (0 : Int) ≤ p2.toInt ∧ p2.toInt ≤ 2) : Met l yX3_pickedAt (ww yX3_pickedAt cX3_pickedAt 3 (some .int)) ({ frames := 1, cells := 0, slots := 0, locals := 64 }) (va_Pc [.ref (gO g 13), .int p1, .int p2] (pr8 D cy g σ sz)) (qi8 D cy g sz (fun r τ => τ = σ ∧ True)) 0 0 (A8 cy g sz) := by
  refine Met.ofW (cc := cX3_pickedAt) (maxL := 3) (ret := (some .int)) (by decide) rfl ?_
  intro p e s m args below meth c s₁ B hml hv
  obtain ⟨rfl, hsz, hP, hK, hD0, hC⟩ := hv
  have hx := B.exec
  have hb := B.bytes
  have hr := B.returns
  have hts := hts_g (atoms_spec (ws := ww yX3_pickedAt cX3_pickedAt 3 (some .int)) B.pre)
  have hown : s.vm.findClass RX3 = some m.cls := findClass_of_methodNamed B.named
  have hlocks := B.notSynchronized
  clear B
  subst hsz
  have hD := fun τ => A8_D (sz := s.heap.size) hD0 τ
  clear hD0
  have hS : va_S (A8 cy g s.heap.size) s.heap s.heap [] := va_S.rf
  have hl := lv_entry ([.ref (gO g 13), .int p1, .int p2]) (n := 3) (Nat.le_of_ble_eq_true rfl)
  rw [lg_entry_eq]
  generalize (lg_sl ([.ref (gO g 13), .int p1, .int p2]) ++ List.replicate (3 - (lg_sl ([.ref (gO g 13), .int p1, .int p2])).length) Slot.unset).toArray = ls at hl ⊢
  have hl : lv_has ls 3 [(0, .ref (gO g 13)), (1, .int p1), (2, .int p2)] := hl
  refine lv_iload_n hx hb dX3_pickedAt_0 rfl (lv_at hl 1 rfl) ?_
  refine lv_if_lt (tgt := 12) hx hb dX3_pickedAt_1 (by decide) (fun c1 => ?_) (fun c1 => ?_)
  ·
    have k2 := plt32 c1
    refine lv_iconst (v := (-1)) hx hb dX3_pickedAt_12 (by decide) ?_
    exact W.iret (v := (-1)) hx hb hr (fun tS ht hW => ⟨⟨(-1), σ, rfl, ⟨rfl, trivial⟩, (show va_P D clz (WD8 cy g σ) tS.heap by rw [ht]; exact hP)⟩, hS.F ht⟩) hS.2.2 dX3_pickedAt_13
  ·
    have k3 := nlt32 c1
    refine lv_iload_n hx hb dX3_pickedAt_4 rfl (lv_at hl 1 rfl) ?_
    refine lv_aload_n hx hb dX3_pickedAt_5 rfl (lv_at hl 0 rfl) ?_
    refine g8_3_0 (x := ((σ 13).1 0)) hx hb hts hown hK hP (rfl) (hts _ q280) dX3_pickedAt_6 ?_
    refine lv_icmp_lt (tgt := 14) hx hb dX3_pickedAt_9 (by decide) (fun c4 => ?_) (fun c4 => ?_)
    ·
      have k5 := plt32 c4
      refine lv_iload_n hx hb dX3_pickedAt_14 rfl (lv_at hl 2 rfl) ?_
      refine lv_if_ne (tgt := 30) hx hb dX3_pickedAt_15 (by decide) (fun c6 => ?_) (fun c6 => ?_)
      ·
        have k7 := neq32 c6
        refine lv_iload_n hx hb dX3_pickedAt_30 rfl (lv_at hl 2 rfl) ?_
        refine lv_iconst (v := 1) hx hb dX3_pickedAt_31 (by decide) ?_
        refine lv_icmp_ne (tgt := 49) hx hb dX3_pickedAt_32 (by decide) (fun c8 => ?_) (fun c8 => ?_)
        ·
          have k9 := neq32 c8
          refine lv_aload_n hx hb dX3_pickedAt_49 rfl (lv_at hl 0 rfl) ?_
          refine g8_3_13 hx hb hts hown hK hP (hts _ q298) dX3_pickedAt_50 ?_
          refine lv_iload_n hx hb dX3_pickedAt_53 rfl (lv_at hl 1 rfl) ?_
          obtain ⟨x10, ex10⟩ : ∃ z, (σ 13).2.2.1 13 p1.toInt.toNat = z := ⟨_, rfl⟩
          refine l8_3_13 (x := x10) hx hb hK hP (vpo (by have f0 := h0; have f1 := k3; have f2 := k5; have f3 := j8_3_0 hJ rfl; have g0 := rg32 p1; have z0 : (0 : Int32).toInt = 0 := (by decide); omega)) ex10 dX3_pickedAt_54 ?_
          have t11 := a8_3_13 hJ ex10
          refine lv_aload_n hx hb dX3_pickedAt_55 rfl (lv_at hl 0 rfl) ?_
          refine g8_3_12 hx hb hts hown hK hP (hts _ q297) dX3_pickedAt_56 ?_
          refine lv_iload_n hx hb dX3_pickedAt_59 rfl (lv_at hl 1 rfl) ?_
          obtain ⟨x12, ex12⟩ : ∃ z, (σ 13).2.2.1 12 p1.toInt.toNat = z := ⟨_, rfl⟩
          refine l8_3_12 (x := x12) hx hb hK hP (vpo (by have f0 := h0; have f1 := k3; have f2 := k5; have f3 := j8_3_0 hJ rfl; have g0 := rg32 p1; have z0 : (0 : Int32).toInt = 0 := (by decide); omega)) ex12 dX3_pickedAt_60 ?_
          have t13 := a8_3_12 hJ ex12
          refine lv_isub hx hb dX3_pickedAt_61 ?_
          refine lv_topi (fun x14 ex14 => ?_)
          have t15 := subO ex14 (by have f0 := t11; have f1 := t13; have g0 := rg32 x10; have g1 := rg32 x12; omega)
          exact W.iret (v := x14) hx hb hr (fun tS ht hW => ⟨⟨x14, σ, rfl, ⟨rfl, trivial⟩, (show va_P D clz (WD8 cy g σ) tS.heap by rw [ht]; exact hP)⟩, hS.F ht⟩) hS.2.2 dX3_pickedAt_62
        ·
          have k16 := peq32 c8
          refine lv_aload_n hx hb dX3_pickedAt_35 rfl (lv_at hl 0 rfl) ?_
          refine g8_3_15 hx hb hts hown hK hP (hts _ q300) dX3_pickedAt_36 ?_
          refine lv_aload_n hx hb dX3_pickedAt_39 rfl (lv_at hl 0 rfl) ?_
          refine g8_3_13 hx hb hts hown hK hP (hts _ q298) dX3_pickedAt_40 ?_
          refine lv_iload_n hx hb dX3_pickedAt_43 rfl (lv_at hl 1 rfl) ?_
          obtain ⟨x17, ex17⟩ : ∃ z, (σ 13).2.2.1 13 p1.toInt.toNat = z := ⟨_, rfl⟩
          refine l8_3_13 (x := x17) hx hb hK hP (vpo (by have f0 := h0; have f1 := k3; have f2 := k5; have f3 := j8_3_0 hJ rfl; have g0 := rg32 p1; have z0 : (0 : Int32).toInt = 0 := (by decide); omega)) ex17 dX3_pickedAt_44 ?_
          have t18 := a8_3_13 hJ ex17
          obtain ⟨x19, ex19⟩ : ∃ z, (σ 13).2.2.1 15 x17.toInt.toNat = z := ⟨_, rfl⟩
          refine l8_3_15 (x := x19) hx hb hK hP (vpo (by have f0 := t18; have g0 := rg32 x17; omega)) ex19 dX3_pickedAt_45 ?_
          have t20 := a8_3_15 hJ ex19
          refine lv_goto (tgt := 62) hx hb dX3_pickedAt_46 (by decide) ?_
          exact W.iret (v := x19) hx hb hr (fun tS ht hW => ⟨⟨x19, σ, rfl, ⟨rfl, trivial⟩, (show va_P D clz (WD8 cy g σ) tS.heap by rw [ht]; exact hP)⟩, hS.F ht⟩) hS.2.2 dX3_pickedAt_62
      ·
        have k21 := peq32 c6
        refine lv_aload_n hx hb dX3_pickedAt_18 rfl (lv_at hl 0 rfl) ?_
        refine g8_3_14 hx hb hts hown hK hP (hts _ q299) dX3_pickedAt_19 ?_
        refine lv_aload_n hx hb dX3_pickedAt_22 rfl (lv_at hl 0 rfl) ?_
        refine g8_3_13 hx hb hts hown hK hP (hts _ q298) dX3_pickedAt_23 ?_
        refine lv_iload_n hx hb dX3_pickedAt_26 rfl (lv_at hl 1 rfl) ?_
        obtain ⟨x22, ex22⟩ : ∃ z, (σ 13).2.2.1 13 p1.toInt.toNat = z := ⟨_, rfl⟩
        refine l8_3_13 (x := x22) hx hb hK hP (vpo (by have f0 := h0; have f1 := k3; have f2 := k5; have f3 := j8_3_0 hJ rfl; have g0 := rg32 p1; have z0 : (0 : Int32).toInt = 0 := (by decide); omega)) ex22 dX3_pickedAt_27 ?_
        have t23 := a8_3_13 hJ ex22
        obtain ⟨x24, ex24⟩ : ∃ z, (σ 13).2.2.1 14 x22.toInt.toNat = z := ⟨_, rfl⟩
        refine l8_3_14 (x := x24) hx hb hK hP (vpo (by have f0 := t23; have g0 := rg32 x22; omega)) ex24 dX3_pickedAt_28 ?_
        exact W.iret (v := x24) hx hb hr (fun tS ht hW => ⟨⟨x24, σ, rfl, ⟨rfl, trivial⟩, (show va_P D clz (WD8 cy g σ) tS.heap by rw [ht]; exact hP)⟩, hS.F ht⟩) hS.2.2 dX3_pickedAt_29
    ·
      have k25 := nlt32 c4
      refine lv_iconst (v := (-1)) hx hb dX3_pickedAt_12 (by decide) ?_
      exact W.iret (v := (-1)) hx hb hr (fun tS ht hW => ⟨⟨(-1), σ, rfl, ⟨rfl, trivial⟩, (show va_P D clz (WD8 cy g σ) tS.heap by rw [ht]; exact hP)⟩, hS.F ht⟩) hS.2.2 dX3_pickedAt_13

theorem q1003 : Cond.code yX8_chosen cX8_chosen 6 (some .int) ∈ lw_g := lw_gm (List.mem_of_getElem? (i := 1003) (by decide +kernel)) rfl
theorem q1004 : Cond.methodLink RX8 257 yX3_stepOf ∈ lw_g := lw_gm (List.mem_of_getElem? (i := 1004) (by decide +kernel)) rfl
theorem q1005 : Cond.instanceMethod yX3_stepOf ∈ lw_g := lw_gm (List.mem_of_getElem? (i := 1005) (by decide +kernel)) rfl
theorem q1006 : Cond.selects RX3 yX3_stepOf yX3_stepOf ∈ lw_g := lw_gm (List.mem_of_getElem? (i := 1006) (by decide +kernel)) rfl
theorem q1008 : Cond.methodLink RX8 260 yX3_pickedAt ∈ lw_g := lw_gm (List.mem_of_getElem? (i := 1008) (by decide +kernel)) rfl
theorem q1009 : Cond.instanceMethod yX3_pickedAt ∈ lw_g := lw_gm (List.mem_of_getElem? (i := 1009) (by decide +kernel)) rfl
theorem q1010 : Cond.selects RX3 yX3_pickedAt yX3_pickedAt ∈ lw_g := lw_gm (List.mem_of_getElem? (i := 1010) (by decide +kernel)) rfl
theorem dX8_chosen_0 : decode cX8_chosen 0 = .ok (.iload 4, 2) := by decide +kernel
theorem dX8_chosen_2 : decode cX8_chosen 2 = .ok (.ifCond .lt 9, 3) := by decide +kernel
theorem dX8_chosen_5 : decode cX8_chosen 5 = .ok (.iload 4, 2) := by decide +kernel
theorem dX8_chosen_7 : decode cX8_chosen 7 = .ok (.iconst 2, 1) := by decide +kernel
theorem dX8_chosen_8 : decode cX8_chosen 8 = .ok (.if_icmp .le 6, 3) := by decide +kernel
theorem dX8_chosen_11 : decode cX8_chosen 11 = .ok (.bipush (-2), 2) := by decide +kernel
theorem dX8_chosen_13 : decode cX8_chosen 13 = .ok (.ireturn, 1) := by decide +kernel
theorem dX8_chosen_14 : decode cX8_chosen 14 = .ok (.aload_n 0, 1) := by decide +kernel
theorem dX8_chosen_15 : decode cX8_chosen 15 = .ok (.iload_n 1, 1) := by decide +kernel
theorem dX8_chosen_16 : decode cX8_chosen 16 = .ok (.iload_n 2, 1) := by decide +kernel
theorem dX8_chosen_17 : decode cX8_chosen 17 = .ok (.invokevirtual 248, 3) := by decide +kernel
theorem dX8_chosen_20 : decode cX8_chosen 20 = .ok (.istore 5, 2) := by decide +kernel
theorem dX8_chosen_22 : decode cX8_chosen 22 = .ok (.iload 5, 2) := by decide +kernel
theorem dX8_chosen_24 : decode cX8_chosen 24 = .ok (.ifCond .ne 23, 3) := by decide +kernel
theorem dX8_chosen_27 : decode cX8_chosen 27 = .ok (.aload_n 0, 1) := by decide +kernel
theorem dX8_chosen_28 : decode cX8_chosen 28 = .ok (.getfield 53, 3) := by decide +kernel
theorem dX8_chosen_31 : decode cX8_chosen 31 = .ok (.aload_n 0, 1) := by decide +kernel
theorem dX8_chosen_32 : decode cX8_chosen 32 = .ok (.getfield 53, 3) := by decide +kernel
theorem dX8_chosen_35 : decode cX8_chosen 35 = .ok (.iload_n 3, 1) := by decide +kernel
theorem dX8_chosen_36 : decode cX8_chosen 36 = .ok (.invokevirtual 257, 3) := by decide +kernel
theorem dX8_chosen_39 : decode cX8_chosen 39 = .ok (.iload 4, 2) := by decide +kernel
theorem dX8_chosen_41 : decode cX8_chosen 41 = .ok (.invokevirtual 260, 3) := by decide +kernel
theorem dX8_chosen_44 : decode cX8_chosen 44 = .ok (.goto 5, 3) := by decide +kernel
theorem dX8_chosen_47 : decode cX8_chosen 47 = .ok (.iload 5, 2) := by decide +kernel
theorem dX8_chosen_49 : decode cX8_chosen 49 = .ok (.ireturn, 1) := by decide +kernel
set_option maxHeartbeats 4000000 in
set_option maxRecDepth 100000 in
theorem m_X8_chosen (l : Launch) (D : va_G) (cy : Nat → ClassId) (g : Nat → Nat) (σ : ST) (p1 : Int32) (p2 : Int32) (p3 : Int32) (p4 : Int32) (sz : Nat) (hJ : J8 σ)  : Met l yX8_chosen (ww yX8_chosen cX8_chosen 6 (some .int)) ({ frames := 7, cells := 0, slots := 0, locals := 448 }) (va_Pc [.ref (gO g 17), .int p1, .int p2, .int p3, .int p4] (pr8 D cy g σ sz)) (qi8 D cy g sz (fun r τ => Fr (fO [11, 13]) σ τ ∧ J8 τ ∧ True)) 0 0 (A8 cy g sz) := by
  refine Met.ofW (cc := cX8_chosen) (maxL := 6) (ret := (some .int)) (by decide) rfl ?_
  intro p e s m args below meth c s₁ B hml hv
  obtain ⟨rfl, hsz, hP, hK, hD0, hC⟩ := hv
  have hx := B.exec
  have hb := B.bytes
  have hr := B.returns
  have hts := hts_g (atoms_spec (ws := ww yX8_chosen cX8_chosen 6 (some .int)) B.pre)
  have hown : s.vm.findClass RX8 = some m.cls := findClass_of_methodNamed B.named
  have hlocks := B.notSynchronized
  clear B
  subst hsz
  have hD := fun τ => A8_D (sz := s.heap.size) hD0 τ
  clear hD0
  have hS : va_S (A8 cy g s.heap.size) s.heap s.heap [] := va_S.rf
  have hl := lv_entry ([.ref (gO g 17), .int p1, .int p2, .int p3, .int p4]) (n := 6) (Nat.le_of_ble_eq_true rfl)
  rw [lg_entry_eq]
  generalize (lg_sl ([.ref (gO g 17), .int p1, .int p2, .int p3, .int p4]) ++ List.replicate (6 - (lg_sl ([.ref (gO g 17), .int p1, .int p2, .int p3, .int p4])).length) Slot.unset).toArray = ls at hl ⊢
  have hl : lv_has ls 6 [(0, .ref (gO g 17)), (1, .int p1), (2, .int p2), (3, .int p3), (4, .int p4)] := hl
  refine lv_iload hx hb dX8_chosen_0 (lv_at hl 4 rfl) ?_
  refine lv_if_lt (tgt := 11) hx hb dX8_chosen_2 (by decide) (fun c1 => ?_) (fun c1 => ?_)
  ·
    have k2 := plt32 c1
    refine lv_bipush (v := (-2)) hx hb dX8_chosen_11 (by decide) ?_
    exact W.iret (v := (-2)) hx hb hr (fun tS ht hW => ⟨⟨(-2), σ, rfl, ⟨Fr.rf, hJ, trivial⟩, (show va_P D clz (WD8 cy g σ) tS.heap by rw [ht]; exact hP)⟩, hS.F ht⟩) hS.2.2 dX8_chosen_13
  ·
    have k3 := nlt32 c1
    refine lv_iload hx hb dX8_chosen_5 (lv_at hl 4 rfl) ?_
    refine lv_iconst (v := 2) hx hb dX8_chosen_7 (by decide) ?_
    refine lv_icmp_le (tgt := 14) hx hb dX8_chosen_8 (by decide) (fun c4 => ?_) (fun c4 => ?_)
    ·
      have k5 := ple32 c4
      refine lv_aload_n hx hb dX8_chosen_14 rfl (lv_at hl 0 rfl) ?_
      refine lv_iload_n hx hb dX8_chosen_15 rfl (lv_at hl 1 rfl) ?_
      refine lv_iload_n hx hb dX8_chosen_16 rfl (lv_at hl 2 rfl) ?_
      refine va_calli (va_runV (As := [.int p1, .int p2]) (rest := []) ⟨hx, hb, hml, hown, hts⟩ (m_X8_layBest l D cy g σ  p1 p2 _ hJ ) (cwV 2 hts (gd_V q914 q916 q18 q125 q917) rfl rfl rfl (by decide +kernel) ⟨(Nat.le_of_ble_eq_true rfl), (Nat.le_of_ble_eq_true rfl)⟩) (pv8 hP hK hD hC hS (rv8_8 hK hP)) rfl rfl hl.1 rfl (lv_room (Nat.le_of_ble_eq_true rfl)) dX8_chosen_17 ⟨Nat.le_of_ble_eq_true rfl, Nat.le_of_ble_eq_true rfl⟩) hS (fun q _ h => up8 hS q h) (up8 hS) (fun r6 σ7 tS H1 locs ht hvm hw8 hB hz1 hk1 hS => ?_)
      have hP : va_P D clz (WD8 cy g σ7) H1 := by rw [← ht]; exact hB
      clear hB hz1 hk1 hvm ht
      generalize H1 = H at hP hS ⊢
      have hF9 : Fr (fO [11, 13]) σ σ7 := hw8.1
      have hJ10 : J8 σ7 := hw8.2.1
      have b11 : (-2 : Int) ≤ r6.toInt ∧ r6.toInt ≤ 0 := hw8.2.2.1
      refine lv_istore (lv' := [(5, .int r6), (0, .ref (gO g 17)), (1, .int p1), (2, .int p2), (3, .int p3), (4, .int p4)]) hx hb dX8_chosen_20 hl (by decide) rfl (fun ls hl => ?_)
      refine lv_iload hx hb dX8_chosen_22 (lv_at hl 0 rfl) ?_
      refine lv_if_ne (tgt := 47) hx hb dX8_chosen_24 (by decide) (fun c12 => ?_) (fun c12 => ?_)
      ·
        have k13 := neq32 c12
        refine lv_iload hx hb dX8_chosen_47 (lv_at hl 0 rfl) ?_
        exact W.iret (v := r6) hx hb hr (fun tS ht hW => ⟨⟨r6, σ7, rfl, ⟨Fr.tr (Fr.rf) hF9 (fO_sub (fun _ q => q)), hJ10, trivial⟩, (show va_P D clz (WD8 cy g σ7) tS.heap by rw [ht]; exact hP)⟩, hS.F ht⟩) hS.2.2 dX8_chosen_49
      ·
        have k14 := peq32 c12
        refine lv_aload_n hx hb dX8_chosen_27 rfl (lv_at hl 1 rfl) ?_
        refine g8_8_8 hx hb hts hown hK hP (hts _ q442) dX8_chosen_28 ?_
        refine lv_aload_n hx hb dX8_chosen_31 rfl (lv_at hl 1 rfl) ?_
        refine g8_8_8 hx hb hts hown hK hP (hts _ q442) dX8_chosen_32 ?_
        refine lv_iload_n hx hb dX8_chosen_35 rfl (lv_at hl 4 rfl) ?_
        refine va_calli (va_runV (As := [.int p3]) (rest := [.ref (gO g 13)]) ⟨hx, hb, hml, hown, hts⟩ (m_X3_stepOf l D cy g σ7  p3 _ hJ10 ) (cwV 1 hts (gd_V q1004 q1005 q1006 q129 q1007) rfl rfl rfl (by decide +kernel) ⟨(Nat.le_of_ble_eq_true rfl), (Nat.le_of_ble_eq_true rfl)⟩) (pv8 hP hK hD hC hS (rv8_3 hK hP)) rfl rfl hl.1 rfl (lv_room (Nat.le_of_ble_eq_true rfl)) dX8_chosen_36 ⟨Nat.le_of_ble_eq_true rfl, Nat.le_of_ble_eq_true rfl⟩) hS (fun q _ h => up8 hS q h) (up8 hS) (fun r15 σ16 tS H1 locs ht hvm hw17 hB hz1 hk1 hS => ?_)
        have hP : va_P D clz (WD8 cy g σ16) H1 := by rw [← ht]; exact hB
        clear hB hz1 hk1 hvm ht
        generalize H1 = H at hP hS ⊢
        have hw17E : σ7 = σ16 := (hw17.1).symm
        subst hw17E
        have b18 : (-1 : Int) ≤ r15.toInt ∧ r15.toInt ≤ 15 := hw17.2.1
        refine lv_iload hx hb dX8_chosen_39 (lv_at hl 5 rfl) ?_
        refine va_calli (va_runV (As := [.int r15, .int p4]) (rest := []) ⟨hx, hb, hml, hown, hts⟩ (m_X3_pickedAt l D cy g σ7  r15 p4 _ hJ10 (show (-1 : Int) ≤ r15.toInt ∧ r15.toInt ≤ 15 from (by have f0 := b18; have g0 := rg32 r15; omega)) (show (0 : Int) ≤ p4.toInt ∧ p4.toInt ≤ 2 from (by have f0 := k3; have f1 := k5; have f2 := b18; have g0 := rg32 p4; have g1 := rg32 r15; have z0 : (0 : Int32).toInt = 0 := (by decide); have z2 : (2 : Int32).toInt = 2 := (by decide); omega))) (cwV 2 hts (gd_V q1008 q1009 q1010 q129 q1011) rfl rfl rfl (by decide +kernel) ⟨(Nat.le_of_ble_eq_true rfl), (Nat.le_of_ble_eq_true rfl)⟩) (pv8 hP hK hD hC hS (rv8_3 hK hP)) rfl rfl hl.1 rfl (lv_room (Nat.le_of_ble_eq_true rfl)) dX8_chosen_41 ⟨Nat.le_of_ble_eq_true rfl, Nat.le_of_ble_eq_true rfl⟩) hS (fun q _ h => up8 hS q h) (up8 hS) (fun r19 σ20 tS H1 locs ht hvm hw21 hB hz1 hk1 hS => ?_)
        have hP : va_P D clz (WD8 cy g σ20) H1 := by rw [← ht]; exact hB
        clear hB hz1 hk1 hvm ht
        generalize H1 = H at hP hS ⊢
        have hw21E : σ7 = σ20 := (hw21.1).symm
        subst hw21E
        refine lv_goto (tgt := 49) hx hb dX8_chosen_44 (by decide) ?_
        exact W.iret (v := r19) hx hb hr (fun tS ht hW => ⟨⟨r19, σ7, rfl, ⟨Fr.tr (Fr.rf) hF9 (fO_sub (fun _ q => q)), hJ10, trivial⟩, (show va_P D clz (WD8 cy g σ7) tS.heap by rw [ht]; exact hP)⟩, hS.F ht⟩) hS.2.2 dX8_chosen_49
    ·
      have k22 := nle32 c4
      refine lv_bipush (v := (-2)) hx hb dX8_chosen_11 (by decide) ?_
      exact W.iret (v := (-2)) hx hb hr (fun tS ht hW => ⟨⟨(-2), σ, rfl, ⟨Fr.rf, hJ, trivial⟩, (show va_P D clz (WD8 cy g σ) tS.heap by rw [ht]; exact hP)⟩, hS.F ht⟩) hS.2.2 dX8_chosen_13

theorem q1019 : Cond.code yX3_countSlurs cX3_countSlurs 9 (some .int) ∈ lw_g := lw_gm (List.mem_of_getElem? (i := 1019) (by decide +kernel)) rfl
theorem dX3_countSlurs_0 : decode cX3_countSlurs 0 = .ok (.iconst 0, 1) := by decide +kernel
theorem dX3_countSlurs_1 : decode cX3_countSlurs 1 = .ok (.istore_n 2, 1) := by decide +kernel
theorem dX3_countSlurs_2 : decode cX3_countSlurs 2 = .ok (.iconst 0, 1) := by decide +kernel
theorem dX3_countSlurs_3 : decode cX3_countSlurs 3 = .ok (.istore_n 3, 1) := by decide +kernel
theorem dX3_countSlurs_4 : decode cX3_countSlurs 4 = .ok (.iload_n 3, 1) := by decide +kernel
theorem dX3_countSlurs_5 : decode cX3_countSlurs 5 = .ok (.iconst 1, 1) := by decide +kernel
theorem dX3_countSlurs_6 : decode cX3_countSlurs 6 = .ok (.iadd, 1) := by decide +kernel
theorem dX3_countSlurs_7 : decode cX3_countSlurs 7 = .ok (.aload_n 0, 1) := by decide +kernel
theorem dX3_countSlurs_8 : decode cX3_countSlurs 8 = .ok (.getfield 75, 3) := by decide +kernel
theorem dX3_countSlurs_11 : decode cX3_countSlurs 11 = .ok (.if_icmp .ge 191, 3) := by decide +kernel
theorem dX3_countSlurs_14 : decode cX3_countSlurs 14 = .ok (.aload_n 0, 1) := by decide +kernel
theorem dX3_countSlurs_15 : decode cX3_countSlurs 15 = .ok (.aload_n 0, 1) := by decide +kernel
theorem dX3_countSlurs_16 : decode cX3_countSlurs 16 = .ok (.getfield 37, 3) := by decide +kernel
theorem dX3_countSlurs_19 : decode cX3_countSlurs 19 = .ok (.iload_n 3, 1) := by decide +kernel
theorem dX3_countSlurs_20 : decode cX3_countSlurs 20 = .ok (.iaload, 1) := by decide +kernel
theorem dX3_countSlurs_21 : decode cX3_countSlurs 21 = .ok (.aload_n 0, 1) := by decide +kernel
theorem dX3_countSlurs_22 : decode cX3_countSlurs 22 = .ok (.getfield 37, 3) := by decide +kernel
theorem dX3_countSlurs_25 : decode cX3_countSlurs 25 = .ok (.iload_n 3, 1) := by decide +kernel
theorem dX3_countSlurs_26 : decode cX3_countSlurs 26 = .ok (.iconst 1, 1) := by decide +kernel
theorem dX3_countSlurs_27 : decode cX3_countSlurs 27 = .ok (.iadd, 1) := by decide +kernel
theorem dX3_countSlurs_28 : decode cX3_countSlurs 28 = .ok (.iaload, 1) := by decide +kernel
theorem dX3_countSlurs_29 : decode cX3_countSlurs 29 = .ok (.invokevirtual 110, 3) := by decide +kernel
theorem dX3_countSlurs_32 : decode cX3_countSlurs 32 = .ok (.ifCond .le 7, 3) := by decide +kernel
theorem dX3_countSlurs_35 : decode cX3_countSlurs 35 = .ok (.iconst 1, 1) := by decide +kernel
theorem dX3_countSlurs_36 : decode cX3_countSlurs 36 = .ok (.goto 4, 3) := by decide +kernel
theorem dX3_countSlurs_39 : decode cX3_countSlurs 39 = .ok (.iconst 0, 1) := by decide +kernel
theorem dX3_countSlurs_40 : decode cX3_countSlurs 40 = .ok (.istore 4, 2) := by decide +kernel
theorem dX3_countSlurs_42 : decode cX3_countSlurs 42 = .ok (.aload_n 0, 1) := by decide +kernel
theorem dX3_countSlurs_43 : decode cX3_countSlurs 43 = .ok (.getfield 40, 3) := by decide +kernel
theorem dX3_countSlurs_46 : decode cX3_countSlurs 46 = .ok (.aload_n 0, 1) := by decide +kernel
theorem dX3_countSlurs_47 : decode cX3_countSlurs 47 = .ok (.getfield 37, 3) := by decide +kernel
theorem dX3_countSlurs_50 : decode cX3_countSlurs 50 = .ok (.iload_n 3, 1) := by decide +kernel
theorem dX3_countSlurs_51 : decode cX3_countSlurs 51 = .ok (.iaload, 1) := by decide +kernel
theorem dX3_countSlurs_52 : decode cX3_countSlurs 52 = .ok (.iaload, 1) := by decide +kernel
theorem dX3_countSlurs_53 : decode cX3_countSlurs 53 = .ok (.aload_n 0, 1) := by decide +kernel
theorem dX3_countSlurs_54 : decode cX3_countSlurs 54 = .ok (.getfield 40, 3) := by decide +kernel
theorem dX3_countSlurs_57 : decode cX3_countSlurs 57 = .ok (.aload_n 0, 1) := by decide +kernel
theorem dX3_countSlurs_58 : decode cX3_countSlurs 58 = .ok (.getfield 37, 3) := by decide +kernel
theorem dX3_countSlurs_61 : decode cX3_countSlurs 61 = .ok (.iload_n 3, 1) := by decide +kernel
theorem dX3_countSlurs_62 : decode cX3_countSlurs 62 = .ok (.iconst 1, 1) := by decide +kernel
theorem dX3_countSlurs_63 : decode cX3_countSlurs 63 = .ok (.iadd, 1) := by decide +kernel
theorem dX3_countSlurs_64 : decode cX3_countSlurs 64 = .ok (.iaload, 1) := by decide +kernel
theorem dX3_countSlurs_65 : decode cX3_countSlurs 65 = .ok (.iaload, 1) := by decide +kernel
theorem dX3_countSlurs_66 : decode cX3_countSlurs 66 = .ok (.if_icmp .ne 7, 3) := by decide +kernel
theorem dX3_countSlurs_69 : decode cX3_countSlurs 69 = .ok (.iconst 1, 1) := by decide +kernel
theorem dX3_countSlurs_70 : decode cX3_countSlurs 70 = .ok (.goto 4, 3) := by decide +kernel
theorem dX3_countSlurs_73 : decode cX3_countSlurs 73 = .ok (.iconst 0, 1) := by decide +kernel
theorem dX3_countSlurs_74 : decode cX3_countSlurs 74 = .ok (.istore 5, 2) := by decide +kernel
theorem dX3_countSlurs_76 : decode cX3_countSlurs 76 = .ok (.aload_n 0, 1) := by decide +kernel
theorem dX3_countSlurs_77 : decode cX3_countSlurs 77 = .ok (.getfield 43, 3) := by decide +kernel
theorem dX3_countSlurs_80 : decode cX3_countSlurs 80 = .ok (.aload_n 0, 1) := by decide +kernel
theorem dX3_countSlurs_81 : decode cX3_countSlurs 81 = .ok (.getfield 37, 3) := by decide +kernel
theorem dX3_countSlurs_84 : decode cX3_countSlurs 84 = .ok (.iload_n 3, 1) := by decide +kernel
theorem dX3_countSlurs_85 : decode cX3_countSlurs 85 = .ok (.iaload, 1) := by decide +kernel
theorem dX3_countSlurs_86 : decode cX3_countSlurs 86 = .ok (.iaload, 1) := by decide +kernel
theorem dX3_countSlurs_87 : decode cX3_countSlurs 87 = .ok (.aload_n 0, 1) := by decide +kernel
theorem dX3_countSlurs_88 : decode cX3_countSlurs 88 = .ok (.getfield 43, 3) := by decide +kernel
theorem dX3_countSlurs_91 : decode cX3_countSlurs 91 = .ok (.aload_n 0, 1) := by decide +kernel
theorem dX3_countSlurs_92 : decode cX3_countSlurs 92 = .ok (.getfield 37, 3) := by decide +kernel
theorem dX3_countSlurs_95 : decode cX3_countSlurs 95 = .ok (.iload_n 3, 1) := by decide +kernel
theorem dX3_countSlurs_96 : decode cX3_countSlurs 96 = .ok (.iconst 1, 1) := by decide +kernel
theorem dX3_countSlurs_97 : decode cX3_countSlurs 97 = .ok (.iadd, 1) := by decide +kernel
theorem dX3_countSlurs_98 : decode cX3_countSlurs 98 = .ok (.iaload, 1) := by decide +kernel
theorem dX3_countSlurs_99 : decode cX3_countSlurs 99 = .ok (.iaload, 1) := by decide +kernel
theorem dX3_countSlurs_100 : decode cX3_countSlurs 100 = .ok (.if_icmp .ne 7, 3) := by decide +kernel
theorem dX3_countSlurs_103 : decode cX3_countSlurs 103 = .ok (.iconst 1, 1) := by decide +kernel
theorem dX3_countSlurs_104 : decode cX3_countSlurs 104 = .ok (.goto 4, 3) := by decide +kernel
theorem dX3_countSlurs_107 : decode cX3_countSlurs 107 = .ok (.iconst 0, 1) := by decide +kernel
theorem dX3_countSlurs_108 : decode cX3_countSlurs 108 = .ok (.istore 6, 2) := by decide +kernel
theorem dX3_countSlurs_110 : decode cX3_countSlurs 110 = .ok (.aload_n 0, 1) := by decide +kernel
theorem dX3_countSlurs_111 : decode cX3_countSlurs 111 = .ok (.getfield 31, 3) := by decide +kernel
theorem dX3_countSlurs_114 : decode cX3_countSlurs 114 = .ok (.iload_n 3, 1) := by decide +kernel
theorem dX3_countSlurs_115 : decode cX3_countSlurs 115 = .ok (.iaload, 1) := by decide +kernel
theorem dX3_countSlurs_116 : decode cX3_countSlurs 116 = .ok (.iconst 1, 1) := by decide +kernel
theorem dX3_countSlurs_117 : decode cX3_countSlurs 117 = .ok (.if_icmp .ne 17, 3) := by decide +kernel
theorem dX3_countSlurs_120 : decode cX3_countSlurs 120 = .ok (.iload 5, 2) := by decide +kernel
theorem dX3_countSlurs_122 : decode cX3_countSlurs 122 = .ok (.ifCond .eq 12, 3) := by decide +kernel
theorem dX3_countSlurs_125 : decode cX3_countSlurs 125 = .ok (.iload 4, 2) := by decide +kernel
theorem dX3_countSlurs_127 : decode cX3_countSlurs 127 = .ok (.ifCond .eq 7, 3) := by decide +kernel
theorem dX3_countSlurs_130 : decode cX3_countSlurs 130 = .ok (.iconst 1, 1) := by decide +kernel
theorem dX3_countSlurs_131 : decode cX3_countSlurs 131 = .ok (.goto 4, 3) := by decide +kernel
theorem dX3_countSlurs_134 : decode cX3_countSlurs 134 = .ok (.iconst 0, 1) := by decide +kernel
theorem dX3_countSlurs_135 : decode cX3_countSlurs 135 = .ok (.istore 7, 2) := by decide +kernel
theorem dX3_countSlurs_137 : decode cX3_countSlurs 137 = .ok (.aload_n 0, 1) := by decide +kernel
theorem dX3_countSlurs_138 : decode cX3_countSlurs 138 = .ok (.getfield 31, 3) := by decide +kernel
theorem dX3_countSlurs_141 : decode cX3_countSlurs 141 = .ok (.iload_n 3, 1) := by decide +kernel
theorem dX3_countSlurs_142 : decode cX3_countSlurs 142 = .ok (.iaload, 1) := by decide +kernel
theorem dX3_countSlurs_143 : decode cX3_countSlurs 143 = .ok (.iconst 1, 1) := by decide +kernel
theorem dX3_countSlurs_144 : decode cX3_countSlurs 144 = .ok (.if_icmp .ne 17, 3) := by decide +kernel
theorem dX3_countSlurs_147 : decode cX3_countSlurs 147 = .ok (.iload 6, 2) := by decide +kernel
theorem dX3_countSlurs_149 : decode cX3_countSlurs 149 = .ok (.ifCond .eq 12, 3) := by decide +kernel
theorem dX3_countSlurs_152 : decode cX3_countSlurs 152 = .ok (.iload 5, 2) := by decide +kernel
theorem dX3_countSlurs_154 : decode cX3_countSlurs 154 = .ok (.ifCond .ne 7, 3) := by decide +kernel
theorem dX3_countSlurs_157 : decode cX3_countSlurs 157 = .ok (.iconst 1, 1) := by decide +kernel
theorem dX3_countSlurs_158 : decode cX3_countSlurs 158 = .ok (.goto 4, 3) := by decide +kernel
theorem dX3_countSlurs_161 : decode cX3_countSlurs 161 = .ok (.iconst 0, 1) := by decide +kernel
theorem dX3_countSlurs_162 : decode cX3_countSlurs 162 = .ok (.istore 8, 2) := by decide +kernel
theorem dX3_countSlurs_164 : decode cX3_countSlurs 164 = .ok (.iload_n 1, 1) := by decide +kernel
theorem dX3_countSlurs_165 : decode cX3_countSlurs 165 = .ok (.ifCond .ne 8, 3) := by decide +kernel
theorem dX3_countSlurs_168 : decode cX3_countSlurs 168 = .ok (.iload 7, 2) := by decide +kernel
theorem dX3_countSlurs_170 : decode cX3_countSlurs 170 = .ok (.ifCond .ne 23, 3) := by decide +kernel
theorem dX3_countSlurs_173 : decode cX3_countSlurs 173 = .ok (.iload_n 1, 1) := by decide +kernel
theorem dX3_countSlurs_174 : decode cX3_countSlurs 174 = .ok (.iconst 1, 1) := by decide +kernel
theorem dX3_countSlurs_175 : decode cX3_countSlurs 175 = .ok (.if_icmp .ne 8, 3) := by decide +kernel
theorem dX3_countSlurs_178 : decode cX3_countSlurs 178 = .ok (.iload 8, 2) := by decide +kernel
theorem dX3_countSlurs_180 : decode cX3_countSlurs 180 = .ok (.ifCond .ne 13, 3) := by decide +kernel
theorem dX3_countSlurs_183 : decode cX3_countSlurs 183 = .ok (.iload_n 1, 1) := by decide +kernel
theorem dX3_countSlurs_184 : decode cX3_countSlurs 184 = .ok (.iconst 2, 1) := by decide +kernel
theorem dX3_countSlurs_185 : decode cX3_countSlurs 185 = .ok (.if_icmp .ne 11, 3) := by decide +kernel
theorem dX3_countSlurs_188 : decode cX3_countSlurs 188 = .ok (.iload 4, 2) := by decide +kernel
theorem dX3_countSlurs_190 : decode cX3_countSlurs 190 = .ok (.ifCond .eq 6, 3) := by decide +kernel
theorem dX3_countSlurs_193 : decode cX3_countSlurs 193 = .ok (.iinc 2 1, 3) := by decide +kernel
theorem dX3_countSlurs_196 : decode cX3_countSlurs 196 = .ok (.iinc 3 1, 3) := by decide +kernel
theorem dX3_countSlurs_199 : decode cX3_countSlurs 199 = .ok (.goto (-195), 3) := by decide +kernel
theorem dX3_countSlurs_202 : decode cX3_countSlurs 202 = .ok (.iload_n 2, 1) := by decide +kernel
theorem dX3_countSlurs_203 : decode cX3_countSlurs 203 = .ok (.ireturn, 1) := by decide +kernel
set_option maxHeartbeats 4000000 in
set_option maxRecDepth 100000 in
theorem m_X3_countSlurs (l : Launch) (D : va_G) (cy : Nat → ClassId) (g : Nat → Nat) (σ : ST) (p1 : Int32) (sz : Nat) (hJ : J8 σ) (h0 : (0 : Int) ≤ p1.toInt ∧ p1.toInt ≤ 2) : Met l yX3_countSlurs (ww yX3_countSlurs cX3_countSlurs 9 (some .int)) ({ frames := 2, cells := 0, slots := 0, locals := 128 }) (va_Pc [.ref (gO g 13), .int p1] (pr8 D cy g σ sz)) (qi8 D cy g sz (fun r τ => τ = σ ∧ True)) 0 0 (A8 cy g sz) := by
  refine Met.ofW (cc := cX3_countSlurs) (maxL := 9) (ret := (some .int)) (by decide) rfl ?_
  intro p e s m args below meth c s₁ B hml hv
  obtain ⟨rfl, hsz, hP, hK, hD0, hC⟩ := hv
  have hx := B.exec
  have hb := B.bytes
  have hr := B.returns
  have hts := hts_g (atoms_spec (ws := ww yX3_countSlurs cX3_countSlurs 9 (some .int)) B.pre)
  have hown : s.vm.findClass RX3 = some m.cls := findClass_of_methodNamed B.named
  have hlocks := B.notSynchronized
  clear B
  subst hsz
  have hD := fun τ => A8_D (sz := s.heap.size) hD0 τ
  clear hD0
  have hS : va_S (A8 cy g s.heap.size) s.heap s.heap [] := va_S.rf
  have hl := lv_entry ([.ref (gO g 13), .int p1]) (n := 9) (Nat.le_of_ble_eq_true rfl)
  rw [lg_entry_eq]
  generalize (lg_sl ([.ref (gO g 13), .int p1]) ++ List.replicate (9 - (lg_sl ([.ref (gO g 13), .int p1])).length) Slot.unset).toArray = ls at hl ⊢
  have hl : lv_has ls 9 [(0, .ref (gO g 13)), (1, .int p1)] := hl
  refine lv_iconst (v := 0) hx hb dX3_countSlurs_0 (by decide) ?_
  refine lv_istore_n (lv' := [(2, .int 0), (0, .ref (gO g 13)), (1, .int p1)]) hx hb dX3_countSlurs_1 rfl hl (by decide) rfl (fun ls hl => ?_)
  refine lv_iconst (v := 0) hx hb dX3_countSlurs_2 (by decide) ?_
  refine lv_istore_n (lv' := [(3, .int 0), (2, .int 0), (0, .ref (gO g 13)), (1, .int p1)]) hx hb dX3_countSlurs_3 rfl hl (by decide) rfl (fun ls hl => ?_)
  refine loop8 9 4 (fun x : LZ => [(3, .int (x.2.1 0)), (2, .int (x.2.1 1)), (0, .ref (gO g 13)), (1, .int p1)]) (fun x : LZ => (x.1 = σ) ∧ ((0 : Int) ≤ (x.2.1 0).toInt ∧ (x.2.1 0).toInt ≤ 15) ∧ True) (fun x : LZ => ((16 : Int) - (x.2.1 0).toInt).toNat) ?_ (σ, lf [0, 0], lg []) ⟨rfl, (show (0 : Int) ≤ (0 : Int32).toInt ∧ (0 : Int32).toInt ≤ 15 from (by have z0 : (0 : Int32).toInt = 0 := (by decide); omega)), trivial⟩ _ _ _ hP hS (lv_sub hl [0, 1, 2, 3] rfl)
  intro y3 hI2 nl1 H locs ls hP hS hl
  rw [show y3.1 = σ from hI2.1] at hP
  have b4 : (0 : Int) ≤ (y3.2.1 0).toInt ∧ (y3.2.1 0).toInt ≤ 15 := hI2.2.1
  have hl : lv_has ls 9 [(3, .int (y3.2.1 0)), (2, .int (y3.2.1 1)), (0, .ref (gO g 13)), (1, .int p1)] := hl
  refine lv_iload_n hx hb dX3_countSlurs_4 rfl (lv_at hl 0 rfl) ?_
  refine lv_iconst (v := 1) hx hb dX3_countSlurs_5 (by decide) ?_
  refine lv_iadd hx hb dX3_countSlurs_6 ?_
  refine lv_topi (fun x5 ex5 => ?_)
  have t6 := addO ex5 (by have f0 := b4; have g0 := rg32 (y3.2.1 0); have z1 : (1 : Int32).toInt = 1 := (by decide); omega)
  refine lv_aload_n hx hb dX3_countSlurs_7 rfl (lv_at hl 2 rfl) ?_
  refine g8_3_0 (x := ((σ 13).1 0)) hx hb hts hown hK hP (rfl) (hts _ q280) dX3_countSlurs_8 ?_
  refine lv_icmp_ge (tgt := 202) hx hb dX3_countSlurs_11 (by decide) (fun c7 => ?_) (fun c7 => ?_)
  ·
    have k8 := ple32 c7
    refine lv_iload_n hx hb dX3_countSlurs_202 rfl (lv_at hl 1 rfl) ?_
    exact W.iret (v := (y3.2.1 1)) hx hb hr (fun tS ht hW => ⟨⟨(y3.2.1 1), σ, rfl, ⟨rfl, trivial⟩, (show va_P D clz (WD8 cy g σ) tS.heap by rw [ht]; exact hP)⟩, hS.F ht⟩) hS.2.2 dX3_countSlurs_203
  ·
    have k9 := nle32 c7
    refine lv_aload_n hx hb dX3_countSlurs_14 rfl (lv_at hl 2 rfl) ?_
    refine lv_aload_n hx hb dX3_countSlurs_15 rfl (lv_at hl 2 rfl) ?_
    refine g8_3_13 hx hb hts hown hK hP (hts _ q298) dX3_countSlurs_16 ?_
    refine lv_iload_n hx hb dX3_countSlurs_19 rfl (lv_at hl 0 rfl) ?_
    obtain ⟨x10, ex10⟩ : ∃ z, (σ 13).2.2.1 13 (y3.2.1 0).toInt.toNat = z := ⟨_, rfl⟩
    refine l8_3_13 (x := x10) hx hb hK hP (vpo (by have f0 := b4; have f1 := t6; have f2 := k9; have f3 := j8_3_0 hJ rfl; have g0 := rg32 (y3.2.1 0); have z1 : (1 : Int32).toInt = 1 := (by decide); omega)) ex10 dX3_countSlurs_20 ?_
    have t11 := a8_3_13 hJ ex10
    refine lv_aload_n hx hb dX3_countSlurs_21 rfl (lv_at hl 2 rfl) ?_
    refine g8_3_13 hx hb hts hown hK hP (hts _ q298) dX3_countSlurs_22 ?_
    refine lv_iload_n hx hb dX3_countSlurs_25 rfl (lv_at hl 0 rfl) ?_
    refine lv_iconst (v := 1) hx hb dX3_countSlurs_26 (by decide) ?_
    refine lv_iadd hx hb dX3_countSlurs_27 ?_
    refine lv_topi (fun x12 ex12 => ?_)
    have t13 := addO ex12 (by have f0 := b4; have f1 := t6; have f2 := k9; have f3 := j8_3_0 hJ rfl; have g0 := rg32 (y3.2.1 0); have z1 : (1 : Int32).toInt = 1 := (by decide); omega)
    obtain ⟨x14, ex14⟩ : ∃ z, (σ 13).2.2.1 13 x12.toInt.toNat = z := ⟨_, rfl⟩
    refine l8_3_13 (x := x14) hx hb hK hP (vpo (by have f0 := t13; have f1 := b4; have f2 := t6; have f3 := k9; have f4 := j8_3_0 hJ rfl; have g0 := rg32 x12; have z1 : (1 : Int32).toInt = 1 := (by decide); omega)) ex14 dX3_countSlurs_28 ?_
    have t15 := a8_3_13 hJ ex14
    refine va_calli (va_runV (As := [.int x10, .int x14]) (rest := []) ⟨hx, hb, hml, hown, hts⟩ (m_X3_moveFrom l D cy g σ  x10 x14 _ hJ (show (0 : Int) ≤ x10.toInt ∧ x10.toInt ≤ 1407 from (by have f0 := t11; have g0 := rg32 x10; omega)) (show (0 : Int) ≤ x14.toInt ∧ x14.toInt ≤ 1407 from (by have f0 := t11; have f1 := t15; have g0 := rg32 x10; have g1 := rg32 x14; omega))) (cwV 2 hts (gd_V q963 q965 q25 q129 q966) rfl rfl rfl (by decide +kernel) ⟨(Nat.le_of_ble_eq_true rfl), (Nat.le_of_ble_eq_true rfl)⟩) (pv8 hP hK hD hC hS (rv8_3 hK hP)) rfl rfl hl.1 rfl (lv_room (Nat.le_of_ble_eq_true rfl)) dX3_countSlurs_29 ⟨Nat.le_of_ble_eq_true rfl, Nat.le_of_ble_eq_true rfl⟩) hS (fun q _ h => up8 hS q h) (up8 hS) (fun r16 σ17 tS H1 locs ht hvm hw18 hB hz1 hk1 hS => ?_)
    have hP : va_P D clz (WD8 cy g σ17) H1 := by rw [← ht]; exact hB
    clear hB hz1 hk1 hvm ht
    generalize H1 = H at hP hS ⊢
    have hw18E : σ = σ17 := (hw18.1).symm
    subst hw18E
    refine cut8 (D := D) (cy := cy) (g := g) (A := A8 cy g s.heap.size) (H0 := s.heap) 9 40 (fun x : LZ => [(3, .int (y3.2.1 0)), (2, .int (y3.2.1 1)), (0, .ref (gO g 13)), (1, .int p1)]) (fun x : LZ => [.int (x.2.1 0)]) (fun x : LZ => (x.1 = σ) ∧ ((0 : Int) ≤ (x.2.1 0).toInt ∧ (x.2.1 0).toInt ≤ 1) ∧ True) ?_ ?_
    ·
      intro y21 hI20 H locs ls hP hS hl
      rw [show y21.1 = σ from hI20.1] at hP
      have b22 : (0 : Int) ≤ (y21.2.1 0).toInt ∧ (y21.2.1 0).toInt ≤ 1 := hI20.2.1
      have hl : lv_has ls 9 [(3, .int (y3.2.1 0)), (2, .int (y3.2.1 1)), (0, .ref (gO g 13)), (1, .int p1)] := hl
      refine W.eq (g2 := F0 m 40 ls [.int (y21.2.1 0)]) rfl ?_
      refine lv_istore (lv' := [(4, .int (y21.2.1 0)), (3, .int (y3.2.1 0)), (2, .int (y3.2.1 1)), (0, .ref (gO g 13)), (1, .int p1)]) hx hb dX3_countSlurs_40 hl (by decide) rfl (fun ls hl => ?_)
      refine lv_aload_n hx hb dX3_countSlurs_42 rfl (lv_at hl 3 rfl) ?_
      refine g8_3_14 hx hb hts hown hK hP (hts _ q299) dX3_countSlurs_43 ?_
      refine lv_aload_n hx hb dX3_countSlurs_46 rfl (lv_at hl 3 rfl) ?_
      refine g8_3_13 hx hb hts hown hK hP (hts _ q298) dX3_countSlurs_47 ?_
      refine lv_iload_n hx hb dX3_countSlurs_50 rfl (lv_at hl 1 rfl) ?_
      refine l8_3_13 (x := x10) hx hb hK hP (vpo (by have f0 := b4; have f1 := t6; have f2 := t13; have f3 := k9; have f4 := j8_3_0 hJ rfl; have g0 := rg32 (y3.2.1 0); have z1 : (1 : Int32).toInt = 1 := (by decide); omega)) ex10 dX3_countSlurs_51 ?_
      obtain ⟨x23, ex23⟩ : ∃ z, (σ 13).2.2.1 14 x10.toInt.toNat = z := ⟨_, rfl⟩
      refine l8_3_14 (x := x23) hx hb hK hP (vpo (by have f0 := t11; have g0 := rg32 x10; omega)) ex23 dX3_countSlurs_52 ?_
      refine lv_aload_n hx hb dX3_countSlurs_53 rfl (lv_at hl 3 rfl) ?_
      refine g8_3_14 hx hb hts hown hK hP (hts _ q299) dX3_countSlurs_54 ?_
      refine lv_aload_n hx hb dX3_countSlurs_57 rfl (lv_at hl 3 rfl) ?_
      refine g8_3_13 hx hb hts hown hK hP (hts _ q298) dX3_countSlurs_58 ?_
      refine lv_iload_n hx hb dX3_countSlurs_61 rfl (lv_at hl 1 rfl) ?_
      refine lv_iconst (v := 1) hx hb dX3_countSlurs_62 (by decide) ?_
      refine lv_iadd hx hb dX3_countSlurs_63 ?_
      refine lv_topi (fun x24 ex24 => ?_)
      have t25 := addO ex24 (by have f0 := b4; have f1 := t6; have f2 := t13; have f3 := k9; have f4 := j8_3_0 hJ rfl; have g0 := rg32 (y3.2.1 0); have z1 : (1 : Int32).toInt = 1 := (by decide); omega)
      obtain ⟨x26, ex26⟩ : ∃ z, (σ 13).2.2.1 13 x24.toInt.toNat = z := ⟨_, rfl⟩
      refine l8_3_13 (x := x26) hx hb hK hP (vpo (by have f0 := t25; have f1 := b4; have f2 := t6; have f3 := t13; have f4 := k9; have f5 := j8_3_0 hJ rfl; have g0 := rg32 x24; have z1 : (1 : Int32).toInt = 1 := (by decide); omega)) ex26 dX3_countSlurs_64 ?_
      have t27 := a8_3_13 hJ ex26
      obtain ⟨x28, ex28⟩ : ∃ z, (σ 13).2.2.1 14 x26.toInt.toNat = z := ⟨_, rfl⟩
      refine l8_3_14 (x := x28) hx hb hK hP (vpo (by have f0 := t27; have g0 := rg32 x26; omega)) ex28 dX3_countSlurs_65 ?_
      refine cut8 (D := D) (cy := cy) (g := g) (A := A8 cy g s.heap.size) (H0 := s.heap) 9 74 (fun x : LZ => [(4, .int (y21.2.1 0)), (3, .int (y3.2.1 0)), (2, .int (y3.2.1 1)), (0, .ref (gO g 13)), (1, .int p1)]) (fun x : LZ => [.int (x.2.1 0)]) (fun x : LZ => (x.1 = σ) ∧ ((0 : Int) ≤ (x.2.1 0).toInt ∧ (x.2.1 0).toInt ≤ 1) ∧ True) ?_ ?_
      ·
        intro y31 hI30 H locs ls hP hS hl
        rw [show y31.1 = σ from hI30.1] at hP
        have b32 : (0 : Int) ≤ (y31.2.1 0).toInt ∧ (y31.2.1 0).toInt ≤ 1 := hI30.2.1
        have hl : lv_has ls 9 [(4, .int (y21.2.1 0)), (3, .int (y3.2.1 0)), (2, .int (y3.2.1 1)), (0, .ref (gO g 13)), (1, .int p1)] := hl
        refine W.eq (g2 := F0 m 74 ls [.int (y31.2.1 0)]) rfl ?_
        refine lv_istore (lv' := [(5, .int (y31.2.1 0)), (4, .int (y21.2.1 0)), (3, .int (y3.2.1 0)), (2, .int (y3.2.1 1)), (0, .ref (gO g 13)), (1, .int p1)]) hx hb dX3_countSlurs_74 hl (by decide) rfl (fun ls hl => ?_)
        refine lv_aload_n hx hb dX3_countSlurs_76 rfl (lv_at hl 4 rfl) ?_
        refine g8_3_15 hx hb hts hown hK hP (hts _ q300) dX3_countSlurs_77 ?_
        refine lv_aload_n hx hb dX3_countSlurs_80 rfl (lv_at hl 4 rfl) ?_
        refine g8_3_13 hx hb hts hown hK hP (hts _ q298) dX3_countSlurs_81 ?_
        refine lv_iload_n hx hb dX3_countSlurs_84 rfl (lv_at hl 2 rfl) ?_
        refine l8_3_13 (x := x10) hx hb hK hP (vpo (by have f0 := b4; have f1 := t6; have f2 := t13; have f3 := t25; have f4 := k9; have f5 := j8_3_0 hJ rfl; have g0 := rg32 (y3.2.1 0); have z1 : (1 : Int32).toInt = 1 := (by decide); omega)) ex10 dX3_countSlurs_85 ?_
        obtain ⟨x33, ex33⟩ : ∃ z, (σ 13).2.2.1 15 x10.toInt.toNat = z := ⟨_, rfl⟩
        refine l8_3_15 (x := x33) hx hb hK hP (vpo (by have f0 := t11; have g0 := rg32 x10; omega)) ex33 dX3_countSlurs_86 ?_
        have t34 := a8_3_15 hJ ex33
        refine lv_aload_n hx hb dX3_countSlurs_87 rfl (lv_at hl 4 rfl) ?_
        refine g8_3_15 hx hb hts hown hK hP (hts _ q300) dX3_countSlurs_88 ?_
        refine lv_aload_n hx hb dX3_countSlurs_91 rfl (lv_at hl 4 rfl) ?_
        refine g8_3_13 hx hb hts hown hK hP (hts _ q298) dX3_countSlurs_92 ?_
        refine lv_iload_n hx hb dX3_countSlurs_95 rfl (lv_at hl 2 rfl) ?_
        refine lv_iconst (v := 1) hx hb dX3_countSlurs_96 (by decide) ?_
        refine lv_iadd hx hb dX3_countSlurs_97 ?_
        refine lv_topi (fun x35 ex35 => ?_)
        have t36 := addO ex35 (by have f0 := b4; have f1 := t6; have f2 := t13; have f3 := t25; have f4 := k9; have f5 := j8_3_0 hJ rfl; have g0 := rg32 (y3.2.1 0); have z1 : (1 : Int32).toInt = 1 := (by decide); omega)
        obtain ⟨x37, ex37⟩ : ∃ z, (σ 13).2.2.1 13 x35.toInt.toNat = z := ⟨_, rfl⟩
        refine l8_3_13 (x := x37) hx hb hK hP (vpo (by have f0 := t36; have f1 := b4; have f2 := t6; have f3 := t13; have f4 := t25; have f5 := k9; have f6 := j8_3_0 hJ rfl; have g0 := rg32 x35; have z1 : (1 : Int32).toInt = 1 := (by decide); omega)) ex37 dX3_countSlurs_98 ?_
        have t38 := a8_3_13 hJ ex37
        obtain ⟨x39, ex39⟩ : ∃ z, (σ 13).2.2.1 15 x37.toInt.toNat = z := ⟨_, rfl⟩
        refine l8_3_15 (x := x39) hx hb hK hP (vpo (by have f0 := t38; have g0 := rg32 x37; omega)) ex39 dX3_countSlurs_99 ?_
        have t40 := a8_3_15 hJ ex39
        refine cut8 (D := D) (cy := cy) (g := g) (A := A8 cy g s.heap.size) (H0 := s.heap) 9 108 (fun x : LZ => [(5, .int (y31.2.1 0)), (4, .int (y21.2.1 0)), (3, .int (y3.2.1 0)), (2, .int (y3.2.1 1)), (0, .ref (gO g 13)), (1, .int p1)]) (fun x : LZ => [.int (x.2.1 0)]) (fun x : LZ => (x.1 = σ) ∧ ((0 : Int) ≤ (x.2.1 0).toInt ∧ (x.2.1 0).toInt ≤ 1) ∧ True) ?_ ?_
        ·
          intro y43 hI42 H locs ls hP hS hl
          rw [show y43.1 = σ from hI42.1] at hP
          have b44 : (0 : Int) ≤ (y43.2.1 0).toInt ∧ (y43.2.1 0).toInt ≤ 1 := hI42.2.1
          have hl : lv_has ls 9 [(5, .int (y31.2.1 0)), (4, .int (y21.2.1 0)), (3, .int (y3.2.1 0)), (2, .int (y3.2.1 1)), (0, .ref (gO g 13)), (1, .int p1)] := hl
          refine W.eq (g2 := F0 m 108 ls [.int (y43.2.1 0)]) rfl ?_
          refine lv_istore (lv' := [(6, .int (y43.2.1 0)), (5, .int (y31.2.1 0)), (4, .int (y21.2.1 0)), (3, .int (y3.2.1 0)), (2, .int (y3.2.1 1)), (0, .ref (gO g 13)), (1, .int p1)]) hx hb dX3_countSlurs_108 hl (by decide) rfl (fun ls hl => ?_)
          refine lv_aload_n hx hb dX3_countSlurs_110 rfl (lv_at hl 5 rfl) ?_
          refine g8_3_11 hx hb hts hown hK hP (hts _ q296) dX3_countSlurs_111 ?_
          refine lv_iload_n hx hb dX3_countSlurs_114 rfl (lv_at hl 3 rfl) ?_
          obtain ⟨x45, ex45⟩ : ∃ z, (σ 13).2.2.1 11 (y3.2.1 0).toInt.toNat = z := ⟨_, rfl⟩
          refine l8_3_11 (x := x45) hx hb hK hP (vpo (by have f0 := b4; have f1 := t6; have f2 := t13; have f3 := t25; have f4 := t36; have f5 := k9; have f6 := j8_3_0 hJ rfl; have g0 := rg32 (y3.2.1 0); have z1 : (1 : Int32).toInt = 1 := (by decide); omega)) ex45 dX3_countSlurs_115 ?_
          refine lv_iconst (v := 1) hx hb dX3_countSlurs_116 (by decide) ?_
          refine cut8 (D := D) (cy := cy) (g := g) (A := A8 cy g s.heap.size) (H0 := s.heap) 9 135 (fun x : LZ => [(6, .int (y43.2.1 0)), (5, .int (y31.2.1 0)), (4, .int (y21.2.1 0)), (3, .int (y3.2.1 0)), (2, .int (y3.2.1 1)), (0, .ref (gO g 13)), (1, .int p1)]) (fun x : LZ => [.int (x.2.1 0)]) (fun x : LZ => (x.1 = σ) ∧ ((0 : Int) ≤ (x.2.1 0).toInt ∧ (x.2.1 0).toInt ≤ 1) ∧ True) ?_ ?_
          ·
            intro y48 hI47 H locs ls hP hS hl
            rw [show y48.1 = σ from hI47.1] at hP
            have b49 : (0 : Int) ≤ (y48.2.1 0).toInt ∧ (y48.2.1 0).toInt ≤ 1 := hI47.2.1
            have hl : lv_has ls 9 [(6, .int (y43.2.1 0)), (5, .int (y31.2.1 0)), (4, .int (y21.2.1 0)), (3, .int (y3.2.1 0)), (2, .int (y3.2.1 1)), (0, .ref (gO g 13)), (1, .int p1)] := hl
            refine W.eq (g2 := F0 m 135 ls [.int (y48.2.1 0)]) rfl ?_
            refine lv_istore (lv' := [(7, .int (y48.2.1 0)), (6, .int (y43.2.1 0)), (5, .int (y31.2.1 0)), (4, .int (y21.2.1 0)), (3, .int (y3.2.1 0)), (2, .int (y3.2.1 1)), (0, .ref (gO g 13)), (1, .int p1)]) hx hb dX3_countSlurs_135 hl (by decide) rfl (fun ls hl => ?_)
            refine lv_aload_n hx hb dX3_countSlurs_137 rfl (lv_at hl 6 rfl) ?_
            refine g8_3_11 hx hb hts hown hK hP (hts _ q296) dX3_countSlurs_138 ?_
            refine lv_iload_n hx hb dX3_countSlurs_141 rfl (lv_at hl 4 rfl) ?_
            refine l8_3_11 (x := x45) hx hb hK hP (vpo (by have f0 := b4; have f1 := t6; have f2 := t13; have f3 := t25; have f4 := t36; have f5 := k9; have f6 := j8_3_0 hJ rfl; have g0 := rg32 (y3.2.1 0); have z1 : (1 : Int32).toInt = 1 := (by decide); omega)) ex45 dX3_countSlurs_142 ?_
            refine lv_iconst (v := 1) hx hb dX3_countSlurs_143 (by decide) ?_
            refine cut8 (D := D) (cy := cy) (g := g) (A := A8 cy g s.heap.size) (H0 := s.heap) 9 162 (fun x : LZ => [(7, .int (y48.2.1 0)), (6, .int (y43.2.1 0)), (5, .int (y31.2.1 0)), (4, .int (y21.2.1 0)), (3, .int (y3.2.1 0)), (2, .int (y3.2.1 1)), (0, .ref (gO g 13)), (1, .int p1)]) (fun x : LZ => [.int (x.2.1 0)]) (fun x : LZ => (x.1 = σ) ∧ ((0 : Int) ≤ (x.2.1 0).toInt ∧ (x.2.1 0).toInt ≤ 1) ∧ True) ?_ ?_
            ·
              intro y52 hI51 H locs ls hP hS hl
              rw [show y52.1 = σ from hI51.1] at hP
              have b53 : (0 : Int) ≤ (y52.2.1 0).toInt ∧ (y52.2.1 0).toInt ≤ 1 := hI51.2.1
              have hl : lv_has ls 9 [(7, .int (y48.2.1 0)), (6, .int (y43.2.1 0)), (5, .int (y31.2.1 0)), (4, .int (y21.2.1 0)), (3, .int (y3.2.1 0)), (2, .int (y3.2.1 1)), (0, .ref (gO g 13)), (1, .int p1)] := hl
              refine W.eq (g2 := F0 m 162 ls [.int (y52.2.1 0)]) rfl ?_
              refine lv_istore (lv' := [(8, .int (y52.2.1 0)), (7, .int (y48.2.1 0)), (6, .int (y43.2.1 0)), (5, .int (y31.2.1 0)), (4, .int (y21.2.1 0)), (3, .int (y3.2.1 0)), (2, .int (y3.2.1 1)), (0, .ref (gO g 13)), (1, .int p1)]) hx hb dX3_countSlurs_162 hl (by decide) rfl (fun ls hl => ?_)
              refine lv_iload_n hx hb dX3_countSlurs_164 rfl (lv_at hl 8 rfl) ?_
              refine cut8 (D := D) (cy := cy) (g := g) (A := A8 cy g s.heap.size) (H0 := s.heap) 9 196 (fun x : LZ => [(8, .int (y52.2.1 0)), (7, .int (y48.2.1 0)), (6, .int (y43.2.1 0)), (5, .int (y31.2.1 0)), (4, .int (y21.2.1 0)), (3, .int (y3.2.1 0)), (2, .int (x.2.1 0)), (0, .ref (gO g 13)), (1, .int p1)]) (fun x : LZ => []) (fun x : LZ => (x.1 = σ) ∧ True) ?_ ?_
              ·
                intro y56 hI55 H locs ls hP hS hl
                rw [show y56.1 = σ from hI55.1] at hP
                have hl : lv_has ls 9 [(8, .int (y52.2.1 0)), (7, .int (y48.2.1 0)), (6, .int (y43.2.1 0)), (5, .int (y31.2.1 0)), (4, .int (y21.2.1 0)), (3, .int (y3.2.1 0)), (2, .int (y56.2.1 0)), (0, .ref (gO g 13)), (1, .int p1)] := hl
                obtain ⟨x57, ex57⟩ : ∃ y : Int32, y = (y3.2.1 0) + 1 := ⟨_, rfl⟩
                have t58 := addO ex57 (by have f0 := b4; have f1 := t6; have f2 := t13; have f3 := t25; have f4 := t36; have f5 := k9; have f6 := j8_3_0 hJ rfl; have g0 := rg32 (y3.2.1 0); have z1 : (1 : Int32).toInt = 1 := (by decide); omega)
                refine lv_iinc (v := x57) (lv' := [(3, .int x57), (8, .int (y52.2.1 0)), (7, .int (y48.2.1 0)), (6, .int (y43.2.1 0)), (5, .int (y31.2.1 0)), (4, .int (y21.2.1 0)), (2, .int (y56.2.1 0)), (0, .ref (gO g 13)), (1, .int p1)]) hx hb dX3_countSlurs_196 hl (k := 5) rfl (by rw [ex57]; rfl) (by decide) rfl (fun ls hl => ?_)
                refine lv_goto (tgt := 4) hx hb dX3_countSlurs_199 (by decide) ?_
                have t59 : ((16 : Int) - x57.toInt).toNat < ((16 : Int) - (y3.2.1 0).toInt).toNat := (by have f0 := b4; have f1 := t6; have f2 := t13; have f3 := t25; have f4 := t36; have f5 := t58; have f6 := k9; have f7 := j8_3_0 hJ rfl; have g0 := rg32 (y3.2.1 0); have g1 := rg32 x57; have z1 : (1 : Int32).toInt = 1 := (by decide); omega)
                exact nl1 (σ, lf [x57, (y56.2.1 0)], lg []) ⟨rfl, (show (0 : Int) ≤ (x57 : Int32).toInt ∧ (x57 : Int32).toInt ≤ 15 from (by have f0 := t58; have f1 := b4; have f2 := t6; have f3 := t13; have f4 := t25; have f5 := t36; have f6 := k9; have f7 := j8_3_0 hJ rfl; have g0 := rg32 x57; have z1 : (1 : Int32).toInt = 1 := (by decide); omega)), trivial⟩ (show ((16 : Int) - x57.toInt).toNat < _ from t59) _ _ _ hP hS (lv_sub hl [0, 6, 7, 8] rfl)
              ·
                intro nj54
                refine cut8 (D := D) (cy := cy) (g := g) (A := A8 cy g s.heap.size) (H0 := s.heap) 9 193 (fun x : LZ => [(8, .int (y52.2.1 0)), (7, .int (y48.2.1 0)), (6, .int (y43.2.1 0)), (5, .int (y31.2.1 0)), (4, .int (y21.2.1 0)), (3, .int (y3.2.1 0)), (2, .int (y3.2.1 1)), (0, .ref (gO g 13)), (1, .int p1)]) (fun x : LZ => []) (fun x : LZ => (x.1 = σ) ∧ True) ?_ ?_
                ·
                  intro y62 hI61 H locs ls hP hS hl
                  rw [show y62.1 = σ from hI61.1] at hP
                  have hl : lv_has ls 9 [(8, .int (y52.2.1 0)), (7, .int (y48.2.1 0)), (6, .int (y43.2.1 0)), (5, .int (y31.2.1 0)), (4, .int (y21.2.1 0)), (3, .int (y3.2.1 0)), (2, .int (y3.2.1 1)), (0, .ref (gO g 13)), (1, .int p1)] := hl
                  obtain ⟨x63, ex63⟩ : ∃ y : Int32, y = (y3.2.1 1) + 1 := ⟨_, rfl⟩
                  refine lv_iinc (v := x63) (lv' := [(2, .int x63), (8, .int (y52.2.1 0)), (7, .int (y48.2.1 0)), (6, .int (y43.2.1 0)), (5, .int (y31.2.1 0)), (4, .int (y21.2.1 0)), (3, .int (y3.2.1 0)), (0, .ref (gO g 13)), (1, .int p1)]) hx hb dX3_countSlurs_193 hl (k := 6) rfl (by rw [ex63]; rfl) (by decide) rfl (fun ls hl => ?_)
                  exact nj54 (σ, lf [x63], lg []) ⟨rfl, trivial⟩ _ _ _ hP hS (lv_sub hl [1, 2, 3, 4, 5, 6, 0, 7, 8] rfl)
                ·
                  intro nj60
                  refine cut8 (D := D) (cy := cy) (g := g) (A := A8 cy g s.heap.size) (H0 := s.heap) 9 173 (fun x : LZ => [(8, .int (y52.2.1 0)), (7, .int (y48.2.1 0)), (6, .int (y43.2.1 0)), (5, .int (y31.2.1 0)), (4, .int (y21.2.1 0)), (3, .int (y3.2.1 0)), (2, .int (y3.2.1 1)), (0, .ref (gO g 13)), (1, .int p1)]) (fun x : LZ => []) (fun x : LZ => (x.1 = σ) ∧ True) ?_ ?_
                  ·
                    intro y66 hI65 H locs ls hP hS hl
                    rw [show y66.1 = σ from hI65.1] at hP
                    have hl : lv_has ls 9 [(8, .int (y52.2.1 0)), (7, .int (y48.2.1 0)), (6, .int (y43.2.1 0)), (5, .int (y31.2.1 0)), (4, .int (y21.2.1 0)), (3, .int (y3.2.1 0)), (2, .int (y3.2.1 1)), (0, .ref (gO g 13)), (1, .int p1)] := hl
                    refine lv_iload_n hx hb dX3_countSlurs_173 rfl (lv_at hl 8 rfl) ?_
                    refine lv_iconst (v := 1) hx hb dX3_countSlurs_174 (by decide) ?_
                    refine cut8 (D := D) (cy := cy) (g := g) (A := A8 cy g s.heap.size) (H0 := s.heap) 9 183 (fun x : LZ => [(8, .int (y52.2.1 0)), (7, .int (y48.2.1 0)), (6, .int (y43.2.1 0)), (5, .int (y31.2.1 0)), (4, .int (y21.2.1 0)), (3, .int (y3.2.1 0)), (2, .int (y3.2.1 1)), (0, .ref (gO g 13)), (1, .int p1)]) (fun x : LZ => []) (fun x : LZ => (x.1 = σ) ∧ True) ?_ ?_
                    ·
                      intro y69 hI68 H locs ls hP hS hl
                      rw [show y69.1 = σ from hI68.1] at hP
                      have hl : lv_has ls 9 [(8, .int (y52.2.1 0)), (7, .int (y48.2.1 0)), (6, .int (y43.2.1 0)), (5, .int (y31.2.1 0)), (4, .int (y21.2.1 0)), (3, .int (y3.2.1 0)), (2, .int (y3.2.1 1)), (0, .ref (gO g 13)), (1, .int p1)] := hl
                      refine lv_iload_n hx hb dX3_countSlurs_183 rfl (lv_at hl 8 rfl) ?_
                      refine lv_iconst (v := 2) hx hb dX3_countSlurs_184 (by decide) ?_
                      refine lv_icmp_ne (tgt := 196) hx hb dX3_countSlurs_185 (by decide) (fun c70 => ?_) (fun c70 => ?_)
                      ·
                        have k71 := neq32 c70
                        exact nj54 (σ, lf [(y3.2.1 1)], lg []) ⟨rfl, trivial⟩ _ _ _ hP hS (lv_sub hl [0, 1, 2, 3, 4, 5, 6, 7, 8] rfl)
                      ·
                        have k72 := peq32 c70
                        refine lv_iload hx hb dX3_countSlurs_188 (lv_at hl 4 rfl) ?_
                        refine lv_if_eq (tgt := 196) hx hb dX3_countSlurs_190 (by decide) (fun c73 => ?_) (fun c73 => ?_)
                        ·
                          have k74 := peq32 c73
                          exact nj54 (σ, lf [(y3.2.1 1)], lg []) ⟨rfl, trivial⟩ _ _ _ hP hS (lv_sub hl [0, 1, 2, 3, 4, 5, 6, 7, 8] rfl)
                        ·
                          have k75 := neq32 c73
                          exact nj60 (σ, lf [], lg []) ⟨rfl, trivial⟩ _ _ _ hP hS (lv_sub hl [0, 1, 2, 3, 4, 5, 6, 7, 8] rfl)
                    ·
                      intro nj67
                      refine lv_icmp_ne (tgt := 183) hx hb dX3_countSlurs_175 (by decide) (fun c76 => ?_) (fun c76 => ?_)
                      ·
                        have k77 := neq32 c76
                        exact nj67 (σ, lf [], lg []) ⟨rfl, trivial⟩ _ _ _ hP hS (lv_sub hl [0, 1, 2, 3, 4, 5, 6, 7, 8] rfl)
                      ·
                        have k78 := peq32 c76
                        refine lv_iload hx hb dX3_countSlurs_178 (lv_at hl 0 rfl) ?_
                        refine lv_if_ne (tgt := 193) hx hb dX3_countSlurs_180 (by decide) (fun c79 => ?_) (fun c79 => ?_)
                        ·
                          have k80 := neq32 c79
                          exact nj60 (σ, lf [], lg []) ⟨rfl, trivial⟩ _ _ _ hP hS (lv_sub hl [0, 1, 2, 3, 4, 5, 6, 7, 8] rfl)
                        ·
                          have k81 := peq32 c79
                          exact nj67 (σ, lf [], lg []) ⟨rfl, trivial⟩ _ _ _ hP hS (lv_sub hl [0, 1, 2, 3, 4, 5, 6, 7, 8] rfl)
                  ·
                    intro nj64
                    refine lv_if_ne (tgt := 173) hx hb dX3_countSlurs_165 (by decide) (fun c82 => ?_) (fun c82 => ?_)
                    ·
                      have k83 := neq32 c82
                      exact nj64 (σ, lf [], lg []) ⟨rfl, trivial⟩ _ _ _ hP hS (lv_sub hl [0, 1, 2, 3, 4, 5, 6, 7, 8] rfl)
                    ·
                      have k84 := peq32 c82
                      refine lv_iload hx hb dX3_countSlurs_168 (lv_at hl 1 rfl) ?_
                      refine lv_if_ne (tgt := 193) hx hb dX3_countSlurs_170 (by decide) (fun c85 => ?_) (fun c85 => ?_)
                      ·
                        have k86 := neq32 c85
                        exact nj60 (σ, lf [], lg []) ⟨rfl, trivial⟩ _ _ _ hP hS (lv_sub hl [0, 1, 2, 3, 4, 5, 6, 7, 8] rfl)
                      ·
                        have k87 := peq32 c85
                        exact nj64 (σ, lf [], lg []) ⟨rfl, trivial⟩ _ _ _ hP hS (lv_sub hl [0, 1, 2, 3, 4, 5, 6, 7, 8] rfl)
            ·
              intro nj50
              refine cut8 (D := D) (cy := cy) (g := g) (A := A8 cy g s.heap.size) (H0 := s.heap) 9 161 (fun x : LZ => [(7, .int (y48.2.1 0)), (6, .int (y43.2.1 0)), (5, .int (y31.2.1 0)), (4, .int (y21.2.1 0)), (3, .int (y3.2.1 0)), (2, .int (y3.2.1 1)), (0, .ref (gO g 13)), (1, .int p1)]) (fun x : LZ => []) (fun x : LZ => (x.1 = σ) ∧ True) ?_ ?_
              ·
                intro y90 hI89 H locs ls hP hS hl
                rw [show y90.1 = σ from hI89.1] at hP
                have hl : lv_has ls 9 [(7, .int (y48.2.1 0)), (6, .int (y43.2.1 0)), (5, .int (y31.2.1 0)), (4, .int (y21.2.1 0)), (3, .int (y3.2.1 0)), (2, .int (y3.2.1 1)), (0, .ref (gO g 13)), (1, .int p1)] := hl
                refine lv_iconst (v := 0) hx hb dX3_countSlurs_161 (by decide) ?_
                exact nj50 (σ, lf [0], lg []) ⟨rfl, (show (0 : Int) ≤ (0 : Int32).toInt ∧ (0 : Int32).toInt ≤ 1 from (by have z0 : (0 : Int32).toInt = 0 := (by decide); omega)), trivial⟩ _ _ _ hP hS (lv_sub hl [0, 1, 2, 3, 4, 5, 6, 7] rfl)
              ·
                intro nj88
                refine lv_icmp_ne (tgt := 161) hx hb dX3_countSlurs_144 (by decide) (fun c91 => ?_) (fun c91 => ?_)
                ·
                  have k92 := neq32 c91
                  exact nj88 (σ, lf [], lg []) ⟨rfl, trivial⟩ _ _ _ hP hS (lv_sub hl [0, 1, 2, 3, 4, 5, 6, 7] rfl)
                ·
                  have k93 := peq32 c91
                  refine lv_iload hx hb dX3_countSlurs_147 (lv_at hl 1 rfl) ?_
                  refine lv_if_eq (tgt := 161) hx hb dX3_countSlurs_149 (by decide) (fun c94 => ?_) (fun c94 => ?_)
                  ·
                    have k95 := peq32 c94
                    exact nj88 (σ, lf [], lg []) ⟨rfl, trivial⟩ _ _ _ hP hS (lv_sub hl [0, 1, 2, 3, 4, 5, 6, 7] rfl)
                  ·
                    have k96 := neq32 c94
                    refine lv_iload hx hb dX3_countSlurs_152 (lv_at hl 2 rfl) ?_
                    refine lv_if_ne (tgt := 161) hx hb dX3_countSlurs_154 (by decide) (fun c97 => ?_) (fun c97 => ?_)
                    ·
                      have k98 := neq32 c97
                      exact nj88 (σ, lf [], lg []) ⟨rfl, trivial⟩ _ _ _ hP hS (lv_sub hl [0, 1, 2, 3, 4, 5, 6, 7] rfl)
                    ·
                      have k99 := peq32 c97
                      refine lv_iconst (v := 1) hx hb dX3_countSlurs_157 (by decide) ?_
                      refine lv_goto (tgt := 162) hx hb dX3_countSlurs_158 (by decide) ?_
                      exact nj50 (σ, lf [1], lg []) ⟨rfl, (show (0 : Int) ≤ (1 : Int32).toInt ∧ (1 : Int32).toInt ≤ 1 from (by have z1 : (1 : Int32).toInt = 1 := (by decide); omega)), trivial⟩ _ _ _ hP hS (lv_sub hl [0, 1, 2, 3, 4, 5, 6, 7] rfl)
          ·
            intro nj46
            refine cut8 (D := D) (cy := cy) (g := g) (A := A8 cy g s.heap.size) (H0 := s.heap) 9 134 (fun x : LZ => [(6, .int (y43.2.1 0)), (5, .int (y31.2.1 0)), (4, .int (y21.2.1 0)), (3, .int (y3.2.1 0)), (2, .int (y3.2.1 1)), (0, .ref (gO g 13)), (1, .int p1)]) (fun x : LZ => []) (fun x : LZ => (x.1 = σ) ∧ True) ?_ ?_
            ·
              intro y102 hI101 H locs ls hP hS hl
              rw [show y102.1 = σ from hI101.1] at hP
              have hl : lv_has ls 9 [(6, .int (y43.2.1 0)), (5, .int (y31.2.1 0)), (4, .int (y21.2.1 0)), (3, .int (y3.2.1 0)), (2, .int (y3.2.1 1)), (0, .ref (gO g 13)), (1, .int p1)] := hl
              refine lv_iconst (v := 0) hx hb dX3_countSlurs_134 (by decide) ?_
              exact nj46 (σ, lf [0], lg []) ⟨rfl, (show (0 : Int) ≤ (0 : Int32).toInt ∧ (0 : Int32).toInt ≤ 1 from (by have z0 : (0 : Int32).toInt = 0 := (by decide); omega)), trivial⟩ _ _ _ hP hS (lv_sub hl [0, 1, 2, 3, 4, 5, 6] rfl)
            ·
              intro nj100
              refine lv_icmp_ne (tgt := 134) hx hb dX3_countSlurs_117 (by decide) (fun c103 => ?_) (fun c103 => ?_)
              ·
                have k104 := neq32 c103
                exact nj100 (σ, lf [], lg []) ⟨rfl, trivial⟩ _ _ _ hP hS (lv_sub hl [0, 1, 2, 3, 4, 5, 6] rfl)
              ·
                have k105 := peq32 c103
                refine lv_iload hx hb dX3_countSlurs_120 (lv_at hl 1 rfl) ?_
                refine lv_if_eq (tgt := 134) hx hb dX3_countSlurs_122 (by decide) (fun c106 => ?_) (fun c106 => ?_)
                ·
                  have k107 := peq32 c106
                  exact nj100 (σ, lf [], lg []) ⟨rfl, trivial⟩ _ _ _ hP hS (lv_sub hl [0, 1, 2, 3, 4, 5, 6] rfl)
                ·
                  have k108 := neq32 c106
                  refine lv_iload hx hb dX3_countSlurs_125 (lv_at hl 2 rfl) ?_
                  refine lv_if_eq (tgt := 134) hx hb dX3_countSlurs_127 (by decide) (fun c109 => ?_) (fun c109 => ?_)
                  ·
                    have k110 := peq32 c109
                    exact nj100 (σ, lf [], lg []) ⟨rfl, trivial⟩ _ _ _ hP hS (lv_sub hl [0, 1, 2, 3, 4, 5, 6] rfl)
                  ·
                    have k111 := neq32 c109
                    refine lv_iconst (v := 1) hx hb dX3_countSlurs_130 (by decide) ?_
                    refine lv_goto (tgt := 135) hx hb dX3_countSlurs_131 (by decide) ?_
                    exact nj46 (σ, lf [1], lg []) ⟨rfl, (show (0 : Int) ≤ (1 : Int32).toInt ∧ (1 : Int32).toInt ≤ 1 from (by have z1 : (1 : Int32).toInt = 1 := (by decide); omega)), trivial⟩ _ _ _ hP hS (lv_sub hl [0, 1, 2, 3, 4, 5, 6] rfl)
        ·
          intro nj41
          refine lv_icmp_ne (tgt := 107) hx hb dX3_countSlurs_100 (by decide) (fun c112 => ?_) (fun c112 => ?_)
          ·
            have k113 := neq32 c112
            refine lv_iconst (v := 0) hx hb dX3_countSlurs_107 (by decide) ?_
            exact nj41 (σ, lf [0], lg []) ⟨rfl, (show (0 : Int) ≤ (0 : Int32).toInt ∧ (0 : Int32).toInt ≤ 1 from (by have z0 : (0 : Int32).toInt = 0 := (by decide); omega)), trivial⟩ _ _ _ hP hS (lv_sub hl [0, 1, 2, 3, 4, 5] rfl)
          ·
            have k114 := peq32 c112
            refine lv_iconst (v := 1) hx hb dX3_countSlurs_103 (by decide) ?_
            refine lv_goto (tgt := 108) hx hb dX3_countSlurs_104 (by decide) ?_
            exact nj41 (σ, lf [1], lg []) ⟨rfl, (show (0 : Int) ≤ (1 : Int32).toInt ∧ (1 : Int32).toInt ≤ 1 from (by have z1 : (1 : Int32).toInt = 1 := (by decide); omega)), trivial⟩ _ _ _ hP hS (lv_sub hl [0, 1, 2, 3, 4, 5] rfl)
      ·
        intro nj29
        refine lv_icmp_ne (tgt := 73) hx hb dX3_countSlurs_66 (by decide) (fun c115 => ?_) (fun c115 => ?_)
        ·
          have k116 := neq32 c115
          refine lv_iconst (v := 0) hx hb dX3_countSlurs_73 (by decide) ?_
          exact nj29 (σ, lf [0], lg []) ⟨rfl, (show (0 : Int) ≤ (0 : Int32).toInt ∧ (0 : Int32).toInt ≤ 1 from (by have z0 : (0 : Int32).toInt = 0 := (by decide); omega)), trivial⟩ _ _ _ hP hS (lv_sub hl [0, 1, 2, 3, 4] rfl)
        ·
          have k117 := peq32 c115
          refine lv_iconst (v := 1) hx hb dX3_countSlurs_69 (by decide) ?_
          refine lv_goto (tgt := 74) hx hb dX3_countSlurs_70 (by decide) ?_
          exact nj29 (σ, lf [1], lg []) ⟨rfl, (show (0 : Int) ≤ (1 : Int32).toInt ∧ (1 : Int32).toInt ≤ 1 from (by have z1 : (1 : Int32).toInt = 1 := (by decide); omega)), trivial⟩ _ _ _ hP hS (lv_sub hl [0, 1, 2, 3, 4] rfl)
    ·
      intro nj19
      refine lv_if_le (tgt := 39) hx hb dX3_countSlurs_32 (by decide) (fun c118 => ?_) (fun c118 => ?_)
      ·
        have k119 := ple32 c118
        refine lv_iconst (v := 0) hx hb dX3_countSlurs_39 (by decide) ?_
        exact nj19 (σ, lf [0], lg []) ⟨rfl, (show (0 : Int) ≤ (0 : Int32).toInt ∧ (0 : Int32).toInt ≤ 1 from (by have z0 : (0 : Int32).toInt = 0 := (by decide); omega)), trivial⟩ _ _ _ hP hS (lv_sub hl [0, 1, 2, 3] rfl)
      ·
        have k120 := nle32 c118
        refine lv_iconst (v := 1) hx hb dX3_countSlurs_35 (by decide) ?_
        refine lv_goto (tgt := 40) hx hb dX3_countSlurs_36 (by decide) ?_
        exact nj19 (σ, lf [1], lg []) ⟨rfl, (show (0 : Int) ≤ (1 : Int32).toInt ∧ (1 : Int32).toInt ≤ 1 from (by have z1 : (1 : Int32).toInt = 1 := (by decide); omega)), trivial⟩ _ _ _ hP hS (lv_sub hl [0, 1, 2, 3] rfl)

