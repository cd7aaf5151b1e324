theorem q1051 : Cond.code yX8_many cX8_many 4 (some .int) ∈ lw_g := lw_gm (List.mem_of_getElem? (i := 1051) (by decide +kernel)) rfl
theorem q1052 : Cond.methodLink RX8 275 yX3_countPlays ∈ lw_g := lw_gm (List.mem_of_getElem? (i := 1052) (by decide +kernel)) rfl
theorem q1053 : Cond.instanceMethod yX3_countPlays ∈ lw_g := lw_gm (List.mem_of_getElem? (i := 1053) (by decide +kernel)) rfl
theorem q1054 : Cond.selects RX3 yX3_countPlays yX3_countPlays ∈ lw_g := lw_gm (List.mem_of_getElem? (i := 1054) (by decide +kernel)) rfl
theorem q1061 : Cond.constant RX8 278 (1000000000) ∈ lw_g := lw_gm (List.mem_of_getElem? (i := 1061) (by decide +kernel)) rfl
theorem dX8_many_0 : decode cX8_many 0 = .ok (.aload_n 0, 1) := by decide +kernel
theorem dX8_many_1 : decode cX8_many 1 = .ok (.iload_n 1, 1) := by decide +kernel
theorem dX8_many_2 : decode cX8_many 2 = .ok (.iload_n 2, 1) := by decide +kernel
theorem dX8_many_3 : decode cX8_many 3 = .ok (.invokevirtual 235, 3) := by decide +kernel
theorem dX8_many_6 : decode cX8_many 6 = .ok (.ifCond .ne 6, 3) := by decide +kernel
theorem dX8_many_9 : decode cX8_many 9 = .ok (.bipush (-2), 2) := by decide +kernel
theorem dX8_many_11 : decode cX8_many 11 = .ok (.ireturn, 1) := by decide +kernel
theorem dX8_many_12 : decode cX8_many 12 = .ok (.aload_n 0, 1) := by decide +kernel
theorem dX8_many_13 : decode cX8_many 13 = .ok (.getfield 53, 3) := by decide +kernel
theorem dX8_many_16 : decode cX8_many 16 = .ok (.aload_n 0, 1) := by decide +kernel
theorem dX8_many_17 : decode cX8_many 17 = .ok (.getfield 19, 3) := by decide +kernel
theorem dX8_many_20 : decode cX8_many 20 = .ok (.iload_n 1, 1) := by decide +kernel
theorem dX8_many_21 : decode cX8_many 21 = .ok (.iload_n 2, 1) := by decide +kernel
theorem dX8_many_22 : decode cX8_many 22 = .ok (.invokevirtual 238, 3) := by decide +kernel
theorem dX8_many_25 : decode cX8_many 25 = .ok (.aload_n 0, 1) := by decide +kernel
theorem dX8_many_26 : decode cX8_many 26 = .ok (.getfield 53, 3) := by decide +kernel
theorem dX8_many_29 : decode cX8_many 29 = .ok (.aload_n 0, 1) := by decide +kernel
theorem dX8_many_30 : decode cX8_many 30 = .ok (.getfield 19, 3) := by decide +kernel
theorem dX8_many_33 : decode cX8_many 33 = .ok (.getfield 104, 3) := by decide +kernel
theorem dX8_many_36 : decode cX8_many 36 = .ok (.iconst 0, 1) := by decide +kernel
theorem dX8_many_37 : decode cX8_many 37 = .ok (.invokevirtual 241, 3) := by decide +kernel
theorem dX8_many_40 : decode cX8_many 40 = .ok (.aload_n 0, 1) := by decide +kernel
theorem dX8_many_41 : decode cX8_many 41 = .ok (.getfield 53, 3) := by decide +kernel
theorem dX8_many_44 : decode cX8_many 44 = .ok (.invokevirtual 275, 3) := by decide +kernel
theorem dX8_many_47 : decode cX8_many 47 = .ok (.istore_n 3, 1) := by decide +kernel
theorem dX8_many_48 : decode cX8_many 48 = .ok (.iload_n 3, 1) := by decide +kernel
theorem dX8_many_49 : decode cX8_many 49 = .ok (.ldc_w 278, 3) := by decide +kernel
theorem dX8_many_52 : decode cX8_many 52 = .ok (.if_icmp .le 8, 3) := by decide +kernel
theorem dX8_many_55 : decode cX8_many 55 = .ok (.bipush (-3), 2) := by decide +kernel
theorem dX8_many_57 : decode cX8_many 57 = .ok (.goto 4, 3) := by decide +kernel
theorem dX8_many_60 : decode cX8_many 60 = .ok (.iload_n 3, 1) := by decide +kernel
theorem dX8_many_61 : decode cX8_many 61 = .ok (.ireturn, 1) := by decide +kernel
set_option maxHeartbeats 4000000 in
set_option maxRecDepth 100000 in
theorem m_X8_many (l : Launch) (D : va_G) (cy : Nat → ClassId) (g : Nat → Nat) (σ : ST) (p1 : Int32) (p2 : Int32) (sz : Nat) (hJ : J8 σ)  : Met l yX8_many (ww yX8_many cX8_many 4 (some .int)) ({ frames := 6, cells := 0, slots := 0, locals := 384 }) (va_Pc [.ref (gO g 17), .int p1, .int p2] (pr8 D cy g σ sz)) (qi8 D cy g sz (fun r τ => Fr (fO [11, 13]) σ τ ∧ J8 τ ∧ ((-2147483648 : Int) ≤ r.toInt ∧ r.toInt ≤ 1000000000) ∧ True)) 0 0 (A8 cy g sz) := by
  refine Met.ofW (cc := cX8_many) (maxL := 4) (ret := (some .int)) (by decide) rfl ?_
  intro p e s m args below meth c s₁ B hml hv
  obtain ⟨rfl, hsz, hP, hK, hD0, hC⟩ := hv
  have hx := B.exec
  have hb := B.bytes
  have hr := B.returns
  have hts := hts_g (atoms_spec (ws := ww yX8_many cX8_many 4 (some .int)) B.pre)
  have hown : s.vm.findClass RX8 = some m.cls := findClass_of_methodNamed B.named
  have hlocks := B.notSynchronized
  clear B
  subst hsz
  have hD := fun τ => A8_D (sz := s.heap.size) hD0 τ
  clear hD0
  have hS : va_S (A8 cy g s.heap.size) s.heap s.heap [] := va_S.rf
  have hl := lv_entry ([.ref (gO g 17), .int p1, .int p2]) (n := 4) (Nat.le_of_ble_eq_true rfl)
  rw [lg_entry_eq]
  generalize (lg_sl ([.ref (gO g 17), .int p1, .int p2]) ++ List.replicate (4 - (lg_sl ([.ref (gO g 17), .int p1, .int p2])).length) Slot.unset).toArray = ls at hl ⊢
  have hl : lv_has ls 4 [(0, .ref (gO g 17)), (1, .int p1), (2, .int p2)] := hl
  refine lv_aload_n hx hb dX8_many_0 rfl (lv_at hl 0 rfl) ?_
  refine lv_iload_n hx hb dX8_many_1 rfl (lv_at hl 1 rfl) ?_
  refine lv_iload_n hx hb dX8_many_2 rfl (lv_at hl 2 rfl) ?_
  refine va_calli (va_runV (As := [.int p1, .int p2]) (rest := []) ⟨hx, hb, hml, hown, hts⟩ (m_X8_hasPair l D cy g σ  p1 p2 _ hJ ) (cwV 2 hts (gd_V q918 q920 q19 q125 q921) rfl rfl rfl (by decide +kernel) ⟨(Nat.le_of_ble_eq_true rfl), (Nat.le_of_ble_eq_true rfl)⟩) (pv8 hP hK hD hC hS (rv8_8 hK hP)) rfl rfl hl.1 rfl (lv_room (Nat.le_of_ble_eq_true rfl)) dX8_many_3 ⟨Nat.le_of_ble_eq_true rfl, Nat.le_of_ble_eq_true rfl⟩) hS (fun q _ h => up8 hS q h) (up8 hS) (fun r1 σ2 tS H1 locs ht hvm hw3 hB hz1 hk1 hS => ?_)
  have hP : va_P D clz (WD8 cy g σ2) H1 := by rw [← ht]; exact hB
  clear hB hz1 hk1 hvm ht
  generalize H1 = H at hP hS ⊢
  have hw3E : σ = σ2 := (hw3.1).symm
  subst hw3E
  have b4 : (0 : Int) ≤ r1.toInt ∧ r1.toInt ≤ 1 := hw3.2.1
  refine lv_if_ne (tgt := 12) hx hb dX8_many_6 (by decide) (fun c5 => ?_) (fun c5 => ?_)
  ·
    have k6 := neq32 c5
    refine lv_aload_n hx hb dX8_many_12 rfl (lv_at hl 0 rfl) ?_
    refine g8_8_8 hx hb hts hown hK hP (hts _ q442) dX8_many_13 ?_
    refine lv_aload_n hx hb dX8_many_16 rfl (lv_at hl 0 rfl) ?_
    obtain ⟨dx7, edx7⟩ : ∃ z : Nat, ((σ 17).1 1).toInt.toNat = z := ⟨_, rfl⟩
    have hdx7 : 0 ≤ dx7 ∧ dx7 < 5 := mnow (by have f0 := j8_8_1 hJ rfl; omega) edx7
    refine g8_8_1 (o := dx7) hx hb hts hown hK hP edx7 (hts _ q435) dX8_many_17 ?_
    refine lv_iload_n hx hb dX8_many_20 rfl (lv_at hl 1 rfl) ?_
    refine lv_iload_n hx hb dX8_many_21 rfl (lv_at hl 2 rfl) ?_
    refine va_callv (va_runV (As := [.ref (gO g dx7), .int p1, .int p2]) (rest := []) ⟨hx, hb, hml, hown, hts⟩ (m_X3_aim l D cy g σ  dx7 p1 p2 _ hJ (show 0 ≤ dx7 ∧ dx7 < 5 from hdx7)) (cwV 3 hts (gd_V q922 q923 q924 q129 q925) rfl rfl rfl (by decide +kernel) ⟨(Nat.le_of_ble_eq_true rfl), (Nat.le_of_ble_eq_true rfl)⟩) (pv8 hP hK hD hC hS (rv8_3 hK hP)) rfl rfl hl.1 rfl (lv_room (Nat.le_of_ble_eq_true rfl)) dX8_many_22 ⟨Nat.le_of_ble_eq_true rfl, Nat.le_of_ble_eq_true rfl⟩) hS (fun q _ h => up8 hS q h) (up8 hS) (fun σ9 tS H1 locs ht hvm hw10 hB hz1 hk1 hS => ?_)
    have hP : va_P D clz (WD8 cy g σ9) H1 := by rw [← ht]; exact hB
    clear hB hz1 hk1 hvm ht
    generalize H1 = H at hP hS ⊢
    have hF11 : Fr (fO [11, 13]) σ σ9 := hw10.1
    have hJ12 : J8 σ9 := hw10.2.1
    refine lv_aload_n hx hb dX8_many_25 rfl (lv_at hl 0 rfl) ?_
    refine g8_8_8 hx hb hts hown hK hP (hts _ q442) dX8_many_26 ?_
    refine lv_aload_n hx hb dX8_many_29 rfl (lv_at hl 0 rfl) ?_
    refine g8_8_1 (o := dx7) hx hb hts hown hK hP ((congrArg (fun z : Int32 => z.toInt.toNat) ((hF11 17 1 (fO_n (nmc (by decide) (nmc (by decide) nm0)))).1)).trans edx7) (hts _ q435) dX8_many_30 ?_
    refine g8_0_0 (x := ((σ dx7).1 0)) hx hb hts hown hK hP hdx7 ((hF11 dx7 0 (fO_n (nmc (nel hdx7 (by decide)) (nmc (nel hdx7 (by decide)) nm0)))).1) (hts _ q194) dX8_many_33 ?_
    refine lv_iconst (v := 0) hx hb dX8_many_36 (by decide) ?_
    refine va_callv (va_runV (As := [.int ((σ dx7).1 0), .int 0]) (rest := []) ⟨hx, hb, hml, hown, hts⟩ (m_X3_layWays l D cy g σ9  ((σ dx7).1 0) (0) _ hJ12 ) (cwV 2 hts (gd_V q936 q937 q938 q129 q939) rfl rfl rfl (by decide +kernel) ⟨(Nat.le_of_ble_eq_true rfl), (Nat.le_of_ble_eq_true rfl)⟩) (pv8 hP hK hD hC hS (rv8_3 hK hP)) rfl rfl hl.1 rfl (lv_room (Nat.le_of_ble_eq_true rfl)) dX8_many_37 ⟨Nat.le_of_ble_eq_true rfl, Nat.le_of_ble_eq_true rfl⟩) hS (fun q _ h => up8 hS q h) (up8 hS) (fun σ14 tS H1 locs ht hvm hw15 hB hz1 hk1 hS => ?_)
    have hP : va_P D clz (WD8 cy g σ14) H1 := by rw [← ht]; exact hB
    clear hB hz1 hk1 hvm ht
    generalize H1 = H at hP hS ⊢
    have hF16 : Fr (fO [13]) σ9 σ14 := hw15.1
    have hJ17 : J8 σ14 := hw15.2.1
    refine lv_aload_n hx hb dX8_many_40 rfl (lv_at hl 0 rfl) ?_
    refine g8_8_8 hx hb hts hown hK hP (hts _ q442) dX8_many_41 ?_
    refine va_calli (va_runV (As := []) (rest := []) ⟨hx, hb, hml, hown, hts⟩ (m_X3_countPlays l D cy g σ14   _ hJ17 ) (cwV 0 hts (gd_V q1052 q1053 q1054 q129 q1055) rfl rfl rfl (by decide +kernel) ⟨(Nat.le_of_ble_eq_true rfl), (Nat.le_of_ble_eq_true rfl)⟩) (pv8 hP hK hD hC hS (rv8_3 hK hP)) rfl rfl hl.1 rfl (lv_room (Nat.le_of_ble_eq_true rfl)) dX8_many_44 ⟨Nat.le_of_ble_eq_true rfl, Nat.le_of_ble_eq_true rfl⟩) hS (fun q _ h => up8 hS q h) (up8 hS) (fun r18 σ19 tS H1 locs ht hvm hw20 hB hz1 hk1 hS => ?_)
    have hP : va_P D clz (WD8 cy g σ19) H1 := by rw [← ht]; exact hB
    clear hB hz1 hk1 hvm ht
    generalize H1 = H at hP hS ⊢
    have hF21 : Fr (fO [13]) σ14 σ19 := hw20.1
    have hJ22 : J8 σ19 := hw20.2.1
    have b23 : (-2147483648 : Int) ≤ r18.toInt ∧ r18.toInt ≤ 1000000001 := hw20.2.2.1
    refine lv_istore_n (lv' := [(3, .int r18), (0, .ref (gO g 17)), (1, .int p1), (2, .int p2)]) hx hb dX8_many_47 rfl hl (by decide) rfl (fun ls hl => ?_)
    refine lv_iload_n hx hb dX8_many_48 rfl (lv_at hl 0 rfl) ?_
    refine lv_ldcw (v := 1000000000) hx hb hown (hts _ q1061) dX8_many_49 ?_
    refine lv_icmp_le (tgt := 60) hx hb dX8_many_52 (by decide) (fun c24 => ?_) (fun c24 => ?_)
    ·
      have k25 := ple32 c24
      refine lv_iload_n hx hb dX8_many_60 rfl (lv_at hl 0 rfl) ?_
      exact W.iret (v := r18) hx hb hr (fun tS ht hW => ⟨⟨r18, σ19, rfl, ⟨Fr.tr (Fr.tr (Fr.tr (Fr.rf) hF11 (fO_sub (fun _ q => q))) hF16 (fO_sub (by simp))) hF21 (fO_sub (by simp)), hJ22, (show (-2147483648 : Int) ≤ r18.toInt ∧ r18.toInt ≤ 1000000000 from (by have f0 := b23; have f1 := k25; have g0 := rg32 r18; have z1000000000 : (1000000000 : Int32).toInt = 1000000000 := (by decide); omega)), trivial⟩, (show va_P D clz (WD8 cy g σ19) tS.heap by rw [ht]; exact hP)⟩, hS.F ht⟩) hS.2.2 dX8_many_61
    ·
      have k26 := nle32 c24
      refine lv_bipush (v := (-3)) hx hb dX8_many_55 (by decide) ?_
      refine lv_goto (tgt := 61) hx hb dX8_many_57 (by decide) ?_
      exact W.iret (v := (-3)) hx hb hr (fun tS ht hW => ⟨⟨(-3), σ19, rfl, ⟨Fr.tr (Fr.tr (Fr.tr (Fr.rf) hF11 (fO_sub (fun _ q => q))) hF16 (fO_sub (by simp))) hF21 (fO_sub (by simp)), hJ22, (show (-2147483648 : Int) ≤ ((-3) : Int32).toInt ∧ ((-3) : Int32).toInt ≤ 1000000000 from (by have zm3 : ((-3) : Int32).toInt = (-3) := (by decide); omega)), trivial⟩, (show va_P D clz (WD8 cy g σ19) tS.heap by rw [ht]; exact hP)⟩, hS.F ht⟩) hS.2.2 dX8_many_61
  ·
    have k27 := peq32 c5
    refine lv_bipush (v := (-2)) hx hb dX8_many_9 (by decide) ?_
    exact W.iret (v := (-2)) hx hb hr (fun tS ht hW => ⟨⟨(-2), σ, rfl, ⟨Fr.rf, hJ, (show (-2147483648 : Int) ≤ ((-2) : Int32).toInt ∧ ((-2) : Int32).toInt ≤ 1000000000 from (by have zm2 : ((-2) : Int32).toInt = (-2) := (by decide); omega)), trivial⟩, (show va_P D clz (WD8 cy g σ) tS.heap by rw [ht]; exact hP)⟩, hS.F ht⟩) hS.2.2 dX8_many_11

theorem q1073 : Cond.code yX3_layOctaves cX3_layOctaves 5 none ∈ lw_g := lw_gm (List.mem_of_getElem? (i := 1073) (by decide +kernel)) rfl
theorem dX3_layOctaves_0 : decode cX3_layOctaves 0 = .ok (.aload_n 0, 1) := by decide +kernel
theorem dX3_layOctaves_1 : decode cX3_layOctaves 1 = .ok (.getfield 34, 3) := by decide +kernel
theorem dX3_layOctaves_4 : decode cX3_layOctaves 4 = .ok (.iconst 0, 1) := by decide +kernel
theorem dX3_layOctaves_5 : decode cX3_layOctaves 5 = .ok (.iconst 0, 1) := by decide +kernel
theorem dX3_layOctaves_6 : decode cX3_layOctaves 6 = .ok (.iastore, 1) := by decide +kernel
theorem dX3_layOctaves_7 : decode cX3_layOctaves 7 = .ok (.iconst 0, 1) := by decide +kernel
theorem dX3_layOctaves_8 : decode cX3_layOctaves 8 = .ok (.istore_n 2, 1) := by decide +kernel
theorem dX3_layOctaves_9 : decode cX3_layOctaves 9 = .ok (.iload_n 2, 1) := by decide +kernel
theorem dX3_layOctaves_10 : decode cX3_layOctaves 10 = .ok (.aload_n 0, 1) := by decide +kernel
theorem dX3_layOctaves_11 : decode cX3_layOctaves 11 = .ok (.getfield 75, 3) := by decide +kernel
theorem dX3_layOctaves_14 : decode cX3_layOctaves 14 = .ok (.if_icmp .ge 60, 3) := by decide +kernel
theorem dX3_layOctaves_17 : decode cX3_layOctaves 17 = .ok (.aload_n 0, 1) := by decide +kernel
theorem dX3_layOctaves_18 : decode cX3_layOctaves 18 = .ok (.getfield 34, 3) := by decide +kernel
theorem dX3_layOctaves_21 : decode cX3_layOctaves 21 = .ok (.iload_n 2, 1) := by decide +kernel
theorem dX3_layOctaves_22 : decode cX3_layOctaves 22 = .ok (.iaload, 1) := by decide +kernel
theorem dX3_layOctaves_23 : decode cX3_layOctaves 23 = .ok (.istore_n 3, 1) := by decide +kernel
theorem dX3_layOctaves_24 : decode cX3_layOctaves 24 = .ok (.bipush (-12), 2) := by decide +kernel
theorem dX3_layOctaves_26 : decode cX3_layOctaves 26 = .ok (.istore 4, 2) := by decide +kernel
theorem dX3_layOctaves_28 : decode cX3_layOctaves 28 = .ok (.iload 4, 2) := by decide +kernel
theorem dX3_layOctaves_30 : decode cX3_layOctaves 30 = .ok (.bipush 12, 2) := by decide +kernel
theorem dX3_layOctaves_32 : decode cX3_layOctaves 32 = .ok (.if_icmp .gt 27, 3) := by decide +kernel
theorem dX3_layOctaves_35 : decode cX3_layOctaves 35 = .ok (.aload_n 0, 1) := by decide +kernel
theorem dX3_layOctaves_36 : decode cX3_layOctaves 36 = .ok (.iload_n 3, 1) := by decide +kernel
theorem dX3_layOctaves_37 : decode cX3_layOctaves 37 = .ok (.aload_n 0, 1) := by decide +kernel
theorem dX3_layOctaves_38 : decode cX3_layOctaves 38 = .ok (.getfield 25, 3) := by decide +kernel
theorem dX3_layOctaves_41 : decode cX3_layOctaves 41 = .ok (.iload_n 2, 1) := by decide +kernel
theorem dX3_layOctaves_42 : decode cX3_layOctaves 42 = .ok (.iaload, 1) := by decide +kernel
theorem dX3_layOctaves_43 : decode cX3_layOctaves 43 = .ok (.iload 4, 2) := by decide +kernel
theorem dX3_layOctaves_45 : decode cX3_layOctaves 45 = .ok (.iadd, 1) := by decide +kernel
theorem dX3_layOctaves_46 : decode cX3_layOctaves 46 = .ok (.iload_n 1, 1) := by decide +kernel
theorem dX3_layOctaves_47 : decode cX3_layOctaves 47 = .ok (.iload 4, 2) := by decide +kernel
theorem dX3_layOctaves_49 : decode cX3_layOctaves 49 = .ok (.invokevirtual 90, 3) := by decide +kernel
theorem dX3_layOctaves_52 : decode cX3_layOctaves 52 = .ok (.istore_n 3, 1) := by decide +kernel
theorem dX3_layOctaves_53 : decode cX3_layOctaves 53 = .ok (.iinc 4 12, 3) := by decide +kernel
theorem dX3_layOctaves_56 : decode cX3_layOctaves 56 = .ok (.goto (-28), 3) := by decide +kernel
theorem dX3_layOctaves_59 : decode cX3_layOctaves 59 = .ok (.aload_n 0, 1) := by decide +kernel
theorem dX3_layOctaves_60 : decode cX3_layOctaves 60 = .ok (.getfield 34, 3) := by decide +kernel
theorem dX3_layOctaves_63 : decode cX3_layOctaves 63 = .ok (.iload_n 2, 1) := by decide +kernel
theorem dX3_layOctaves_64 : decode cX3_layOctaves 64 = .ok (.iconst 1, 1) := by decide +kernel
theorem dX3_layOctaves_65 : decode cX3_layOctaves 65 = .ok (.iadd, 1) := by decide +kernel
theorem dX3_layOctaves_66 : decode cX3_layOctaves 66 = .ok (.iload_n 3, 1) := by decide +kernel
theorem dX3_layOctaves_67 : decode cX3_layOctaves 67 = .ok (.iastore, 1) := by decide +kernel
theorem dX3_layOctaves_68 : decode cX3_layOctaves 68 = .ok (.iinc 2 1, 3) := by decide +kernel
theorem dX3_layOctaves_71 : decode cX3_layOctaves 71 = .ok (.goto (-62), 3) := by decide +kernel
theorem dX3_layOctaves_74 : decode cX3_layOctaves 74 = .ok (.return_, 1) := by decide +kernel
set_option maxHeartbeats 4000000 in
set_option maxRecDepth 100000 in
theorem m_X3_layOctaves (l : Launch) (D : va_G) (cy : Nat → ClassId) (g : Nat → Nat) (σ : ST) (p1 : Int32) (sz : Nat) (hJ : J8 σ)  : Met l yX3_layOctaves (ww yX3_layOctaves cX3_layOctaves 5 none) ({ frames := 5, cells := 0, slots := 0, locals := 320 }) (va_Pc [.ref (gO g 13), .int p1] (pr8 D cy g σ sz)) (qv8 D cy g sz (fun τ => Fr (fO [13]) σ τ ∧ J8 τ ∧ True)) 0 0 (A8 cy g sz) := by
  refine Met.ofW (cc := cX3_layOctaves) (maxL := 5) (ret := none) (by decide) rfl ?_
  intro p e s m args below meth c s₁ B hml hv
  obtain ⟨rfl, hsz, hP, hK, hD0, hC⟩ := hv
  have hx := B.exec
  have hb := B.bytes
  have hr := B.returns
  have hts := hts_g (atoms_spec (ws := ww yX3_layOctaves cX3_layOctaves 5 none) B.pre)
  have hown : s.vm.findClass RX3 = some m.cls := findClass_of_methodNamed B.named
  have hlocks := B.notSynchronized
  clear B
  subst hsz
  have hD := fun τ => A8_D (sz := s.heap.size) hD0 τ
  clear hD0
  have hS : va_S (A8 cy g s.heap.size) s.heap s.heap [] := va_S.rf
  have hl := lv_entry ([.ref (gO g 13), .int p1]) (n := 5) (Nat.le_of_ble_eq_true rfl)
  rw [lg_entry_eq]
  generalize (lg_sl ([.ref (gO g 13), .int p1]) ++ List.replicate (5 - (lg_sl ([.ref (gO g 13), .int p1])).length) Slot.unset).toArray = ls at hl ⊢
  have hl : lv_has ls 5 [(0, .ref (gO g 13)), (1, .int p1)] := hl
  refine lv_aload_n hx hb dX3_layOctaves_0 rfl (lv_at hl 0 rfl) ?_
  refine g8_3_12 hx hb hts hown hK hP (hts _ q297) dX3_layOctaves_1 ?_
  refine lv_iconst (v := 0) hx hb dX3_layOctaves_4 (by decide) ?_
  refine lv_iconst (v := 0) hx hb dX3_layOctaves_5 (by decide) ?_
  refine t8_3_12 hx hb hK hP hD hS (vpi (by decide)) dX3_layOctaves_6 (fun H locs σ1 eσ1 hP hS => ?_)
  have hJ2 : J8 σ1 := hJ.A eσ1 rfl (show PA8 3 12 (0 : Int32) from (by have z0 : (0 : Int32).toInt = 0 := (by decide); exact ⟨by omega, by omega⟩))
  refine lv_iconst (v := 0) hx hb dX3_layOctaves_7 (by decide) ?_
  refine lv_istore_n (lv' := [(2, .int 0), (0, .ref (gO g 13)), (1, .int p1)]) hx hb dX3_layOctaves_8 rfl hl (by decide) rfl (fun ls hl => ?_)
  refine loop8 5 9 (fun x : LZ => [(2, .int (x.2.1 0)), (0, .ref (gO g 13)), (1, .int p1)]) (fun x : LZ => (Fr (fO [13]) σ1 x.1) ∧ (J8 x.1) ∧ ((0 : Int) ≤ (x.2.1 0).toInt ∧ (x.2.1 0).toInt ≤ 16) ∧ True) (fun x : LZ => ((17 : Int) - (x.2.1 0).toInt).toNat) ?_ (σ1, lf [0], lg []) ⟨Fr.rf, hJ2, (show (0 : Int) ≤ (0 : Int32).toInt ∧ (0 : Int32).toInt ≤ 16 from (by have z0 : (0 : Int32).toInt = 0 := (by decide); omega)), trivial⟩ _ _ _ hP hS (lv_sub hl [0, 1, 2] rfl)
  intro y5 hI4 nl3 H locs ls hP hS hl
  obtain ⟨σ6, eσ6⟩ : ∃ z, z = y5.1 := ⟨_, rfl⟩
  rw [← eσ6] at hP hI4
  have hF7 : Fr (fO [13]) σ1 σ6 := hI4.1
  have hJ8 : J8 σ6 := hI4.2.1
  have b9 : (0 : Int) ≤ (y5.2.1 0).toInt ∧ (y5.2.1 0).toInt ≤ 16 := hI4.2.2.1
  have hl : lv_has ls 5 [(2, .int (y5.2.1 0)), (0, .ref (gO g 13)), (1, .int p1)] := hl
  refine lv_iload_n hx hb dX3_layOctaves_9 rfl (lv_at hl 0 rfl) ?_
  refine lv_aload_n hx hb dX3_layOctaves_10 rfl (lv_at hl 1 rfl) ?_
  refine g8_3_0 (x := ((σ6 13).1 0)) hx hb hts hown hK hP (rfl) (hts _ q280) dX3_layOctaves_11 ?_
  refine lv_icmp_ge (tgt := 74) hx hb dX3_layOctaves_14 (by decide) (fun c10 => ?_) (fun c10 => ?_)
  ·
    have k11 := ple32 c10
    exact W.vret hx hb hr (fun tS ht hW => ⟨⟨σ6, rfl, ⟨Fr.tr (Fr.tr (Fr.rf) (sA_f eσ1) (fN_O mem0)) hF7 (fO_sub (fun _ q => q)), hJ8, trivial⟩, (show va_P D clz (WD8 cy g σ6) tS.heap by rw [ht]; exact hP)⟩, hS.F ht⟩) hS.2.2 dX3_layOctaves_74
  ·
    have k12 := nle32 c10
    refine lv_aload_n hx hb dX3_layOctaves_17 rfl (lv_at hl 1 rfl) ?_
    refine g8_3_12 hx hb hts hown hK hP (hts _ q297) dX3_layOctaves_18 ?_
    refine lv_iload_n hx hb dX3_layOctaves_21 rfl (lv_at hl 0 rfl) ?_
    obtain ⟨x13, ex13⟩ : ∃ z, (σ6 13).2.2.1 12 (y5.2.1 0).toInt.toNat = z := ⟨_, rfl⟩
    refine l8_3_12 (x := x13) hx hb hK hP (vpo (by have f0 := b9; have f1 := k12; have f2 := j8_3_0 hJ8 rfl; have g0 := rg32 (y5.2.1 0); omega)) ex13 dX3_layOctaves_22 ?_
    have t14 := a8_3_12 hJ8 ex13
    refine lv_istore_n (lv' := [(3, .int x13), (2, .int (y5.2.1 0)), (0, .ref (gO g 13)), (1, .int p1)]) hx hb dX3_layOctaves_23 rfl hl (by decide) rfl (fun ls hl => ?_)
    refine lv_bipush (v := (-12)) hx hb dX3_layOctaves_24 (by decide) ?_
    refine lv_istore (lv' := [(4, .int (-12)), (3, .int x13), (2, .int (y5.2.1 0)), (0, .ref (gO g 13)), (1, .int p1)]) hx hb dX3_layOctaves_26 hl (by decide) rfl (fun ls hl => ?_)
    refine loop8 5 28 (fun x : LZ => [(4, .int (x.2.1 0)), (3, .int (x.2.1 1)), (2, .int (y5.2.1 0)), (0, .ref (gO g 13)), (1, .int p1)]) (fun x : LZ => (Fr (fO [13]) σ6 x.1) ∧ (J8 x.1) ∧ ((-12 : Int) ≤ (x.2.1 0).toInt ∧ (x.2.1 0).toInt ≤ 24) ∧ ((0 : Int) ≤ (x.2.1 1).toInt ∧ (x.2.1 1).toInt ≤ 1408) ∧ True) (fun x : LZ => ((25 : Int) - (x.2.1 0).toInt).toNat) ?_ (σ6, lf [(-12), x13], lg []) ⟨Fr.rf, hJ8, (show (-12 : Int) ≤ ((-12) : Int32).toInt ∧ ((-12) : Int32).toInt ≤ 24 from (by have zm12 : ((-12) : Int32).toInt = (-12) := (by decide); omega)), (show (0 : Int) ≤ (x13 : Int32).toInt ∧ (x13 : Int32).toInt ≤ 1408 from (by have f0 := t14; have g0 := rg32 x13; omega)), trivial⟩ _ _ _ hP hS (lv_sub hl [0, 1, 2, 3, 4] rfl)
    intro y17 hI16 nl15 H locs ls hP hS hl
    obtain ⟨σ18, eσ18⟩ : ∃ z, z = y17.1 := ⟨_, rfl⟩
    rw [← eσ18] at hP hI16
    have hF19 : Fr (fO [13]) σ6 σ18 := hI16.1
    have hJ20 : J8 σ18 := hI16.2.1
    have b21 : (-12 : Int) ≤ (y17.2.1 0).toInt ∧ (y17.2.1 0).toInt ≤ 24 := hI16.2.2.1
    have b22 : (0 : Int) ≤ (y17.2.1 1).toInt ∧ (y17.2.1 1).toInt ≤ 1408 := hI16.2.2.2.1
    have hl : lv_has ls 5 [(4, .int (y17.2.1 0)), (3, .int (y17.2.1 1)), (2, .int (y5.2.1 0)), (0, .ref (gO g 13)), (1, .int p1)] := hl
    refine lv_iload hx hb dX3_layOctaves_28 (lv_at hl 0 rfl) ?_
    refine lv_bipush (v := 12) hx hb dX3_layOctaves_30 (by decide) ?_
    refine lv_icmp_gt (tgt := 59) hx hb dX3_layOctaves_32 (by decide) (fun c23 => ?_) (fun c23 => ?_)
    ·
      have k24 := plt32 c23
      refine lv_aload_n hx hb dX3_layOctaves_59 rfl (lv_at hl 3 rfl) ?_
      refine g8_3_12 hx hb hts hown hK hP (hts _ q297) dX3_layOctaves_60 ?_
      refine lv_iload_n hx hb dX3_layOctaves_63 rfl (lv_at hl 2 rfl) ?_
      refine lv_iconst (v := 1) hx hb dX3_layOctaves_64 (by decide) ?_
      refine lv_iadd hx hb dX3_layOctaves_65 ?_
      refine lv_topi (fun x25 ex25 => ?_)
      have t26 := addO ex25 (by have f0 := b9; have f1 := k12; have f2 := j8_3_0 hJ8 rfl; have g0 := rg32 (y5.2.1 0); have z1 : (1 : Int32).toInt = 1 := (by decide); omega)
      refine lv_iload_n hx hb dX3_layOctaves_66 rfl (lv_at hl 1 rfl) ?_
      refine t8_3_12 hx hb hK hP hD hS (vpo (by have f0 := t26; have f1 := b9; have f2 := k12; have f3 := j8_3_0 hJ8 rfl; have g0 := rg32 x25; have z1 : (1 : Int32).toInt = 1 := (by decide); omega)) dX3_layOctaves_67 (fun H locs σ27 eσ27 hP hS => ?_)
      have hJ28 : J8 σ27 := hJ20.A eσ27 rfl (show PA8 3 12 (y17.2.1 1) from (by have f0 := b22; have g0 := rg32 (y17.2.1 1); exact ⟨by omega, by omega⟩))
      obtain ⟨x29, ex29⟩ : ∃ y : Int32, y = (y5.2.1 0) + 1 := ⟨_, rfl⟩
      have t30 := addO ex29 (by have f0 := b9; have f1 := k12; have f2 := t26; have f3 := j8_3_0 hJ8 rfl; have g0 := rg32 (y5.2.1 0); have z1 : (1 : Int32).toInt = 1 := (by decide); omega)
      refine lv_iinc (v := x29) (lv' := [(2, .int x29), (4, .int (y17.2.1 0)), (3, .int (y17.2.1 1)), (0, .ref (gO g 13)), (1, .int p1)]) hx hb dX3_layOctaves_68 hl (k := 2) rfl (by rw [ex29]; rfl) (by decide) rfl (fun ls hl => ?_)
      refine lv_goto (tgt := 9) hx hb dX3_layOctaves_71 (by decide) ?_
      have t31 : ((17 : Int) - x29.toInt).toNat < ((17 : Int) - (y5.2.1 0).toInt).toNat := (by have f0 := b9; have f1 := k12; have f2 := t26; have f3 := t30; have f4 := j8_3_0 hJ8 rfl; have g0 := rg32 (y5.2.1 0); have g1 := rg32 x29; have z1 : (1 : Int32).toInt = 1 := (by decide); omega)
      exact nl3 (σ27, lf [x29], lg []) ⟨Fr.tr (Fr.tr (Fr.tr (Fr.rf) hF7 (fO_sub (fun _ q => q))) hF19 (fO_sub (fun _ q => q))) (sA_f eσ27) (fN_O mem0), hJ28, (show (0 : Int) ≤ (x29 : Int32).toInt ∧ (x29 : Int32).toInt ≤ 16 from (by have f0 := t30; have f1 := b9; have f2 := k12; have f3 := t26; have f4 := j8_3_0 hJ8 rfl; have g0 := rg32 x29; have z1 : (1 : Int32).toInt = 1 := (by decide); omega)), trivial⟩ (show ((17 : Int) - x29.toInt).toNat < _ from by first | exact t31 | (rw [← eσ6]; exact t31)) _ _ _ hP hS (lv_sub hl [0, 3, 4] rfl)
    ·
      have k32 := nlt32 c23
      refine lv_aload_n hx hb dX3_layOctaves_35 rfl (lv_at hl 3 rfl) ?_
      refine lv_iload_n hx hb dX3_layOctaves_36 rfl (lv_at hl 1 rfl) ?_
      refine lv_aload_n hx hb dX3_layOctaves_37 rfl (lv_at hl 3 rfl) ?_
      refine g8_3_9 hx hb hts hown hK hP (hts _ q294) dX3_layOctaves_38 ?_
      refine lv_iload_n hx hb dX3_layOctaves_41 rfl (lv_at hl 2 rfl) ?_
      obtain ⟨x33, ex33⟩ : ∃ z, (σ18 13).2.2.1 9 (y5.2.1 0).toInt.toNat = z := ⟨_, rfl⟩
      refine l8_3_9 (x := x33) hx hb hK hP (vpo (by have f0 := b9; have f1 := k12; have f2 := j8_3_0 hJ8 rfl; have g0 := rg32 (y5.2.1 0); omega)) ex33 dX3_layOctaves_42 ?_
      refine lv_iload hx hb dX3_layOctaves_43 (lv_at hl 0 rfl) ?_
      refine lv_iadd hx hb dX3_layOctaves_45 ?_
      refine lv_topi (fun x34 ex34 => ?_)
      refine lv_iload_n hx hb dX3_layOctaves_46 rfl (lv_at hl 4 rfl) ?_
      refine lv_iload hx hb dX3_layOctaves_47 (lv_at hl 0 rfl) ?_
      refine va_calli (va_runV (As := [.int (y17.2.1 1), .int x34, .int p1, .int (y17.2.1 0)]) (rest := []) ⟨hx, hb, hml, hown, hts⟩ (m_X3_layPitch l D cy g σ18  (y17.2.1 1) x34 p1 (y17.2.1 0) _ hJ20 (show (0 : Int) ≤ (y17.2.1 1).toInt ∧ (y17.2.1 1).toInt ≤ 1408 from (by have f0 := b22; have g0 := rg32 (y17.2.1 1); omega)) (show (-12 : Int) ≤ (y17.2.1 0).toInt ∧ (y17.2.1 0).toInt ≤ 12 from (by have f0 := b21; have f1 := b22; have f2 := k32; have g0 := rg32 (y17.2.1 0); have g1 := rg32 (y17.2.1 1); have z12 : (12 : Int32).toInt = 12 := (by decide); omega))) (cwV 4 hts (gd_V q940 q942 q21 q129 q943) rfl rfl rfl (by decide +kernel) ⟨(Nat.le_of_ble_eq_true rfl), (Nat.le_of_ble_eq_true rfl)⟩) (pv8 hP hK hD hC hS (rv8_3 hK hP)) rfl rfl hl.1 rfl (lv_room (Nat.le_of_ble_eq_true rfl)) dX3_layOctaves_49 ⟨Nat.le_of_ble_eq_true rfl, Nat.le_of_ble_eq_true rfl⟩) hS (fun q _ h => up8 hS q h) (up8 hS) (fun r35 σ36 tS H1 locs ht hvm hw37 hB hz1 hk1 hS => ?_)
      have hP : va_P D clz (WD8 cy g σ36) H1 := by rw [← ht]; exact hB
      clear hB hz1 hk1 hvm ht
      generalize H1 = H at hP hS ⊢
      have hF38 : Fr (fO [13]) σ18 σ36 := hw37.1
      have hJ39 : J8 σ36 := hw37.2.1
      have b40 : (0 : Int) ≤ r35.toInt ∧ r35.toInt ≤ 1408 := hw37.2.2.1
      refine lv_istore_n (lv' := [(3, .int r35), (4, .int (y17.2.1 0)), (2, .int (y5.2.1 0)), (0, .ref (gO g 13)), (1, .int p1)]) hx hb dX3_layOctaves_52 rfl hl (by decide) rfl (fun ls hl => ?_)
      obtain ⟨x41, ex41⟩ : ∃ y : Int32, y = (y17.2.1 0) + 12 := ⟨_, rfl⟩
      have t42 := addO ex41 (by have f0 := b21; have f1 := k32; have g0 := rg32 (y17.2.1 0); have z12 : (12 : Int32).toInt = 12 := (by decide); omega)
      refine lv_iinc (v := x41) (lv' := [(4, .int x41), (3, .int r35), (2, .int (y5.2.1 0)), (0, .ref (gO g 13)), (1, .int p1)]) hx hb dX3_layOctaves_53 hl (k := 1) rfl (by rw [ex41]; rfl) (by decide) rfl (fun ls hl => ?_)
      refine lv_goto (tgt := 28) hx hb dX3_layOctaves_56 (by decide) ?_
      have t43 : ((25 : Int) - x41.toInt).toNat < ((25 : Int) - (y17.2.1 0).toInt).toNat := (by have f0 := b21; have f1 := k32; have f2 := t42; have g0 := rg32 (y17.2.1 0); have g1 := rg32 x41; have z12 : (12 : Int32).toInt = 12 := (by decide); omega)
      exact nl15 (σ36, lf [x41, r35], lg []) ⟨Fr.tr (Fr.tr (Fr.rf) hF19 (fO_sub (fun _ q => q))) hF38 (fO_sub (fun _ q => q)), hJ39, (show (-12 : Int) ≤ (x41 : Int32).toInt ∧ (x41 : Int32).toInt ≤ 24 from (by have f0 := t42; have f1 := b21; have f2 := k32; have g0 := rg32 x41; have z12 : (12 : Int32).toInt = 12 := (by decide); omega)), (show (0 : Int) ≤ (r35 : Int32).toInt ∧ (r35 : Int32).toInt ≤ 1408 from (by have f0 := b40; have g0 := rg32 r35; omega)), trivial⟩ (show ((25 : Int) - x41.toInt).toNat < _ from by first | exact t43 | (rw [← eσ18]; exact t43)) _ _ _ hP hS (lv_sub hl [0, 1, 2, 3, 4] rfl)

theorem q1081 : Cond.code yX3_firstOctave cX3_firstOctave 6 (some .int) ∈ lw_g := lw_gm (List.mem_of_getElem? (i := 1081) (by decide +kernel)) rfl
theorem dX3_firstOctave_0 : decode cX3_firstOctave 0 = .ok (.iconst (-1), 1) := by decide +kernel
theorem dX3_firstOctave_1 : decode cX3_firstOctave 1 = .ok (.istore_n 3, 1) := by decide +kernel
theorem dX3_firstOctave_2 : decode cX3_firstOctave 2 = .ok (.aload_n 0, 1) := by decide +kernel
theorem dX3_firstOctave_3 : decode cX3_firstOctave 3 = .ok (.getfield 34, 3) := by decide +kernel
theorem dX3_firstOctave_6 : decode cX3_firstOctave 6 = .ok (.iload_n 1, 1) := by decide +kernel
theorem dX3_firstOctave_7 : decode cX3_firstOctave 7 = .ok (.iaload, 1) := by decide +kernel
theorem dX3_firstOctave_8 : decode cX3_firstOctave 8 = .ok (.istore 4, 2) := by decide +kernel
theorem dX3_firstOctave_10 : decode cX3_firstOctave 10 = .ok (.iload 4, 2) := by decide +kernel
theorem dX3_firstOctave_12 : decode cX3_firstOctave 12 = .ok (.aload_n 0, 1) := by decide +kernel
theorem dX3_firstOctave_13 : decode cX3_firstOctave 13 = .ok (.getfield 34, 3) := by decide +kernel
theorem dX3_firstOctave_16 : decode cX3_firstOctave 16 = .ok (.iload_n 1, 1) := by decide +kernel
theorem dX3_firstOctave_17 : decode cX3_firstOctave 17 = .ok (.iconst 1, 1) := by decide +kernel
theorem dX3_firstOctave_18 : decode cX3_firstOctave 18 = .ok (.iadd, 1) := by decide +kernel
theorem dX3_firstOctave_19 : decode cX3_firstOctave 19 = .ok (.iaload, 1) := by decide +kernel
theorem dX3_firstOctave_20 : decode cX3_firstOctave 20 = .ok (.if_icmp .ge 83, 3) := by decide +kernel
theorem dX3_firstOctave_23 : decode cX3_firstOctave 23 = .ok (.aload_n 0, 1) := by decide +kernel
theorem dX3_firstOctave_24 : decode cX3_firstOctave 24 = .ok (.getfield 52, 3) := by decide +kernel
theorem dX3_firstOctave_27 : decode cX3_firstOctave 27 = .ok (.iload 4, 2) := by decide +kernel
theorem dX3_firstOctave_29 : decode cX3_firstOctave 29 = .ok (.iaload, 1) := by decide +kernel
theorem dX3_firstOctave_30 : decode cX3_firstOctave 30 = .ok (.iload_n 2, 1) := by decide +kernel
theorem dX3_firstOctave_31 : decode cX3_firstOctave 31 = .ok (.if_icmp .ne 17, 3) := by decide +kernel
theorem dX3_firstOctave_34 : decode cX3_firstOctave 34 = .ok (.aload_n 0, 1) := by decide +kernel
theorem dX3_firstOctave_35 : decode cX3_firstOctave 35 = .ok (.iload_n 1, 1) := by decide +kernel
theorem dX3_firstOctave_36 : decode cX3_firstOctave 36 = .ok (.iload 4, 2) := by decide +kernel
theorem dX3_firstOctave_38 : decode cX3_firstOctave 38 = .ok (.invokevirtual 163, 3) := by decide +kernel
theorem dX3_firstOctave_41 : decode cX3_firstOctave 41 = .ok (.ifCond .eq 7, 3) := by decide +kernel
theorem dX3_firstOctave_44 : decode cX3_firstOctave 44 = .ok (.iconst 1, 1) := by decide +kernel
theorem dX3_firstOctave_45 : decode cX3_firstOctave 45 = .ok (.goto 4, 3) := by decide +kernel
theorem dX3_firstOctave_48 : decode cX3_firstOctave 48 = .ok (.iconst 0, 1) := by decide +kernel
theorem dX3_firstOctave_49 : decode cX3_firstOctave 49 = .ok (.istore 5, 2) := by decide +kernel
theorem dX3_firstOctave_51 : decode cX3_firstOctave 51 = .ok (.iload 5, 2) := by decide +kernel
theorem dX3_firstOctave_53 : decode cX3_firstOctave 53 = .ok (.ifCond .eq 11, 3) := by decide +kernel
theorem dX3_firstOctave_56 : decode cX3_firstOctave 56 = .ok (.iload_n 3, 1) := by decide +kernel
theorem dX3_firstOctave_57 : decode cX3_firstOctave 57 = .ok (.iconst (-1), 1) := by decide +kernel
theorem dX3_firstOctave_58 : decode cX3_firstOctave 58 = .ok (.if_icmp .ne 6, 3) := by decide +kernel
theorem dX3_firstOctave_61 : decode cX3_firstOctave 61 = .ok (.iload 4, 2) := by decide +kernel
theorem dX3_firstOctave_63 : decode cX3_firstOctave 63 = .ok (.istore_n 3, 1) := by decide +kernel
theorem dX3_firstOctave_64 : decode cX3_firstOctave 64 = .ok (.aload_n 0, 1) := by decide +kernel
theorem dX3_firstOctave_65 : decode cX3_firstOctave 65 = .ok (.getfield 55, 3) := by decide +kernel
theorem dX3_firstOctave_68 : decode cX3_firstOctave 68 = .ok (.iload 4, 2) := by decide +kernel
theorem dX3_firstOctave_70 : decode cX3_firstOctave 70 = .ok (.iload 5, 2) := by decide +kernel
theorem dX3_firstOctave_72 : decode cX3_firstOctave 72 = .ok (.ifCond .eq 23, 3) := by decide +kernel
theorem dX3_firstOctave_75 : decode cX3_firstOctave 75 = .ok (.aload_n 0, 1) := by decide +kernel
theorem dX3_firstOctave_76 : decode cX3_firstOctave 76 = .ok (.getfield 49, 3) := by decide +kernel
theorem dX3_firstOctave_79 : decode cX3_firstOctave 79 = .ok (.iload 4, 2) := by decide +kernel
theorem dX3_firstOctave_81 : decode cX3_firstOctave 81 = .ok (.iaload, 1) := by decide +kernel
theorem dX3_firstOctave_82 : decode cX3_firstOctave 82 = .ok (.aload_n 0, 1) := by decide +kernel
theorem dX3_firstOctave_83 : decode cX3_firstOctave 83 = .ok (.getfield 49, 3) := by decide +kernel
theorem dX3_firstOctave_86 : decode cX3_firstOctave 86 = .ok (.iload_n 3, 1) := by decide +kernel
theorem dX3_firstOctave_87 : decode cX3_firstOctave 87 = .ok (.iaload, 1) := by decide +kernel
theorem dX3_firstOctave_88 : decode cX3_firstOctave 88 = .ok (.if_icmp .ne 7, 3) := by decide +kernel
theorem dX3_firstOctave_91 : decode cX3_firstOctave 91 = .ok (.iconst 1, 1) := by decide +kernel
theorem dX3_firstOctave_92 : decode cX3_firstOctave 92 = .ok (.goto 4, 3) := by decide +kernel
theorem dX3_firstOctave_95 : decode cX3_firstOctave 95 = .ok (.iconst 0, 1) := by decide +kernel
theorem dX3_firstOctave_96 : decode cX3_firstOctave 96 = .ok (.iastore, 1) := by decide +kernel
theorem dX3_firstOctave_97 : decode cX3_firstOctave 97 = .ok (.iinc 4 1, 3) := by decide +kernel
theorem dX3_firstOctave_100 : decode cX3_firstOctave 100 = .ok (.goto (-90), 3) := by decide +kernel
theorem dX3_firstOctave_103 : decode cX3_firstOctave 103 = .ok (.iload_n 3, 1) := by decide +kernel
theorem dX3_firstOctave_104 : decode cX3_firstOctave 104 = .ok (.iconst (-1), 1) := by decide +kernel
theorem dX3_firstOctave_105 : decode cX3_firstOctave 105 = .ok (.if_icmp .ne 18, 3) := by decide +kernel
theorem dX3_firstOctave_108 : decode cX3_firstOctave 108 = .ok (.aload_n 0, 1) := by decide +kernel
theorem dX3_firstOctave_109 : decode cX3_firstOctave 109 = .ok (.getfield 34, 3) := by decide +kernel
theorem dX3_firstOctave_112 : decode cX3_firstOctave 112 = .ok (.iload_n 1, 1) := by decide +kernel
theorem dX3_firstOctave_113 : decode cX3_firstOctave 113 = .ok (.iaload, 1) := by decide +kernel
theorem dX3_firstOctave_114 : decode cX3_firstOctave 114 = .ok (.sipush 1407, 3) := by decide +kernel
theorem dX3_firstOctave_117 : decode cX3_firstOctave 117 = .ok (.invokestatic 139, 3) := by decide +kernel
theorem dX3_firstOctave_120 : decode cX3_firstOctave 120 = .ok (.goto 4, 3) := by decide +kernel
theorem dX3_firstOctave_123 : decode cX3_firstOctave 123 = .ok (.iload_n 3, 1) := by decide +kernel
theorem dX3_firstOctave_124 : decode cX3_firstOctave 124 = .ok (.ireturn, 1) := by decide +kernel
set_option maxHeartbeats 4000000 in
set_option maxRecDepth 100000 in
theorem m_X3_firstOctave (l : Launch) (D : va_G) (cy : Nat → ClassId) (g : Nat → Nat) (σ : ST) (p1 : Int32) (p2 : Int32) (sz : Nat) (hJ : J8 σ) (h0 : (0 : Int) ≤ p1.toInt ∧ p1.toInt ≤ 15) : Met l yX3_firstOctave (ww yX3_firstOctave cX3_firstOctave 6 (some .int)) ({ frames := 4, cells := 0, slots := 0, locals := 256 }) (va_Pc [.ref (gO g 13), .int p1, .int p2] (pr8 D cy g σ sz)) (qi8 D cy g sz (fun r τ => Fr (fO [13]) σ τ ∧ J8 τ ∧ ((0 : Int) ≤ r.toInt ∧ r.toInt ≤ 1407) ∧ True)) 0 0 (A8 cy g sz) := by
  refine Met.ofW (cc := cX3_firstOctave) (maxL := 6) (ret := (some .int)) (by decide) rfl ?_
  intro p e s m args below meth c s₁ B hml hv
  obtain ⟨rfl, hsz, hP, hK, hD0, hC⟩ := hv
  have hx := B.exec
  have hb := B.bytes
  have hr := B.returns
  have hts := hts_g (atoms_spec (ws := ww yX3_firstOctave cX3_firstOctave 6 (some .int)) B.pre)
  have hown : s.vm.findClass RX3 = some m.cls := findClass_of_methodNamed B.named
  have hlocks := B.notSynchronized
  clear B
  subst hsz
  have hD := fun τ => A8_D (sz := s.heap.size) hD0 τ
  clear hD0
  have hS : va_S (A8 cy g s.heap.size) s.heap s.heap [] := va_S.rf
  have hl := lv_entry ([.ref (gO g 13), .int p1, .int p2]) (n := 6) (Nat.le_of_ble_eq_true rfl)
  rw [lg_entry_eq]
  generalize (lg_sl ([.ref (gO g 13), .int p1, .int p2]) ++ List.replicate (6 - (lg_sl ([.ref (gO g 13), .int p1, .int p2])).length) Slot.unset).toArray = ls at hl ⊢
  have hl : lv_has ls 6 [(0, .ref (gO g 13)), (1, .int p1), (2, .int p2)] := hl
  refine lv_iconst (v := (-1)) hx hb dX3_firstOctave_0 (by decide) ?_
  refine lv_istore_n (lv' := [(3, .int (-1)), (0, .ref (gO g 13)), (1, .int p1), (2, .int p2)]) hx hb dX3_firstOctave_1 rfl hl (by decide) rfl (fun ls hl => ?_)
  refine lv_aload_n hx hb dX3_firstOctave_2 rfl (lv_at hl 1 rfl) ?_
  refine g8_3_12 hx hb hts hown hK hP (hts _ q297) dX3_firstOctave_3 ?_
  refine lv_iload_n hx hb dX3_firstOctave_6 rfl (lv_at hl 2 rfl) ?_
  obtain ⟨x1, ex1⟩ : ∃ z, (σ 13).2.2.1 12 p1.toInt.toNat = z := ⟨_, rfl⟩
  refine l8_3_12 (x := x1) hx hb hK hP (vpo (by have f0 := h0; have g0 := rg32 p1; omega)) ex1 dX3_firstOctave_7 ?_
  have t2 := a8_3_12 hJ ex1
  refine lv_istore (lv' := [(4, .int x1), (3, .int (-1)), (0, .ref (gO g 13)), (1, .int p1), (2, .int p2)]) hx hb dX3_firstOctave_8 hl (by decide) rfl (fun ls hl => ?_)
  refine loop8 6 10 (fun x : LZ => [(4, .int (x.2.1 0)), (3, .int (x.2.1 1)), (0, .ref (gO g 13)), (1, .int p1), (2, .int p2)]) (fun x : LZ => (Fr (fO [13]) σ x.1) ∧ (J8 x.1) ∧ ((0 : Int) ≤ (x.2.1 0).toInt ∧ (x.2.1 0).toInt ≤ 1408) ∧ ((-1 : Int) ≤ (x.2.1 1).toInt ∧ (x.2.1 1).toInt ≤ 1407) ∧ True) (fun x : LZ => ((1409 : Int) - (x.2.1 0).toInt).toNat) ?_ (σ, lf [x1, (-1)], lg []) ⟨Fr.rf, hJ, (show (0 : Int) ≤ (x1 : Int32).toInt ∧ (x1 : Int32).toInt ≤ 1408 from (by have f0 := t2; have g0 := rg32 x1; omega)), (show (-1 : Int) ≤ ((-1) : Int32).toInt ∧ ((-1) : Int32).toInt ≤ 1407 from (by have zm1 : ((-1) : Int32).toInt = (-1) := (by decide); omega)), trivial⟩ _ _ _ hP hS (lv_sub hl [0, 1, 2, 3, 4] rfl)
  intro y5 hI4 nl3 H locs ls hP hS hl
  obtain ⟨σ6, eσ6⟩ : ∃ z, z = y5.1 := ⟨_, rfl⟩
  rw [← eσ6] at hP hI4
  have hF7 : Fr (fO [13]) σ σ6 := hI4.1
  have hJ8 : J8 σ6 := hI4.2.1
  have b9 : (0 : Int) ≤ (y5.2.1 0).toInt ∧ (y5.2.1 0).toInt ≤ 1408 := hI4.2.2.1
  have b10 : (-1 : Int) ≤ (y5.2.1 1).toInt ∧ (y5.2.1 1).toInt ≤ 1407 := hI4.2.2.2.1
  have hl : lv_has ls 6 [(4, .int (y5.2.1 0)), (3, .int (y5.2.1 1)), (0, .ref (gO g 13)), (1, .int p1), (2, .int p2)] := hl
  refine lv_iload hx hb dX3_firstOctave_10 (lv_at hl 0 rfl) ?_
  refine lv_aload_n hx hb dX3_firstOctave_12 rfl (lv_at hl 2 rfl) ?_
  refine g8_3_12 hx hb hts hown hK hP (hts _ q297) dX3_firstOctave_13 ?_
  refine lv_iload_n hx hb dX3_firstOctave_16 rfl (lv_at hl 3 rfl) ?_
  refine lv_iconst (v := 1) hx hb dX3_firstOctave_17 (by decide) ?_
  refine lv_iadd hx hb dX3_firstOctave_18 ?_
  refine lv_topi (fun x11 ex11 => ?_)
  have t12 := addO ex11 (by have f0 := h0; have g0 := rg32 p1; have z1 : (1 : Int32).toInt = 1 := (by decide); omega)
  obtain ⟨x13, ex13⟩ : ∃ z, (σ6 13).2.2.1 12 x11.toInt.toNat = z := ⟨_, rfl⟩
  refine l8_3_12 (x := x13) hx hb hK hP (vpo (by have f0 := t12; have f1 := h0; have g0 := rg32 x11; have z1 : (1 : Int32).toInt = 1 := (by decide); omega)) ex13 dX3_firstOctave_19 ?_
  have t14 := a8_3_12 hJ8 ex13
  refine lv_icmp_ge (tgt := 103) hx hb dX3_firstOctave_20 (by decide) (fun c15 => ?_) (fun c15 => ?_)
  ·
    have k16 := ple32 c15
    refine lv_iload_n hx hb dX3_firstOctave_103 rfl (lv_at hl 1 rfl) ?_
    refine lv_iconst (v := (-1)) hx hb dX3_firstOctave_104 (by decide) ?_
    refine lv_icmp_ne (tgt := 123) hx hb dX3_firstOctave_105 (by decide) (fun c17 => ?_) (fun c17 => ?_)
    ·
      have k18 := neq32 c17
      refine lv_iload_n hx hb dX3_firstOctave_123 rfl (lv_at hl 1 rfl) ?_
      exact W.iret (v := (y5.2.1 1)) hx hb hr (fun tS ht hW => ⟨⟨(y5.2.1 1), σ6, rfl, ⟨Fr.tr (Fr.rf) hF7 (fO_sub (fun _ q => q)), hJ8, (show (0 : Int) ≤ (y5.2.1 1).toInt ∧ (y5.2.1 1).toInt ≤ 1407 from (by have f0 := b10; have f1 := k18; have g0 := rg32 (y5.2.1 1); have zm1 : ((-1) : Int32).toInt = (-1) := (by decide); omega)), trivial⟩, (show va_P D clz (WD8 cy g σ6) tS.heap by rw [ht]; exact hP)⟩, hS.F ht⟩) hS.2.2 dX3_firstOctave_124
    ·
      have k19 := peq32 c17
      refine lv_aload_n hx hb dX3_firstOctave_108 rfl (lv_at hl 2 rfl) ?_
      refine g8_3_12 hx hb hts hown hK hP (hts _ q297) dX3_firstOctave_109 ?_
      refine lv_iload_n hx hb dX3_firstOctave_112 rfl (lv_at hl 3 rfl) ?_
      obtain ⟨x20, ex20⟩ : ∃ z, (σ6 13).2.2.1 12 p1.toInt.toNat = z := ⟨_, rfl⟩
      refine l8_3_12 (x := x20) hx hb hK hP (vpo (by have f0 := h0; have f1 := t12; have g0 := rg32 p1; have z1 : (1 : Int32).toInt = 1 := (by decide); omega)) ex20 dX3_firstOctave_113 ?_
      have t21 := a8_3_12 hJ8 ex20
      refine lv_sipush (v := 1407) hx hb dX3_firstOctave_114 (by decide) ?_
      refine va_mmin hx hb (hml.trans hl.1.symm) hown (hts _ q979) (hts _ q512) (hts _ q135) (hts _ q513) (Nat.le_of_ble_eq_true rfl) (Nat.le_of_ble_eq_true rfl) (Nat.le_refl _) (Nat.le_refl _) dX3_firstOctave_117 ?_
      refine lv_topi (fun x22 ex22 => ?_)
      have t23 := minO ex22
      refine lv_goto (tgt := 124) hx hb dX3_firstOctave_120 (by decide) ?_
      exact W.iret (v := x22) hx hb hr (fun tS ht hW => ⟨⟨x22, σ6, rfl, ⟨Fr.tr (Fr.rf) hF7 (fO_sub (fun _ q => q)), hJ8, (show (0 : Int) ≤ x22.toInt ∧ x22.toInt ≤ 1407 from (by have f0 := t23; have f1 := t21; have g0 := rg32 x22; have z1407 : (1407 : Int32).toInt = 1407 := (by decide); omega)), trivial⟩, (show va_P D clz (WD8 cy g σ6) tS.heap by rw [ht]; exact hP)⟩, hS.F ht⟩) hS.2.2 dX3_firstOctave_124
  ·
    have k24 := nle32 c15
    refine lv_aload_n hx hb dX3_firstOctave_23 rfl (lv_at hl 2 rfl) ?_
    refine g8_3_18 hx hb hts hown hK hP (hts _ q303) dX3_firstOctave_24 ?_
    refine lv_iload hx hb dX3_firstOctave_27 (lv_at hl 0 rfl) ?_
    obtain ⟨x25, ex25⟩ : ∃ z, (σ6 13).2.2.1 18 (y5.2.1 0).toInt.toNat = z := ⟨_, rfl⟩
    refine l8_3_18 (x := x25) hx hb hK hP (vpo (by have f0 := b9; have f1 := k24; have f2 := t14; have g0 := rg32 (y5.2.1 0); omega)) ex25 dX3_firstOctave_29 ?_
    refine lv_iload_n hx hb dX3_firstOctave_30 rfl (lv_at hl 4 rfl) ?_
    refine cut8 (D := D) (cy := cy) (g := g) (A := A8 cy g s.heap.size) (H0 := s.heap) 6 49 (fun x : LZ => [(4, .int (y5.2.1 0)), (3, .int (y5.2.1 1)), (0, .ref (gO g 13)), (1, .int p1), (2, .int p2)]) (fun x : LZ => [.int (x.2.1 0)]) (fun x : LZ => (x.1 = σ6) ∧ ((0 : Int) ≤ (x.2.1 0).toInt ∧ (x.2.1 0).toInt ≤ 1) ∧ True) ?_ ?_
    ·
      intro y28 hI27 H locs ls hP hS hl
      rw [show y28.1 = σ6 from hI27.1] at hP
      have b29 : (0 : Int) ≤ (y28.2.1 0).toInt ∧ (y28.2.1 0).toInt ≤ 1 := hI27.2.1
      have hl : lv_has ls 6 [(4, .int (y5.2.1 0)), (3, .int (y5.2.1 1)), (0, .ref (gO g 13)), (1, .int p1), (2, .int p2)] := hl
      refine W.eq (g2 := F0 m 49 ls [.int (y28.2.1 0)]) rfl ?_
      refine lv_istore (lv' := [(5, .int (y28.2.1 0)), (4, .int (y5.2.1 0)), (3, .int (y5.2.1 1)), (0, .ref (gO g 13)), (1, .int p1), (2, .int p2)]) hx hb dX3_firstOctave_49 hl (by decide) rfl (fun ls hl => ?_)
      refine lv_iload hx hb dX3_firstOctave_51 (lv_at hl 0 rfl) ?_
      refine cut8 (D := D) (cy := cy) (g := g) (A := A8 cy g s.heap.size) (H0 := s.heap) 6 64 (fun x : LZ => [(5, .int (y28.2.1 0)), (4, .int (y5.2.1 0)), (3, .int (x.2.1 0)), (0, .ref (gO g 13)), (1, .int p1), (2, .int p2)]) (fun x : LZ => []) (fun x : LZ => (x.1 = σ6) ∧ ((-1 : Int) ≤ (x.2.1 0).toInt ∧ (x.2.1 0).toInt ≤ 1407) ∧ ((y28.2.1 0).toInt = 0 ∨ 0 ≤ (x.2.1 0).toInt) ∧ True) ?_ ?_
      ·
        intro y32 hI31 H locs ls hP hS hl
        rw [show y32.1 = σ6 from hI31.1] at hP
        have b33 : (-1 : Int) ≤ (y32.2.1 0).toInt ∧ (y32.2.1 0).toInt ≤ 1407 := hI31.2.1
        have b34 : (y28.2.1 0).toInt = 0 ∨ 0 ≤ (y32.2.1 0).toInt := hI31.2.2.1
        have hl : lv_has ls 6 [(5, .int (y28.2.1 0)), (4, .int (y5.2.1 0)), (3, .int (y32.2.1 0)), (0, .ref (gO g 13)), (1, .int p1), (2, .int p2)] := hl
        refine lv_aload_n hx hb dX3_firstOctave_64 rfl (lv_at hl 3 rfl) ?_
        refine g8_3_19 hx hb hts hown hK hP (hts _ q304) dX3_firstOctave_65 ?_
        refine lv_iload hx hb dX3_firstOctave_68 (lv_at hl 1 rfl) ?_
        refine lv_iload hx hb dX3_firstOctave_70 (lv_at hl 0 rfl) ?_
        refine cut8 (D := D) (cy := cy) (g := g) (A := A8 cy g s.heap.size) (H0 := s.heap) 6 96 (fun x : LZ => [(5, .int (y28.2.1 0)), (4, .int (y5.2.1 0)), (3, .int (y32.2.1 0)), (0, .ref (gO g 13)), (1, .int p1), (2, .int p2)]) (fun x : LZ => [.int (x.2.1 0), .int (y5.2.1 0), .ref (gR g 13 19)]) (fun x : LZ => (x.1 = σ6) ∧ ((0 : Int) ≤ (x.2.1 0).toInt ∧ (x.2.1 0).toInt ≤ 1) ∧ True) ?_ ?_
        ·
          intro y37 hI36 H locs ls hP hS hl
          rw [show y37.1 = σ6 from hI36.1] at hP
          have b38 : (0 : Int) ≤ (y37.2.1 0).toInt ∧ (y37.2.1 0).toInt ≤ 1 := hI36.2.1
          have hl : lv_has ls 6 [(5, .int (y28.2.1 0)), (4, .int (y5.2.1 0)), (3, .int (y32.2.1 0)), (0, .ref (gO g 13)), (1, .int p1), (2, .int p2)] := hl
          refine W.eq (g2 := F0 m 96 ls [.int (y37.2.1 0), .int (y5.2.1 0), .ref (gR g 13 19)]) rfl ?_
          refine t8_3_19 hx hb hK hP hD hS (vpo (by have f0 := b9; have f1 := k24; have f2 := t14; have g0 := rg32 (y5.2.1 0); omega)) dX3_firstOctave_96 (fun H locs σ39 eσ39 hP hS => ?_)
          have hJ40 : J8 σ39 := hJ8.A eσ39 rfl (show PA8 3 19 (y37.2.1 0) from trivial)
          obtain ⟨x41, ex41⟩ : ∃ y : Int32, y = (y5.2.1 0) + 1 := ⟨_, rfl⟩
          have t42 := addO ex41 (by have f0 := b9; have f1 := k24; have f2 := t14; have g0 := rg32 (y5.2.1 0); have z1 : (1 : Int32).toInt = 1 := (by decide); omega)
          refine lv_iinc (v := x41) (lv' := [(4, .int x41), (5, .int (y28.2.1 0)), (3, .int (y32.2.1 0)), (0, .ref (gO g 13)), (1, .int p1), (2, .int p2)]) hx hb dX3_firstOctave_97 hl (k := 1) rfl (by rw [ex41]; rfl) (by decide) rfl (fun ls hl => ?_)
          refine lv_goto (tgt := 10) hx hb dX3_firstOctave_100 (by decide) ?_
          have t43 : ((1409 : Int) - x41.toInt).toNat < ((1409 : Int) - (y5.2.1 0).toInt).toNat := (by have f0 := b9; have f1 := k24; have f2 := t42; have f3 := t14; have g0 := rg32 (y5.2.1 0); have g1 := rg32 x41; have z1 : (1 : Int32).toInt = 1 := (by decide); omega)
          exact nl3 (σ39, lf [x41, (y32.2.1 0)], lg []) ⟨Fr.tr (Fr.tr (Fr.rf) hF7 (fO_sub (fun _ q => q))) (sA_f eσ39) (fN_O mem0), hJ40, (show (0 : Int) ≤ (x41 : Int32).toInt ∧ (x41 : Int32).toInt ≤ 1408 from (by have f0 := t42; have f1 := b9; have f2 := k24; have f3 := t14; have g0 := rg32 x41; have z1 : (1 : Int32).toInt = 1 := (by decide); omega)), (show (-1 : Int) ≤ ((y32.2.1 0) : Int32).toInt ∧ ((y32.2.1 0) : Int32).toInt ≤ 1407 from (by have f0 := b33; have f1 := b34; have f2 := b29; have g0 := rg32 (y32.2.1 0); omega)), trivial⟩ (show ((1409 : Int) - x41.toInt).toNat < _ from by first | exact t43 | (rw [← eσ6]; exact t43)) _ _ _ hP hS (lv_sub hl [0, 2, 3, 4, 5] rfl)
        ·
          intro nj35
          refine cut8 (D := D) (cy := cy) (g := g) (A := A8 cy g s.heap.size) (H0 := s.heap) 6 95 (fun x : LZ => [(5, .int (y28.2.1 0)), (4, .int (y5.2.1 0)), (3, .int (y32.2.1 0)), (0, .ref (gO g 13)), (1, .int p1), (2, .int p2)]) (fun x : LZ => [.int (y5.2.1 0), .ref (gR g 13 19)]) (fun x : LZ => (x.1 = σ6) ∧ True) ?_ ?_
          ·
            intro y46 hI45 H locs ls hP hS hl
            rw [show y46.1 = σ6 from hI45.1] at hP
            have hl : lv_has ls 6 [(5, .int (y28.2.1 0)), (4, .int (y5.2.1 0)), (3, .int (y32.2.1 0)), (0, .ref (gO g 13)), (1, .int p1), (2, .int p2)] := hl
            refine W.eq (g2 := F0 m 95 ls [.int (y5.2.1 0), .ref (gR g 13 19)]) rfl ?_
            refine lv_iconst (v := 0) hx hb dX3_firstOctave_95 (by decide) ?_
            exact nj35 (σ6, lf [0], lg []) ⟨rfl, (show (0 : Int) ≤ (0 : Int32).toInt ∧ (0 : Int32).toInt ≤ 1 from (by have z0 : (0 : Int32).toInt = 0 := (by decide); omega)), trivial⟩ _ _ _ hP hS (lv_sub hl [0, 1, 2, 3, 4, 5] rfl)
          ·
            intro nj44
            refine lv_if_eq (tgt := 95) hx hb dX3_firstOctave_72 (by decide) (fun c47 => ?_) (fun c47 => ?_)
            ·
              have k48 := peq32 c47
              exact nj44 (σ6, lf [], lg []) ⟨rfl, trivial⟩ _ _ _ hP hS (lv_sub hl [0, 1, 2, 3, 4, 5] rfl)
            ·
              have k49 := neq32 c47
              refine lv_aload_n hx hb dX3_firstOctave_75 rfl (lv_at hl 3 rfl) ?_
              refine g8_3_17 hx hb hts hown hK hP (hts _ q302) dX3_firstOctave_76 ?_
              refine lv_iload hx hb dX3_firstOctave_79 (lv_at hl 1 rfl) ?_
              obtain ⟨x50, ex50⟩ : ∃ z, (σ6 13).2.2.1 17 (y5.2.1 0).toInt.toNat = z := ⟨_, rfl⟩
              refine l8_3_17 (x := x50) hx hb hK hP (vpo (by have f0 := b9; have f1 := k24; have f2 := t14; have g0 := rg32 (y5.2.1 0); omega)) ex50 dX3_firstOctave_81 ?_
              refine lv_aload_n hx hb dX3_firstOctave_82 rfl (lv_at hl 3 rfl) ?_
              refine g8_3_17 hx hb hts hown hK hP (hts _ q302) dX3_firstOctave_83 ?_
              refine lv_iload_n hx hb dX3_firstOctave_86 rfl (lv_at hl 2 rfl) ?_
              obtain ⟨x51, ex51⟩ : ∃ z, (σ6 13).2.2.1 17 (y32.2.1 0).toInt.toNat = z := ⟨_, rfl⟩
              refine l8_3_17 (x := x51) hx hb hK hP (vpo (by have f0 := b33; have f1 := b34; have f2 := b29; have f3 := k49; have g0 := rg32 (y32.2.1 0); have z0 : (0 : Int32).toInt = 0 := (by decide); omega)) ex51 dX3_firstOctave_87 ?_
              refine lv_icmp_ne (tgt := 95) hx hb dX3_firstOctave_88 (by decide) (fun c52 => ?_) (fun c52 => ?_)
              ·
                have k53 := neq32 c52
                exact nj44 (σ6, lf [], lg []) ⟨rfl, trivial⟩ _ _ _ hP hS (lv_sub hl [0, 1, 2, 3, 4, 5] rfl)
              ·
                have k54 := peq32 c52
                refine lv_iconst (v := 1) hx hb dX3_firstOctave_91 (by decide) ?_
                refine lv_goto (tgt := 96) hx hb dX3_firstOctave_92 (by decide) ?_
                exact nj35 (σ6, lf [1], lg []) ⟨rfl, (show (0 : Int) ≤ (1 : Int32).toInt ∧ (1 : Int32).toInt ≤ 1 from (by have z1 : (1 : Int32).toInt = 1 := (by decide); omega)), trivial⟩ _ _ _ hP hS (lv_sub hl [0, 1, 2, 3, 4, 5] rfl)
      ·
        intro nj30
        refine lv_if_eq (tgt := 64) hx hb dX3_firstOctave_53 (by decide) (fun c55 => ?_) (fun c55 => ?_)
        ·
          have k56 := peq32 c55
          exact nj30 (σ6, lf [(y5.2.1 1)], lg []) ⟨rfl, (show (-1 : Int) ≤ ((y5.2.1 1) : Int32).toInt ∧ ((y5.2.1 1) : Int32).toInt ≤ 1407 from (by have f0 := b10; have g0 := rg32 (y5.2.1 1); omega)), (show (y28.2.1 0).toInt = 0 ∨ 0 ≤ (y5.2.1 1).toInt from (by have f0 := b10; have f1 := b29; have f2 := k56; have g0 := rg32 (y28.2.1 0); have g1 := rg32 (y5.2.1 1); have z0 : (0 : Int32).toInt = 0 := (by decide); omega)), trivial⟩ _ _ _ hP hS (lv_sub hl [0, 1, 2, 3, 4, 5] rfl)
        ·
          have k57 := neq32 c55
          refine lv_iload_n hx hb dX3_firstOctave_56 rfl (lv_at hl 2 rfl) ?_
          refine lv_iconst (v := (-1)) hx hb dX3_firstOctave_57 (by decide) ?_
          refine lv_icmp_ne (tgt := 64) hx hb dX3_firstOctave_58 (by decide) (fun c58 => ?_) (fun c58 => ?_)
          ·
            have k59 := neq32 c58
            exact nj30 (σ6, lf [(y5.2.1 1)], lg []) ⟨rfl, (show (-1 : Int) ≤ ((y5.2.1 1) : Int32).toInt ∧ ((y5.2.1 1) : Int32).toInt ≤ 1407 from (by have f0 := b10; have f1 := k59; have g0 := rg32 (y5.2.1 1); have zm1 : ((-1) : Int32).toInt = (-1) := (by decide); omega)), (show (y28.2.1 0).toInt = 0 ∨ 0 ≤ (y5.2.1 1).toInt from (by have f0 := b10; have f1 := b29; have f2 := k57; have f3 := k59; have g0 := rg32 (y28.2.1 0); have g1 := rg32 (y5.2.1 1); have zm1 : ((-1) : Int32).toInt = (-1) := (by decide); have z0 : (0 : Int32).toInt = 0 := (by decide); omega)), trivial⟩ _ _ _ hP hS (lv_sub hl [0, 1, 2, 3, 4, 5] rfl)
          ·
            have k60 := peq32 c58
            refine lv_iload hx hb dX3_firstOctave_61 (lv_at hl 1 rfl) ?_
            refine lv_istore_n (lv' := [(3, .int (y5.2.1 0)), (5, .int (y28.2.1 0)), (4, .int (y5.2.1 0)), (0, .ref (gO g 13)), (1, .int p1), (2, .int p2)]) hx hb dX3_firstOctave_63 rfl hl (by decide) rfl (fun ls hl => ?_)
            exact nj30 (σ6, lf [(y5.2.1 0)], lg []) ⟨rfl, (show (-1 : Int) ≤ ((y5.2.1 0) : Int32).toInt ∧ ((y5.2.1 0) : Int32).toInt ≤ 1407 from (by have f0 := b9; have f1 := k24; have f2 := t14; have g0 := rg32 (y5.2.1 0); omega)), (show (y28.2.1 0).toInt = 0 ∨ 0 ≤ (y5.2.1 0).toInt from (by have f0 := b9; have f1 := k24; have f2 := b29; have f3 := k57; have f4 := t14; have g0 := rg32 (y28.2.1 0); have g1 := rg32 (y5.2.1 0); have z0 : (0 : Int32).toInt = 0 := (by decide); omega)), trivial⟩ _ _ _ hP hS (lv_sub hl [1, 2, 0, 3, 4, 5] rfl)
    ·
      intro nj26
      refine cut8 (D := D) (cy := cy) (g := g) (A := A8 cy g s.heap.size) (H0 := s.heap) 6 48 (fun x : LZ => [(4, .int (y5.2.1 0)), (3, .int (y5.2.1 1)), (0, .ref (gO g 13)), (1, .int p1), (2, .int p2)]) (fun x : LZ => []) (fun x : LZ => (x.1 = σ6) ∧ True) ?_ ?_
      ·
        intro y63 hI62 H locs ls hP hS hl
        rw [show y63.1 = σ6 from hI62.1] at hP
        have hl : lv_has ls 6 [(4, .int (y5.2.1 0)), (3, .int (y5.2.1 1)), (0, .ref (gO g 13)), (1, .int p1), (2, .int p2)] := hl
        refine lv_iconst (v := 0) hx hb dX3_firstOctave_48 (by decide) ?_
        exact nj26 (σ6, lf [0], lg []) ⟨rfl, (show (0 : Int) ≤ (0 : Int32).toInt ∧ (0 : Int32).toInt ≤ 1 from (by have z0 : (0 : Int32).toInt = 0 := (by decide); omega)), trivial⟩ _ _ _ hP hS (lv_sub hl [0, 1, 2, 3, 4] rfl)
      ·
        intro nj61
        refine lv_icmp_ne (tgt := 48) hx hb dX3_firstOctave_31 (by decide) (fun c64 => ?_) (fun c64 => ?_)
        ·
          have k65 := neq32 c64
          exact nj61 (σ6, lf [], lg []) ⟨rfl, trivial⟩ _ _ _ hP hS (lv_sub hl [0, 1, 2, 3, 4] rfl)
        ·
          have k66 := peq32 c64
          refine lv_aload_n hx hb dX3_firstOctave_34 rfl (lv_at hl 2 rfl) ?_
          refine lv_iload_n hx hb dX3_firstOctave_35 rfl (lv_at hl 3 rfl) ?_
          refine lv_iload hx hb dX3_firstOctave_36 (lv_at hl 0 rfl) ?_
          refine va_calli (va_runV (As := [.int p1, .int (y5.2.1 0)]) (rest := []) ⟨hx, hb, hml, hown, hts⟩ (m_X3_comesTo l D cy g σ6  p1 (y5.2.1 0) _ hJ8 (show (0 : Int) ≤ p1.toInt ∧ p1.toInt ≤ 15 from (by have f0 := h0; have f1 := t12; have g0 := rg32 p1; have z1 : (1 : Int32).toInt = 1 := (by decide); omega)) (show (0 : Int) ≤ (y5.2.1 0).toInt ∧ (y5.2.1 0).toInt ≤ 1407 from (by have f0 := h0; have f1 := b9; have f2 := t12; have f3 := k24; have f4 := t14; have g0 := rg32 (y5.2.1 0); have g1 := rg32 p1; have z1 : (1 : Int32).toInt = 1 := (by decide); omega))) (cwV 2 hts (gd_V q1028 q1030 q30 q129 q1031) rfl rfl rfl (by decide +kernel) ⟨(Nat.le_of_ble_eq_true rfl), (Nat.le_of_ble_eq_true rfl)⟩) (pv8 hP hK hD hC hS (rv8_3 hK hP)) rfl rfl hl.1 rfl (lv_room (Nat.le_of_ble_eq_true rfl)) dX3_firstOctave_38 ⟨Nat.le_of_ble_eq_true rfl, Nat.le_of_ble_eq_true rfl⟩) hS (fun q _ h => up8 hS q h) (up8 hS) (fun r67 σ68 tS H1 locs ht hvm hw69 hB hz1 hk1 hS => ?_)
          have hP : va_P D clz (WD8 cy g σ68) H1 := by rw [← ht]; exact hB
          clear hB hz1 hk1 hvm ht
          generalize H1 = H at hP hS ⊢
          have hw69E : σ6 = σ68 := (hw69.1).symm
          subst hw69E
          have b70 : (0 : Int) ≤ r67.toInt ∧ r67.toInt ≤ 1 := hw69.2.1
          refine lv_if_eq (tgt := 48) hx hb dX3_firstOctave_41 (by decide) (fun c71 => ?_) (fun c71 => ?_)
          ·
            have k72 := peq32 c71
            exact nj61 (σ6, lf [], lg []) ⟨rfl, trivial⟩ _ _ _ hP hS (lv_sub hl [0, 1, 2, 3, 4] rfl)
          ·
            have k73 := neq32 c71
            refine lv_iconst (v := 1) hx hb dX3_firstOctave_44 (by decide) ?_
            refine lv_goto (tgt := 49) hx hb dX3_firstOctave_45 (by decide) ?_
            exact nj26 (σ6, lf [1], lg []) ⟨rfl, (show (0 : Int) ≤ (1 : Int32).toInt ∧ (1 : Int32).toInt ≤ 1 from (by have z1 : (1 : Int32).toInt = 1 := (by decide); omega)), trivial⟩ _ _ _ hP hS (lv_sub hl [0, 1, 2, 3, 4] rfl)

theorem q1077 : Cond.code yX3_findMoved cX3_findMoved 4 (some .int) ∈ lw_g := lw_gm (List.mem_of_getElem? (i := 1077) (by decide +kernel)) rfl
theorem q1078 : Cond.methodLink RX3 166 yX3_firstOctave ∈ lw_g := lw_gm (List.mem_of_getElem? (i := 1078) (by decide +kernel)) rfl
theorem q1080 : Cond.instanceMethod yX3_firstOctave ∈ lw_g := lw_gm (List.mem_of_getElem? (i := 1080) (by decide +kernel)) rfl
theorem q33 : Cond.selects RX3 yX3_firstOctave yX3_firstOctave ∈ lw_g := lw_gm (List.mem_of_getElem? (i := 33) (by decide +kernel)) rfl
theorem dX3_findMoved_0 : decode cX3_findMoved 0 = .ok (.aload_n 0, 1) := by decide +kernel
theorem dX3_findMoved_1 : decode cX3_findMoved 1 = .ok (.iconst 1, 1) := by decide +kernel
theorem dX3_findMoved_2 : decode cX3_findMoved 2 = .ok (.invokevirtual 142, 3) := by decide +kernel
theorem dX3_findMoved_5 : decode cX3_findMoved 5 = .ok (.aload_n 0, 1) := by decide +kernel
theorem dX3_findMoved_6 : decode cX3_findMoved 6 = .ok (.invokevirtual 146, 3) := by decide +kernel
theorem dX3_findMoved_9 : decode cX3_findMoved 9 = .ok (.istore_n 1, 1) := by decide +kernel
theorem dX3_findMoved_10 : decode cX3_findMoved 10 = .ok (.iload_n 1, 1) := by decide +kernel
theorem dX3_findMoved_11 : decode cX3_findMoved 11 = .ok (.ldc 125, 2) := by decide +kernel
theorem dX3_findMoved_13 : decode cX3_findMoved 13 = .ok (.if_icmp .ne 5, 3) := by decide +kernel
theorem dX3_findMoved_16 : decode cX3_findMoved 16 = .ok (.iconst (-1), 1) := by decide +kernel
theorem dX3_findMoved_17 : decode cX3_findMoved 17 = .ok (.ireturn, 1) := by decide +kernel
theorem dX3_findMoved_18 : decode cX3_findMoved 18 = .ok (.iload_n 1, 1) := by decide +kernel
theorem dX3_findMoved_19 : decode cX3_findMoved 19 = .ok (.istore_n 2, 1) := by decide +kernel
theorem dX3_findMoved_20 : decode cX3_findMoved 20 = .ok (.iconst 0, 1) := by decide +kernel
theorem dX3_findMoved_21 : decode cX3_findMoved 21 = .ok (.istore_n 3, 1) := by decide +kernel
theorem dX3_findMoved_22 : decode cX3_findMoved 22 = .ok (.iload_n 3, 1) := by decide +kernel
theorem dX3_findMoved_23 : decode cX3_findMoved 23 = .ok (.aload_n 0, 1) := by decide +kernel
theorem dX3_findMoved_24 : decode cX3_findMoved 24 = .ok (.getfield 75, 3) := by decide +kernel
theorem dX3_findMoved_27 : decode cX3_findMoved 27 = .ok (.if_icmp .ge 38, 3) := by decide +kernel
theorem dX3_findMoved_30 : decode cX3_findMoved 30 = .ok (.aload_n 0, 1) := by decide +kernel
theorem dX3_findMoved_31 : decode cX3_findMoved 31 = .ok (.getfield 37, 3) := by decide +kernel
theorem dX3_findMoved_34 : decode cX3_findMoved 34 = .ok (.iload_n 3, 1) := by decide +kernel
theorem dX3_findMoved_35 : decode cX3_findMoved 35 = .ok (.aload_n 0, 1) := by decide +kernel
theorem dX3_findMoved_36 : decode cX3_findMoved 36 = .ok (.iload_n 3, 1) := by decide +kernel
theorem dX3_findMoved_37 : decode cX3_findMoved 37 = .ok (.iload_n 2, 1) := by decide +kernel
theorem dX3_findMoved_38 : decode cX3_findMoved 38 = .ok (.invokevirtual 166, 3) := by decide +kernel
theorem dX3_findMoved_41 : decode cX3_findMoved 41 = .ok (.iastore, 1) := by decide +kernel
theorem dX3_findMoved_42 : decode cX3_findMoved 42 = .ok (.aload_n 0, 1) := by decide +kernel
theorem dX3_findMoved_43 : decode cX3_findMoved 43 = .ok (.getfield 49, 3) := by decide +kernel
theorem dX3_findMoved_46 : decode cX3_findMoved 46 = .ok (.aload_n 0, 1) := by decide +kernel
theorem dX3_findMoved_47 : decode cX3_findMoved 47 = .ok (.getfield 37, 3) := by decide +kernel
theorem dX3_findMoved_50 : decode cX3_findMoved 50 = .ok (.iload_n 3, 1) := by decide +kernel
theorem dX3_findMoved_51 : decode cX3_findMoved 51 = .ok (.iaload, 1) := by decide +kernel
theorem dX3_findMoved_52 : decode cX3_findMoved 52 = .ok (.iaload, 1) := by decide +kernel
theorem dX3_findMoved_53 : decode cX3_findMoved 53 = .ok (.ifCond .eq 6, 3) := by decide +kernel
theorem dX3_findMoved_56 : decode cX3_findMoved 56 = .ok (.iinc 2 (-1), 3) := by decide +kernel
theorem dX3_findMoved_59 : decode cX3_findMoved 59 = .ok (.iinc 3 1, 3) := by decide +kernel
theorem dX3_findMoved_62 : decode cX3_findMoved 62 = .ok (.goto (-40), 3) := by decide +kernel
theorem dX3_findMoved_65 : decode cX3_findMoved 65 = .ok (.iload_n 1, 1) := by decide +kernel
theorem dX3_findMoved_66 : decode cX3_findMoved 66 = .ok (.ireturn, 1) := by decide +kernel
set_option maxHeartbeats 4000000 in
set_option maxRecDepth 100000 in
theorem m_X3_findMoved (l : Launch) (D : va_G) (cy : Nat → ClassId) (g : Nat → Nat) (σ : ST)  (sz : Nat) (hJ : J8 σ)  : Met l yX3_findMoved (ww yX3_findMoved cX3_findMoved 4 (some .int)) ({ frames := 5, cells := 0, slots := 0, locals := 320 }) (va_Pc [.ref (gO g 13)] (pr8 D cy g σ sz)) (qi8 D cy g sz (fun r τ => Fr (fO [13]) σ τ ∧ J8 τ ∧ ((-2147483648 : Int) ≤ r.toInt ∧ r.toInt ≤ 999999999) ∧ True)) 0 0 (A8 cy g sz) := by
  refine Met.ofW (cc := cX3_findMoved) (maxL := 4) (ret := (some .int)) (by decide) rfl ?_
  intro p e s m args below meth c s₁ B hml hv
  obtain ⟨rfl, hsz, hP, hK, hD0, hC⟩ := hv
  have hx := B.exec
  have hb := B.bytes
  have hr := B.returns
  have hts := hts_g (atoms_spec (ws := ww yX3_findMoved cX3_findMoved 4 (some .int)) B.pre)
  have hown : s.vm.findClass RX3 = some m.cls := findClass_of_methodNamed B.named
  have hlocks := B.notSynchronized
  clear B
  subst hsz
  have hD := fun τ => A8_D (sz := s.heap.size) hD0 τ
  clear hD0
  have hS : va_S (A8 cy g s.heap.size) s.heap s.heap [] := va_S.rf
  have hl := lv_entry ([.ref (gO g 13)]) (n := 4) (Nat.le_of_ble_eq_true rfl)
  rw [lg_entry_eq]
  generalize (lg_sl ([.ref (gO g 13)]) ++ List.replicate (4 - (lg_sl ([.ref (gO g 13)])).length) Slot.unset).toArray = ls at hl ⊢
  have hl : lv_has ls 4 [(0, .ref (gO g 13))] := hl
  refine lv_aload_n hx hb dX3_findMoved_0 rfl (lv_at hl 0 rfl) ?_
  refine lv_iconst (v := 1) hx hb dX3_findMoved_1 (by decide) ?_
  refine va_callv (va_runV (As := [.int 1]) (rest := []) ⟨hx, hb, hml, hown, hts⟩ (m_X3_weigh l D cy g σ  (1) _ hJ (show (0 : Int) ≤ (1 : Int32).toInt ∧ (1 : Int32).toInt ≤ 3 from (by have z1 : (1 : Int32).toInt = 1 := (by decide); omega))) (cwV 1 hts (gd_V q950 q952 q22 q129 q953) rfl rfl rfl (by decide +kernel) ⟨(Nat.le_of_ble_eq_true rfl), (Nat.le_of_ble_eq_true rfl)⟩) (pv8 hP hK hD hC hS (rv8_3 hK hP)) rfl rfl hl.1 rfl (lv_room (Nat.le_of_ble_eq_true rfl)) dX3_findMoved_2 ⟨Nat.le_of_ble_eq_true rfl, Nat.le_of_ble_eq_true rfl⟩) hS (fun q _ h => up8 hS q h) (up8 hS) (fun σ2 tS H1 locs ht hvm hw3 hB hz1 hk1 hS => ?_)
  have hP : va_P D clz (WD8 cy g σ2) H1 := by rw [← ht]; exact hB
  clear hB hz1 hk1 hvm ht
  generalize H1 = H at hP hS ⊢
  have hF4 : Fr (fO [13]) σ σ2 := hw3.1
  have hJ5 : J8 σ2 := hw3.2.1
  refine lv_aload_n hx hb dX3_findMoved_5 rfl (lv_at hl 0 rfl) ?_
  refine va_calli (va_runV (As := []) (rest := []) ⟨hx, hb, hml, hown, hts⟩ (m_X3_leastAtFirst l D cy g σ2   _ hJ5 ) (cwV 0 hts (gd_V q984 q986 q28 q129 q987) rfl rfl rfl (by decide +kernel) ⟨(Nat.le_of_ble_eq_true rfl), (Nat.le_of_ble_eq_true rfl)⟩) (pv8 hP hK hD hC hS (rv8_3 hK hP)) rfl rfl hl.1 rfl (lv_room (Nat.le_of_ble_eq_true rfl)) dX3_findMoved_6 ⟨Nat.le_of_ble_eq_true rfl, Nat.le_of_ble_eq_true rfl⟩) hS (fun q _ h => up8 hS q h) (up8 hS) (fun r6 σ7 tS H1 locs ht hvm hw8 hB hz1 hk1 hS => ?_)
  have hP : va_P D clz (WD8 cy g σ7) H1 := by rw [← ht]; exact hB
  clear hB hz1 hk1 hvm ht
  generalize H1 = H at hP hS ⊢
  have hw8E : σ2 = σ7 := (hw8.1).symm
  subst hw8E
  have b9 : (-2147483648 : Int) ≤ r6.toInt ∧ r6.toInt ≤ 1000000000 := hw8.2.1
  refine lv_istore_n (lv' := [(1, .int r6), (0, .ref (gO g 13))]) hx hb dX3_findMoved_9 rfl hl (by decide) rfl (fun ls hl => ?_)
  refine lv_iload_n hx hb dX3_findMoved_10 rfl (lv_at hl 0 rfl) ?_
  refine lv_ldc (v := 1000000000) hx hb hown (hts _ q958) dX3_findMoved_11 ?_
  refine lv_icmp_ne (tgt := 18) hx hb dX3_findMoved_13 (by decide) (fun c10 => ?_) (fun c10 => ?_)
  ·
    have k11 := neq32 c10
    refine lv_iload_n hx hb dX3_findMoved_18 rfl (lv_at hl 0 rfl) ?_
    refine lv_istore_n (lv' := [(2, .int r6), (1, .int r6), (0, .ref (gO g 13))]) hx hb dX3_findMoved_19 rfl hl (by decide) rfl (fun ls hl => ?_)
    refine lv_iconst (v := 0) hx hb dX3_findMoved_20 (by decide) ?_
    refine lv_istore_n (lv' := [(3, .int 0), (2, .int r6), (1, .int r6), (0, .ref (gO g 13))]) hx hb dX3_findMoved_21 rfl hl (by decide) rfl (fun ls hl => ?_)
    refine loop8 4 22 (fun x : LZ => [(3, .int (x.2.1 0)), (2, .int (x.2.1 1)), (1, .int r6), (0, .ref (gO g 13))]) (fun x : LZ => (Fr (fO [13]) σ2 x.1) ∧ (J8 x.1) ∧ ((0 : Int) ≤ (x.2.1 0).toInt ∧ (x.2.1 0).toInt ≤ 16) ∧ True) (fun x : LZ => ((17 : Int) - (x.2.1 0).toInt).toNat) ?_ (σ2, lf [0, r6], lg []) ⟨Fr.rf, hJ5, (show (0 : Int) ≤ (0 : Int32).toInt ∧ (0 : Int32).toInt ≤ 16 from (by have z0 : (0 : Int32).toInt = 0 := (by decide); omega)), trivial⟩ _ _ _ hP hS (lv_sub hl [0, 1, 2, 3] rfl)
    intro y14 hI13 nl12 H locs ls hP hS hl
    obtain ⟨σ15, eσ15⟩ : ∃ z, z = y14.1 := ⟨_, rfl⟩
    rw [← eσ15] at hP hI13
    have hF16 : Fr (fO [13]) σ2 σ15 := hI13.1
    have hJ17 : J8 σ15 := hI13.2.1
    have b18 : (0 : Int) ≤ (y14.2.1 0).toInt ∧ (y14.2.1 0).toInt ≤ 16 := hI13.2.2.1
    have hl : lv_has ls 4 [(3, .int (y14.2.1 0)), (2, .int (y14.2.1 1)), (1, .int r6), (0, .ref (gO g 13))] := hl
    refine lv_iload_n hx hb dX3_findMoved_22 rfl (lv_at hl 0 rfl) ?_
    refine lv_aload_n hx hb dX3_findMoved_23 rfl (lv_at hl 3 rfl) ?_
    refine g8_3_0 (x := ((σ15 13).1 0)) hx hb hts hown hK hP (rfl) (hts _ q280) dX3_findMoved_24 ?_
    refine lv_icmp_ge (tgt := 65) hx hb dX3_findMoved_27 (by decide) (fun c19 => ?_) (fun c19 => ?_)
    ·
      have k20 := ple32 c19
      refine lv_iload_n hx hb dX3_findMoved_65 rfl (lv_at hl 2 rfl) ?_
      exact W.iret (v := r6) hx hb hr (fun tS ht hW => ⟨⟨r6, σ15, rfl, ⟨Fr.tr (Fr.tr (Fr.rf) hF4 (fO_sub (fun _ q => q))) hF16 (fO_sub (fun _ q => q)), hJ17, (show (-2147483648 : Int) ≤ r6.toInt ∧ r6.toInt ≤ 999999999 from (by have f0 := b9; have f1 := k11; have g0 := rg32 r6; have z1000000000 : (1000000000 : Int32).toInt = 1000000000 := (by decide); omega)), trivial⟩, (show va_P D clz (WD8 cy g σ15) tS.heap by rw [ht]; exact hP)⟩, hS.F ht⟩) hS.2.2 dX3_findMoved_66
    ·
      have k21 := nle32 c19
      refine lv_aload_n hx hb dX3_findMoved_30 rfl (lv_at hl 3 rfl) ?_
      refine g8_3_13 hx hb hts hown hK hP (hts _ q298) dX3_findMoved_31 ?_
      refine lv_iload_n hx hb dX3_findMoved_34 rfl (lv_at hl 0 rfl) ?_
      refine lv_aload_n hx hb dX3_findMoved_35 rfl (lv_at hl 3 rfl) ?_
      refine lv_iload_n hx hb dX3_findMoved_36 rfl (lv_at hl 0 rfl) ?_
      refine lv_iload_n hx hb dX3_findMoved_37 rfl (lv_at hl 1 rfl) ?_
      refine va_calli (va_runV (As := [.int (y14.2.1 0), .int (y14.2.1 1)]) (rest := [.int (y14.2.1 0), .ref (gR g 13 13)]) ⟨hx, hb, hml, hown, hts⟩ (m_X3_firstOctave l D cy g σ15  (y14.2.1 0) (y14.2.1 1) _ hJ17 (show (0 : Int) ≤ (y14.2.1 0).toInt ∧ (y14.2.1 0).toInt ≤ 15 from (by have f0 := b18; have f1 := k21; have f2 := j8_3_0 hJ17 rfl; have g0 := rg32 (y14.2.1 0); omega))) (cwV 2 hts (gd_V q1078 q1080 q33 q129 q1081) rfl rfl rfl (by decide +kernel) ⟨(Nat.le_of_ble_eq_true rfl), (Nat.le_of_ble_eq_true rfl)⟩) (pv8 hP hK hD hC hS (rv8_3 hK hP)) rfl rfl hl.1 rfl (lv_room (Nat.le_of_ble_eq_true rfl)) dX3_findMoved_38 ⟨Nat.le_of_ble_eq_true rfl, Nat.le_of_ble_eq_true rfl⟩) hS (fun q _ h => up8 hS q h) (up8 hS) (fun r22 σ23 tS H1 locs ht hvm hw24 hB hz1 hk1 hS => ?_)
      have hP : va_P D clz (WD8 cy g σ23) H1 := by rw [← ht]; exact hB
      clear hB hz1 hk1 hvm ht
      generalize H1 = H at hP hS ⊢
      have hF25 : Fr (fO [13]) σ15 σ23 := hw24.1
      have hJ26 : J8 σ23 := hw24.2.1
      have b27 : (0 : Int) ≤ r22.toInt ∧ r22.toInt ≤ 1407 := hw24.2.2.1
      refine t8_3_13 hx hb hK hP hD hS (vpo (by have f0 := b18; have f1 := k21; have f2 := j8_3_0 hJ17 rfl; have g0 := rg32 (y14.2.1 0); omega)) dX3_findMoved_41 (fun H locs σ28 eσ28 hP hS => ?_)
      have hJ29 : J8 σ28 := hJ26.A eσ28 rfl (show PA8 3 13 r22 from (by have f0 := b27; have g0 := rg32 r22; exact ⟨by omega, by omega⟩))
      refine lv_aload_n hx hb dX3_findMoved_42 rfl (lv_at hl 3 rfl) ?_
      refine g8_3_17 hx hb hts hown hK hP (hts _ q302) dX3_findMoved_43 ?_
      refine lv_aload_n hx hb dX3_findMoved_46 rfl (lv_at hl 3 rfl) ?_
      refine g8_3_13 hx hb hts hown hK hP (hts _ q298) dX3_findMoved_47 ?_
      refine lv_iload_n hx hb dX3_findMoved_50 rfl (lv_at hl 0 rfl) ?_
      obtain ⟨x30, ex30⟩ : ∃ z, (σ28 13).2.2.1 13 (y14.2.1 0).toInt.toNat = z := ⟨_, rfl⟩
      refine l8_3_13 (x := x30) hx hb hK hP (vpo (by have f0 := b18; have f1 := k21; have f2 := j8_3_0 hJ17 rfl; have g0 := rg32 (y14.2.1 0); omega)) ex30 dX3_findMoved_51 ?_
      have t31 := a8_3_13 hJ29 ex30
      obtain ⟨x32, ex32⟩ : ∃ z, (σ23 13).2.2.1 17 x30.toInt.toNat = z := ⟨_, rfl⟩
      refine l8_3_17 (x := x32) hx hb hK hP (vpo (by have f0 := t31; have g0 := rg32 x30; omega)) ((congrFun (((sA_f eσ28) 13 17 (fN_k rfl)).2.2.1) _).trans ex32) dX3_findMoved_52 ?_
      refine cut8 (D := D) (cy := cy) (g := g) (A := A8 cy g s.heap.size) (H0 := s.heap) 4 59 (fun x : LZ => [(3, .int (y14.2.1 0)), (2, .int (x.2.1 0)), (1, .int r6), (0, .ref (gO g 13))]) (fun x : LZ => []) (fun x : LZ => (x.1 = σ28) ∧ True) ?_ ?_
      ·
        intro y35 hI34 H locs ls hP hS hl
        rw [show y35.1 = σ28 from hI34.1] at hP
        have hl : lv_has ls 4 [(3, .int (y14.2.1 0)), (2, .int (y35.2.1 0)), (1, .int r6), (0, .ref (gO g 13))] := hl
        obtain ⟨x36, ex36⟩ : ∃ y : Int32, y = (y14.2.1 0) + 1 := ⟨_, rfl⟩
        have t37 := addO ex36 (by have f0 := b18; have f1 := k21; have f2 := j8_3_0 hJ17 rfl; have g0 := rg32 (y14.2.1 0); have z1 : (1 : Int32).toInt = 1 := (by decide); omega)
        refine lv_iinc (v := x36) (lv' := [(3, .int x36), (2, .int (y35.2.1 0)), (1, .int r6), (0, .ref (gO g 13))]) hx hb dX3_findMoved_59 hl (k := 0) rfl (by rw [ex36]; rfl) (by decide) rfl (fun ls hl => ?_)
        refine lv_goto (tgt := 22) hx hb dX3_findMoved_62 (by decide) ?_
        have t38 : ((17 : Int) - x36.toInt).toNat < ((17 : Int) - (y14.2.1 0).toInt).toNat := (by have f0 := b18; have f1 := k21; have f2 := t37; have f3 := j8_3_0 hJ17 rfl; have g0 := rg32 (y14.2.1 0); have g1 := rg32 x36; have z1 : (1 : Int32).toInt = 1 := (by decide); omega)
        exact nl12 (σ28, lf [x36, (y35.2.1 0)], lg []) ⟨Fr.tr (Fr.tr (Fr.tr (Fr.rf) hF16 (fO_sub (fun _ q => q))) hF25 (fO_sub (fun _ q => q))) (sA_f eσ28) (fN_O mem0), hJ29, (show (0 : Int) ≤ (x36 : Int32).toInt ∧ (x36 : Int32).toInt ≤ 16 from (by have f0 := t37; have f1 := b18; have f2 := k21; have f3 := j8_3_0 hJ17 rfl; have g0 := rg32 x36; have z1 : (1 : Int32).toInt = 1 := (by decide); omega)), trivial⟩ (show ((17 : Int) - x36.toInt).toNat < _ from by first | exact t38 | (rw [← eσ15]; exact t38)) _ _ _ hP hS (lv_sub hl [0, 1, 2, 3] rfl)
      ·
        intro nj33
        refine lv_if_eq (tgt := 59) hx hb dX3_findMoved_53 (by decide) (fun c39 => ?_) (fun c39 => ?_)
        ·
          have k40 := peq32 c39
          exact nj33 (σ28, lf [(y14.2.1 1)], lg []) ⟨rfl, trivial⟩ _ _ _ hP hS (lv_sub hl [0, 1, 2, 3] rfl)
        ·
          have k41 := neq32 c39
          obtain ⟨x42, ex42⟩ : ∃ y : Int32, y = (y14.2.1 1) + (-1) := ⟨_, rfl⟩
          refine lv_iinc (v := x42) (lv' := [(2, .int x42), (3, .int (y14.2.1 0)), (1, .int r6), (0, .ref (gO g 13))]) hx hb dX3_findMoved_56 hl (k := 1) rfl (by rw [ex42]; rfl) (by decide) rfl (fun ls hl => ?_)
          exact nj33 (σ28, lf [x42], lg []) ⟨rfl, trivial⟩ _ _ _ hP hS (lv_sub hl [1, 0, 2, 3] rfl)
  ·
    have k43 := peq32 c10
    refine lv_iconst (v := (-1)) hx hb dX3_findMoved_16 (by decide) ?_
    exact W.iret (v := (-1)) hx hb hr (fun tS ht hW => ⟨⟨(-1), σ2, rfl, ⟨Fr.tr (Fr.rf) hF4 (fO_sub (fun _ q => q)), hJ5, (show (-2147483648 : Int) ≤ ((-1) : Int32).toInt ∧ ((-1) : Int32).toInt ≤ 999999999 from (by have zm1 : ((-1) : Int32).toInt = (-1) := (by decide); omega)), trivial⟩, (show va_P D clz (WD8 cy g σ2) tS.heap by rw [ht]; exact hP)⟩, hS.F ht⟩) hS.2.2 dX3_findMoved_17

theorem q1069 : Cond.code yX8_fewestMoved cX8_fewestMoved 3 (some .int) ∈ lw_g := lw_gm (List.mem_of_getElem? (i := 1069) (by decide +kernel)) rfl
theorem q1070 : Cond.methodLink RX8 285 yX3_layOctaves ∈ lw_g := lw_gm (List.mem_of_getElem? (i := 1070) (by decide +kernel)) rfl
theorem q1071 : Cond.instanceMethod yX3_layOctaves ∈ lw_g := lw_gm (List.mem_of_getElem? (i := 1071) (by decide +kernel)) rfl
theorem q1072 : Cond.selects RX3 yX3_layOctaves yX3_layOctaves ∈ lw_g := lw_gm (List.mem_of_getElem? (i := 1072) (by decide +kernel)) rfl
theorem q1074 : Cond.methodLink RX8 288 yX3_findMoved ∈ lw_g := lw_gm (List.mem_of_getElem? (i := 1074) (by decide +kernel)) rfl
theorem q1075 : Cond.instanceMethod yX3_findMoved ∈ lw_g := lw_gm (List.mem_of_getElem? (i := 1075) (by decide +kernel)) rfl
theorem q1076 : Cond.selects RX3 yX3_findMoved yX3_findMoved ∈ lw_g := lw_gm (List.mem_of_getElem? (i := 1076) (by decide +kernel)) rfl
theorem dX8_fewestMoved_0 : decode cX8_fewestMoved 0 = .ok (.aload_n 0, 1) := by decide +kernel
theorem dX8_fewestMoved_1 : decode cX8_fewestMoved 1 = .ok (.getfield 53, 3) := by decide +kernel
theorem dX8_fewestMoved_4 : decode cX8_fewestMoved 4 = .ok (.aload_n 0, 1) := by decide +kernel
theorem dX8_fewestMoved_5 : decode cX8_fewestMoved 5 = .ok (.getfield 19, 3) := by decide +kernel
theorem dX8_fewestMoved_8 : decode cX8_fewestMoved 8 = .ok (.iload_n 1, 1) := by decide +kernel
theorem dX8_fewestMoved_9 : decode cX8_fewestMoved 9 = .ok (.iload_n 2, 1) := by decide +kernel
theorem dX8_fewestMoved_10 : decode cX8_fewestMoved 10 = .ok (.invokevirtual 238, 3) := by decide +kernel
theorem dX8_fewestMoved_13 : decode cX8_fewestMoved 13 = .ok (.aload_n 0, 1) := by decide +kernel
theorem dX8_fewestMoved_14 : decode cX8_fewestMoved 14 = .ok (.getfield 53, 3) := by decide +kernel
theorem dX8_fewestMoved_17 : decode cX8_fewestMoved 17 = .ok (.aload_n 0, 1) := by decide +kernel
theorem dX8_fewestMoved_18 : decode cX8_fewestMoved 18 = .ok (.getfield 19, 3) := by decide +kernel
theorem dX8_fewestMoved_21 : decode cX8_fewestMoved 21 = .ok (.getfield 104, 3) := by decide +kernel
theorem dX8_fewestMoved_24 : decode cX8_fewestMoved 24 = .ok (.invokevirtual 285, 3) := by decide +kernel
theorem dX8_fewestMoved_27 : decode cX8_fewestMoved 27 = .ok (.aload_n 0, 1) := by decide +kernel
theorem dX8_fewestMoved_28 : decode cX8_fewestMoved 28 = .ok (.getfield 53, 3) := by decide +kernel
theorem dX8_fewestMoved_31 : decode cX8_fewestMoved 31 = .ok (.invokevirtual 288, 3) := by decide +kernel
theorem dX8_fewestMoved_34 : decode cX8_fewestMoved 34 = .ok (.ireturn, 1) := by decide +kernel
set_option maxHeartbeats 4000000 in
set_option maxRecDepth 100000 in
theorem m_X8_fewestMoved (l : Launch) (D : va_G) (cy : Nat → ClassId) (g : Nat → Nat) (σ : ST) (p1 : Int32) (p2 : Int32) (sz : Nat) (hJ : J8 σ)  : Met l yX8_fewestMoved (ww yX8_fewestMoved cX8_fewestMoved 3 (some .int)) ({ frames := 6, cells := 0, slots := 0, locals := 384 }) (va_Pc [.ref (gO g 17), .int p1, .int p2] (pr8 D cy g σ sz)) (qi8 D cy g sz (fun r τ => Fr (fO [11, 13]) σ τ ∧ J8 τ ∧ ((-2147483648 : Int) ≤ r.toInt ∧ r.toInt ≤ 999999999) ∧ True)) 0 0 (A8 cy g sz) := by
  refine Met.ofW (cc := cX8_fewestMoved) (maxL := 3) (ret := (some .int)) (by decide) rfl ?_
  intro p e s m args below meth c s₁ B hml hv
  obtain ⟨rfl, hsz, hP, hK, hD0, hC⟩ := hv
  have hx := B.exec
  have hb := B.bytes
  have hr := B.returns
  have hts := hts_g (atoms_spec (ws := ww yX8_fewestMoved cX8_fewestMoved 3 (some .int)) B.pre)
  have hown : s.vm.findClass RX8 = some m.cls := findClass_of_methodNamed B.named
  have hlocks := B.notSynchronized
  clear B
  subst hsz
  have hD := fun τ => A8_D (sz := s.heap.size) hD0 τ
  clear hD0
  have hS : va_S (A8 cy g s.heap.size) s.heap s.heap [] := va_S.rf
  have hl := lv_entry ([.ref (gO g 17), .int p1, .int p2]) (n := 3) (Nat.le_of_ble_eq_true rfl)
  rw [lg_entry_eq]
  generalize (lg_sl ([.ref (gO g 17), .int p1, .int p2]) ++ List.replicate (3 - (lg_sl ([.ref (gO g 17), .int p1, .int p2])).length) Slot.unset).toArray = ls at hl ⊢
  have hl : lv_has ls 3 [(0, .ref (gO g 17)), (1, .int p1), (2, .int p2)] := hl
  refine lv_aload_n hx hb dX8_fewestMoved_0 rfl (lv_at hl 0 rfl) ?_
  refine g8_8_8 hx hb hts hown hK hP (hts _ q442) dX8_fewestMoved_1 ?_
  refine lv_aload_n hx hb dX8_fewestMoved_4 rfl (lv_at hl 0 rfl) ?_
  obtain ⟨dx1, edx1⟩ : ∃ z : Nat, ((σ 17).1 1).toInt.toNat = z := ⟨_, rfl⟩
  have hdx1 : 0 ≤ dx1 ∧ dx1 < 5 := mnow (by have f0 := j8_8_1 hJ rfl; omega) edx1
  refine g8_8_1 (o := dx1) hx hb hts hown hK hP edx1 (hts _ q435) dX8_fewestMoved_5 ?_
  refine lv_iload_n hx hb dX8_fewestMoved_8 rfl (lv_at hl 1 rfl) ?_
  refine lv_iload_n hx hb dX8_fewestMoved_9 rfl (lv_at hl 2 rfl) ?_
  refine va_callv (va_runV (As := [.ref (gO g dx1), .int p1, .int p2]) (rest := []) ⟨hx, hb, hml, hown, hts⟩ (m_X3_aim l D cy g σ  dx1 p1 p2 _ hJ (show 0 ≤ dx1 ∧ dx1 < 5 from hdx1)) (cwV 3 hts (gd_V q922 q923 q924 q129 q925) rfl rfl rfl (by decide +kernel) ⟨(Nat.le_of_ble_eq_true rfl), (Nat.le_of_ble_eq_true rfl)⟩) (pv8 hP hK hD hC hS (rv8_3 hK hP)) rfl rfl hl.1 rfl (lv_room (Nat.le_of_ble_eq_true rfl)) dX8_fewestMoved_10 ⟨Nat.le_of_ble_eq_true rfl, Nat.le_of_ble_eq_true rfl⟩) hS (fun q _ h => up8 hS q h) (up8 hS) (fun σ3 tS H1 locs ht hvm hw4 hB hz1 hk1 hS => ?_)
  have hP : va_P D clz (WD8 cy g σ3) H1 := by rw [← ht]; exact hB
  clear hB hz1 hk1 hvm ht
  generalize H1 = H at hP hS ⊢
  have hF5 : Fr (fO [11, 13]) σ σ3 := hw4.1
  have hJ6 : J8 σ3 := hw4.2.1
  refine lv_aload_n hx hb dX8_fewestMoved_13 rfl (lv_at hl 0 rfl) ?_
  refine g8_8_8 hx hb hts hown hK hP (hts _ q442) dX8_fewestMoved_14 ?_
  refine lv_aload_n hx hb dX8_fewestMoved_17 rfl (lv_at hl 0 rfl) ?_
  refine g8_8_1 (o := dx1) hx hb hts hown hK hP ((congrArg (fun z : Int32 => z.toInt.toNat) ((hF5 17 1 (fO_n (nmc (by decide) (nmc (by decide) nm0)))).1)).trans edx1) (hts _ q435) dX8_fewestMoved_18 ?_
  refine g8_0_0 (x := ((σ dx1).1 0)) hx hb hts hown hK hP hdx1 ((hF5 dx1 0 (fO_n (nmc (nel hdx1 (by decide)) (nmc (nel hdx1 (by decide)) nm0)))).1) (hts _ q194) dX8_fewestMoved_21 ?_
  refine va_callv (va_runV (As := [.int ((σ dx1).1 0)]) (rest := []) ⟨hx, hb, hml, hown, hts⟩ (m_X3_layOctaves l D cy g σ3  ((σ dx1).1 0) _ hJ6 ) (cwV 1 hts (gd_V q1070 q1071 q1072 q129 q1073) rfl rfl rfl (by decide +kernel) ⟨(Nat.le_of_ble_eq_true rfl), (Nat.le_of_ble_eq_true rfl)⟩) (pv8 hP hK hD hC hS (rv8_3 hK hP)) rfl rfl hl.1 rfl (lv_room (Nat.le_of_ble_eq_true rfl)) dX8_fewestMoved_24 ⟨Nat.le_of_ble_eq_true rfl, Nat.le_of_ble_eq_true rfl⟩) hS (fun q _ h => up8 hS q h) (up8 hS) (fun σ8 tS H1 locs ht hvm hw9 hB hz1 hk1 hS => ?_)
  have hP : va_P D clz (WD8 cy g σ8) H1 := by rw [← ht]; exact hB
  clear hB hz1 hk1 hvm ht
  generalize H1 = H at hP hS ⊢
  have hF10 : Fr (fO [13]) σ3 σ8 := hw9.1
  have hJ11 : J8 σ8 := hw9.2.1
  refine lv_aload_n hx hb dX8_fewestMoved_27 rfl (lv_at hl 0 rfl) ?_
  refine g8_8_8 hx hb hts hown hK hP (hts _ q442) dX8_fewestMoved_28 ?_
  refine va_calli (va_runV (As := []) (rest := []) ⟨hx, hb, hml, hown, hts⟩ (m_X3_findMoved l D cy g σ8   _ hJ11 ) (cwV 0 hts (gd_V q1074 q1075 q1076 q129 q1077) rfl rfl rfl (by decide +kernel) ⟨(Nat.le_of_ble_eq_true rfl), (Nat.le_of_ble_eq_true rfl)⟩) (pv8 hP hK hD hC hS (rv8_3 hK hP)) rfl rfl hl.1 rfl (lv_room (Nat.le_of_ble_eq_true rfl)) dX8_fewestMoved_31 ⟨Nat.le_of_ble_eq_true rfl, Nat.le_of_ble_eq_true rfl⟩) hS (fun q _ h => up8 hS q h) (up8 hS) (fun r12 σ13 tS H1 locs ht hvm hw14 hB hz1 hk1 hS => ?_)
  have hP : va_P D clz (WD8 cy g σ13) H1 := by rw [← ht]; exact hB
  clear hB hz1 hk1 hvm ht
  generalize H1 = H at hP hS ⊢
  have hF15 : Fr (fO [13]) σ8 σ13 := hw14.1
  have hJ16 : J8 σ13 := hw14.2.1
  have b17 : (-2147483648 : Int) ≤ r12.toInt ∧ r12.toInt ≤ 999999999 := hw14.2.2.1
  exact W.iret (v := r12) hx hb hr (fun tS ht hW => ⟨⟨r12, σ13, rfl, ⟨Fr.tr (Fr.tr (Fr.tr (Fr.rf) hF5 (fO_sub (fun _ q => q))) hF10 (fO_sub (by simp))) hF15 (fO_sub (by simp)), hJ16, (show (-2147483648 : Int) ≤ r12.toInt ∧ r12.toInt ≤ 999999999 from (by have f0 := b17; have g0 := rg32 r12; omega)), trivial⟩, (show va_P D clz (WD8 cy g σ13) tS.heap by rw [ht]; exact hP)⟩, hS.F ht⟩) hS.2.2 dX8_fewestMoved_34

theorem q1065 : Cond.code yX8_moved cX8_moved 3 (some .int) ∈ lw_g := lw_gm (List.mem_of_getElem? (i := 1065) (by decide +kernel)) rfl
theorem q1066 : Cond.methodLink RX8 279 yX8_fewestMoved ∈ lw_g := lw_gm (List.mem_of_getElem? (i := 1066) (by decide +kernel)) rfl
theorem q1068 : Cond.instanceMethod yX8_fewestMoved ∈ lw_g := lw_gm (List.mem_of_getElem? (i := 1068) (by decide +kernel)) rfl
theorem q32 : Cond.selects RX8 yX8_fewestMoved yX8_fewestMoved ∈ lw_g := lw_gm (List.mem_of_getElem? (i := 32) (by decide +kernel)) rfl
theorem dX8_moved_0 : decode cX8_moved 0 = .ok (.aload_n 0, 1) := by decide +kernel
theorem dX8_moved_1 : decode cX8_moved 1 = .ok (.iload_n 1, 1) := by decide +kernel
theorem dX8_moved_2 : decode cX8_moved 2 = .ok (.iload_n 2, 1) := by decide +kernel
theorem dX8_moved_3 : decode cX8_moved 3 = .ok (.invokevirtual 235, 3) := by decide +kernel
theorem dX8_moved_6 : decode cX8_moved 6 = .ok (.ifCond .ne 6, 3) := by decide +kernel
theorem dX8_moved_9 : decode cX8_moved 9 = .ok (.bipush (-2), 2) := by decide +kernel
theorem dX8_moved_11 : decode cX8_moved 11 = .ok (.ireturn, 1) := by decide +kernel
theorem dX8_moved_12 : decode cX8_moved 12 = .ok (.aload_n 0, 1) := by decide +kernel
theorem dX8_moved_13 : decode cX8_moved 13 = .ok (.iload_n 1, 1) := by decide +kernel
theorem dX8_moved_14 : decode cX8_moved 14 = .ok (.iload_n 2, 1) := by decide +kernel
theorem dX8_moved_15 : decode cX8_moved 15 = .ok (.invokevirtual 279, 3) := by decide +kernel
theorem dX8_moved_18 : decode cX8_moved 18 = .ok (.ireturn, 1) := by decide +kernel
set_option maxHeartbeats 4000000 in
set_option maxRecDepth 100000 in
theorem m_X8_moved (l : Launch) (D : va_G) (cy : Nat → ClassId) (g : Nat → Nat) (σ : ST) (p1 : Int32) (p2 : Int32) (sz : Nat) (hJ : J8 σ)  : Met l yX8_moved (ww yX8_moved cX8_moved 3 (some .int)) ({ frames := 7, cells := 0, slots := 0, locals := 448 }) (va_Pc [.ref (gO g 17), .int p1, .int p2] (pr8 D cy g σ sz)) (qi8 D cy g sz (fun r τ => Fr (fO [11, 13]) σ τ ∧ J8 τ ∧ ((-2147483648 : Int) ≤ r.toInt ∧ r.toInt ≤ 999999999) ∧ True)) 0 0 (A8 cy g sz) := by
  refine Met.ofW (cc := cX8_moved) (maxL := 3) (ret := (some .int)) (by decide) rfl ?_
  intro p e s m args below meth c s₁ B hml hv
  obtain ⟨rfl, hsz, hP, hK, hD0, hC⟩ := hv
  have hx := B.exec
  have hb := B.bytes
  have hr := B.returns
  have hts := hts_g (atoms_spec (ws := ww yX8_moved cX8_moved 3 (some .int)) B.pre)
  have hown : s.vm.findClass RX8 = some m.cls := findClass_of_methodNamed B.named
  have hlocks := B.notSynchronized
  clear B
  subst hsz
  have hD := fun τ => A8_D (sz := s.heap.size) hD0 τ
  clear hD0
  have hS : va_S (A8 cy g s.heap.size) s.heap s.heap [] := va_S.rf
  have hl := lv_entry ([.ref (gO g 17), .int p1, .int p2]) (n := 3) (Nat.le_of_ble_eq_true rfl)
  rw [lg_entry_eq]
  generalize (lg_sl ([.ref (gO g 17), .int p1, .int p2]) ++ List.replicate (3 - (lg_sl ([.ref (gO g 17), .int p1, .int p2])).length) Slot.unset).toArray = ls at hl ⊢
  have hl : lv_has ls 3 [(0, .ref (gO g 17)), (1, .int p1), (2, .int p2)] := hl
  refine lv_aload_n hx hb dX8_moved_0 rfl (lv_at hl 0 rfl) ?_
  refine lv_iload_n hx hb dX8_moved_1 rfl (lv_at hl 1 rfl) ?_
  refine lv_iload_n hx hb dX8_moved_2 rfl (lv_at hl 2 rfl) ?_
  refine va_calli (va_runV (As := [.int p1, .int p2]) (rest := []) ⟨hx, hb, hml, hown, hts⟩ (m_X8_hasPair l D cy g σ  p1 p2 _ hJ ) (cwV 2 hts (gd_V q918 q920 q19 q125 q921) rfl rfl rfl (by decide +kernel) ⟨(Nat.le_of_ble_eq_true rfl), (Nat.le_of_ble_eq_true rfl)⟩) (pv8 hP hK hD hC hS (rv8_8 hK hP)) rfl rfl hl.1 rfl (lv_room (Nat.le_of_ble_eq_true rfl)) dX8_moved_3 ⟨Nat.le_of_ble_eq_true rfl, Nat.le_of_ble_eq_true rfl⟩) hS (fun q _ h => up8 hS q h) (up8 hS) (fun r1 σ2 tS H1 locs ht hvm hw3 hB hz1 hk1 hS => ?_)
  have hP : va_P D clz (WD8 cy g σ2) H1 := by rw [← ht]; exact hB
  clear hB hz1 hk1 hvm ht
  generalize H1 = H at hP hS ⊢
  have hw3E : σ = σ2 := (hw3.1).symm
  subst hw3E
  have b4 : (0 : Int) ≤ r1.toInt ∧ r1.toInt ≤ 1 := hw3.2.1
  refine lv_if_ne (tgt := 12) hx hb dX8_moved_6 (by decide) (fun c5 => ?_) (fun c5 => ?_)
  ·
    have k6 := neq32 c5
    refine lv_aload_n hx hb dX8_moved_12 rfl (lv_at hl 0 rfl) ?_
    refine lv_iload_n hx hb dX8_moved_13 rfl (lv_at hl 1 rfl) ?_
    refine lv_iload_n hx hb dX8_moved_14 rfl (lv_at hl 2 rfl) ?_
    refine va_calli (va_runV (As := [.int p1, .int p2]) (rest := []) ⟨hx, hb, hml, hown, hts⟩ (m_X8_fewestMoved l D cy g σ  p1 p2 _ hJ ) (cwV 2 hts (gd_V q1066 q1068 q32 q125 q1069) rfl rfl rfl (by decide +kernel) ⟨(Nat.le_of_ble_eq_true rfl), (Nat.le_of_ble_eq_true rfl)⟩) (pv8 hP hK hD hC hS (rv8_8 hK hP)) rfl rfl hl.1 rfl (lv_room (Nat.le_of_ble_eq_true rfl)) dX8_moved_15 ⟨Nat.le_of_ble_eq_true rfl, Nat.le_of_ble_eq_true rfl⟩) hS (fun q _ h => up8 hS q h) (up8 hS) (fun r7 σ8 tS H1 locs ht hvm hw9 hB hz1 hk1 hS => ?_)
    have hP : va_P D clz (WD8 cy g σ8) H1 := by rw [← ht]; exact hB
    clear hB hz1 hk1 hvm ht
    generalize H1 = H at hP hS ⊢
    have hF10 : Fr (fO [11, 13]) σ σ8 := hw9.1
    have hJ11 : J8 σ8 := hw9.2.1
    have b12 : (-2147483648 : Int) ≤ r7.toInt ∧ r7.toInt ≤ 999999999 := hw9.2.2.1
    exact W.iret (v := r7) hx hb hr (fun tS ht hW => ⟨⟨r7, σ8, rfl, ⟨Fr.tr (Fr.rf) hF10 (fO_sub (fun _ q => q)), hJ11, (show (-2147483648 : Int) ≤ r7.toInt ∧ r7.toInt ≤ 999999999 from (by have f0 := b12; have g0 := rg32 r7; omega)), trivial⟩, (show va_P D clz (WD8 cy g σ8) tS.heap by rw [ht]; exact hP)⟩, hS.F ht⟩) hS.2.2 dX8_moved_18
  ·
    have k13 := peq32 c5
    refine lv_bipush (v := (-2)) hx hb dX8_moved_9 (by decide) ?_
    exact W.iret (v := (-2)) hx hb hr (fun tS ht hW => ⟨⟨(-2), σ, rfl, ⟨Fr.rf, hJ, (show (-2147483648 : Int) ≤ ((-2) : Int32).toInt ∧ ((-2) : Int32).toInt ≤ 999999999 from (by have zm2 : ((-2) : Int32).toInt = (-2) := (by decide); omega)), trivial⟩, (show va_P D clz (WD8 cy g σ) tS.heap by rw [ht]; exact hP)⟩, hS.F ht⟩) hS.2.2 dX8_moved_11

theorem q1089 : Cond.code yX3_movedAt cX3_movedAt 2 (some .int) ∈ lw_g := lw_gm (List.mem_of_getElem? (i := 1089) (by decide +kernel)) rfl
theorem dX3_movedAt_0 : decode cX3_movedAt 0 = .ok (.iload_n 1, 1) := by decide +kernel
theorem dX3_movedAt_1 : decode cX3_movedAt 1 = .ok (.ifCond .lt 25, 3) := by decide +kernel
theorem dX3_movedAt_4 : decode cX3_movedAt 4 = .ok (.iload_n 1, 1) := by decide +kernel
theorem dX3_movedAt_5 : decode cX3_movedAt 5 = .ok (.aload_n 0, 1) := by decide +kernel
theorem dX3_movedAt_6 : decode cX3_movedAt 6 = .ok (.getfield 75, 3) := by decide +kernel
theorem dX3_movedAt_9 : decode cX3_movedAt 9 = .ok (.if_icmp .ge 17, 3) := by decide +kernel
theorem dX3_movedAt_12 : decode cX3_movedAt 12 = .ok (.aload_n 0, 1) := by decide +kernel
theorem dX3_movedAt_13 : decode cX3_movedAt 13 = .ok (.getfield 49, 3) := by decide +kernel
theorem dX3_movedAt_16 : decode cX3_movedAt 16 = .ok (.aload_n 0, 1) := by decide +kernel
theorem dX3_movedAt_17 : decode cX3_movedAt 17 = .ok (.getfield 37, 3) := by decide +kernel
theorem dX3_movedAt_20 : decode cX3_movedAt 20 = .ok (.iload_n 1, 1) := by decide +kernel
theorem dX3_movedAt_21 : decode cX3_movedAt 21 = .ok (.iaload, 1) := by decide +kernel
theorem dX3_movedAt_22 : decode cX3_movedAt 22 = .ok (.iaload, 1) := by decide +kernel
theorem dX3_movedAt_23 : decode cX3_movedAt 23 = .ok (.goto 4, 3) := by decide +kernel
theorem dX3_movedAt_26 : decode cX3_movedAt 26 = .ok (.iconst (-1), 1) := by decide +kernel
theorem dX3_movedAt_27 : decode cX3_movedAt 27 = .ok (.ireturn, 1) := by decide +kernel
set_option maxHeartbeats 4000000 in
set_option maxRecDepth 100000 in
theorem m_X3_movedAt (l : Launch) (D : va_G) (cy : Nat → ClassId) (g : Nat → Nat) (σ : ST) (p1 : Int32) (sz : Nat) (hJ : J8 σ) (h0 : (-1 : Int) ≤ p1.toInt ∧ p1.toInt ≤ 15) : Met l yX3_movedAt (ww yX3_movedAt cX3_movedAt 2 (some .int)) ({ frames := 1, cells := 0, slots := 0, locals := 64 }) (va_Pc [.ref (gO g 13), .int p1] (pr8 D cy g σ sz)) (qi8 D cy g sz (fun r τ => τ = σ ∧ True)) 0 0 (A8 cy g sz) := by
  refine Met.ofW (cc := cX3_movedAt) (maxL := 2) (ret := (some .int)) (by decide) rfl ?_
  intro p e s m args below meth c s₁ B hml hv
  obtain ⟨rfl, hsz, hP, hK, hD0, hC⟩ := hv
  have hx := B.exec
  have hb := B.bytes
  have hr := B.returns
  have hts := hts_g (atoms_spec (ws := ww yX3_movedAt cX3_movedAt 2 (some .int)) B.pre)
  have hown : s.vm.findClass RX3 = some m.cls := findClass_of_methodNamed B.named
  have hlocks := B.notSynchronized
  clear B
  subst hsz
  have hD := fun τ => A8_D (sz := s.heap.size) hD0 τ
  clear hD0
  have hS : va_S (A8 cy g s.heap.size) s.heap s.heap [] := va_S.rf
  have hl := lv_entry ([.ref (gO g 13), .int p1]) (n := 2) (Nat.le_of_ble_eq_true rfl)
  rw [lg_entry_eq]
  generalize (lg_sl ([.ref (gO g 13), .int p1]) ++ List.replicate (2 - (lg_sl ([.ref (gO g 13), .int p1])).length) Slot.unset).toArray = ls at hl ⊢
  have hl : lv_has ls 2 [(0, .ref (gO g 13)), (1, .int p1)] := hl
  refine lv_iload_n hx hb dX3_movedAt_0 rfl (lv_at hl 1 rfl) ?_
  refine lv_if_lt (tgt := 26) hx hb dX3_movedAt_1 (by decide) (fun c1 => ?_) (fun c1 => ?_)
  ·
    have k2 := plt32 c1
    refine lv_iconst (v := (-1)) hx hb dX3_movedAt_26 (by decide) ?_
    exact W.iret (v := (-1)) hx hb hr (fun tS ht hW => ⟨⟨(-1), σ, rfl, ⟨rfl, trivial⟩, (show va_P D clz (WD8 cy g σ) tS.heap by rw [ht]; exact hP)⟩, hS.F ht⟩) hS.2.2 dX3_movedAt_27
  ·
    have k3 := nlt32 c1
    refine lv_iload_n hx hb dX3_movedAt_4 rfl (lv_at hl 1 rfl) ?_
    refine lv_aload_n hx hb dX3_movedAt_5 rfl (lv_at hl 0 rfl) ?_
    refine g8_3_0 (x := ((σ 13).1 0)) hx hb hts hown hK hP (rfl) (hts _ q280) dX3_movedAt_6 ?_
    refine lv_icmp_ge (tgt := 26) hx hb dX3_movedAt_9 (by decide) (fun c4 => ?_) (fun c4 => ?_)
    ·
      have k5 := ple32 c4
      refine lv_iconst (v := (-1)) hx hb dX3_movedAt_26 (by decide) ?_
      exact W.iret (v := (-1)) hx hb hr (fun tS ht hW => ⟨⟨(-1), σ, rfl, ⟨rfl, trivial⟩, (show va_P D clz (WD8 cy g σ) tS.heap by rw [ht]; exact hP)⟩, hS.F ht⟩) hS.2.2 dX3_movedAt_27
    ·
      have k6 := nle32 c4
      refine lv_aload_n hx hb dX3_movedAt_12 rfl (lv_at hl 0 rfl) ?_
      refine g8_3_17 hx hb hts hown hK hP (hts _ q302) dX3_movedAt_13 ?_
      refine lv_aload_n hx hb dX3_movedAt_16 rfl (lv_at hl 0 rfl) ?_
      refine g8_3_13 hx hb hts hown hK hP (hts _ q298) dX3_movedAt_17 ?_
      refine lv_iload_n hx hb dX3_movedAt_20 rfl (lv_at hl 1 rfl) ?_
      obtain ⟨x7, ex7⟩ : ∃ z, (σ 13).2.2.1 13 p1.toInt.toNat = z := ⟨_, rfl⟩
      refine l8_3_13 (x := x7) hx hb hK hP (vpo (by have f0 := h0; have f1 := k3; have f2 := k6; have f3 := j8_3_0 hJ rfl; have g0 := rg32 p1; have z0 : (0 : Int32).toInt = 0 := (by decide); omega)) ex7 dX3_movedAt_21 ?_
      have t8 := a8_3_13 hJ ex7
      obtain ⟨x9, ex9⟩ : ∃ z, (σ 13).2.2.1 17 x7.toInt.toNat = z := ⟨_, rfl⟩
      refine l8_3_17 (x := x9) hx hb hK hP (vpo (by have f0 := t8; have g0 := rg32 x7; omega)) ex9 dX3_movedAt_22 ?_
      refine lv_goto (tgt := 27) hx hb dX3_movedAt_23 (by decide) ?_
      exact W.iret (v := x9) hx hb hr (fun tS ht hW => ⟨⟨x9, σ, rfl, ⟨rfl, trivial⟩, (show va_P D clz (WD8 cy g σ) tS.heap by rw [ht]; exact hP)⟩, hS.F ht⟩) hS.2.2 dX3_movedAt_27

theorem q1085 : Cond.code yX8_put cX8_put 4 (some .int) ∈ lw_g := lw_gm (List.mem_of_getElem? (i := 1085) (by decide +kernel)) rfl
theorem q1086 : Cond.methodLink RX8 282 yX3_movedAt ∈ lw_g := lw_gm (List.mem_of_getElem? (i := 1086) (by decide +kernel)) rfl
theorem q1087 : Cond.instanceMethod yX3_movedAt ∈ lw_g := lw_gm (List.mem_of_getElem? (i := 1087) (by decide +kernel)) rfl
theorem q1088 : Cond.selects RX3 yX3_movedAt yX3_movedAt ∈ lw_g := lw_gm (List.mem_of_getElem? (i := 1088) (by decide +kernel)) rfl
theorem dX8_put_0 : decode cX8_put 0 = .ok (.aload_n 0, 1) := by decide +kernel
theorem dX8_put_1 : decode cX8_put 1 = .ok (.iload_n 1, 1) := by decide +kernel
theorem dX8_put_2 : decode cX8_put 2 = .ok (.iload_n 2, 1) := by decide +kernel
theorem dX8_put_3 : decode cX8_put 3 = .ok (.invokevirtual 235, 3) := by decide +kernel
theorem dX8_put_6 : decode cX8_put 6 = .ok (.ifCond .ne 6, 3) := by decide +kernel
theorem dX8_put_9 : decode cX8_put 9 = .ok (.bipush (-2), 2) := by decide +kernel
theorem dX8_put_11 : decode cX8_put 11 = .ok (.ireturn, 1) := by decide +kernel
theorem dX8_put_12 : decode cX8_put 12 = .ok (.aload_n 0, 1) := by decide +kernel
theorem dX8_put_13 : decode cX8_put 13 = .ok (.iload_n 1, 1) := by decide +kernel
theorem dX8_put_14 : decode cX8_put 14 = .ok (.iload_n 2, 1) := by decide +kernel
theorem dX8_put_15 : decode cX8_put 15 = .ok (.invokevirtual 279, 3) := by decide +kernel
theorem dX8_put_18 : decode cX8_put 18 = .ok (.iconst (-1), 1) := by decide +kernel
theorem dX8_put_19 : decode cX8_put 19 = .ok (.if_icmp .ne 5, 3) := by decide +kernel
theorem dX8_put_22 : decode cX8_put 22 = .ok (.iconst (-1), 1) := by decide +kernel
theorem dX8_put_23 : decode cX8_put 23 = .ok (.ireturn, 1) := by decide +kernel
theorem dX8_put_24 : decode cX8_put 24 = .ok (.aload_n 0, 1) := by decide +kernel
theorem dX8_put_25 : decode cX8_put 25 = .ok (.getfield 53, 3) := by decide +kernel
theorem dX8_put_28 : decode cX8_put 28 = .ok (.aload_n 0, 1) := by decide +kernel
theorem dX8_put_29 : decode cX8_put 29 = .ok (.getfield 53, 3) := by decide +kernel
theorem dX8_put_32 : decode cX8_put 32 = .ok (.iload_n 3, 1) := by decide +kernel
theorem dX8_put_33 : decode cX8_put 33 = .ok (.invokevirtual 257, 3) := by decide +kernel
theorem dX8_put_36 : decode cX8_put 36 = .ok (.invokevirtual 282, 3) := by decide +kernel
theorem dX8_put_39 : decode cX8_put 39 = .ok (.ireturn, 1) := by decide +kernel
set_option maxHeartbeats 4000000 in
set_option maxRecDepth 100000 in
theorem m_X8_put (l : Launch) (D : va_G) (cy : Nat → ClassId) (g : Nat → Nat) (σ : ST) (p1 : Int32) (p2 : Int32) (p3 : Int32) (sz : Nat) (hJ : J8 σ)  : Met l yX8_put (ww yX8_put cX8_put 4 (some .int)) ({ frames := 7, cells := 0, slots := 0, locals := 448 }) (va_Pc [.ref (gO g 17), .int p1, .int p2, .int p3] (pr8 D cy g σ sz)) (qi8 D cy g sz (fun r τ => Fr (fO [11, 13]) σ τ ∧ J8 τ ∧ True)) 0 0 (A8 cy g sz) := by
  refine Met.ofW (cc := cX8_put) (maxL := 4) (ret := (some .int)) (by decide) rfl ?_
  intro p e s m args below meth c s₁ B hml hv
  obtain ⟨rfl, hsz, hP, hK, hD0, hC⟩ := hv
  have hx := B.exec
  have hb := B.bytes
  have hr := B.returns
  have hts := hts_g (atoms_spec (ws := ww yX8_put cX8_put 4 (some .int)) B.pre)
  have hown : s.vm.findClass RX8 = some m.cls := findClass_of_methodNamed B.named
  have hlocks := B.notSynchronized
  clear B
  subst hsz
  have hD := fun τ => A8_D (sz := s.heap.size) hD0 τ
  clear hD0
  have hS : va_S (A8 cy g s.heap.size) s.heap s.heap [] := va_S.rf
  have hl := lv_entry ([.ref (gO g 17), .int p1, .int p2, .int p3]) (n := 4) (Nat.le_of_ble_eq_true rfl)
  rw [lg_entry_eq]
  generalize (lg_sl ([.ref (gO g 17), .int p1, .int p2, .int p3]) ++ List.replicate (4 - (lg_sl ([.ref (gO g 17), .int p1, .int p2, .int p3])).length) Slot.unset).toArray = ls at hl ⊢
  have hl : lv_has ls 4 [(0, .ref (gO g 17)), (1, .int p1), (2, .int p2), (3, .int p3)] := hl
  refine lv_aload_n hx hb dX8_put_0 rfl (lv_at hl 0 rfl) ?_
  refine lv_iload_n hx hb dX8_put_1 rfl (lv_at hl 1 rfl) ?_
  refine lv_iload_n hx hb dX8_put_2 rfl (lv_at hl 2 rfl) ?_
  refine va_calli (va_runV (As := [.int p1, .int p2]) (rest := []) ⟨hx, hb, hml, hown, hts⟩ (m_X8_hasPair l D cy g σ  p1 p2 _ hJ ) (cwV 2 hts (gd_V q918 q920 q19 q125 q921) rfl rfl rfl (by decide +kernel) ⟨(Nat.le_of_ble_eq_true rfl), (Nat.le_of_ble_eq_true rfl)⟩) (pv8 hP hK hD hC hS (rv8_8 hK hP)) rfl rfl hl.1 rfl (lv_room (Nat.le_of_ble_eq_true rfl)) dX8_put_3 ⟨Nat.le_of_ble_eq_true rfl, Nat.le_of_ble_eq_true rfl⟩) hS (fun q _ h => up8 hS q h) (up8 hS) (fun r1 σ2 tS H1 locs ht hvm hw3 hB hz1 hk1 hS => ?_)
  have hP : va_P D clz (WD8 cy g σ2) H1 := by rw [← ht]; exact hB
  clear hB hz1 hk1 hvm ht
  generalize H1 = H at hP hS ⊢
  have hw3E : σ = σ2 := (hw3.1).symm
  subst hw3E
  have b4 : (0 : Int) ≤ r1.toInt ∧ r1.toInt ≤ 1 := hw3.2.1
  refine lv_if_ne (tgt := 12) hx hb dX8_put_6 (by decide) (fun c5 => ?_) (fun c5 => ?_)
  ·
    have k6 := neq32 c5
    refine lv_aload_n hx hb dX8_put_12 rfl (lv_at hl 0 rfl) ?_
    refine lv_iload_n hx hb dX8_put_13 rfl (lv_at hl 1 rfl) ?_
    refine lv_iload_n hx hb dX8_put_14 rfl (lv_at hl 2 rfl) ?_
    refine va_calli (va_runV (As := [.int p1, .int p2]) (rest := []) ⟨hx, hb, hml, hown, hts⟩ (m_X8_fewestMoved l D cy g σ  p1 p2 _ hJ ) (cwV 2 hts (gd_V q1066 q1068 q32 q125 q1069) rfl rfl rfl (by decide +kernel) ⟨(Nat.le_of_ble_eq_true rfl), (Nat.le_of_ble_eq_true rfl)⟩) (pv8 hP hK hD hC hS (rv8_8 hK hP)) rfl rfl hl.1 rfl (lv_room (Nat.le_of_ble_eq_true rfl)) dX8_put_15 ⟨Nat.le_of_ble_eq_true rfl, Nat.le_of_ble_eq_true rfl⟩) hS (fun q _ h => up8 hS q h) (up8 hS) (fun r7 σ8 tS H1 locs ht hvm hw9 hB hz1 hk1 hS => ?_)
    have hP : va_P D clz (WD8 cy g σ8) H1 := by rw [← ht]; exact hB
    clear hB hz1 hk1 hvm ht
    generalize H1 = H at hP hS ⊢
    have hF10 : Fr (fO [11, 13]) σ σ8 := hw9.1
    have hJ11 : J8 σ8 := hw9.2.1
    have b12 : (-2147483648 : Int) ≤ r7.toInt ∧ r7.toInt ≤ 999999999 := hw9.2.2.1
    refine lv_iconst (v := (-1)) hx hb dX8_put_18 (by decide) ?_
    refine lv_icmp_ne (tgt := 24) hx hb dX8_put_19 (by decide) (fun c13 => ?_) (fun c13 => ?_)
    ·
      have k14 := neq32 c13
      refine lv_aload_n hx hb dX8_put_24 rfl (lv_at hl 0 rfl) ?_
      refine g8_8_8 hx hb hts hown hK hP (hts _ q442) dX8_put_25 ?_
      refine lv_aload_n hx hb dX8_put_28 rfl (lv_at hl 0 rfl) ?_
      refine g8_8_8 hx hb hts hown hK hP (hts _ q442) dX8_put_29 ?_
      refine lv_iload_n hx hb dX8_put_32 rfl (lv_at hl 3 rfl) ?_
      refine va_calli (va_runV (As := [.int p3]) (rest := [.ref (gO g 13)]) ⟨hx, hb, hml, hown, hts⟩ (m_X3_stepOf l D cy g σ8  p3 _ hJ11 ) (cwV 1 hts (gd_V q1004 q1005 q1006 q129 q1007) rfl rfl rfl (by decide +kernel) ⟨(Nat.le_of_ble_eq_true rfl), (Nat.le_of_ble_eq_true rfl)⟩) (pv8 hP hK hD hC hS (rv8_3 hK hP)) rfl rfl hl.1 rfl (lv_room (Nat.le_of_ble_eq_true rfl)) dX8_put_33 ⟨Nat.le_of_ble_eq_true rfl, Nat.le_of_ble_eq_true rfl⟩) hS (fun q _ h => up8 hS q h) (up8 hS) (fun r15 σ16 tS H1 locs ht hvm hw17 hB hz1 hk1 hS => ?_)
      have hP : va_P D clz (WD8 cy g σ16) H1 := by rw [← ht]; exact hB
      clear hB hz1 hk1 hvm ht
      generalize H1 = H at hP hS ⊢
      have hw17E : σ8 = σ16 := (hw17.1).symm
      subst hw17E
      have b18 : (-1 : Int) ≤ r15.toInt ∧ r15.toInt ≤ 15 := hw17.2.1
      refine va_calli (va_runV (As := [.int r15]) (rest := []) ⟨hx, hb, hml, hown, hts⟩ (m_X3_movedAt l D cy g σ8  r15 _ hJ11 (show (-1 : Int) ≤ r15.toInt ∧ r15.toInt ≤ 15 from (by have f0 := b18; have g0 := rg32 r15; omega))) (cwV 1 hts (gd_V q1086 q1087 q1088 q129 q1089) rfl rfl rfl (by decide +kernel) ⟨(Nat.le_of_ble_eq_true rfl), (Nat.le_of_ble_eq_true rfl)⟩) (pv8 hP hK hD hC hS (rv8_3 hK hP)) rfl rfl hl.1 rfl (lv_room (Nat.le_of_ble_eq_true rfl)) dX8_put_36 ⟨Nat.le_of_ble_eq_true rfl, Nat.le_of_ble_eq_true rfl⟩) hS (fun q _ h => up8 hS q h) (up8 hS) (fun r19 σ20 tS H1 locs ht hvm hw21 hB hz1 hk1 hS => ?_)
      have hP : va_P D clz (WD8 cy g σ20) H1 := by rw [← ht]; exact hB
      clear hB hz1 hk1 hvm ht
      generalize H1 = H at hP hS ⊢
      have hw21E : σ8 = σ20 := (hw21.1).symm
      subst hw21E
      exact W.iret (v := r19) hx hb hr (fun tS ht hW => ⟨⟨r19, σ8, rfl, ⟨Fr.tr (Fr.rf) hF10 (fO_sub (fun _ q => q)), hJ11, trivial⟩, (show va_P D clz (WD8 cy g σ8) tS.heap by rw [ht]; exact hP)⟩, hS.F ht⟩) hS.2.2 dX8_put_39
    ·
      have k22 := peq32 c13
      refine lv_iconst (v := (-1)) hx hb dX8_put_22 (by decide) ?_
      exact W.iret (v := (-1)) hx hb hr (fun tS ht hW => ⟨⟨(-1), σ8, rfl, ⟨Fr.tr (Fr.rf) hF10 (fO_sub (fun _ q => q)), hJ11, trivial⟩, (show va_P D clz (WD8 cy g σ8) tS.heap by rw [ht]; exact hP)⟩, hS.F ht⟩) hS.2.2 dX8_put_23
  ·
    have k23 := peq32 c5
    refine lv_bipush (v := (-2)) hx hb dX8_put_9 (by decide) ?_
    exact W.iret (v := (-2)) hx hb hr (fun tS ht hW => ⟨⟨(-2), σ, rfl, ⟨Fr.rf, hJ, trivial⟩, (show va_P D clz (WD8 cy g σ) tS.heap by rw [ht]; exact hP)⟩, hS.F ht⟩) hS.2.2 dX8_put_11

theorem q1097 : Cond.code yX8_playsShifted cX8_playsShifted 2 (some .boolean) ∈ lw_g := lw_gm (List.mem_of_getElem? (i := 1097) (by decide +kernel)) rfl
theorem dX8_playsShifted_0 : decode cX8_playsShifted 0 = .ok (.aload_n 0, 1) := by decide +kernel
theorem dX8_playsShifted_1 : decode cX8_playsShifted 1 = .ok (.getfield 53, 3) := by decide +kernel
theorem dX8_playsShifted_4 : decode cX8_playsShifted 4 = .ok (.aload_n 0, 1) := by decide +kernel
theorem dX8_playsShifted_5 : decode cX8_playsShifted 5 = .ok (.getfield 19, 3) := by decide +kernel
theorem dX8_playsShifted_8 : decode cX8_playsShifted 8 = .ok (.getfield 104, 3) := by decide +kernel
theorem dX8_playsShifted_11 : decode cX8_playsShifted 11 = .ok (.iload_n 1, 1) := by decide +kernel
theorem dX8_playsShifted_12 : decode cX8_playsShifted 12 = .ok (.invokevirtual 241, 3) := by decide +kernel
theorem dX8_playsShifted_15 : decode cX8_playsShifted 15 = .ok (.aload_n 0, 1) := by decide +kernel
theorem dX8_playsShifted_16 : decode cX8_playsShifted 16 = .ok (.getfield 53, 3) := by decide +kernel
theorem dX8_playsShifted_19 : decode cX8_playsShifted 19 = .ok (.invokevirtual 266, 3) := by decide +kernel
theorem dX8_playsShifted_22 : decode cX8_playsShifted 22 = .ok (.iconst (-1), 1) := by decide +kernel
theorem dX8_playsShifted_23 : decode cX8_playsShifted 23 = .ok (.if_icmp .ne 7, 3) := by decide +kernel
theorem dX8_playsShifted_26 : decode cX8_playsShifted 26 = .ok (.iconst 1, 1) := by decide +kernel
theorem dX8_playsShifted_27 : decode cX8_playsShifted 27 = .ok (.goto 4, 3) := by decide +kernel
theorem dX8_playsShifted_30 : decode cX8_playsShifted 30 = .ok (.iconst 0, 1) := by decide +kernel
theorem dX8_playsShifted_31 : decode cX8_playsShifted 31 = .ok (.ireturn, 1) := by decide +kernel
set_option maxHeartbeats 4000000 in
set_option maxRecDepth 100000 in
theorem m_X8_playsShifted (l : Launch) (D : va_G) (cy : Nat → ClassId) (g : Nat → Nat) (σ : ST) (p1 : Int32) (sz : Nat) (hJ : J8 σ)  : Met l yX8_playsShifted (ww yX8_playsShifted cX8_playsShifted 2 (some .boolean)) ({ frames := 6, cells := 0, slots := 0, locals := 384 }) (va_Pc [.ref (gO g 17), .int p1] (pr8 D cy g σ sz)) (qi8 D cy g sz (fun r τ => Fr (fO [13]) σ τ ∧ J8 τ ∧ ((0 : Int) ≤ r.toInt ∧ r.toInt ≤ 1) ∧ True)) 0 0 (A8 cy g sz) := by
  refine Met.ofW (cc := cX8_playsShifted) (maxL := 2) (ret := (some .boolean)) (by decide) rfl ?_
  intro p e s m args below meth c s₁ B hml hv
  obtain ⟨rfl, hsz, hP, hK, hD0, hC⟩ := hv
  have hx := B.exec
  have hb := B.bytes
  have hr := B.returns
  have hts := hts_g (atoms_spec (ws := ww yX8_playsShifted cX8_playsShifted 2 (some .boolean)) B.pre)
  have hown : s.vm.findClass RX8 = some m.cls := findClass_of_methodNamed B.named
  have hlocks := B.notSynchronized
  clear B
  subst hsz
  have hD := fun τ => A8_D (sz := s.heap.size) hD0 τ
  clear hD0
  have hS : va_S (A8 cy g s.heap.size) s.heap s.heap [] := va_S.rf
  have hl := lv_entry ([.ref (gO g 17), .int p1]) (n := 2) (Nat.le_of_ble_eq_true rfl)
  rw [lg_entry_eq]
  generalize (lg_sl ([.ref (gO g 17), .int p1]) ++ List.replicate (2 - (lg_sl ([.ref (gO g 17), .int p1])).length) Slot.unset).toArray = ls at hl ⊢
  have hl : lv_has ls 2 [(0, .ref (gO g 17)), (1, .int p1)] := hl
  refine lv_aload_n hx hb dX8_playsShifted_0 rfl (lv_at hl 0 rfl) ?_
  refine g8_8_8 hx hb hts hown hK hP (hts _ q442) dX8_playsShifted_1 ?_
  refine lv_aload_n hx hb dX8_playsShifted_4 rfl (lv_at hl 0 rfl) ?_
  obtain ⟨dx1, edx1⟩ : ∃ z : Nat, ((σ 17).1 1).toInt.toNat = z := ⟨_, rfl⟩
  have hdx1 : 0 ≤ dx1 ∧ dx1 < 5 := mnow (by have f0 := j8_8_1 hJ rfl; omega) edx1
  refine g8_8_1 (o := dx1) hx hb hts hown hK hP edx1 (hts _ q435) dX8_playsShifted_5 ?_
  refine g8_0_0 (x := ((σ dx1).1 0)) hx hb hts hown hK hP hdx1 (rfl) (hts _ q194) dX8_playsShifted_8 ?_
  refine lv_iload_n hx hb dX8_playsShifted_11 rfl (lv_at hl 1 rfl) ?_
  refine va_callv (va_runV (As := [.int ((σ dx1).1 0), .int p1]) (rest := []) ⟨hx, hb, hml, hown, hts⟩ (m_X3_layWays l D cy g σ  ((σ dx1).1 0) p1 _ hJ ) (cwV 2 hts (gd_V q936 q937 q938 q129 q939) rfl rfl rfl (by decide +kernel) ⟨(Nat.le_of_ble_eq_true rfl), (Nat.le_of_ble_eq_true rfl)⟩) (pv8 hP hK hD hC hS (rv8_3 hK hP)) rfl rfl hl.1 rfl (lv_room (Nat.le_of_ble_eq_true rfl)) dX8_playsShifted_12 ⟨Nat.le_of_ble_eq_true rfl, Nat.le_of_ble_eq_true rfl⟩) hS (fun q _ h => up8 hS q h) (up8 hS) (fun σ3 tS H1 locs ht hvm hw4 hB hz1 hk1 hS => ?_)
  have hP : va_P D clz (WD8 cy g σ3) H1 := by rw [← ht]; exact hB
  clear hB hz1 hk1 hvm ht
  generalize H1 = H at hP hS ⊢
  have hF5 : Fr (fO [13]) σ σ3 := hw4.1
  have hJ6 : J8 σ3 := hw4.2.1
  refine lv_aload_n hx hb dX8_playsShifted_15 rfl (lv_at hl 0 rfl) ?_
  refine g8_8_8 hx hb hts hown hK hP (hts _ q442) dX8_playsShifted_16 ?_
  refine va_calli (va_runV (As := []) (rest := []) ⟨hx, hb, hml, hown, hts⟩ (m_X3_firstUnreached l D cy g σ3   _ hJ6 ) (cwV 0 hts (gd_V q1024 q1025 q1026 q129 q1027) rfl rfl rfl (by decide +kernel) ⟨(Nat.le_of_ble_eq_true rfl), (Nat.le_of_ble_eq_true rfl)⟩) (pv8 hP hK hD hC hS (rv8_3 hK hP)) rfl rfl hl.1 rfl (lv_room (Nat.le_of_ble_eq_true rfl)) dX8_playsShifted_19 ⟨Nat.le_of_ble_eq_true rfl, Nat.le_of_ble_eq_true rfl⟩) hS (fun q _ h => up8 hS q h) (up8 hS) (fun r7 σ8 tS H1 locs ht hvm hw9 hB hz1 hk1 hS => ?_)
  have hP : va_P D clz (WD8 cy g σ8) H1 := by rw [← ht]; exact hB
  clear hB hz1 hk1 hvm ht
  generalize H1 = H at hP hS ⊢
  have hF10 : Fr (fO [13]) σ3 σ8 := hw9.1
  have hJ11 : J8 σ8 := hw9.2.1
  have b12 : (-1 : Int) ≤ r7.toInt ∧ r7.toInt ≤ 15 := hw9.2.2.1
  refine lv_iconst (v := (-1)) hx hb dX8_playsShifted_22 (by decide) ?_
  refine lv_icmp_ne (tgt := 30) hx hb dX8_playsShifted_23 (by decide) (fun c13 => ?_) (fun c13 => ?_)
  ·
    have k14 := neq32 c13
    refine lv_iconst (v := 0) hx hb dX8_playsShifted_30 (by decide) ?_
    exact W.zret (v := 0) hx hb hr rfl (fun tS ht hW => ⟨⟨0, σ8, rfl, ⟨Fr.tr (Fr.tr (Fr.rf) hF5 (fO_sub (fun _ q => q))) hF10 (fO_sub (fun _ q => q)), hJ11, (show (0 : Int) ≤ (0 : Int32).toInt ∧ (0 : Int32).toInt ≤ 1 from (by have z0 : (0 : Int32).toInt = 0 := (by decide); omega)), trivial⟩, (show va_P D clz (WD8 cy g σ8) tS.heap by rw [ht]; exact hP)⟩, hS.F ht⟩) hS.2.2 dX8_playsShifted_31
  ·
    have k15 := peq32 c13
    refine lv_iconst (v := 1) hx hb dX8_playsShifted_26 (by decide) ?_
    refine lv_goto (tgt := 31) hx hb dX8_playsShifted_27 (by decide) ?_
    exact W.zret (v := 1) hx hb hr rfl (fun tS ht hW => ⟨⟨1, σ8, rfl, ⟨Fr.tr (Fr.tr (Fr.rf) hF5 (fO_sub (fun _ q => q))) hF10 (fO_sub (fun _ q => q)), hJ11, (show (0 : Int) ≤ (1 : Int32).toInt ∧ (1 : Int32).toInt ≤ 1 from (by have z1 : (1 : Int32).toInt = 1 := (by decide); omega)), trivial⟩, (show va_P D clz (WD8 cy g σ8) tS.heap by rw [ht]; exact hP)⟩, hS.F ht⟩) hS.2.2 dX8_playsShifted_31

theorem q1093 : Cond.code yX8_shift cX8_shift 4 (some .int) ∈ lw_g := lw_gm (List.mem_of_getElem? (i := 1093) (by decide +kernel)) rfl
theorem q1094 : Cond.methodLink RX8 291 yX8_playsShifted ∈ lw_g := lw_gm (List.mem_of_getElem? (i := 1094) (by decide +kernel)) rfl
theorem q1096 : Cond.instanceMethod yX8_playsShifted ∈ lw_g := lw_gm (List.mem_of_getElem? (i := 1096) (by decide +kernel)) rfl
theorem q34 : Cond.selects RX8 yX8_playsShifted yX8_playsShifted ∈ lw_g := lw_gm (List.mem_of_getElem? (i := 34) (by decide +kernel)) rfl
theorem dX8_shift_0 : decode cX8_shift 0 = .ok (.aload_n 0, 1) := by decide +kernel
theorem dX8_shift_1 : decode cX8_shift 1 = .ok (.iload_n 1, 1) := by decide +kernel
theorem dX8_shift_2 : decode cX8_shift 2 = .ok (.iload_n 2, 1) := by decide +kernel
theorem dX8_shift_3 : decode cX8_shift 3 = .ok (.invokevirtual 235, 3) := by decide +kernel
theorem dX8_shift_6 : decode cX8_shift 6 = .ok (.ifCond .ne 6, 3) := by decide +kernel
theorem dX8_shift_9 : decode cX8_shift 9 = .ok (.bipush (-2), 2) := by decide +kernel
theorem dX8_shift_11 : decode cX8_shift 11 = .ok (.ireturn, 1) := by decide +kernel
theorem dX8_shift_12 : decode cX8_shift 12 = .ok (.aload_n 0, 1) := by decide +kernel
theorem dX8_shift_13 : decode cX8_shift 13 = .ok (.getfield 53, 3) := by decide +kernel
theorem dX8_shift_16 : decode cX8_shift 16 = .ok (.aload_n 0, 1) := by decide +kernel
theorem dX8_shift_17 : decode cX8_shift 17 = .ok (.getfield 19, 3) := by decide +kernel
theorem dX8_shift_20 : decode cX8_shift 20 = .ok (.iload_n 1, 1) := by decide +kernel
theorem dX8_shift_21 : decode cX8_shift 21 = .ok (.iload_n 2, 1) := by decide +kernel
theorem dX8_shift_22 : decode cX8_shift 22 = .ok (.invokevirtual 238, 3) := by decide +kernel
theorem dX8_shift_25 : decode cX8_shift 25 = .ok (.iconst 0, 1) := by decide +kernel
theorem dX8_shift_26 : decode cX8_shift 26 = .ok (.istore_n 3, 1) := by decide +kernel
theorem dX8_shift_27 : decode cX8_shift 27 = .ok (.iload_n 3, 1) := by decide +kernel
theorem dX8_shift_28 : decode cX8_shift 28 = .ok (.bipush 12, 2) := by decide +kernel
theorem dX8_shift_30 : decode cX8_shift 30 = .ok (.if_icmp .gt 31, 3) := by decide +kernel
theorem dX8_shift_33 : decode cX8_shift 33 = .ok (.aload_n 0, 1) := by decide +kernel
theorem dX8_shift_34 : decode cX8_shift 34 = .ok (.iload_n 3, 1) := by decide +kernel
theorem dX8_shift_35 : decode cX8_shift 35 = .ok (.invokevirtual 291, 3) := by decide +kernel
theorem dX8_shift_38 : decode cX8_shift 38 = .ok (.ifCond .eq 5, 3) := by decide +kernel
theorem dX8_shift_41 : decode cX8_shift 41 = .ok (.iload_n 3, 1) := by decide +kernel
theorem dX8_shift_42 : decode cX8_shift 42 = .ok (.ireturn, 1) := by decide +kernel
theorem dX8_shift_43 : decode cX8_shift 43 = .ok (.aload_n 0, 1) := by decide +kernel
theorem dX8_shift_44 : decode cX8_shift 44 = .ok (.iload_n 3, 1) := by decide +kernel
theorem dX8_shift_45 : decode cX8_shift 45 = .ok (.ineg, 1) := by decide +kernel
theorem dX8_shift_46 : decode cX8_shift 46 = .ok (.invokevirtual 291, 3) := by decide +kernel
theorem dX8_shift_49 : decode cX8_shift 49 = .ok (.ifCond .eq 6, 3) := by decide +kernel
theorem dX8_shift_52 : decode cX8_shift 52 = .ok (.iload_n 3, 1) := by decide +kernel
theorem dX8_shift_53 : decode cX8_shift 53 = .ok (.ineg, 1) := by decide +kernel
theorem dX8_shift_54 : decode cX8_shift 54 = .ok (.ireturn, 1) := by decide +kernel
theorem dX8_shift_55 : decode cX8_shift 55 = .ok (.iinc 3 1, 3) := by decide +kernel
theorem dX8_shift_58 : decode cX8_shift 58 = .ok (.goto (-31), 3) := by decide +kernel
theorem dX8_shift_61 : decode cX8_shift 61 = .ok (.bipush (-100), 2) := by decide +kernel
theorem dX8_shift_63 : decode cX8_shift 63 = .ok (.ireturn, 1) := by decide +kernel
set_option maxHeartbeats 4000000 in
set_option maxRecDepth 100000 in
theorem m_X8_shift (l : Launch) (D : va_G) (cy : Nat → ClassId) (g : Nat → Nat) (σ : ST) (p1 : Int32) (p2 : Int32) (sz : Nat) (hJ : J8 σ)  : Met l yX8_shift (ww yX8_shift cX8_shift 4 (some .int)) ({ frames := 7, cells := 0, slots := 0, locals := 448 }) (va_Pc [.ref (gO g 17), .int p1, .int p2] (pr8 D cy g σ sz)) (qi8 D cy g sz (fun r τ => Fr (fO [11, 13]) σ τ ∧ J8 τ ∧ True)) 0 0 (A8 cy g sz) := by
  refine Met.ofW (cc := cX8_shift) (maxL := 4) (ret := (some .int)) (by decide) rfl ?_
  intro p e s m args below meth c s₁ B hml hv
  obtain ⟨rfl, hsz, hP, hK, hD0, hC⟩ := hv
  have hx := B.exec
  have hb := B.bytes
  have hr := B.returns
  have hts := hts_g (atoms_spec (ws := ww yX8_shift cX8_shift 4 (some .int)) B.pre)
  have hown : s.vm.findClass RX8 = some m.cls := findClass_of_methodNamed B.named
  have hlocks := B.notSynchronized
  clear B
  subst hsz
  have hD := fun τ => A8_D (sz := s.heap.size) hD0 τ
  clear hD0
  have hS : va_S (A8 cy g s.heap.size) s.heap s.heap [] := va_S.rf
  have hl := lv_entry ([.ref (gO g 17), .int p1, .int p2]) (n := 4) (Nat.le_of_ble_eq_true rfl)
  rw [lg_entry_eq]
  generalize (lg_sl ([.ref (gO g 17), .int p1, .int p2]) ++ List.replicate (4 - (lg_sl ([.ref (gO g 17), .int p1, .int p2])).length) Slot.unset).toArray = ls at hl ⊢
  have hl : lv_has ls 4 [(0, .ref (gO g 17)), (1, .int p1), (2, .int p2)] := hl
  refine lv_aload_n hx hb dX8_shift_0 rfl (lv_at hl 0 rfl) ?_
  refine lv_iload_n hx hb dX8_shift_1 rfl (lv_at hl 1 rfl) ?_
  refine lv_iload_n hx hb dX8_shift_2 rfl (lv_at hl 2 rfl) ?_
  refine va_calli (va_runV (As := [.int p1, .int p2]) (rest := []) ⟨hx, hb, hml, hown, hts⟩ (m_X8_hasPair l D cy g σ  p1 p2 _ hJ ) (cwV 2 hts (gd_V q918 q920 q19 q125 q921) rfl rfl rfl (by decide +kernel) ⟨(Nat.le_of_ble_eq_true rfl), (Nat.le_of_ble_eq_true rfl)⟩) (pv8 hP hK hD hC hS (rv8_8 hK hP)) rfl rfl hl.1 rfl (lv_room (Nat.le_of_ble_eq_true rfl)) dX8_shift_3 ⟨Nat.le_of_ble_eq_true rfl, Nat.le_of_ble_eq_true rfl⟩) hS (fun q _ h => up8 hS q h) (up8 hS) (fun r1 σ2 tS H1 locs ht hvm hw3 hB hz1 hk1 hS => ?_)
  have hP : va_P D clz (WD8 cy g σ2) H1 := by rw [← ht]; exact hB
  clear hB hz1 hk1 hvm ht
  generalize H1 = H at hP hS ⊢
  have hw3E : σ = σ2 := (hw3.1).symm
  subst hw3E
  have b4 : (0 : Int) ≤ r1.toInt ∧ r1.toInt ≤ 1 := hw3.2.1
  refine lv_if_ne (tgt := 12) hx hb dX8_shift_6 (by decide) (fun c5 => ?_) (fun c5 => ?_)
  ·
    have k6 := neq32 c5
    refine lv_aload_n hx hb dX8_shift_12 rfl (lv_at hl 0 rfl) ?_
    refine g8_8_8 hx hb hts hown hK hP (hts _ q442) dX8_shift_13 ?_
    refine lv_aload_n hx hb dX8_shift_16 rfl (lv_at hl 0 rfl) ?_
    obtain ⟨dx7, edx7⟩ : ∃ z : Nat, ((σ 17).1 1).toInt.toNat = z := ⟨_, rfl⟩
    have hdx7 : 0 ≤ dx7 ∧ dx7 < 5 := mnow (by have f0 := j8_8_1 hJ rfl; omega) edx7
    refine g8_8_1 (o := dx7) hx hb hts hown hK hP edx7 (hts _ q435) dX8_shift_17 ?_
    refine lv_iload_n hx hb dX8_shift_20 rfl (lv_at hl 1 rfl) ?_
    refine lv_iload_n hx hb dX8_shift_21 rfl (lv_at hl 2 rfl) ?_
    refine va_callv (va_runV (As := [.ref (gO g dx7), .int p1, .int p2]) (rest := []) ⟨hx, hb, hml, hown, hts⟩ (m_X3_aim l D cy g σ  dx7 p1 p2 _ hJ (show 0 ≤ dx7 ∧ dx7 < 5 from hdx7)) (cwV 3 hts (gd_V q922 q923 q924 q129 q925) rfl rfl rfl (by decide +kernel) ⟨(Nat.le_of_ble_eq_true rfl), (Nat.le_of_ble_eq_true rfl)⟩) (pv8 hP hK hD hC hS (rv8_3 hK hP)) rfl rfl hl.1 rfl (lv_room (Nat.le_of_ble_eq_true rfl)) dX8_shift_22 ⟨Nat.le_of_ble_eq_true rfl, Nat.le_of_ble_eq_true rfl⟩) hS (fun q _ h => up8 hS q h) (up8 hS) (fun σ9 tS H1 locs ht hvm hw10 hB hz1 hk1 hS => ?_)
    have hP : va_P D clz (WD8 cy g σ9) H1 := by rw [← ht]; exact hB
    clear hB hz1 hk1 hvm ht
    generalize H1 = H at hP hS ⊢
    have hF11 : Fr (fO [11, 13]) σ σ9 := hw10.1
    have hJ12 : J8 σ9 := hw10.2.1
    refine lv_iconst (v := 0) hx hb dX8_shift_25 (by decide) ?_
    refine lv_istore_n (lv' := [(3, .int 0), (0, .ref (gO g 17)), (1, .int p1), (2, .int p2)]) hx hb dX8_shift_26 rfl hl (by decide) rfl (fun ls hl => ?_)
    refine loop8 4 27 (fun x : LZ => [(3, .int (x.2.1 0)), (0, .ref (gO g 17)), (1, .int p1), (2, .int p2)]) (fun x : LZ => (Fr (fO [13]) σ9 x.1) ∧ (J8 x.1) ∧ ((0 : Int) ≤ (x.2.1 0).toInt ∧ (x.2.1 0).toInt ≤ 15) ∧ True) (fun x : LZ => ((16 : Int) - (x.2.1 0).toInt).toNat) ?_ (σ9, lf [0], lg []) ⟨Fr.rf, hJ12, (show (0 : Int) ≤ (0 : Int32).toInt ∧ (0 : Int32).toInt ≤ 15 from (by have z0 : (0 : Int32).toInt = 0 := (by decide); omega)), trivial⟩ _ _ _ hP hS (lv_sub hl [0, 1, 2, 3] rfl)
    intro y15 hI14 nl13 H locs ls hP hS hl
    obtain ⟨σ16, eσ16⟩ : ∃ z, z = y15.1 := ⟨_, rfl⟩
    rw [← eσ16] at hP hI14
    have hF17 : Fr (fO [13]) σ9 σ16 := hI14.1
    have hJ18 : J8 σ16 := hI14.2.1
    have b19 : (0 : Int) ≤ (y15.2.1 0).toInt ∧ (y15.2.1 0).toInt ≤ 15 := hI14.2.2.1
    have hl : lv_has ls 4 [(3, .int (y15.2.1 0)), (0, .ref (gO g 17)), (1, .int p1), (2, .int p2)] := hl
    refine lv_iload_n hx hb dX8_shift_27 rfl (lv_at hl 0 rfl) ?_
    refine lv_bipush (v := 12) hx hb dX8_shift_28 (by decide) ?_
    refine lv_icmp_gt (tgt := 61) hx hb dX8_shift_30 (by decide) (fun c20 => ?_) (fun c20 => ?_)
    ·
      have k21 := plt32 c20
      refine lv_bipush (v := (-100)) hx hb dX8_shift_61 (by decide) ?_
      exact W.iret (v := (-100)) hx hb hr (fun tS ht hW => ⟨⟨(-100), σ16, rfl, ⟨Fr.tr (Fr.tr (Fr.rf) hF11 (fO_sub (fun _ q => q))) hF17 (fO_sub (by simp)), hJ18, trivial⟩, (show va_P D clz (WD8 cy g σ16) tS.heap by rw [ht]; exact hP)⟩, hS.F ht⟩) hS.2.2 dX8_shift_63
    ·
      have k22 := nlt32 c20
      refine lv_aload_n hx hb dX8_shift_33 rfl (lv_at hl 1 rfl) ?_
      refine lv_iload_n hx hb dX8_shift_34 rfl (lv_at hl 0 rfl) ?_
      refine va_calli (va_runV (As := [.int (y15.2.1 0)]) (rest := []) ⟨hx, hb, hml, hown, hts⟩ (m_X8_playsShifted l D cy g σ16  (y15.2.1 0) _ hJ18 ) (cwV 1 hts (gd_V q1094 q1096 q34 q125 q1097) rfl rfl rfl (by decide +kernel) ⟨(Nat.le_of_ble_eq_true rfl), (Nat.le_of_ble_eq_true rfl)⟩) (pv8 hP hK hD hC hS (rv8_8 hK hP)) rfl rfl hl.1 rfl (lv_room (Nat.le_of_ble_eq_true rfl)) dX8_shift_35 ⟨Nat.le_of_ble_eq_true rfl, Nat.le_of_ble_eq_true rfl⟩) hS (fun q _ h => up8 hS q h) (up8 hS) (fun r23 σ24 tS H1 locs ht hvm hw25 hB hz1 hk1 hS => ?_)
      have hP : va_P D clz (WD8 cy g σ24) H1 := by rw [← ht]; exact hB
      clear hB hz1 hk1 hvm ht
      generalize H1 = H at hP hS ⊢
      have hF26 : Fr (fO [13]) σ16 σ24 := hw25.1
      have hJ27 : J8 σ24 := hw25.2.1
      have b28 : (0 : Int) ≤ r23.toInt ∧ r23.toInt ≤ 1 := hw25.2.2.1
      refine lv_if_eq (tgt := 43) hx hb dX8_shift_38 (by decide) (fun c29 => ?_) (fun c29 => ?_)
      ·
        have k30 := peq32 c29
        refine lv_aload_n hx hb dX8_shift_43 rfl (lv_at hl 1 rfl) ?_
        refine lv_iload_n hx hb dX8_shift_44 rfl (lv_at hl 0 rfl) ?_
        refine lv_ineg hx hb dX8_shift_45 ?_
        refine lv_topi (fun x31 ex31 => ?_)
        have t32 := negO ex31 (by have f0 := b19; have f1 := k22; have g0 := rg32 (y15.2.1 0); have z12 : (12 : Int32).toInt = 12 := (by decide); omega)
        refine va_calli (va_runV (As := [.int x31]) (rest := []) ⟨hx, hb, hml, hown, hts⟩ (m_X8_playsShifted l D cy g σ24  x31 _ hJ27 ) (cwV 1 hts (gd_V q1094 q1096 q34 q125 q1097) rfl rfl rfl (by decide +kernel) ⟨(Nat.le_of_ble_eq_true rfl), (Nat.le_of_ble_eq_true rfl)⟩) (pv8 hP hK hD hC hS (rv8_8 hK hP)) rfl rfl hl.1 rfl (lv_room (Nat.le_of_ble_eq_true rfl)) dX8_shift_46 ⟨Nat.le_of_ble_eq_true rfl, Nat.le_of_ble_eq_true rfl⟩) hS (fun q _ h => up8 hS q h) (up8 hS) (fun r33 σ34 tS H1 locs ht hvm hw35 hB hz1 hk1 hS => ?_)
        have hP : va_P D clz (WD8 cy g σ34) H1 := by rw [← ht]; exact hB
        clear hB hz1 hk1 hvm ht
        generalize H1 = H at hP hS ⊢
        have hF36 : Fr (fO [13]) σ24 σ34 := hw35.1
        have hJ37 : J8 σ34 := hw35.2.1
        have b38 : (0 : Int) ≤ r33.toInt ∧ r33.toInt ≤ 1 := hw35.2.2.1
        refine lv_if_eq (tgt := 55) hx hb dX8_shift_49 (by decide) (fun c39 => ?_) (fun c39 => ?_)
        ·
          have k40 := peq32 c39
          obtain ⟨x41, ex41⟩ : ∃ y : Int32, y = (y15.2.1 0) + 1 := ⟨_, rfl⟩
          have t42 := addO ex41 (by have f0 := b19; have f1 := k22; have f2 := t32; have g0 := rg32 (y15.2.1 0); have z1 : (1 : Int32).toInt = 1 := (by decide); have z12 : (12 : Int32).toInt = 12 := (by decide); omega)
          refine lv_iinc (v := x41) (lv' := [(3, .int x41), (0, .ref (gO g 17)), (1, .int p1), (2, .int p2)]) hx hb dX8_shift_55 hl (k := 0) rfl (by rw [ex41]; rfl) (by decide) rfl (fun ls hl => ?_)
          refine lv_goto (tgt := 27) hx hb dX8_shift_58 (by decide) ?_
          have t43 : ((16 : Int) - x41.toInt).toNat < ((16 : Int) - (y15.2.1 0).toInt).toNat := (by have f0 := b19; have f1 := k22; have f2 := t32; have f3 := t42; have g0 := rg32 (y15.2.1 0); have g1 := rg32 x41; have z1 : (1 : Int32).toInt = 1 := (by decide); have z12 : (12 : Int32).toInt = 12 := (by decide); omega)
          exact nl13 (σ34, lf [x41], lg []) ⟨Fr.tr (Fr.tr (Fr.tr (Fr.rf) hF17 (fO_sub (fun _ q => q))) hF26 (fO_sub (fun _ q => q))) hF36 (fO_sub (fun _ q => q)), hJ37, (show (0 : Int) ≤ (x41 : Int32).toInt ∧ (x41 : Int32).toInt ≤ 15 from (by have f0 := t42; have f1 := b19; have f2 := k22; have f3 := t32; have g0 := rg32 x41; have z1 : (1 : Int32).toInt = 1 := (by decide); have z12 : (12 : Int32).toInt = 12 := (by decide); omega)), trivial⟩ (show ((16 : Int) - x41.toInt).toNat < _ from by first | exact t43 | (rw [← eσ16]; exact t43)) _ _ _ hP hS (lv_sub hl [0, 1, 2, 3] rfl)
        ·
          have k44 := neq32 c39
          refine lv_iload_n hx hb dX8_shift_52 rfl (lv_at hl 0 rfl) ?_
          refine lv_ineg hx hb dX8_shift_53 ?_
          refine lv_topi (fun x45 ex45 => ?_)
          have t46 := negO ex45 (by have f0 := b19; have f1 := k22; have f2 := t32; have g0 := rg32 (y15.2.1 0); have z12 : (12 : Int32).toInt = 12 := (by decide); omega)
          exact W.iret (v := x45) hx hb hr (fun tS ht hW => ⟨⟨x45, σ34, rfl, ⟨Fr.tr (Fr.tr (Fr.tr (Fr.tr (Fr.rf) hF11 (fO_sub (fun _ q => q))) hF17 (fO_sub (by simp))) hF26 (fO_sub (by simp))) hF36 (fO_sub (by simp)), hJ37, trivial⟩, (show va_P D clz (WD8 cy g σ34) tS.heap by rw [ht]; exact hP)⟩, hS.F ht⟩) hS.2.2 dX8_shift_54
      ·
        have k47 := neq32 c29
        refine lv_iload_n hx hb dX8_shift_41 rfl (lv_at hl 0 rfl) ?_
        exact W.iret (v := (y15.2.1 0)) hx hb hr (fun tS ht hW => ⟨⟨(y15.2.1 0), σ24, rfl, ⟨Fr.tr (Fr.tr (Fr.tr (Fr.rf) hF11 (fO_sub (fun _ q => q))) hF17 (fO_sub (by simp))) hF26 (fO_sub (by simp)), hJ27, trivial⟩, (show va_P D clz (WD8 cy g σ24) tS.heap by rw [ht]; exact hP)⟩, hS.F ht⟩) hS.2.2 dX8_shift_42
  ·
    have k48 := peq32 c5
    refine lv_bipush (v := (-2)) hx hb dX8_shift_9 (by decide) ?_
    exact W.iret (v := (-2)) hx hb hr (fun tS ht hW => ⟨⟨(-2), σ, rfl, ⟨Fr.rf, hJ, trivial⟩, (show va_P D clz (WD8 cy g σ) tS.heap by rw [ht]; exact hP)⟩, hS.F ht⟩) hS.2.2 dX8_shift_11

