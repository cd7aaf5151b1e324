theorem q1236 : Cond.code yX8_findShared cX8_findShared 3 (some .int) ∈ lw_g := lw_gm (List.mem_of_getElem? (i := 1236) (by decide +kernel)) rfl
theorem q445 : Cond.fieldLink RX8 74 "LipsAndSlides" "sharing" "LLipsAndSlides$Sharing;" ∈ lw_g := lw_gm (List.mem_of_getElem? (i := 445) (by decide +kernel)) rfl
theorem q1241 : Cond.methodLink RX8 357 yX6_findLeast ∈ lw_g := lw_gm (List.mem_of_getElem? (i := 1241) (by decide +kernel)) rfl
theorem q1242 : Cond.instanceMethod yX6_findLeast ∈ lw_g := lw_gm (List.mem_of_getElem? (i := 1242) (by decide +kernel)) rfl
theorem q1243 : Cond.selects RX6 yX6_findLeast yX6_findLeast ∈ lw_g := lw_gm (List.mem_of_getElem? (i := 1243) (by decide +kernel)) rfl
theorem q1237 : Cond.methodLink RX8 354 yX6_setCost ∈ lw_g := lw_gm (List.mem_of_getElem? (i := 1237) (by decide +kernel)) rfl
theorem q1238 : Cond.instanceMethod yX6_setCost ∈ lw_g := lw_gm (List.mem_of_getElem? (i := 1238) (by decide +kernel)) rfl
theorem q1239 : Cond.selects RX6 yX6_setCost yX6_setCost ∈ lw_g := lw_gm (List.mem_of_getElem? (i := 1239) (by decide +kernel)) rfl
theorem dX8_findShared_0 : decode cX8_findShared 0 = .ok (.iconst 0, 1) := by decide +kernel
theorem dX8_findShared_1 : decode cX8_findShared 1 = .ok (.istore_n 1, 1) := by decide +kernel
theorem dX8_findShared_2 : decode cX8_findShared 2 = .ok (.iload_n 1, 1) := by decide +kernel
theorem dX8_findShared_3 : decode cX8_findShared 3 = .ok (.aload_n 0, 1) := by decide +kernel
theorem dX8_findShared_4 : decode cX8_findShared 4 = .ok (.getfield 19, 3) := by decide +kernel
theorem dX8_findShared_7 : decode cX8_findShared 7 = .ok (.getfield 116, 3) := by decide +kernel
theorem dX8_findShared_10 : decode cX8_findShared 10 = .ok (.if_icmp .ge 57, 3) := by decide +kernel
theorem dX8_findShared_13 : decode cX8_findShared 13 = .ok (.iconst 0, 1) := by decide +kernel
theorem dX8_findShared_14 : decode cX8_findShared 14 = .ok (.istore_n 2, 1) := by decide +kernel
theorem dX8_findShared_15 : decode cX8_findShared 15 = .ok (.iload_n 2, 1) := by decide +kernel
theorem dX8_findShared_16 : decode cX8_findShared 16 = .ok (.aload_n 0, 1) := by decide +kernel
theorem dX8_findShared_17 : decode cX8_findShared 17 = .ok (.getfield 19, 3) := by decide +kernel
theorem dX8_findShared_20 : decode cX8_findShared 20 = .ok (.getfield 113, 3) := by decide +kernel
theorem dX8_findShared_23 : decode cX8_findShared 23 = .ok (.if_icmp .ge 38, 3) := by decide +kernel
theorem dX8_findShared_26 : decode cX8_findShared 26 = .ok (.aload_n 0, 1) := by decide +kernel
theorem dX8_findShared_27 : decode cX8_findShared 27 = .ok (.getfield 74, 3) := by decide +kernel
theorem dX8_findShared_30 : decode cX8_findShared 30 = .ok (.iload_n 2, 1) := by decide +kernel
theorem dX8_findShared_31 : decode cX8_findShared 31 = .ok (.iload_n 1, 1) := by decide +kernel
theorem dX8_findShared_32 : decode cX8_findShared 32 = .ok (.aload_n 0, 1) := by decide +kernel
theorem dX8_findShared_33 : decode cX8_findShared 33 = .ok (.iload_n 2, 1) := by decide +kernel
theorem dX8_findShared_34 : decode cX8_findShared 34 = .ok (.iload_n 1, 1) := by decide +kernel
theorem dX8_findShared_35 : decode cX8_findShared 35 = .ok (.invokevirtual 248, 3) := by decide +kernel
theorem dX8_findShared_38 : decode cX8_findShared 38 = .ok (.ifCond .ne 13, 3) := by decide +kernel
theorem dX8_findShared_41 : decode cX8_findShared 41 = .ok (.aload_n 0, 1) := by decide +kernel
theorem dX8_findShared_42 : decode cX8_findShared 42 = .ok (.getfield 53, 3) := by decide +kernel
theorem dX8_findShared_45 : decode cX8_findShared 45 = .ok (.getfield 251, 3) := by decide +kernel
theorem dX8_findShared_48 : decode cX8_findShared 48 = .ok (.goto 4, 3) := by decide +kernel
theorem dX8_findShared_51 : decode cX8_findShared 51 = .ok (.iconst (-1), 1) := by decide +kernel
theorem dX8_findShared_52 : decode cX8_findShared 52 = .ok (.invokevirtual 354, 3) := by decide +kernel
theorem dX8_findShared_55 : decode cX8_findShared 55 = .ok (.iinc 2 1, 3) := by decide +kernel
theorem dX8_findShared_58 : decode cX8_findShared 58 = .ok (.goto (-43), 3) := by decide +kernel
theorem dX8_findShared_61 : decode cX8_findShared 61 = .ok (.iinc 1 1, 3) := by decide +kernel
theorem dX8_findShared_64 : decode cX8_findShared 64 = .ok (.goto (-62), 3) := by decide +kernel
theorem dX8_findShared_67 : decode cX8_findShared 67 = .ok (.aload_n 0, 1) := by decide +kernel
theorem dX8_findShared_68 : decode cX8_findShared 68 = .ok (.getfield 74, 3) := by decide +kernel
theorem dX8_findShared_71 : decode cX8_findShared 71 = .ok (.aload_n 0, 1) := by decide +kernel
theorem dX8_findShared_72 : decode cX8_findShared 72 = .ok (.getfield 19, 3) := by decide +kernel
theorem dX8_findShared_75 : decode cX8_findShared 75 = .ok (.getfield 113, 3) := by decide +kernel
theorem dX8_findShared_78 : decode cX8_findShared 78 = .ok (.aload_n 0, 1) := by decide +kernel
theorem dX8_findShared_79 : decode cX8_findShared 79 = .ok (.getfield 19, 3) := by decide +kernel
theorem dX8_findShared_82 : decode cX8_findShared 82 = .ok (.getfield 116, 3) := by decide +kernel
theorem dX8_findShared_85 : decode cX8_findShared 85 = .ok (.invokevirtual 357, 3) := by decide +kernel
theorem dX8_findShared_88 : decode cX8_findShared 88 = .ok (.ireturn, 1) := by decide +kernel
set_option maxHeartbeats 4000000 in
set_option maxRecDepth 100000 in
theorem m_X8_findShared (l : Launch) (D : va_G) (cy : Nat → ClassId) (g : Nat → Nat) (σ : ST)  (sz : Nat) (hJ : J8 σ)  : Met l yX8_findShared (ww yX8_findShared cX8_findShared 3 (some .int)) ({ frames := 7, cells := 0, slots := 0, locals := 448 }) (va_Pc [.ref (gO g 17)] (pr8 D cy g σ sz)) (qi8 D cy g sz (fun r τ => Fr (fO [11, 13, 16]) σ τ ∧ J8 τ ∧ True)) 0 0 (A8 cy g sz) := by
  refine Met.ofW (cc := cX8_findShared) (maxL := 3) (ret := (some .int)) (by decide) rfl ?_
  intro p e s m args below meth c s₁ B hml hv
  obtain ⟨rfl, hsz, hP, hK, hD0, hC⟩ := hv
  have hx := B.exec
  have hb := B.bytes
  have hr := B.returns
  have hts := hts_g (atoms_spec (ws := ww yX8_findShared cX8_findShared 3 (some .int)) B.pre)
  have hown : s.vm.findClass RX8 = some m.cls := findClass_of_methodNamed B.named
  have hlocks := B.notSynchronized
  clear B
  subst hsz
  have hD := fun τ => A8_D (sz := s.heap.size) hD0 τ
  clear hD0
  have hS : va_S (A8 cy g s.heap.size) s.heap s.heap [] := va_S.rf
  have hl := lv_entry ([.ref (gO g 17)]) (n := 3) (Nat.le_of_ble_eq_true rfl)
  rw [lg_entry_eq]
  generalize (lg_sl ([.ref (gO g 17)]) ++ List.replicate (3 - (lg_sl ([.ref (gO g 17)])).length) Slot.unset).toArray = ls at hl ⊢
  have hl : lv_has ls 3 [(0, .ref (gO g 17))] := hl
  refine lv_iconst (v := 0) hx hb dX8_findShared_0 (by decide) ?_
  refine lv_istore_n (lv' := [(1, .int 0), (0, .ref (gO g 17))]) hx hb dX8_findShared_1 rfl hl (by decide) rfl (fun ls hl => ?_)
  refine loop8 3 2 (fun x : LZ => [(1, .int (x.2.1 0)), (0, .ref (gO g 17))]) (fun x : LZ => (Fr (fO [11, 13, 16]) σ x.1) ∧ (J8 x.1) ∧ ((0 : Int) ≤ (x.2.1 0).toInt ∧ (x.2.1 0).toInt ≤ 3) ∧ True) (fun x : LZ => ((4 : Int) - (x.2.1 0).toInt).toNat) ?_ (σ, lf [0], lg []) ⟨Fr.rf, hJ, (show (0 : Int) ≤ (0 : Int32).toInt ∧ (0 : Int32).toInt ≤ 3 from (by have z0 : (0 : Int32).toInt = 0 := (by decide); omega)), trivial⟩ _ _ _ hP hS (lv_sub hl [0, 1] rfl)
  intro y3 hI2 nl1 H locs ls hP hS hl
  obtain ⟨σ4, eσ4⟩ : ∃ z, z = y3.1 := ⟨_, rfl⟩
  rw [← eσ4] at hP hI2
  have hF5 : Fr (fO [11, 13, 16]) σ σ4 := hI2.1
  have hJ6 : J8 σ4 := hI2.2.1
  have b7 : (0 : Int) ≤ (y3.2.1 0).toInt ∧ (y3.2.1 0).toInt ≤ 3 := hI2.2.2.1
  have hl : lv_has ls 3 [(1, .int (y3.2.1 0)), (0, .ref (gO g 17))] := hl
  refine lv_iload_n hx hb dX8_findShared_2 rfl (lv_at hl 0 rfl) ?_
  refine lv_aload_n hx hb dX8_findShared_3 rfl (lv_at hl 1 rfl) ?_
  obtain ⟨dx8, edx8⟩ : ∃ z : Nat, ((σ 17).1 1).toInt.toNat = z := ⟨_, rfl⟩
  have hdx8 : 0 ≤ dx8 ∧ dx8 < 5 := mnow (by have f0 := j8_8_1 hJ rfl; omega) edx8
  refine g8_8_1 (o := dx8) hx hb hts hown hK hP ((congrArg (fun z : Int32 => z.toInt.toNat) ((hF5 17 1 (fO_n (nmc (by decide) (nmc (by decide) (nmc (by decide) nm0))))).1)).trans edx8) (hts _ q435) dX8_findShared_4 ?_
  refine g8_0_5 (x := ((σ dx8).1 5)) hx hb hts hown hK hP hdx8 ((hF5 dx8 5 (fO_n (nmc (nel hdx8 (by decide)) (nmc (nel hdx8 (by decide)) (nmc (nel hdx8 (by decide)) nm0))))).1) (hts _ q211) dX8_findShared_7 ?_
  refine lv_icmp_ge (tgt := 67) hx hb dX8_findShared_10 (by decide) (fun c9 => ?_) (fun c9 => ?_)
  ·
    have k10 := ple32 c9
    refine lv_aload_n hx hb dX8_findShared_67 rfl (lv_at hl 1 rfl) ?_
    refine g8_8_11 hx hb hts hown hK hP (hts _ q445) dX8_findShared_68 ?_
    refine lv_aload_n hx hb dX8_findShared_71 rfl (lv_at hl 1 rfl) ?_
    refine g8_8_1 (o := dx8) hx hb hts hown hK hP ((congrArg (fun z : Int32 => z.toInt.toNat) ((hF5 17 1 (fO_n (nmc (by decide) (nmc (by decide) (nmc (by decide) nm0))))).1)).trans edx8) (hts _ q435) dX8_findShared_72 ?_
    refine g8_0_4 (x := ((σ dx8).1 4)) hx hb hts hown hK hP hdx8 ((hF5 dx8 4 (fO_n (nmc (nel hdx8 (by decide)) (nmc (nel hdx8 (by decide)) (nmc (nel hdx8 (by decide)) nm0))))).1) (hts _ q207) dX8_findShared_75 ?_
    refine lv_aload_n hx hb dX8_findShared_78 rfl (lv_at hl 1 rfl) ?_
    refine g8_8_1 (o := dx8) hx hb hts hown hK hP ((congrArg (fun z : Int32 => z.toInt.toNat) ((hF5 17 1 (fO_n (nmc (by decide) (nmc (by decide) (nmc (by decide) nm0))))).1)).trans edx8) (hts _ q435) dX8_findShared_79 ?_
    refine g8_0_5 (x := ((σ dx8).1 5)) hx hb hts hown hK hP hdx8 ((hF5 dx8 5 (fO_n (nmc (nel hdx8 (by decide)) (nmc (nel hdx8 (by decide)) (nmc (nel hdx8 (by decide)) nm0))))).1) (hts _ q211) dX8_findShared_82 ?_
    refine va_calli (va_runV (As := [.int ((σ dx8).1 4), .int ((σ dx8).1 5)]) (rest := []) ⟨hx, hb, hml, hown, hts⟩ (m_X6_findLeast l D cy g σ4  ((σ dx8).1 4) ((σ dx8).1 5) _ hJ6 (show (0 : Int) ≤ ((σ dx8).1 4).toInt ∧ ((σ dx8).1 4).toInt ≤ 9 from (by have f0 := j8_0_4 hJ hdx8 rfl; omega)) (show (0 : Int) ≤ ((σ dx8).1 5).toInt ∧ ((σ dx8).1 5).toInt ≤ 3 from (by have f0 := j8_0_5 hJ hdx8 rfl; have f1 := j8_0_4 hJ hdx8 rfl; have f2 := k10; have f3 := b7; omega))) (cwV 2 hts (gd_V q1241 q1242 q1243 q132 q1244) rfl rfl rfl (by decide +kernel) ⟨(Nat.le_of_ble_eq_true rfl), (Nat.le_of_ble_eq_true rfl)⟩) (pv8 hP hK hD hC hS (rv8_6 hK hP)) rfl rfl hl.1 rfl (lv_room (Nat.le_of_ble_eq_true rfl)) dX8_findShared_85 ⟨Nat.le_of_ble_eq_true rfl, Nat.le_of_ble_eq_true rfl⟩) hS (fun q _ h => up8 hS q h) (up8 hS) (fun r11 σ12 tS H1 locs ht hvm hw13 hB hz1 hk1 hS => ?_)
    have hP : va_P D clz (WD8 cy g σ12) H1 := by rw [← ht]; exact hB
    clear hB hz1 hk1 hvm ht
    generalize H1 = H at hP hS ⊢
    have hF14 : Fr (fO [16]) σ4 σ12 := hw13.1
    have hJ15 : J8 σ12 := hw13.2.1
    exact W.iret (v := r11) hx hb hr (fun tS ht hW => ⟨⟨r11, σ12, rfl, ⟨Fr.tr (Fr.tr (Fr.rf) hF5 (fO_sub (fun _ q => q))) hF14 (fO_sub (by simp)), hJ15, trivial⟩, (show va_P D clz (WD8 cy g σ12) tS.heap by rw [ht]; exact hP)⟩, hS.F ht⟩) hS.2.2 dX8_findShared_88
  ·
    have k16 := nle32 c9
    refine lv_iconst (v := 0) hx hb dX8_findShared_13 (by decide) ?_
    refine lv_istore_n (lv' := [(2, .int 0), (1, .int (y3.2.1 0)), (0, .ref (gO g 17))]) hx hb dX8_findShared_14 rfl hl (by decide) rfl (fun ls hl => ?_)
    refine loop8 3 15 (fun x : LZ => [(2, .int (x.2.1 0)), (1, .int (y3.2.1 0)), (0, .ref (gO g 17))]) (fun x : LZ => (Fr (fO [11, 13, 16]) σ4 x.1) ∧ (J8 x.1) ∧ ((0 : Int) ≤ (x.2.1 0).toInt ∧ (x.2.1 0).toInt ≤ 9) ∧ True) (fun x : LZ => ((10 : Int) - (x.2.1 0).toInt).toNat) ?_ (σ4, lf [0], lg []) ⟨Fr.rf, hJ6, (show (0 : Int) ≤ (0 : Int32).toInt ∧ (0 : Int32).toInt ≤ 9 from (by have z0 : (0 : Int32).toInt = 0 := (by decide); omega)), trivial⟩ _ _ _ hP hS (lv_sub hl [0, 1, 2] rfl)
    intro y19 hI18 nl17 H locs ls hP hS hl
    obtain ⟨σ20, eσ20⟩ : ∃ z, z = y19.1 := ⟨_, rfl⟩
    rw [← eσ20] at hP hI18
    have hF21 : Fr (fO [11, 13, 16]) σ4 σ20 := hI18.1
    have hJ22 : J8 σ20 := hI18.2.1
    have b23 : (0 : Int) ≤ (y19.2.1 0).toInt ∧ (y19.2.1 0).toInt ≤ 9 := hI18.2.2.1
    have hl : lv_has ls 3 [(2, .int (y19.2.1 0)), (1, .int (y3.2.1 0)), (0, .ref (gO g 17))] := hl
    refine lv_iload_n hx hb dX8_findShared_15 rfl (lv_at hl 0 rfl) ?_
    refine lv_aload_n hx hb dX8_findShared_16 rfl (lv_at hl 2 rfl) ?_
    refine g8_8_1 (o := dx8) hx hb hts hown hK hP ((congrArg (fun z : Int32 => z.toInt.toNat) (((hF21 17 1 (fO_n (nmc (by decide) (nmc (by decide) (nmc (by decide) nm0))))).1).trans ((hF5 17 1 (fO_n (nmc (by decide) (nmc (by decide) (nmc (by decide) nm0))))).1))).trans edx8) (hts _ q435) dX8_findShared_17 ?_
    refine g8_0_4 (x := ((σ dx8).1 4)) hx hb hts hown hK hP hdx8 (((hF21 dx8 4 (fO_n (nmc (nel hdx8 (by decide)) (nmc (nel hdx8 (by decide)) (nmc (nel hdx8 (by decide)) nm0))))).1).trans ((hF5 dx8 4 (fO_n (nmc (nel hdx8 (by decide)) (nmc (nel hdx8 (by decide)) (nmc (nel hdx8 (by decide)) nm0))))).1)) (hts _ q207) dX8_findShared_20 ?_
    refine lv_icmp_ge (tgt := 61) hx hb dX8_findShared_23 (by decide) (fun c24 => ?_) (fun c24 => ?_)
    ·
      have k25 := ple32 c24
      obtain ⟨x26, ex26⟩ : ∃ y : Int32, y = (y3.2.1 0) + 1 := ⟨_, rfl⟩
      have t27 := addO ex26 (by have f0 := b7; have f1 := k16; have f2 := j8_0_5 hJ hdx8 rfl; have g0 := rg32 (y3.2.1 0); have z1 : (1 : Int32).toInt = 1 := (by decide); omega)
      refine lv_iinc (v := x26) (lv' := [(1, .int x26), (2, .int (y19.2.1 0)), (0, .ref (gO g 17))]) hx hb dX8_findShared_61 hl (k := 1) rfl (by rw [ex26]; rfl) (by decide) rfl (fun ls hl => ?_)
      refine lv_goto (tgt := 2) hx hb dX8_findShared_64 (by decide) ?_
      have t28 : ((4 : Int) - x26.toInt).toNat < ((4 : Int) - (y3.2.1 0).toInt).toNat := (by have f0 := b7; have f1 := k16; have f2 := t27; have f3 := j8_0_5 hJ hdx8 rfl; have g0 := rg32 (y3.2.1 0); have g1 := rg32 x26; have z1 : (1 : Int32).toInt = 1 := (by decide); omega)
      exact nl1 (σ20, lf [x26], lg []) ⟨Fr.tr (Fr.tr (Fr.rf) hF5 (fO_sub (fun _ q => q))) hF21 (fO_sub (fun _ q => q)), hJ22, (show (0 : Int) ≤ (x26 : Int32).toInt ∧ (x26 : Int32).toInt ≤ 3 from (by have f0 := t27; have f1 := b7; have f2 := k16; have f3 := j8_0_5 hJ hdx8 rfl; have g0 := rg32 x26; have z1 : (1 : Int32).toInt = 1 := (by decide); omega)), trivial⟩ (show ((4 : Int) - x26.toInt).toNat < _ from by first | exact t28 | (rw [← eσ4]; exact t28)) _ _ _ hP hS (lv_sub hl [0, 2] rfl)
    ·
      have k29 := nle32 c24
      refine lv_aload_n hx hb dX8_findShared_26 rfl (lv_at hl 2 rfl) ?_
      refine g8_8_11 hx hb hts hown hK hP (hts _ q445) dX8_findShared_27 ?_
      refine lv_iload_n hx hb dX8_findShared_30 rfl (lv_at hl 0 rfl) ?_
      refine lv_iload_n hx hb dX8_findShared_31 rfl (lv_at hl 1 rfl) ?_
      refine lv_aload_n hx hb dX8_findShared_32 rfl (lv_at hl 2 rfl) ?_
      refine lv_iload_n hx hb dX8_findShared_33 rfl (lv_at hl 0 rfl) ?_
      refine lv_iload_n hx hb dX8_findShared_34 rfl (lv_at hl 1 rfl) ?_
      refine va_calli (va_runV (As := [.int (y19.2.1 0), .int (y3.2.1 0)]) (rest := [.int (y3.2.1 0), .int (y19.2.1 0), .ref (gO g 16)]) ⟨hx, hb, hml, hown, hts⟩ (m_X8_layBest l D cy g σ20  (y19.2.1 0) (y3.2.1 0) _ hJ22 ) (cwV 2 hts (gd_V q914 q916 q18 q125 q917) rfl rfl rfl (by decide +kernel) ⟨(Nat.le_of_ble_eq_true rfl), (Nat.le_of_ble_eq_true rfl)⟩) (pv8 hP hK hD hC hS (rv8_8 hK hP)) rfl rfl hl.1 rfl (lv_room (Nat.le_of_ble_eq_true rfl)) dX8_findShared_35 ⟨Nat.le_of_ble_eq_true rfl, Nat.le_of_ble_eq_true rfl⟩) hS (fun q _ h => up8 hS q h) (up8 hS) (fun r30 σ31 tS H1 locs ht hvm hw32 hB hz1 hk1 hS => ?_)
      have hP : va_P D clz (WD8 cy g σ31) H1 := by rw [← ht]; exact hB
      clear hB hz1 hk1 hvm ht
      generalize H1 = H at hP hS ⊢
      have hF33 : Fr (fO [11, 13]) σ20 σ31 := hw32.1
      have hJ34 : J8 σ31 := hw32.2.1
      have b35 : (-2 : Int) ≤ r30.toInt ∧ r30.toInt ≤ 0 := hw32.2.2.1
      refine cut8 (D := D) (cy := cy) (g := g) (A := A8 cy g s.heap.size) (H0 := s.heap) 3 52 (fun x : LZ => [(2, .int (y19.2.1 0)), (1, .int (y3.2.1 0)), (0, .ref (gO g 17))]) (fun x : LZ => [.int (x.2.1 0), .int (y3.2.1 0), .int (y19.2.1 0), .ref (gO g 16)]) (fun x : LZ => (x.1 = σ31) ∧ True) ?_ ?_
      ·
        intro y38 hI37 H locs ls hP hS hl
        rw [show y38.1 = σ31 from hI37.1] at hP
        have hl : lv_has ls 3 [(2, .int (y19.2.1 0)), (1, .int (y3.2.1 0)), (0, .ref (gO g 17))] := hl
        refine W.eq (g2 := F0 m 52 ls [.int (y38.2.1 0), .int (y3.2.1 0), .int (y19.2.1 0), .ref (gO g 16)]) rfl ?_
        refine va_callv (va_runV (As := [.int (y19.2.1 0), .int (y3.2.1 0), .int (y38.2.1 0)]) (rest := []) ⟨hx, hb, hml, hown, hts⟩ (m_X6_setCost l D cy g σ31  (y19.2.1 0) (y3.2.1 0) (y38.2.1 0) _ hJ34 (show (0 : Int) ≤ (y19.2.1 0).toInt ∧ (y19.2.1 0).toInt ≤ 8 from (by have f0 := b23; have f1 := k29; have f2 := j8_0_4 hJ hdx8 rfl; have g0 := rg32 (y19.2.1 0); omega)) (show (0 : Int) ≤ (y3.2.1 0).toInt ∧ (y3.2.1 0).toInt ≤ 2 from (by have f0 := b7; have f1 := k16; have f2 := b23; have f3 := k29; have f4 := j8_0_5 hJ hdx8 rfl; have f5 := j8_0_4 hJ hdx8 rfl; have g0 := rg32 (y19.2.1 0); have g1 := rg32 (y3.2.1 0); omega))) (cwV 3 hts (gd_V q1237 q1238 q1239 q132 q1240) rfl rfl rfl (by decide +kernel) ⟨(Nat.le_of_ble_eq_true rfl), (Nat.le_of_ble_eq_true rfl)⟩) (pv8 hP hK hD hC hS (rv8_6 hK hP)) rfl rfl hl.1 rfl (lv_room (Nat.le_of_ble_eq_true rfl)) dX8_findShared_52 ⟨Nat.le_of_ble_eq_true rfl, Nat.le_of_ble_eq_true rfl⟩) hS (fun q _ h => up8 hS q h) (up8 hS) (fun σ40 tS H1 locs ht hvm hw41 hB hz1 hk1 hS => ?_)
        have hP : va_P D clz (WD8 cy g σ40) H1 := by rw [← ht]; exact hB
        clear hB hz1 hk1 hvm ht
        generalize H1 = H at hP hS ⊢
        have hF42 : Fr (fO [16]) σ31 σ40 := hw41.1
        have hJ43 : J8 σ40 := hw41.2.1
        obtain ⟨x44, ex44⟩ : ∃ y : Int32, y = (y19.2.1 0) + 1 := ⟨_, rfl⟩
        have t45 := addO ex44 (by have f0 := b23; have f1 := k29; have f2 := j8_0_4 hJ hdx8 rfl; have g0 := rg32 (y19.2.1 0); have z1 : (1 : Int32).toInt = 1 := (by decide); omega)
        refine lv_iinc (v := x44) (lv' := [(2, .int x44), (1, .int (y3.2.1 0)), (0, .ref (gO g 17))]) hx hb dX8_findShared_55 hl (k := 0) rfl (by rw [ex44]; rfl) (by decide) rfl (fun ls hl => ?_)
        refine lv_goto (tgt := 15) hx hb dX8_findShared_58 (by decide) ?_
        have t46 : ((10 : Int) - x44.toInt).toNat < ((10 : Int) - (y19.2.1 0).toInt).toNat := (by have f0 := b23; have f1 := k29; have f2 := t45; have f3 := j8_0_4 hJ hdx8 rfl; have g0 := rg32 (y19.2.1 0); have g1 := rg32 x44; have z1 : (1 : Int32).toInt = 1 := (by decide); omega)
        exact nl17 (σ40, lf [x44], lg []) ⟨Fr.tr (Fr.tr (Fr.tr (Fr.rf) hF21 (fO_sub (fun _ q => q))) hF33 (fO_sub (by simp))) hF42 (fO_sub (by simp)), hJ43, (show (0 : Int) ≤ (x44 : Int32).toInt ∧ (x44 : Int32).toInt ≤ 9 from (by have f0 := t45; have f1 := b23; have f2 := k29; have f3 := j8_0_4 hJ hdx8 rfl; have g0 := rg32 x44; have z1 : (1 : Int32).toInt = 1 := (by decide); omega)), trivial⟩ (show ((10 : Int) - x44.toInt).toNat < _ from by first | exact t46 | (rw [← eσ20]; exact t46)) _ _ _ hP hS (lv_sub hl [0, 1, 2] rfl)
      ·
        intro nj36
        refine lv_if_ne (tgt := 51) hx hb dX8_findShared_38 (by decide) (fun c47 => ?_) (fun c47 => ?_)
        ·
          have k48 := neq32 c47
          refine lv_iconst (v := (-1)) hx hb dX8_findShared_51 (by decide) ?_
          exact nj36 (σ31, lf [(-1)], lg []) ⟨rfl, trivial⟩ _ _ _ hP hS (lv_sub hl [0, 1, 2] rfl)
        ·
          have k49 := peq32 c47
          refine lv_aload_n hx hb dX8_findShared_41 rfl (lv_at hl 2 rfl) ?_
          refine g8_8_8 hx hb hts hown hK hP (hts _ q442) dX8_findShared_42 ?_
          refine g8_3_1 (x := ((σ31 13).1 1)) hx hb hts hown hK hP (rfl) (hts _ q283) dX8_findShared_45 ?_
          refine lv_goto (tgt := 52) hx hb dX8_findShared_48 (by decide) ?_
          exact nj36 (σ31, lf [((σ31 13).1 1)], lg []) ⟨rfl, trivial⟩ _ _ _ hP hS (lv_sub hl [0, 1, 2] rfl)

theorem q1232 : Cond.code yX8_shared cX8_shared 1 (some .int) ∈ lw_g := lw_gm (List.mem_of_getElem? (i := 1232) (by decide +kernel)) rfl
theorem q1233 : Cond.methodLink RX8 348 yX8_findShared ∈ lw_g := lw_gm (List.mem_of_getElem? (i := 1233) (by decide +kernel)) rfl
theorem q1235 : Cond.instanceMethod yX8_findShared ∈ lw_g := lw_gm (List.mem_of_getElem? (i := 1235) (by decide +kernel)) rfl
theorem q45 : Cond.selects RX8 yX8_findShared yX8_findShared ∈ lw_g := lw_gm (List.mem_of_getElem? (i := 45) (by decide +kernel)) rfl
theorem dX8_shared_0 : decode cX8_shared 0 = .ok (.aload_n 0, 1) := by decide +kernel
theorem dX8_shared_1 : decode cX8_shared 1 = .ok (.getfield 19, 3) := by decide +kernel
theorem dX8_shared_4 : decode cX8_shared 4 = .ok (.getfield 95, 3) := by decide +kernel
theorem dX8_shared_7 : decode cX8_shared 7 = .ok (.ifCond .ne 6, 3) := by decide +kernel
theorem dX8_shared_10 : decode cX8_shared 10 = .ok (.bipush (-2), 2) := by decide +kernel
theorem dX8_shared_12 : decode cX8_shared 12 = .ok (.ireturn, 1) := by decide +kernel
theorem dX8_shared_13 : decode cX8_shared 13 = .ok (.aload_n 0, 1) := by decide +kernel
theorem dX8_shared_14 : decode cX8_shared 14 = .ok (.invokevirtual 348, 3) := by decide +kernel
theorem dX8_shared_17 : decode cX8_shared 17 = .ok (.ireturn, 1) := by decide +kernel
set_option maxHeartbeats 4000000 in
set_option maxRecDepth 100000 in
theorem m_X8_shared (l : Launch) (D : va_G) (cy : Nat → ClassId) (g : Nat → Nat) (σ : ST)  (sz : Nat) (hJ : J8 σ)  : Met l yX8_shared (ww yX8_shared cX8_shared 1 (some .int)) ({ frames := 8, cells := 0, slots := 0, locals := 512 }) (va_Pc [.ref (gO g 17)] (pr8 D cy g σ sz)) (qi8 D cy g sz (fun r τ => Fr (fO [11, 13, 16]) σ τ ∧ J8 τ ∧ True)) 0 0 (A8 cy g sz) := by
  refine Met.ofW (cc := cX8_shared) (maxL := 1) (ret := (some .int)) (by decide) rfl ?_
  intro p e s m args below meth c s₁ B hml hv
  obtain ⟨rfl, hsz, hP, hK, hD0, hC⟩ := hv
  have hx := B.exec
  have hb := B.bytes
  have hr := B.returns
  have hts := hts_g (atoms_spec (ws := ww yX8_shared cX8_shared 1 (some .int)) B.pre)
  have hown : s.vm.findClass RX8 = some m.cls := findClass_of_methodNamed B.named
  have hlocks := B.notSynchronized
  clear B
  subst hsz
  have hD := fun τ => A8_D (sz := s.heap.size) hD0 τ
  clear hD0
  have hS : va_S (A8 cy g s.heap.size) s.heap s.heap [] := va_S.rf
  have hl := lv_entry ([.ref (gO g 17)]) (n := 1) (Nat.le_of_ble_eq_true rfl)
  rw [lg_entry_eq]
  generalize (lg_sl ([.ref (gO g 17)]) ++ List.replicate (1 - (lg_sl ([.ref (gO g 17)])).length) Slot.unset).toArray = ls at hl ⊢
  have hl : lv_has ls 1 [(0, .ref (gO g 17))] := hl
  refine lv_aload_n hx hb dX8_shared_0 rfl (lv_at hl 0 rfl) ?_
  obtain ⟨dx1, edx1⟩ : ∃ z : Nat, ((σ 17).1 1).toInt.toNat = z := ⟨_, rfl⟩
  have hdx1 : 0 ≤ dx1 ∧ dx1 < 5 := mnow (by have f0 := j8_8_1 hJ rfl; omega) edx1
  refine g8_8_1 (o := dx1) hx hb hts hown hK hP edx1 (hts _ q435) dX8_shared_1 ?_
  refine g8_0_2 (x := ((σ dx1).1 2)) hx hb hts hown hK hP hdx1 (rfl) (hts _ q200) dX8_shared_4 ?_
  refine lv_if_ne (tgt := 13) hx hb dX8_shared_7 (by decide) (fun c2 => ?_) (fun c2 => ?_)
  ·
    have k3 := neq32 c2
    refine lv_aload_n hx hb dX8_shared_13 rfl (lv_at hl 0 rfl) ?_
    refine va_calli (va_runV (As := []) (rest := []) ⟨hx, hb, hml, hown, hts⟩ (m_X8_findShared l D cy g σ   _ hJ ) (cwV 0 hts (gd_V q1233 q1235 q45 q125 q1236) rfl rfl rfl (by decide +kernel) ⟨(Nat.le_of_ble_eq_true rfl), (Nat.le_of_ble_eq_true rfl)⟩) (pv8 hP hK hD hC hS (rv8_8 hK hP)) rfl rfl hl.1 rfl (lv_room (Nat.le_of_ble_eq_true rfl)) dX8_shared_14 ⟨Nat.le_of_ble_eq_true rfl, Nat.le_of_ble_eq_true rfl⟩) hS (fun q _ h => up8 hS q h) (up8 hS) (fun r4 σ5 tS H1 locs ht hvm hw6 hB hz1 hk1 hS => ?_)
    have hP : va_P D clz (WD8 cy g σ5) H1 := by rw [← ht]; exact hB
    clear hB hz1 hk1 hvm ht
    generalize H1 = H at hP hS ⊢
    have hF7 : Fr (fO [11, 13, 16]) σ σ5 := hw6.1
    have hJ8 : J8 σ5 := hw6.2.1
    exact W.iret (v := r4) hx hb hr (fun tS ht hW => ⟨⟨r4, σ5, rfl, ⟨Fr.tr (Fr.rf) hF7 (fO_sub (fun _ q => q)), hJ8, trivial⟩, (show va_P D clz (WD8 cy g σ5) tS.heap by rw [ht]; exact hP)⟩, hS.F ht⟩) hS.2.2 dX8_shared_17
  ·
    have k9 := peq32 c2
    refine lv_bipush (v := (-2)) hx hb dX8_shared_10 (by decide) ?_
    exact W.iret (v := (-2)) hx hb hr (fun tS ht hW => ⟨⟨(-2), σ, rfl, ⟨Fr.rf, hJ, trivial⟩, (show va_P D clz (WD8 cy g σ) tS.heap by rw [ht]; exact hP)⟩, hS.F ht⟩) hS.2.2 dX8_shared_12

theorem q1258 : Cond.code yX6_playerOf cX6_playerOf 2 (some .int) ∈ lw_g := lw_gm (List.mem_of_getElem? (i := 1258) (by decide +kernel)) rfl
theorem dX6_playerOf_0 : decode cX6_playerOf 0 = .ok (.iload_n 1, 1) := by decide +kernel
theorem dX6_playerOf_1 : decode cX6_playerOf 1 = .ok (.ifCond .lt 17, 3) := by decide +kernel
theorem dX6_playerOf_4 : decode cX6_playerOf 4 = .ok (.iload_n 1, 1) := by decide +kernel
theorem dX6_playerOf_5 : decode cX6_playerOf 5 = .ok (.iconst 3, 1) := by decide +kernel
theorem dX6_playerOf_6 : decode cX6_playerOf 6 = .ok (.if_icmp .ge 12, 3) := by decide +kernel
theorem dX6_playerOf_9 : decode cX6_playerOf 9 = .ok (.aload_n 0, 1) := by decide +kernel
theorem dX6_playerOf_10 : decode cX6_playerOf 10 = .ok (.getfield 18, 3) := by decide +kernel
theorem dX6_playerOf_13 : decode cX6_playerOf 13 = .ok (.iload_n 1, 1) := by decide +kernel
theorem dX6_playerOf_14 : decode cX6_playerOf 14 = .ok (.iaload, 1) := by decide +kernel
theorem dX6_playerOf_15 : decode cX6_playerOf 15 = .ok (.goto 4, 3) := by decide +kernel
theorem dX6_playerOf_19 : decode cX6_playerOf 19 = .ok (.ireturn, 1) := by decide +kernel
set_option maxHeartbeats 4000000 in
set_option maxRecDepth 100000 in
theorem m_X6_playerOf (l : Launch) (D : va_G) (cy : Nat → ClassId) (g : Nat → Nat) (σ : ST) (p1 : Int32) (sz : Nat) (hJ : J8 σ) (h0 : (0 : Int) ≤ p1.toInt ∧ p1.toInt ≤ 2) : Met l yX6_playerOf (ww yX6_playerOf cX6_playerOf 2 (some .int)) ({ frames := 1, cells := 0, slots := 0, locals := 64 }) (va_Pc [.ref (gO g 16), .int p1] (pr8 D cy g σ sz)) (qi8 D cy g sz (fun r τ => τ = σ ∧ True)) 0 0 (A8 cy g sz) := by
  refine Met.ofW (cc := cX6_playerOf) (maxL := 2) (ret := (some .int)) (by decide) rfl ?_
  intro p e s m args below meth c s₁ B hml hv
  obtain ⟨rfl, hsz, hP, hK, hD0, hC⟩ := hv
  have hx := B.exec
  have hb := B.bytes
  have hr := B.returns
  have hts := hts_g (atoms_spec (ws := ww yX6_playerOf cX6_playerOf 2 (some .int)) B.pre)
  have hown : s.vm.findClass RX6 = some m.cls := findClass_of_methodNamed B.named
  have hlocks := B.notSynchronized
  clear B
  subst hsz
  have hD := fun τ => A8_D (sz := s.heap.size) hD0 τ
  clear hD0
  have hS : va_S (A8 cy g s.heap.size) s.heap s.heap [] := va_S.rf
  have hl := lv_entry ([.ref (gO g 16), .int p1]) (n := 2) (Nat.le_of_ble_eq_true rfl)
  rw [lg_entry_eq]
  generalize (lg_sl ([.ref (gO g 16), .int p1]) ++ List.replicate (2 - (lg_sl ([.ref (gO g 16), .int p1])).length) Slot.unset).toArray = ls at hl ⊢
  have hl : lv_has ls 2 [(0, .ref (gO g 16)), (1, .int p1)] := hl
  refine lv_iload_n hx hb dX6_playerOf_0 rfl (lv_at hl 1 rfl) ?_
  refine lv_if_lt (tgt := 18) hx hb dX6_playerOf_1 (by decide) (fun c1 => ?_) (fun c1 => ?_)
  ·
    have k2 := plt32 c1
    exact False.elim (by have f0 := h0; have f1 := k2; have g0 := rg32 p1; have z0 : (0 : Int32).toInt = 0 := (by decide); omega)
  ·
    have k3 := nlt32 c1
    refine lv_iload_n hx hb dX6_playerOf_4 rfl (lv_at hl 1 rfl) ?_
    refine lv_iconst (v := 3) hx hb dX6_playerOf_5 (by decide) ?_
    refine lv_icmp_ge (tgt := 18) hx hb dX6_playerOf_6 (by decide) (fun c4 => ?_) (fun c4 => ?_)
    ·
      have k5 := ple32 c4
      exact False.elim (by have f0 := h0; have f1 := k3; have f2 := k5; have g0 := rg32 p1; have z0 : (0 : Int32).toInt = 0 := (by decide); have z3 : (3 : Int32).toInt = 3 := (by decide); omega)
    ·
      have k6 := nle32 c4
      refine lv_aload_n hx hb dX6_playerOf_9 rfl (lv_at hl 0 rfl) ?_
      refine g8_6_2 hx hb hts hown hK hP (hts _ q403) dX6_playerOf_10 ?_
      refine lv_iload_n hx hb dX6_playerOf_13 rfl (lv_at hl 1 rfl) ?_
      obtain ⟨x7, ex7⟩ : ∃ z, (σ 16).2.2.1 2 p1.toInt.toNat = z := ⟨_, rfl⟩
      refine l8_6_2 (x := x7) hx hb hK hP (vpo (by have f0 := h0; have f1 := k3; have f2 := k6; have g0 := rg32 p1; have z0 : (0 : Int32).toInt = 0 := (by decide); have z3 : (3 : Int32).toInt = 3 := (by decide); omega)) ex7 dX6_playerOf_14 ?_
      refine lv_goto (tgt := 19) hx hb dX6_playerOf_15 (by decide) ?_
      exact W.iret (v := x7) hx hb hr (fun tS ht hW => ⟨⟨x7, σ, rfl, ⟨rfl, trivial⟩, (show va_P D clz (WD8 cy g σ) tS.heap by rw [ht]; exact hP)⟩, hS.F ht⟩) hS.2.2 dX6_playerOf_19

theorem q1254 : Cond.code yX8_given cX8_given 2 (some .int) ∈ lw_g := lw_gm (List.mem_of_getElem? (i := 1254) (by decide +kernel)) rfl
theorem q1255 : Cond.methodLink RX8 351 yX6_playerOf ∈ lw_g := lw_gm (List.mem_of_getElem? (i := 1255) (by decide +kernel)) rfl
theorem q1256 : Cond.instanceMethod yX6_playerOf ∈ lw_g := lw_gm (List.mem_of_getElem? (i := 1256) (by decide +kernel)) rfl
theorem q1257 : Cond.selects RX6 yX6_playerOf yX6_playerOf ∈ lw_g := lw_gm (List.mem_of_getElem? (i := 1257) (by decide +kernel)) rfl
theorem dX8_given_0 : decode cX8_given 0 = .ok (.aload_n 0, 1) := by decide +kernel
theorem dX8_given_1 : decode cX8_given 1 = .ok (.getfield 19, 3) := by decide +kernel
theorem dX8_given_4 : decode cX8_given 4 = .ok (.iload_n 1, 1) := by decide +kernel
theorem dX8_given_5 : decode cX8_given 5 = .ok (.invokevirtual 142, 3) := by decide +kernel
theorem dX8_given_8 : decode cX8_given 8 = .ok (.ifCond .ne 6, 3) := by decide +kernel
theorem dX8_given_11 : decode cX8_given 11 = .ok (.bipush (-2), 2) := by decide +kernel
theorem dX8_given_13 : decode cX8_given 13 = .ok (.ireturn, 1) := by decide +kernel
theorem dX8_given_14 : decode cX8_given 14 = .ok (.aload_n 0, 1) := by decide +kernel
theorem dX8_given_15 : decode cX8_given 15 = .ok (.invokevirtual 348, 3) := by decide +kernel
theorem dX8_given_18 : decode cX8_given 18 = .ok (.iconst (-1), 1) := by decide +kernel
theorem dX8_given_19 : decode cX8_given 19 = .ok (.if_icmp .ne 7, 3) := by decide +kernel
theorem dX8_given_22 : decode cX8_given 22 = .ok (.iconst (-1), 1) := by decide +kernel
theorem dX8_given_23 : decode cX8_given 23 = .ok (.goto 11, 3) := by decide +kernel
theorem dX8_given_26 : decode cX8_given 26 = .ok (.aload_n 0, 1) := by decide +kernel
theorem dX8_given_27 : decode cX8_given 27 = .ok (.getfield 74, 3) := by decide +kernel
theorem dX8_given_30 : decode cX8_given 30 = .ok (.iload_n 1, 1) := by decide +kernel
theorem dX8_given_31 : decode cX8_given 31 = .ok (.invokevirtual 351, 3) := by decide +kernel
theorem dX8_given_34 : decode cX8_given 34 = .ok (.ireturn, 1) := by decide +kernel
set_option maxHeartbeats 4000000 in
set_option maxRecDepth 100000 in
theorem m_X8_given (l : Launch) (D : va_G) (cy : Nat → ClassId) (g : Nat → Nat) (σ : ST) (p1 : Int32) (sz : Nat) (hJ : J8 σ)  : Met l yX8_given (ww yX8_given cX8_given 2 (some .int)) ({ frames := 8, cells := 0, slots := 0, locals := 512 }) (va_Pc [.ref (gO g 17), .int p1] (pr8 D cy g σ sz)) (qi8 D cy g sz (fun r τ => Fr (fO [11, 13, 16]) σ τ ∧ J8 τ ∧ True)) 0 0 (A8 cy g sz) := by
  refine Met.ofW (cc := cX8_given) (maxL := 2) (ret := (some .int)) (by decide) rfl ?_
  intro p e s m args below meth c s₁ B hml hv
  obtain ⟨rfl, hsz, hP, hK, hD0, hC⟩ := hv
  have hx := B.exec
  have hb := B.bytes
  have hr := B.returns
  have hts := hts_g (atoms_spec (ws := ww yX8_given cX8_given 2 (some .int)) B.pre)
  have hown : s.vm.findClass RX8 = some m.cls := findClass_of_methodNamed B.named
  have hlocks := B.notSynchronized
  clear B
  subst hsz
  have hD := fun τ => A8_D (sz := s.heap.size) hD0 τ
  clear hD0
  have hS : va_S (A8 cy g s.heap.size) s.heap s.heap [] := va_S.rf
  have hl := lv_entry ([.ref (gO g 17), .int p1]) (n := 2) (Nat.le_of_ble_eq_true rfl)
  rw [lg_entry_eq]
  generalize (lg_sl ([.ref (gO g 17), .int p1]) ++ List.replicate (2 - (lg_sl ([.ref (gO g 17), .int p1])).length) Slot.unset).toArray = ls at hl ⊢
  have hl : lv_has ls 2 [(0, .ref (gO g 17)), (1, .int p1)] := hl
  refine lv_aload_n hx hb dX8_given_0 rfl (lv_at hl 0 rfl) ?_
  obtain ⟨dx1, edx1⟩ : ∃ z : Nat, ((σ 17).1 1).toInt.toNat = z := ⟨_, rfl⟩
  have hdx1 : 0 ≤ dx1 ∧ dx1 < 5 := mnow (by have f0 := j8_8_1 hJ rfl; omega) edx1
  refine g8_8_1 (o := dx1) hx hb hts hown hK hP edx1 (hts _ q435) dX8_given_1 ?_
  refine lv_iload_n hx hb dX8_given_4 rfl (lv_at hl 1 rfl) ?_
  refine va_calli (va_runV (As := [.int p1]) (rest := []) ⟨hx, hb, hml, hown, hts⟩ (m_X0_hasPart l D cy g σ  dx1 p1 _ hJ (show 0 ≤ dx1 ∧ dx1 < 5 from hdx1)) (cwV 1 hts (gd_V q738 q649 q650 q127 q651) rfl rfl rfl (by decide +kernel) ⟨(Nat.le_of_ble_eq_true rfl), (Nat.le_of_ble_eq_true rfl)⟩) (pv8 hP hK hD hC hS (rv8_0 hK hP hdx1)) rfl rfl hl.1 rfl (lv_room (Nat.le_of_ble_eq_true rfl)) dX8_given_5 ⟨Nat.le_of_ble_eq_true rfl, Nat.le_of_ble_eq_true rfl⟩) hS (fun q _ h => up8 hS q h) (up8 hS) (fun r2 σ3 tS H1 locs ht hvm hw4 hB hz1 hk1 hS => ?_)
  have hP : va_P D clz (WD8 cy g σ3) H1 := by rw [← ht]; exact hB
  clear hB hz1 hk1 hvm ht
  generalize H1 = H at hP hS ⊢
  have hw4E : σ = σ3 := (hw4.1).symm
  subst hw4E
  have b5 : (0 : Int) ≤ r2.toInt ∧ r2.toInt ≤ 1 := hw4.2.1
  have b6 : (r2.toInt = 0) ∨ ((0 : Int) ≤ p1.toInt ∧ p1.toInt ≤ 2) := hw4.2.2.1
  refine lv_if_ne (tgt := 14) hx hb dX8_given_8 (by decide) (fun c7 => ?_) (fun c7 => ?_)
  ·
    have k8 := neq32 c7
    refine lv_aload_n hx hb dX8_given_14 rfl (lv_at hl 0 rfl) ?_
    refine va_calli (va_runV (As := []) (rest := []) ⟨hx, hb, hml, hown, hts⟩ (m_X8_findShared l D cy g σ   _ hJ ) (cwV 0 hts (gd_V q1233 q1235 q45 q125 q1236) rfl rfl rfl (by decide +kernel) ⟨(Nat.le_of_ble_eq_true rfl), (Nat.le_of_ble_eq_true rfl)⟩) (pv8 hP hK hD hC hS (rv8_8 hK hP)) rfl rfl hl.1 rfl (lv_room (Nat.le_of_ble_eq_true rfl)) dX8_given_15 ⟨Nat.le_of_ble_eq_true rfl, Nat.le_of_ble_eq_true rfl⟩) hS (fun q _ h => up8 hS q h) (up8 hS) (fun r9 σ10 tS H1 locs ht hvm hw11 hB hz1 hk1 hS => ?_)
    have hP : va_P D clz (WD8 cy g σ10) H1 := by rw [← ht]; exact hB
    clear hB hz1 hk1 hvm ht
    generalize H1 = H at hP hS ⊢
    have hF12 : Fr (fO [11, 13, 16]) σ σ10 := hw11.1
    have hJ13 : J8 σ10 := hw11.2.1
    refine lv_iconst (v := (-1)) hx hb dX8_given_18 (by decide) ?_
    refine lv_icmp_ne (tgt := 26) hx hb dX8_given_19 (by decide) (fun c14 => ?_) (fun c14 => ?_)
    ·
      have k15 := neq32 c14
      refine lv_aload_n hx hb dX8_given_26 rfl (lv_at hl 0 rfl) ?_
      refine g8_8_11 hx hb hts hown hK hP (hts _ q445) dX8_given_27 ?_
      refine lv_iload_n hx hb dX8_given_30 rfl (lv_at hl 1 rfl) ?_
      refine va_calli (va_runV (As := [.int p1]) (rest := []) ⟨hx, hb, hml, hown, hts⟩ (m_X6_playerOf l D cy g σ10  p1 _ hJ13 (show (0 : Int) ≤ p1.toInt ∧ p1.toInt ≤ 2 from (by have f0 := b6; have f1 := b5; have f2 := k8; have g0 := rg32 p1; have z0 : (0 : Int32).toInt = 0 := (by decide); omega))) (cwV 1 hts (gd_V q1255 q1256 q1257 q132 q1258) rfl rfl rfl (by decide +kernel) ⟨(Nat.le_of_ble_eq_true rfl), (Nat.le_of_ble_eq_true rfl)⟩) (pv8 hP hK hD hC hS (rv8_6 hK hP)) rfl rfl hl.1 rfl (lv_room (Nat.le_of_ble_eq_true rfl)) dX8_given_31 ⟨Nat.le_of_ble_eq_true rfl, Nat.le_of_ble_eq_true rfl⟩) hS (fun q _ h => up8 hS q h) (up8 hS) (fun r16 σ17 tS H1 locs ht hvm hw18 hB hz1 hk1 hS => ?_)
      have hP : va_P D clz (WD8 cy g σ17) H1 := by rw [← ht]; exact hB
      clear hB hz1 hk1 hvm ht
      generalize H1 = H at hP hS ⊢
      have hw18E : σ10 = σ17 := (hw18.1).symm
      subst hw18E
      exact W.iret (v := r16) hx hb hr (fun tS ht hW => ⟨⟨r16, σ10, rfl, ⟨Fr.tr (Fr.rf) hF12 (fO_sub (fun _ q => q)), hJ13, trivial⟩, (show va_P D clz (WD8 cy g σ10) tS.heap by rw [ht]; exact hP)⟩, hS.F ht⟩) hS.2.2 dX8_given_34
    ·
      have k19 := peq32 c14
      refine lv_iconst (v := (-1)) hx hb dX8_given_22 (by decide) ?_
      refine lv_goto (tgt := 34) hx hb dX8_given_23 (by decide) ?_
      exact W.iret (v := (-1)) hx hb hr (fun tS ht hW => ⟨⟨(-1), σ10, rfl, ⟨Fr.tr (Fr.rf) hF12 (fO_sub (fun _ q => q)), hJ13, trivial⟩, (show va_P D clz (WD8 cy g σ10) tS.heap by rw [ht]; exact hP)⟩, hS.F ht⟩) hS.2.2 dX8_given_34
  ·
    have k20 := peq32 c7
    refine lv_bipush (v := (-2)) hx hb dX8_given_11 (by decide) ?_
    exact W.iret (v := (-2)) hx hb hr (fun tS ht hW => ⟨⟨(-2), σ, rfl, ⟨Fr.rf, hJ, trivial⟩, (show va_P D clz (WD8 cy g σ) tS.heap by rw [ht]; exact hP)⟩, hS.F ht⟩) hS.2.2 dX8_given_13

theorem q1269 : Cond.code yX8_isSlot cX8_isSlot 1 (some .boolean) ∈ lw_g := lw_gm (List.mem_of_getElem? (i := 1269) (by decide +kernel)) rfl
theorem dX8_isSlot_0 : decode cX8_isSlot 0 = .ok (.iload_n 0, 1) := by decide +kernel
theorem dX8_isSlot_1 : decode cX8_isSlot 1 = .ok (.ifCond .lt 12, 3) := by decide +kernel
theorem dX8_isSlot_4 : decode cX8_isSlot 4 = .ok (.iload_n 0, 1) := by decide +kernel
theorem dX8_isSlot_5 : decode cX8_isSlot 5 = .ok (.iconst 4, 1) := by decide +kernel
theorem dX8_isSlot_6 : decode cX8_isSlot 6 = .ok (.if_icmp .ge 7, 3) := by decide +kernel
theorem dX8_isSlot_9 : decode cX8_isSlot 9 = .ok (.iconst 1, 1) := by decide +kernel
theorem dX8_isSlot_10 : decode cX8_isSlot 10 = .ok (.goto 4, 3) := by decide +kernel
theorem dX8_isSlot_13 : decode cX8_isSlot 13 = .ok (.iconst 0, 1) := by decide +kernel
theorem dX8_isSlot_14 : decode cX8_isSlot 14 = .ok (.ireturn, 1) := by decide +kernel
set_option maxHeartbeats 4000000 in
set_option maxRecDepth 100000 in
theorem m_X8_isSlot (l : Launch) (D : va_G) (cy : Nat → ClassId) (g : Nat → Nat) (σ : ST) (p0 : Int32) (sz : Nat) (hJ : J8 σ)  : Met l yX8_isSlot (ww yX8_isSlot cX8_isSlot 1 (some .boolean)) ({ frames := 1, cells := 0, slots := 0, locals := 64 }) (va_Pc [.int p0] (pr8 D cy g σ sz)) (qi8 D cy g sz (fun r τ => τ = σ ∧ ((0 : Int) ≤ r.toInt ∧ r.toInt ≤ 1) ∧ ((r.toInt = 0) ∨ ((0 : Int) ≤ p0.toInt ∧ p0.toInt ≤ 3)) ∧ (r.toInt = 1 ∨ p0.toInt < 0 ∨ 3 < p0.toInt) ∧ True)) 0 0 (A8 cy g sz) := by
  refine Met.ofW (cc := cX8_isSlot) (maxL := 1) (ret := (some .boolean)) (by decide) rfl ?_
  intro p e s m args below meth c s₁ B hml hv
  obtain ⟨rfl, hsz, hP, hK, hD0, hC⟩ := hv
  have hx := B.exec
  have hb := B.bytes
  have hr := B.returns
  have hts := hts_g (atoms_spec (ws := ww yX8_isSlot cX8_isSlot 1 (some .boolean)) B.pre)
  have hown : s.vm.findClass RX8 = some m.cls := findClass_of_methodNamed B.named
  have hlocks := B.notSynchronized
  clear B
  subst hsz
  have hD := fun τ => A8_D (sz := s.heap.size) hD0 τ
  clear hD0
  have hS : va_S (A8 cy g s.heap.size) s.heap s.heap [] := va_S.rf
  have hl := lv_entry ([.int p0]) (n := 1) (Nat.le_of_ble_eq_true rfl)
  rw [lg_entry_eq]
  generalize (lg_sl ([.int p0]) ++ List.replicate (1 - (lg_sl ([.int p0])).length) Slot.unset).toArray = ls at hl ⊢
  have hl : lv_has ls 1 [(0, .int p0)] := hl
  refine lv_iload_n hx hb dX8_isSlot_0 rfl (lv_at hl 0 rfl) ?_
  refine lv_if_lt (tgt := 13) hx hb dX8_isSlot_1 (by decide) (fun c1 => ?_) (fun c1 => ?_)
  ·
    have k2 := plt32 c1
    refine lv_iconst (v := 0) hx hb dX8_isSlot_13 (by decide) ?_
    exact W.zret (v := 0) hx hb hr rfl (fun tS ht hW => ⟨⟨0, σ, rfl, ⟨rfl, (show (0 : Int) ≤ (0 : Int32).toInt ∧ (0 : Int32).toInt ≤ 1 from (by have z0 : (0 : Int32).toInt = 0 := (by decide); omega)), (show ((0 : Int32).toInt = 0) ∨ ((0 : Int) ≤ p0.toInt ∧ p0.toInt ≤ 3) from (by have f0 := k2; have g0 := rg32 p0; have z0 : (0 : Int32).toInt = 0 := (by decide); omega)), (show (0 : Int32).toInt = 1 ∨ p0.toInt < 0 ∨ 3 < p0.toInt from (by have f0 := k2; have g0 := rg32 p0; have z0 : (0 : Int32).toInt = 0 := (by decide); omega)), trivial⟩, (show va_P D clz (WD8 cy g σ) tS.heap by rw [ht]; exact hP)⟩, hS.F ht⟩) hS.2.2 dX8_isSlot_14
  ·
    have k3 := nlt32 c1
    refine lv_iload_n hx hb dX8_isSlot_4 rfl (lv_at hl 0 rfl) ?_
    refine lv_iconst (v := 4) hx hb dX8_isSlot_5 (by decide) ?_
    refine lv_icmp_ge (tgt := 13) hx hb dX8_isSlot_6 (by decide) (fun c4 => ?_) (fun c4 => ?_)
    ·
      have k5 := ple32 c4
      refine lv_iconst (v := 0) hx hb dX8_isSlot_13 (by decide) ?_
      exact W.zret (v := 0) hx hb hr rfl (fun tS ht hW => ⟨⟨0, σ, rfl, ⟨rfl, (show (0 : Int) ≤ (0 : Int32).toInt ∧ (0 : Int32).toInt ≤ 1 from (by have z0 : (0 : Int32).toInt = 0 := (by decide); omega)), (show ((0 : Int32).toInt = 0) ∨ ((0 : Int) ≤ p0.toInt ∧ p0.toInt ≤ 3) from (by have f0 := k3; have f1 := k5; have g0 := rg32 p0; have z0 : (0 : Int32).toInt = 0 := (by decide); have z4 : (4 : Int32).toInt = 4 := (by decide); omega)), (show (0 : Int32).toInt = 1 ∨ p0.toInt < 0 ∨ 3 < p0.toInt from (by have f0 := k3; have f1 := k5; have g0 := rg32 p0; have z0 : (0 : Int32).toInt = 0 := (by decide); have z4 : (4 : Int32).toInt = 4 := (by decide); omega)), trivial⟩, (show va_P D clz (WD8 cy g σ) tS.heap by rw [ht]; exact hP)⟩, hS.F ht⟩) hS.2.2 dX8_isSlot_14
    ·
      have k6 := nle32 c4
      refine lv_iconst (v := 1) hx hb dX8_isSlot_9 (by decide) ?_
      refine lv_goto (tgt := 14) hx hb dX8_isSlot_10 (by decide) ?_
      exact W.zret (v := 1) hx hb hr rfl (fun tS ht hW => ⟨⟨1, σ, rfl, ⟨rfl, (show (0 : Int) ≤ (1 : Int32).toInt ∧ (1 : Int32).toInt ≤ 1 from (by have z1 : (1 : Int32).toInt = 1 := (by decide); omega)), (show ((1 : Int32).toInt = 0) ∨ ((0 : Int) ≤ p0.toInt ∧ p0.toInt ≤ 3) from (by have f0 := k3; have f1 := k6; have g0 := rg32 p0; have z0 : (0 : Int32).toInt = 0 := (by decide); have z1 : (1 : Int32).toInt = 1 := (by decide); have z4 : (4 : Int32).toInt = 4 := (by decide); omega)), (show (1 : Int32).toInt = 1 ∨ p0.toInt < 0 ∨ 3 < p0.toInt from (by have f0 := k3; have f1 := k6; have g0 := rg32 p0; have z0 : (0 : Int32).toInt = 0 := (by decide); have z1 : (1 : Int32).toInt = 1 := (by decide); have z4 : (4 : Int32).toInt = 4 := (by decide); omega)), trivial⟩, (show va_P D clz (WD8 cy g σ) tS.heap by rw [ht]; exact hP)⟩, hS.F ht⟩) hS.2.2 dX8_isSlot_14

theorem q1266 : Cond.code yX8_layJudged cX8_layJudged 4 (some .int) ∈ lw_g := lw_gm (List.mem_of_getElem? (i := 1266) (by decide +kernel)) rfl
theorem q1267 : Cond.methodLink RX8 360 yX8_isSlot ∈ lw_g := lw_gm (List.mem_of_getElem? (i := 1267) (by decide +kernel)) rfl
theorem q1268 : Cond.static yX8_isSlot ∈ lw_g := lw_gm (List.mem_of_getElem? (i := 1268) (by decide +kernel)) rfl
theorem q421 : Cond.fieldLink RX8 363 "LipsAndSlides$Row" "length" "I" ∈ lw_g := lw_gm (List.mem_of_getElem? (i := 421) (by decide +kernel)) rfl
theorem q281 : Cond.fieldLink RX8 364 "LipsAndSlides$Plays" "steps" "I" ∈ lw_g := lw_gm (List.mem_of_getElem? (i := 281) (by decide +kernel)) rfl
theorem dX8_layJudged_0 : decode cX8_layJudged 0 = .ok (.iload_n 1, 1) := by decide +kernel
theorem dX8_layJudged_1 : decode cX8_layJudged 1 = .ok (.invokestatic 360, 3) := by decide +kernel
theorem dX8_layJudged_4 : decode cX8_layJudged 4 = .ok (.ifCond .eq 12, 3) := by decide +kernel
theorem dX8_layJudged_7 : decode cX8_layJudged 7 = .ok (.aload_n 0, 1) := by decide +kernel
theorem dX8_layJudged_8 : decode cX8_layJudged 8 = .ok (.iload_n 2, 1) := by decide +kernel
theorem dX8_layJudged_9 : decode cX8_layJudged 9 = .ok (.iload_n 3, 1) := by decide +kernel
theorem dX8_layJudged_10 : decode cX8_layJudged 10 = .ok (.invokevirtual 235, 3) := by decide +kernel
theorem dX8_layJudged_13 : decode cX8_layJudged 13 = .ok (.ifCond .ne 6, 3) := by decide +kernel
theorem dX8_layJudged_16 : decode cX8_layJudged 16 = .ok (.bipush (-2), 2) := by decide +kernel
theorem dX8_layJudged_18 : decode cX8_layJudged 18 = .ok (.ireturn, 1) := by decide +kernel
theorem dX8_layJudged_19 : decode cX8_layJudged 19 = .ok (.aload_n 0, 1) := by decide +kernel
theorem dX8_layJudged_20 : decode cX8_layJudged 20 = .ok (.getfield 36, 3) := by decide +kernel
theorem dX8_layJudged_23 : decode cX8_layJudged 23 = .ok (.iload_n 1, 1) := by decide +kernel
theorem dX8_layJudged_24 : decode cX8_layJudged 24 = .ok (.aaload, 1) := by decide +kernel
theorem dX8_layJudged_25 : decode cX8_layJudged 25 = .ok (.getfield 123, 3) := by decide +kernel
theorem dX8_layJudged_28 : decode cX8_layJudged 28 = .ok (.ifCond .ne 6, 3) := by decide +kernel
theorem dX8_layJudged_31 : decode cX8_layJudged 31 = .ok (.bipush (-6), 2) := by decide +kernel
theorem dX8_layJudged_33 : decode cX8_layJudged 33 = .ok (.ireturn, 1) := by decide +kernel
theorem dX8_layJudged_34 : decode cX8_layJudged 34 = .ok (.aload_n 0, 1) := by decide +kernel
theorem dX8_layJudged_35 : decode cX8_layJudged 35 = .ok (.getfield 53, 3) := by decide +kernel
theorem dX8_layJudged_38 : decode cX8_layJudged 38 = .ok (.aload_n 0, 1) := by decide +kernel
theorem dX8_layJudged_39 : decode cX8_layJudged 39 = .ok (.getfield 19, 3) := by decide +kernel
theorem dX8_layJudged_42 : decode cX8_layJudged 42 = .ok (.iload_n 2, 1) := by decide +kernel
theorem dX8_layJudged_43 : decode cX8_layJudged 43 = .ok (.iload_n 3, 1) := by decide +kernel
theorem dX8_layJudged_44 : decode cX8_layJudged 44 = .ok (.invokevirtual 238, 3) := by decide +kernel
theorem dX8_layJudged_47 : decode cX8_layJudged 47 = .ok (.aload_n 0, 1) := by decide +kernel
theorem dX8_layJudged_48 : decode cX8_layJudged 48 = .ok (.getfield 36, 3) := by decide +kernel
theorem dX8_layJudged_51 : decode cX8_layJudged 51 = .ok (.iload_n 1, 1) := by decide +kernel
theorem dX8_layJudged_52 : decode cX8_layJudged 52 = .ok (.aaload, 1) := by decide +kernel
theorem dX8_layJudged_53 : decode cX8_layJudged 53 = .ok (.getfield 363, 3) := by decide +kernel
theorem dX8_layJudged_56 : decode cX8_layJudged 56 = .ok (.aload_n 0, 1) := by decide +kernel
theorem dX8_layJudged_57 : decode cX8_layJudged 57 = .ok (.getfield 53, 3) := by decide +kernel
theorem dX8_layJudged_60 : decode cX8_layJudged 60 = .ok (.getfield 364, 3) := by decide +kernel
theorem dX8_layJudged_63 : decode cX8_layJudged 63 = .ok (.if_icmp .ge 6, 3) := by decide +kernel
theorem dX8_layJudged_66 : decode cX8_layJudged 66 = .ok (.bipush (-7), 2) := by decide +kernel
theorem dX8_layJudged_68 : decode cX8_layJudged 68 = .ok (.ireturn, 1) := by decide +kernel
theorem dX8_layJudged_69 : decode cX8_layJudged 69 = .ok (.aload_n 0, 1) := by decide +kernel
theorem dX8_layJudged_70 : decode cX8_layJudged 70 = .ok (.getfield 53, 3) := by decide +kernel
theorem dX8_layJudged_73 : decode cX8_layJudged 73 = .ok (.aload_n 0, 1) := by decide +kernel
theorem dX8_layJudged_74 : decode cX8_layJudged 74 = .ok (.getfield 19, 3) := by decide +kernel
theorem dX8_layJudged_77 : decode cX8_layJudged 77 = .ok (.getfield 104, 3) := by decide +kernel
theorem dX8_layJudged_80 : decode cX8_layJudged 80 = .ok (.iconst 0, 1) := by decide +kernel
theorem dX8_layJudged_81 : decode cX8_layJudged 81 = .ok (.invokevirtual 241, 3) := by decide +kernel
theorem dX8_layJudged_84 : decode cX8_layJudged 84 = .ok (.iconst 0, 1) := by decide +kernel
theorem dX8_layJudged_85 : decode cX8_layJudged 85 = .ok (.ireturn, 1) := by decide +kernel
set_option maxHeartbeats 4000000 in
set_option maxRecDepth 100000 in
theorem m_X8_layJudged (l : Launch) (D : va_G) (cy : Nat → ClassId) (g : Nat → Nat) (σ : ST) (p1 : Int32) (p2 : Int32) (p3 : Int32) (sz : Nat) (hJ : J8 σ)  : Met l yX8_layJudged (ww yX8_layJudged cX8_layJudged 4 (some .int)) ({ frames := 6, cells := 0, slots := 0, locals := 384 }) (va_Pc [.ref (gO g 17), .int p1, .int p2, .int p3] (pr8 D cy g σ sz)) (qi8 D cy g sz (fun r τ => Fr (fO [11, 13]) σ τ ∧ J8 τ ∧ ((-7 : Int) ≤ r.toInt ∧ r.toInt ≤ 0) ∧ ((¬ r.toInt = 0) ∨ ((0 : Int) ≤ p1.toInt ∧ p1.toInt ≤ 3)) ∧ True)) 0 0 (A8 cy g sz) := by
  refine Met.ofW (cc := cX8_layJudged) (maxL := 4) (ret := (some .int)) (by decide) rfl ?_
  intro p e s m args below meth c s₁ B hml hv
  obtain ⟨rfl, hsz, hP, hK, hD0, hC⟩ := hv
  have hx := B.exec
  have hb := B.bytes
  have hr := B.returns
  have hts := hts_g (atoms_spec (ws := ww yX8_layJudged cX8_layJudged 4 (some .int)) B.pre)
  have hown : s.vm.findClass RX8 = some m.cls := findClass_of_methodNamed B.named
  have hlocks := B.notSynchronized
  clear B
  subst hsz
  have hD := fun τ => A8_D (sz := s.heap.size) hD0 τ
  clear hD0
  have hS : va_S (A8 cy g s.heap.size) s.heap s.heap [] := va_S.rf
  have hl := lv_entry ([.ref (gO g 17), .int p1, .int p2, .int p3]) (n := 4) (Nat.le_of_ble_eq_true rfl)
  rw [lg_entry_eq]
  generalize (lg_sl ([.ref (gO g 17), .int p1, .int p2, .int p3]) ++ List.replicate (4 - (lg_sl ([.ref (gO g 17), .int p1, .int p2, .int p3])).length) Slot.unset).toArray = ls at hl ⊢
  have hl : lv_has ls 4 [(0, .ref (gO g 17)), (1, .int p1), (2, .int p2), (3, .int p3)] := hl
  refine lv_iload_n hx hb dX8_layJudged_0 rfl (lv_at hl 1 rfl) ?_
  refine va_calli (va_runS (As := [.int p1]) (rest := []) ⟨hx, hb, hml, hown, hts⟩ (m_X8_isSlot l D cy g σ  p1 _ hJ ) (va_cwS 1 hts (gd_S q1267 q1268 q125 q1269) rfl rfl rfl (by decide +kernel) ⟨(Nat.le_of_ble_eq_true rfl), (Nat.le_of_ble_eq_true rfl)⟩) (ps8 hP hK hD hC hS) rfl rfl hl.1 rfl (lv_room (Nat.le_of_ble_eq_true rfl)) dX8_layJudged_1 ⟨Nat.le_of_ble_eq_true rfl, Nat.le_of_ble_eq_true rfl⟩) hS (fun q _ h => up8 hS q h) (up8 hS) (fun r1 σ2 tS H1 locs ht hvm hw3 hB hz1 hk1 hS => ?_)
  have hP : va_P D clz (WD8 cy g σ2) H1 := by rw [← ht]; exact hB
  clear hB hz1 hk1 hvm ht
  generalize H1 = H at hP hS ⊢
  have hw3E : σ = σ2 := (hw3.1).symm
  subst hw3E
  have b4 : (0 : Int) ≤ r1.toInt ∧ r1.toInt ≤ 1 := hw3.2.1
  have b5 : (r1.toInt = 0) ∨ ((0 : Int) ≤ p1.toInt ∧ p1.toInt ≤ 3) := hw3.2.2.1
  have b6 : r1.toInt = 1 ∨ p1.toInt < 0 ∨ 3 < p1.toInt := hw3.2.2.2.1
  refine lv_if_eq (tgt := 16) hx hb dX8_layJudged_4 (by decide) (fun c7 => ?_) (fun c7 => ?_)
  ·
    have k8 := peq32 c7
    refine lv_bipush (v := (-2)) hx hb dX8_layJudged_16 (by decide) ?_
    exact W.iret (v := (-2)) hx hb hr (fun tS ht hW => ⟨⟨(-2), σ, rfl, ⟨Fr.rf, hJ, (show (-7 : Int) ≤ ((-2) : Int32).toInt ∧ ((-2) : Int32).toInt ≤ 0 from (by have zm2 : ((-2) : Int32).toInt = (-2) := (by decide); omega)), (show (¬ ((-2) : Int32).toInt = 0) ∨ ((0 : Int) ≤ p1.toInt ∧ p1.toInt ≤ 3) from (by have f0 := b5; have f1 := b6; have f2 := b4; have f3 := k8; have g0 := rg32 p1; have zm2 : ((-2) : Int32).toInt = (-2) := (by decide); have z0 : (0 : Int32).toInt = 0 := (by decide); omega)), trivial⟩, (show va_P D clz (WD8 cy g σ) tS.heap by rw [ht]; exact hP)⟩, hS.F ht⟩) hS.2.2 dX8_layJudged_18
  ·
    have k9 := neq32 c7
    refine lv_aload_n hx hb dX8_layJudged_7 rfl (lv_at hl 0 rfl) ?_
    refine lv_iload_n hx hb dX8_layJudged_8 rfl (lv_at hl 2 rfl) ?_
    refine lv_iload_n hx hb dX8_layJudged_9 rfl (lv_at hl 3 rfl) ?_
    refine va_calli (va_runV (As := [.int p2, .int p3]) (rest := []) ⟨hx, hb, hml, hown, hts⟩ (m_X8_hasPair l D cy g σ  p2 p3 _ hJ ) (cwV 2 hts (gd_V q918 q920 q19 q125 q921) rfl rfl rfl (by decide +kernel) ⟨(Nat.le_of_ble_eq_true rfl), (Nat.le_of_ble_eq_true rfl)⟩) (pv8 hP hK hD hC hS (rv8_8 hK hP)) rfl rfl hl.1 rfl (lv_room (Nat.le_of_ble_eq_true rfl)) dX8_layJudged_10 ⟨Nat.le_of_ble_eq_true rfl, Nat.le_of_ble_eq_true rfl⟩) hS (fun q _ h => up8 hS q h) (up8 hS) (fun r10 σ11 tS H1 locs ht hvm hw12 hB hz1 hk1 hS => ?_)
    have hP : va_P D clz (WD8 cy g σ11) H1 := by rw [← ht]; exact hB
    clear hB hz1 hk1 hvm ht
    generalize H1 = H at hP hS ⊢
    have hw12E : σ = σ11 := (hw12.1).symm
    subst hw12E
    have b13 : (0 : Int) ≤ r10.toInt ∧ r10.toInt ≤ 1 := hw12.2.1
    refine lv_if_ne (tgt := 19) hx hb dX8_layJudged_13 (by decide) (fun c14 => ?_) (fun c14 => ?_)
    ·
      have k15 := neq32 c14
      refine lv_aload_n hx hb dX8_layJudged_19 rfl (lv_at hl 0 rfl) ?_
      refine g8_8_5 hx hb hts hown hK hP (hts _ q439) dX8_layJudged_20 ?_
      refine lv_iload_n hx hb dX8_layJudged_23 rfl (lv_at hl 1 rfl) ?_
      obtain ⟨dx16, edx16⟩ : ∃ z : Nat, 5 + p1.toInt.toNat = z := ⟨_, rfl⟩
      have hdx16 : 5 ≤ dx16 ∧ dx16 < 9 := mrow (n := 4) (by have f0 := b5; have f1 := b6; have f2 := b4; have f3 := k9; have g0 := rg32 p1; have z0 : (0 : Int32).toInt = 0 := (by decide); omega) edx16 rfl
      refine l8_8_5 hx hb hK hP (vpo (by have f0 := b5; have f1 := b6; have f2 := b4; have f3 := k9; have g0 := rg32 p1; have z0 : (0 : Int32).toInt = 0 := (by decide); omega)) edx16 dX8_layJudged_24 ?_
      refine g8_5_0 (x := ((σ dx16).1 0)) hx hb hts hown hK hP hdx16 (rfl) (hts _ q417) dX8_layJudged_25 ?_
      refine lv_if_ne (tgt := 34) hx hb dX8_layJudged_28 (by decide) (fun c17 => ?_) (fun c17 => ?_)
      ·
        have k18 := neq32 c17
        refine lv_aload_n hx hb dX8_layJudged_34 rfl (lv_at hl 0 rfl) ?_
        refine g8_8_8 hx hb hts hown hK hP (hts _ q442) dX8_layJudged_35 ?_
        refine lv_aload_n hx hb dX8_layJudged_38 rfl (lv_at hl 0 rfl) ?_
        obtain ⟨dx19, edx19⟩ : ∃ z : Nat, ((σ 17).1 1).toInt.toNat = z := ⟨_, rfl⟩
        have hdx19 : 0 ≤ dx19 ∧ dx19 < 5 := mnow (by have f0 := j8_8_1 hJ rfl; omega) edx19
        refine g8_8_1 (o := dx19) hx hb hts hown hK hP edx19 (hts _ q435) dX8_layJudged_39 ?_
        refine lv_iload_n hx hb dX8_layJudged_42 rfl (lv_at hl 2 rfl) ?_
        refine lv_iload_n hx hb dX8_layJudged_43 rfl (lv_at hl 3 rfl) ?_
        refine va_callv (va_runV (As := [.ref (gO g dx19), .int p2, .int p3]) (rest := []) ⟨hx, hb, hml, hown, hts⟩ (m_X3_aim l D cy g σ  dx19 p2 p3 _ hJ (show 0 ≤ dx19 ∧ dx19 < 5 from hdx19)) (cwV 3 hts (gd_V q922 q923 q924 q129 q925) rfl rfl rfl (by decide +kernel) ⟨(Nat.le_of_ble_eq_true rfl), (Nat.le_of_ble_eq_true rfl)⟩) (pv8 hP hK hD hC hS (rv8_3 hK hP)) rfl rfl hl.1 rfl (lv_room (Nat.le_of_ble_eq_true rfl)) dX8_layJudged_44 ⟨Nat.le_of_ble_eq_true rfl, Nat.le_of_ble_eq_true rfl⟩) hS (fun q _ h => up8 hS q h) (up8 hS) (fun σ21 tS H1 locs ht hvm hw22 hB hz1 hk1 hS => ?_)
        have hP : va_P D clz (WD8 cy g σ21) H1 := by rw [← ht]; exact hB
        clear hB hz1 hk1 hvm ht
        generalize H1 = H at hP hS ⊢
        have hF23 : Fr (fO [11, 13]) σ σ21 := hw22.1
        have hJ24 : J8 σ21 := hw22.2.1
        refine lv_aload_n hx hb dX8_layJudged_47 rfl (lv_at hl 0 rfl) ?_
        refine g8_8_5 hx hb hts hown hK hP (hts _ q439) dX8_layJudged_48 ?_
        refine lv_iload_n hx hb dX8_layJudged_51 rfl (lv_at hl 1 rfl) ?_
        refine l8_8_5 hx hb hK hP (vpo (by have f0 := b5; have f1 := b6; have f2 := b4; have f3 := k9; have g0 := rg32 p1; have z0 : (0 : Int32).toInt = 0 := (by decide); omega)) edx16 dX8_layJudged_52 ?_
        refine g8_5_2 (x := ((σ dx16).1 2)) hx hb hts hown hK hP hdx16 ((hF23 dx16 2 (fO_n (nmc (nel hdx16 (by decide)) (nmc (nel hdx16 (by decide)) nm0)))).1) (hts _ q421) dX8_layJudged_53 ?_
        refine lv_aload_n hx hb dX8_layJudged_56 rfl (lv_at hl 0 rfl) ?_
        refine g8_8_8 hx hb hts hown hK hP (hts _ q442) dX8_layJudged_57 ?_
        refine g8_3_0 (x := ((σ21 13).1 0)) hx hb hts hown hK hP (rfl) (hts _ q281) dX8_layJudged_60 ?_
        refine lv_icmp_ge (tgt := 69) hx hb dX8_layJudged_63 (by decide) (fun c25 => ?_) (fun c25 => ?_)
        ·
          have k26 := ple32 c25
          refine lv_aload_n hx hb dX8_layJudged_69 rfl (lv_at hl 0 rfl) ?_
          refine g8_8_8 hx hb hts hown hK hP (hts _ q442) dX8_layJudged_70 ?_
          refine lv_aload_n hx hb dX8_layJudged_73 rfl (lv_at hl 0 rfl) ?_
          refine g8_8_1 (o := dx19) hx hb hts hown hK hP ((congrArg (fun z : Int32 => z.toInt.toNat) ((hF23 17 1 (fO_n (nmc (by decide) (nmc (by decide) nm0)))).1)).trans edx19) (hts _ q435) dX8_layJudged_74 ?_
          refine g8_0_0 (x := ((σ dx19).1 0)) hx hb hts hown hK hP hdx19 ((hF23 dx19 0 (fO_n (nmc (nel hdx19 (by decide)) (nmc (nel hdx19 (by decide)) nm0)))).1) (hts _ q194) dX8_layJudged_77 ?_
          refine lv_iconst (v := 0) hx hb dX8_layJudged_80 (by decide) ?_
          refine va_callv (va_runV (As := [.int ((σ dx19).1 0), .int 0]) (rest := []) ⟨hx, hb, hml, hown, hts⟩ (m_X3_layWays l D cy g σ21  ((σ dx19).1 0) (0) _ hJ24 ) (cwV 2 hts (gd_V q936 q937 q938 q129 q939) rfl rfl rfl (by decide +kernel) ⟨(Nat.le_of_ble_eq_true rfl), (Nat.le_of_ble_eq_true rfl)⟩) (pv8 hP hK hD hC hS (rv8_3 hK hP)) rfl rfl hl.1 rfl (lv_room (Nat.le_of_ble_eq_true rfl)) dX8_layJudged_81 ⟨Nat.le_of_ble_eq_true rfl, Nat.le_of_ble_eq_true rfl⟩) hS (fun q _ h => up8 hS q h) (up8 hS) (fun σ28 tS H1 locs ht hvm hw29 hB hz1 hk1 hS => ?_)
          have hP : va_P D clz (WD8 cy g σ28) H1 := by rw [← ht]; exact hB
          clear hB hz1 hk1 hvm ht
          generalize H1 = H at hP hS ⊢
          have hF30 : Fr (fO [13]) σ21 σ28 := hw29.1
          have hJ31 : J8 σ28 := hw29.2.1
          refine lv_iconst (v := 0) hx hb dX8_layJudged_84 (by decide) ?_
          exact W.iret (v := 0) hx hb hr (fun tS ht hW => ⟨⟨0, σ28, rfl, ⟨Fr.tr (Fr.tr (Fr.rf) hF23 (fO_sub (fun _ q => q))) hF30 (fO_sub (by simp)), hJ31, (show (-7 : Int) ≤ (0 : Int32).toInt ∧ (0 : Int32).toInt ≤ 0 from (by have z0 : (0 : Int32).toInt = 0 := (by decide); omega)), (show (¬ (0 : Int32).toInt = 0) ∨ ((0 : Int) ≤ p1.toInt ∧ p1.toInt ≤ 3) from (by have f0 := b5; have f1 := b6; have f2 := b4; have f3 := k9; have g0 := rg32 p1; have z0 : (0 : Int32).toInt = 0 := (by decide); omega)), trivial⟩, (show va_P D clz (WD8 cy g σ28) tS.heap by rw [ht]; exact hP)⟩, hS.F ht⟩) hS.2.2 dX8_layJudged_85
        ·
          have k32 := nle32 c25
          refine lv_bipush (v := (-7)) hx hb dX8_layJudged_66 (by decide) ?_
          exact W.iret (v := (-7)) hx hb hr (fun tS ht hW => ⟨⟨(-7), σ21, rfl, ⟨Fr.tr (Fr.rf) hF23 (fO_sub (fun _ q => q)), hJ24, (show (-7 : Int) ≤ ((-7) : Int32).toInt ∧ ((-7) : Int32).toInt ≤ 0 from (by have zm7 : ((-7) : Int32).toInt = (-7) := (by decide); omega)), (show (¬ ((-7) : Int32).toInt = 0) ∨ ((0 : Int) ≤ p1.toInt ∧ p1.toInt ≤ 3) from (by have f0 := b5; have f1 := b6; have f2 := b4; have f3 := k9; have g0 := rg32 p1; have zm7 : ((-7) : Int32).toInt = (-7) := (by decide); have z0 : (0 : Int32).toInt = 0 := (by decide); omega)), trivial⟩, (show va_P D clz (WD8 cy g σ21) tS.heap by rw [ht]; exact hP)⟩, hS.F ht⟩) hS.2.2 dX8_layJudged_68
      ·
        have k33 := peq32 c17
        refine lv_bipush (v := (-6)) hx hb dX8_layJudged_31 (by decide) ?_
        exact W.iret (v := (-6)) hx hb hr (fun tS ht hW => ⟨⟨(-6), σ, rfl, ⟨Fr.rf, hJ, (show (-7 : Int) ≤ ((-6) : Int32).toInt ∧ ((-6) : Int32).toInt ≤ 0 from (by have zm6 : ((-6) : Int32).toInt = (-6) := (by decide); omega)), (show (¬ ((-6) : Int32).toInt = 0) ∨ ((0 : Int) ≤ p1.toInt ∧ p1.toInt ≤ 3) from (by have f0 := b5; have f1 := b6; have f2 := b4; have f3 := k9; have g0 := rg32 p1; have zm6 : ((-6) : Int32).toInt = (-6) := (by decide); have z0 : (0 : Int32).toInt = 0 := (by decide); omega)), trivial⟩, (show va_P D clz (WD8 cy g σ) tS.heap by rw [ht]; exact hP)⟩, hS.F ht⟩) hS.2.2 dX8_layJudged_33
    ·
      have k34 := peq32 c14
      refine lv_bipush (v := (-2)) hx hb dX8_layJudged_16 (by decide) ?_
      exact W.iret (v := (-2)) hx hb hr (fun tS ht hW => ⟨⟨(-2), σ, rfl, ⟨Fr.rf, hJ, (show (-7 : Int) ≤ ((-2) : Int32).toInt ∧ ((-2) : Int32).toInt ≤ 0 from (by have zm2 : ((-2) : Int32).toInt = (-2) := (by decide); omega)), (show (¬ ((-2) : Int32).toInt = 0) ∨ ((0 : Int) ≤ p1.toInt ∧ p1.toInt ≤ 3) from (by have f0 := b5; have f1 := b6; have f2 := b4; have f3 := k9; have g0 := rg32 p1; have zm2 : ((-2) : Int32).toInt = (-2) := (by decide); have z0 : (0 : Int32).toInt = 0 := (by decide); omega)), trivial⟩, (show va_P D clz (WD8 cy g σ) tS.heap by rw [ht]; exact hP)⟩, hS.F ht⟩) hS.2.2 dX8_layJudged_18

theorem q1277 : Cond.code yX5_numberAt cX5_numberAt 2 (some .long) ∈ lw_g := lw_gm (List.mem_of_getElem? (i := 1277) (by decide +kernel)) rfl
theorem q420 : Cond.fieldLink RX5 23 "LipsAndSlides$Row" "length" "I" ∈ lw_g := lw_gm (List.mem_of_getElem? (i := 420) (by decide +kernel)) rfl
theorem q1278 : Cond.constantLong RX5 26 (-1) ∈ lw_g := lw_gm (List.mem_of_getElem? (i := 1278) (by decide +kernel)) rfl
theorem q422 : Cond.fieldLink RX5 9 "LipsAndSlides$Row" "numbers" "[J" ∈ lw_g := lw_gm (List.mem_of_getElem? (i := 422) (by decide +kernel)) rfl
theorem dX5_numberAt_0 : decode cX5_numberAt 0 = .ok (.iload_n 1, 1) := by decide +kernel
theorem dX5_numberAt_1 : decode cX5_numberAt 1 = .ok (.ifCond .lt 26, 3) := by decide +kernel
theorem dX5_numberAt_4 : decode cX5_numberAt 4 = .ok (.iload_n 1, 1) := by decide +kernel
theorem dX5_numberAt_5 : decode cX5_numberAt 5 = .ok (.aload_n 0, 1) := by decide +kernel
theorem dX5_numberAt_6 : decode cX5_numberAt 6 = .ok (.getfield 23, 3) := by decide +kernel
theorem dX5_numberAt_9 : decode cX5_numberAt 9 = .ok (.if_icmp .ge 18, 3) := by decide +kernel
theorem dX5_numberAt_12 : decode cX5_numberAt 12 = .ok (.iload_n 1, 1) := by decide +kernel
theorem dX5_numberAt_13 : decode cX5_numberAt 13 = .ok (.bipush 60, 2) := by decide +kernel
theorem dX5_numberAt_15 : decode cX5_numberAt 15 = .ok (.if_icmp .ge 12, 3) := by decide +kernel
theorem dX5_numberAt_18 : decode cX5_numberAt 18 = .ok (.aload_n 0, 1) := by decide +kernel
theorem dX5_numberAt_19 : decode cX5_numberAt 19 = .ok (.getfield 9, 3) := by decide +kernel
theorem dX5_numberAt_22 : decode cX5_numberAt 22 = .ok (.iload_n 1, 1) := by decide +kernel
theorem dX5_numberAt_23 : decode cX5_numberAt 23 = .ok (.laload, 1) := by decide +kernel
theorem dX5_numberAt_24 : decode cX5_numberAt 24 = .ok (.goto 6, 3) := by decide +kernel
theorem dX5_numberAt_27 : decode cX5_numberAt 27 = .ok (.ldc2_w 26, 3) := by decide +kernel
theorem dX5_numberAt_30 : decode cX5_numberAt 30 = .ok (.lreturn, 1) := by decide +kernel
set_option maxHeartbeats 4000000 in
set_option maxRecDepth 100000 in
theorem m_X5_numberAt (l : Launch) (D : va_G) (cy : Nat → ClassId) (g : Nat → Nat) (σ : ST) (d0 : Nat) (p1 : Int32) (sz : Nat) (hJ : J8 σ) (hd0 : 5 ≤ d0 ∧ d0 < 9) (h0 : (0 : Int) ≤ p1.toInt ∧ p1.toInt ≤ 59) : Met l yX5_numberAt (ww yX5_numberAt cX5_numberAt 2 (some .long)) ({ frames := 1, cells := 0, slots := 0, locals := 64 }) (va_Pc [.ref (gO g d0), .int p1] (pr8 D cy g σ sz)) (ql8 D cy g sz (fun r τ => τ = σ ∧ True)) 0 0 (A8 cy g sz) := by
  refine Met.ofW (cc := cX5_numberAt) (maxL := 2) (ret := (some .long)) (by decide) rfl ?_
  intro p e s m args below meth c s₁ B hml hv
  obtain ⟨rfl, hsz, hP, hK, hD0, hC⟩ := hv
  have hx := B.exec
  have hb := B.bytes
  have hr := B.returns
  have hts := hts_g (atoms_spec (ws := ww yX5_numberAt cX5_numberAt 2 (some .long)) B.pre)
  have hown : s.vm.findClass RX5 = some m.cls := findClass_of_methodNamed B.named
  have hlocks := B.notSynchronized
  clear B
  subst hsz
  have hD := fun τ => A8_D (sz := s.heap.size) hD0 τ
  clear hD0
  have hS : va_S (A8 cy g s.heap.size) s.heap s.heap [] := va_S.rf
  have hl := lv_entry ([.ref (gO g d0), .int p1]) (n := 2) (Nat.le_of_ble_eq_true rfl)
  rw [lg_entry_eq]
  generalize (lg_sl ([.ref (gO g d0), .int p1]) ++ List.replicate (2 - (lg_sl ([.ref (gO g d0), .int p1])).length) Slot.unset).toArray = ls at hl ⊢
  have hl : lv_has ls 2 [(0, .ref (gO g d0)), (1, .int p1)] := hl
  refine lv_iload_n hx hb dX5_numberAt_0 rfl (lv_at hl 1 rfl) ?_
  refine lv_if_lt (tgt := 27) hx hb dX5_numberAt_1 (by decide) (fun c1 => ?_) (fun c1 => ?_)
  ·
    have k2 := plt32 c1
    exact False.elim (by have f0 := h0; have f1 := k2; have g0 := rg32 p1; have z0 : (0 : Int32).toInt = 0 := (by decide); omega)
  ·
    have k3 := nlt32 c1
    refine lv_iload_n hx hb dX5_numberAt_4 rfl (lv_at hl 1 rfl) ?_
    refine lv_aload_n hx hb dX5_numberAt_5 rfl (lv_at hl 0 rfl) ?_
    refine g8_5_2 (x := ((σ d0).1 2)) hx hb hts hown hK hP hd0 (rfl) (hts _ q420) dX5_numberAt_6 ?_
    refine lv_icmp_ge (tgt := 27) hx hb dX5_numberAt_9 (by decide) (fun c4 => ?_) (fun c4 => ?_)
    ·
      have k5 := ple32 c4
      refine lv_ldc2 (v := (-1)) hx hb hown (hts _ q1278) dX5_numberAt_27 ?_
      exact W.lret (v := (-1)) hx hb hr (fun tS ht hW => ⟨⟨(-1), σ, rfl, ⟨rfl, trivial⟩, (show va_P D clz (WD8 cy g σ) tS.heap by rw [ht]; exact hP)⟩, hS.F ht⟩) hS.2.2 dX5_numberAt_30
    ·
      have k6 := nle32 c4
      refine lv_iload_n hx hb dX5_numberAt_12 rfl (lv_at hl 1 rfl) ?_
      refine lv_bipush (v := 60) hx hb dX5_numberAt_13 (by decide) ?_
      refine lv_icmp_ge (tgt := 27) hx hb dX5_numberAt_15 (by decide) (fun c7 => ?_) (fun c7 => ?_)
      ·
        have k8 := ple32 c7
        exact False.elim (by have f0 := h0; have f1 := k3; have f2 := k6; have f3 := k8; have f4 := j8_5_2 hJ hd0 rfl; have g0 := rg32 p1; have z0 : (0 : Int32).toInt = 0 := (by decide); have z60 : (60 : Int32).toInt = 60 := (by decide); omega)
      ·
        have k9 := nle32 c7
        refine lv_aload_n hx hb dX5_numberAt_18 rfl (lv_at hl 0 rfl) ?_
        refine g8_5_3 hx hb hts hown hK hP hd0 (hts _ q422) dX5_numberAt_19 ?_
        refine lv_iload_n hx hb dX5_numberAt_22 rfl (lv_at hl 1 rfl) ?_
        obtain ⟨x10, ex10⟩ : ∃ z, (σ d0).2.2.2 3 p1.toInt.toNat = z := ⟨_, rfl⟩
        refine l8_5_3 (x := x10) hx hb hK hP hd0 (vpo (by have f0 := h0; have f1 := k3; have f2 := k6; have f3 := k9; have f4 := j8_5_2 hJ hd0 rfl; have g0 := rg32 p1; have z0 : (0 : Int32).toInt = 0 := (by decide); have z60 : (60 : Int32).toInt = 60 := (by decide); omega)) ex10 dX5_numberAt_23 ?_
        refine lv_goto (tgt := 30) hx hb dX5_numberAt_24 (by decide) ?_
        exact W.lret (v := x10) hx hb hr (fun tS ht hW => ⟨⟨x10, σ, rfl, ⟨rfl, trivial⟩, (show va_P D clz (WD8 cy g σ) tS.heap by rw [ht]; exact hP)⟩, hS.F ht⟩) hS.2.2 dX5_numberAt_30

theorem q1273 : Cond.code yX3_countRight cX3_countRight 5 (some .int) ∈ lw_g := lw_gm (List.mem_of_getElem? (i := 1273) (by decide +kernel)) rfl
theorem q1274 : Cond.methodLink RX3 169 yX5_numberAt ∈ lw_g := lw_gm (List.mem_of_getElem? (i := 1274) (by decide +kernel)) rfl
theorem q1275 : Cond.instanceMethod yX5_numberAt ∈ lw_g := lw_gm (List.mem_of_getElem? (i := 1275) (by decide +kernel)) rfl
theorem q1276 : Cond.selects RX5 yX5_numberAt yX5_numberAt ∈ lw_g := lw_gm (List.mem_of_getElem? (i := 1276) (by decide +kernel)) rfl
theorem q133 : Cond.initialized RX5 ∈ lw_g := lw_gm (List.mem_of_getElem? (i := 133) (by decide +kernel)) rfl
theorem dX3_countRight_0 : decode cX3_countRight 0 = .ok (.iconst 0, 1) := by decide +kernel
theorem dX3_countRight_1 : decode cX3_countRight 1 = .ok (.istore_n 2, 1) := by decide +kernel
theorem dX3_countRight_2 : decode cX3_countRight 2 = .ok (.iload_n 2, 1) := by decide +kernel
theorem dX3_countRight_3 : decode cX3_countRight 3 = .ok (.aload_n 0, 1) := by decide +kernel
theorem dX3_countRight_4 : decode cX3_countRight 4 = .ok (.getfield 75, 3) := by decide +kernel
theorem dX3_countRight_7 : decode cX3_countRight 7 = .ok (.if_icmp .ge 89, 3) := by decide +kernel
theorem dX3_countRight_10 : decode cX3_countRight 10 = .ok (.aload_n 1, 1) := by decide +kernel
theorem dX3_countRight_11 : decode cX3_countRight 11 = .ok (.iload_n 2, 1) := by decide +kernel
theorem dX3_countRight_12 : decode cX3_countRight 12 = .ok (.invokevirtual 169, 3) := by decide +kernel
theorem dX3_countRight_15 : decode cX3_countRight 15 = .ok (.lstore_n 3, 1) := by decide +kernel
theorem dX3_countRight_16 : decode cX3_countRight 16 = .ok (.lload_n 3, 1) := by decide +kernel
theorem dX3_countRight_17 : decode cX3_countRight 17 = .ok (.lconst 0, 1) := by decide +kernel
theorem dX3_countRight_18 : decode cX3_countRight 18 = .ok (.lcmp, 1) := by decide +kernel
theorem dX3_countRight_19 : decode cX3_countRight 19 = .ok (.ifCond .lt 24, 3) := by decide +kernel
theorem dX3_countRight_22 : decode cX3_countRight 22 = .ok (.lload_n 3, 1) := by decide +kernel
theorem dX3_countRight_23 : decode cX3_countRight 23 = .ok (.aload_n 0, 1) := by decide +kernel
theorem dX3_countRight_24 : decode cX3_countRight 24 = .ok (.getfield 34, 3) := by decide +kernel
theorem dX3_countRight_27 : decode cX3_countRight 27 = .ok (.iload_n 2, 1) := by decide +kernel
theorem dX3_countRight_28 : decode cX3_countRight 28 = .ok (.iconst 1, 1) := by decide +kernel
theorem dX3_countRight_29 : decode cX3_countRight 29 = .ok (.iadd, 1) := by decide +kernel
theorem dX3_countRight_30 : decode cX3_countRight 30 = .ok (.iaload, 1) := by decide +kernel
theorem dX3_countRight_31 : decode cX3_countRight 31 = .ok (.aload_n 0, 1) := by decide +kernel
theorem dX3_countRight_32 : decode cX3_countRight 32 = .ok (.getfield 34, 3) := by decide +kernel
theorem dX3_countRight_35 : decode cX3_countRight 35 = .ok (.iload_n 2, 1) := by decide +kernel
theorem dX3_countRight_36 : decode cX3_countRight 36 = .ok (.iaload, 1) := by decide +kernel
theorem dX3_countRight_37 : decode cX3_countRight 37 = .ok (.isub, 1) := by decide +kernel
theorem dX3_countRight_38 : decode cX3_countRight 38 = .ok (.i2l, 1) := by decide +kernel
theorem dX3_countRight_39 : decode cX3_countRight 39 = .ok (.lcmp, 1) := by decide +kernel
theorem dX3_countRight_40 : decode cX3_countRight 40 = .ok (.ifCond .lt 5, 3) := by decide +kernel
theorem dX3_countRight_43 : decode cX3_countRight 43 = .ok (.iload_n 2, 1) := by decide +kernel
theorem dX3_countRight_44 : decode cX3_countRight 44 = .ok (.ireturn, 1) := by decide +kernel
theorem dX3_countRight_45 : decode cX3_countRight 45 = .ok (.aload_n 0, 1) := by decide +kernel
theorem dX3_countRight_46 : decode cX3_countRight 46 = .ok (.getfield 37, 3) := by decide +kernel
theorem dX3_countRight_49 : decode cX3_countRight 49 = .ok (.iload_n 2, 1) := by decide +kernel
theorem dX3_countRight_50 : decode cX3_countRight 50 = .ok (.aload_n 0, 1) := by decide +kernel
theorem dX3_countRight_51 : decode cX3_countRight 51 = .ok (.getfield 34, 3) := by decide +kernel
theorem dX3_countRight_54 : decode cX3_countRight 54 = .ok (.iload_n 2, 1) := by decide +kernel
theorem dX3_countRight_55 : decode cX3_countRight 55 = .ok (.iaload, 1) := by decide +kernel
theorem dX3_countRight_56 : decode cX3_countRight 56 = .ok (.lload_n 3, 1) := by decide +kernel
theorem dX3_countRight_57 : decode cX3_countRight 57 = .ok (.l2i, 1) := by decide +kernel
theorem dX3_countRight_58 : decode cX3_countRight 58 = .ok (.iadd, 1) := by decide +kernel
theorem dX3_countRight_59 : decode cX3_countRight 59 = .ok (.iastore, 1) := by decide +kernel
theorem dX3_countRight_60 : decode cX3_countRight 60 = .ok (.iload_n 2, 1) := by decide +kernel
theorem dX3_countRight_61 : decode cX3_countRight 61 = .ok (.ifCond .le 29, 3) := by decide +kernel
theorem dX3_countRight_64 : decode cX3_countRight 64 = .ok (.aload_n 0, 1) := by decide +kernel
theorem dX3_countRight_65 : decode cX3_countRight 65 = .ok (.iload_n 2, 1) := by decide +kernel
theorem dX3_countRight_66 : decode cX3_countRight 66 = .ok (.iconst 1, 1) := by decide +kernel
theorem dX3_countRight_67 : decode cX3_countRight 67 = .ok (.isub, 1) := by decide +kernel
theorem dX3_countRight_68 : decode cX3_countRight 68 = .ok (.aload_n 0, 1) := by decide +kernel
theorem dX3_countRight_69 : decode cX3_countRight 69 = .ok (.getfield 37, 3) := by decide +kernel
theorem dX3_countRight_72 : decode cX3_countRight 72 = .ok (.iload_n 2, 1) := by decide +kernel
theorem dX3_countRight_73 : decode cX3_countRight 73 = .ok (.iconst 1, 1) := by decide +kernel
theorem dX3_countRight_74 : decode cX3_countRight 74 = .ok (.isub, 1) := by decide +kernel
theorem dX3_countRight_75 : decode cX3_countRight 75 = .ok (.iaload, 1) := by decide +kernel
theorem dX3_countRight_76 : decode cX3_countRight 76 = .ok (.aload_n 0, 1) := by decide +kernel
theorem dX3_countRight_77 : decode cX3_countRight 77 = .ok (.getfield 37, 3) := by decide +kernel
theorem dX3_countRight_80 : decode cX3_countRight 80 = .ok (.iload_n 2, 1) := by decide +kernel
theorem dX3_countRight_81 : decode cX3_countRight 81 = .ok (.iaload, 1) := by decide +kernel
theorem dX3_countRight_82 : decode cX3_countRight 82 = .ok (.invokevirtual 132, 3) := by decide +kernel
theorem dX3_countRight_85 : decode cX3_countRight 85 = .ok (.ifCond .ne 5, 3) := by decide +kernel
theorem dX3_countRight_88 : decode cX3_countRight 88 = .ok (.iload_n 2, 1) := by decide +kernel
theorem dX3_countRight_89 : decode cX3_countRight 89 = .ok (.ireturn, 1) := by decide +kernel
theorem dX3_countRight_90 : decode cX3_countRight 90 = .ok (.iinc 2 1, 3) := by decide +kernel
theorem dX3_countRight_93 : decode cX3_countRight 93 = .ok (.goto (-91), 3) := by decide +kernel
theorem dX3_countRight_96 : decode cX3_countRight 96 = .ok (.aload_n 0, 1) := by decide +kernel
theorem dX3_countRight_97 : decode cX3_countRight 97 = .ok (.getfield 75, 3) := by decide +kernel
theorem dX3_countRight_100 : decode cX3_countRight 100 = .ok (.ireturn, 1) := by decide +kernel
set_option maxHeartbeats 4000000 in
set_option maxRecDepth 100000 in
theorem m_X3_countRight (l : Launch) (D : va_G) (cy : Nat → ClassId) (g : Nat → Nat) (σ : ST) (d1 : Nat) (sz : Nat) (hJ : J8 σ) (hd1 : 5 ≤ d1 ∧ d1 < 9) : Met l yX3_countRight (ww yX3_countRight cX3_countRight 5 (some .int)) ({ frames := 3, cells := 0, slots := 0, locals := 192 }) (va_Pc [.ref (gO g 13), .ref (gO g d1)] (pr8 D cy g σ sz)) (qi8 D cy g sz (fun r τ => Fr (fO [13]) σ τ ∧ J8 τ ∧ ((0 : Int) ≤ r.toInt ∧ r.toInt ≤ 16) ∧ True)) 0 0 (A8 cy g sz) := by
  refine Met.ofW (cc := cX3_countRight) (maxL := 5) (ret := (some .int)) (by decide) rfl ?_
  intro p e s m args below meth c s₁ B hml hv
  obtain ⟨rfl, hsz, hP, hK, hD0, hC⟩ := hv
  have hx := B.exec
  have hb := B.bytes
  have hr := B.returns
  have hts := hts_g (atoms_spec (ws := ww yX3_countRight cX3_countRight 5 (some .int)) B.pre)
  have hown : s.vm.findClass RX3 = some m.cls := findClass_of_methodNamed B.named
  have hlocks := B.notSynchronized
  clear B
  subst hsz
  have hD := fun τ => A8_D (sz := s.heap.size) hD0 τ
  clear hD0
  have hS : va_S (A8 cy g s.heap.size) s.heap s.heap [] := va_S.rf
  have hl := lv_entry ([.ref (gO g 13), .ref (gO g d1)]) (n := 5) (Nat.le_of_ble_eq_true rfl)
  rw [lg_entry_eq]
  generalize (lg_sl ([.ref (gO g 13), .ref (gO g d1)]) ++ List.replicate (5 - (lg_sl ([.ref (gO g 13), .ref (gO g d1)])).length) Slot.unset).toArray = ls at hl ⊢
  have hl : lv_has ls 5 [(0, .ref (gO g 13)), (1, .ref (gO g d1))] := hl
  refine lv_iconst (v := 0) hx hb dX3_countRight_0 (by decide) ?_
  refine lv_istore_n (lv' := [(2, .int 0), (0, .ref (gO g 13)), (1, .ref (gO g d1))]) hx hb dX3_countRight_1 rfl hl (by decide) rfl (fun ls hl => ?_)
  refine loop8 5 2 (fun x : LZ => [(2, .int (x.2.1 0)), (0, .ref (gO g 13)), (1, .ref (gO g d1))]) (fun x : LZ => (Fr (fO [13]) σ x.1) ∧ (J8 x.1) ∧ ((0 : Int) ≤ (x.2.1 0).toInt ∧ (x.2.1 0).toInt ≤ 16) ∧ True) (fun x : LZ => ((17 : Int) - (x.2.1 0).toInt).toNat) ?_ (σ, lf [0], lg []) ⟨Fr.rf, hJ, (show (0 : Int) ≤ (0 : Int32).toInt ∧ (0 : Int32).toInt ≤ 16 from (by have z0 : (0 : Int32).toInt = 0 := (by decide); omega)), trivial⟩ _ _ _ hP hS (lv_sub hl [0, 1, 2] rfl)
  intro y3 hI2 nl1 H locs ls hP hS hl
  obtain ⟨σ4, eσ4⟩ : ∃ z, z = y3.1 := ⟨_, rfl⟩
  rw [← eσ4] at hP hI2
  have hF5 : Fr (fO [13]) σ σ4 := hI2.1
  have hJ6 : J8 σ4 := hI2.2.1
  have b7 : (0 : Int) ≤ (y3.2.1 0).toInt ∧ (y3.2.1 0).toInt ≤ 16 := hI2.2.2.1
  have hl : lv_has ls 5 [(2, .int (y3.2.1 0)), (0, .ref (gO g 13)), (1, .ref (gO g d1))] := hl
  refine lv_iload_n hx hb dX3_countRight_2 rfl (lv_at hl 0 rfl) ?_
  refine lv_aload_n hx hb dX3_countRight_3 rfl (lv_at hl 1 rfl) ?_
  refine g8_3_0 (x := ((σ4 13).1 0)) hx hb hts hown hK hP (rfl) (hts _ q280) dX3_countRight_4 ?_
  refine lv_icmp_ge (tgt := 96) hx hb dX3_countRight_7 (by decide) (fun c8 => ?_) (fun c8 => ?_)
  ·
    have k9 := ple32 c8
    refine lv_aload_n hx hb dX3_countRight_96 rfl (lv_at hl 1 rfl) ?_
    refine g8_3_0 (x := ((σ4 13).1 0)) hx hb hts hown hK hP (rfl) (hts _ q280) dX3_countRight_97 ?_
    exact W.iret (v := ((σ4 13).1 0)) hx hb hr (fun tS ht hW => ⟨⟨((σ4 13).1 0), σ4, rfl, ⟨Fr.tr (Fr.rf) hF5 (fO_sub (fun _ q => q)), hJ6, (show (0 : Int) ≤ ((σ4 13).1 0).toInt ∧ ((σ4 13).1 0).toInt ≤ 16 from (by have f0 := j8_3_0 hJ6 rfl; have f1 := k9; have f2 := b7; omega)), trivial⟩, (show va_P D clz (WD8 cy g σ4) tS.heap by rw [ht]; exact hP)⟩, hS.F ht⟩) hS.2.2 dX3_countRight_100
  ·
    have k10 := nle32 c8
    refine lv_aload_n hx hb dX3_countRight_10 rfl (lv_at hl 2 rfl) ?_
    refine lv_iload_n hx hb dX3_countRight_11 rfl (lv_at hl 0 rfl) ?_
    refine va_calll (va_runV (As := [.int (y3.2.1 0)]) (rest := []) ⟨hx, hb, hml, hown, hts⟩ (m_X5_numberAt l D cy g σ4  d1 (y3.2.1 0) _ hJ6 (show 5 ≤ d1 ∧ d1 < 9 from hd1) (show (0 : Int) ≤ (y3.2.1 0).toInt ∧ (y3.2.1 0).toInt ≤ 59 from (by have f0 := b7; have f1 := k10; have f2 := j8_3_0 hJ6 rfl; have g0 := rg32 (y3.2.1 0); omega))) (cwV 1 hts (gd_V q1274 q1275 q1276 q133 q1277) rfl rfl rfl (by decide +kernel) ⟨(Nat.le_of_ble_eq_true rfl), (Nat.le_of_ble_eq_true rfl)⟩) (pv8 hP hK hD hC hS (rv8_5 hK hP hd1)) rfl rfl hl.1 rfl (lv_room (Nat.le_of_ble_eq_true rfl)) dX3_countRight_12 ⟨Nat.le_of_ble_eq_true rfl, Nat.le_of_ble_eq_true rfl⟩) hS (fun q _ h => up8 hS q h) (up8 hS) (fun r11 σ12 tS H1 locs ht hvm hw13 hB hz1 hk1 hS => ?_)
    have hP : va_P D clz (WD8 cy g σ12) H1 := by rw [← ht]; exact hB
    clear hB hz1 hk1 hvm ht
    generalize H1 = H at hP hS ⊢
    have hw13E : σ4 = σ12 := (hw13.1).symm
    subst hw13E
    refine lv_lstore_n (lv' := [(3, .long r11), (2, .int (y3.2.1 0)), (0, .ref (gO g 13)), (1, .ref (gO g d1))]) hx hb dX3_countRight_15 rfl hl (by decide) rfl (fun ls hl => ?_)
    refine lv_lload_n hx hb dX3_countRight_16 rfl (lv_at hl 0 rfl) ?_
    refine lv_lconst (v := 0) hx hb dX3_countRight_17 (by decide) ?_
    refine W.lcmp hx hb dX3_countRight_18 ?_
    refine lv_if_lt (tgt := 43) hx hb dX3_countRight_19 (by decide) (fun c14 => ?_) (fun c14 => ?_)
    ·
      have k15 := plt64 ((lg_cmp_lt r11 (0 : Int64)).mp c14)
      refine lv_iload_n hx hb dX3_countRight_43 rfl (lv_at hl 1 rfl) ?_
      exact W.iret (v := (y3.2.1 0)) hx hb hr (fun tS ht hW => ⟨⟨(y3.2.1 0), σ4, rfl, ⟨Fr.tr (Fr.rf) hF5 (fO_sub (fun _ q => q)), hJ6, (show (0 : Int) ≤ (y3.2.1 0).toInt ∧ (y3.2.1 0).toInt ≤ 16 from (by have f0 := b7; have f1 := k10; have f2 := j8_3_0 hJ6 rfl; have g0 := rg32 (y3.2.1 0); omega)), trivial⟩, (show va_P D clz (WD8 cy g σ4) tS.heap by rw [ht]; exact hP)⟩, hS.F ht⟩) hS.2.2 dX3_countRight_44
    ·
      have k16 := nlt64 (fun q => c14 ((lg_cmp_lt r11 (0 : Int64)).mpr q))
      refine lv_lload_n hx hb dX3_countRight_22 rfl (lv_at hl 0 rfl) ?_
      refine lv_aload_n hx hb dX3_countRight_23 rfl (lv_at hl 2 rfl) ?_
      refine g8_3_12 hx hb hts hown hK hP (hts _ q297) dX3_countRight_24 ?_
      refine lv_iload_n hx hb dX3_countRight_27 rfl (lv_at hl 1 rfl) ?_
      refine lv_iconst (v := 1) hx hb dX3_countRight_28 (by decide) ?_
      refine lv_iadd hx hb dX3_countRight_29 ?_
      refine lv_topi (fun x17 ex17 => ?_)
      have t18 := addO ex17 (by have f0 := b7; have f1 := k10; have f2 := j8_3_0 hJ6 rfl; have g0 := rg32 (y3.2.1 0); have z1 : (1 : Int32).toInt = 1 := (by decide); omega)
      obtain ⟨x19, ex19⟩ : ∃ z, (σ4 13).2.2.1 12 x17.toInt.toNat = z := ⟨_, rfl⟩
      refine l8_3_12 (x := x19) hx hb hK hP (vpo (by have f0 := t18; have f1 := b7; have f2 := k10; have f3 := j8_3_0 hJ6 rfl; have g0 := rg32 x17; have z1 : (1 : Int32).toInt = 1 := (by decide); omega)) ex19 dX3_countRight_30 ?_
      have t20 := a8_3_12 hJ6 ex19
      refine lv_aload_n hx hb dX3_countRight_31 rfl (lv_at hl 2 rfl) ?_
      refine g8_3_12 hx hb hts hown hK hP (hts _ q297) dX3_countRight_32 ?_
      refine lv_iload_n hx hb dX3_countRight_35 rfl (lv_at hl 1 rfl) ?_
      obtain ⟨x21, ex21⟩ : ∃ z, (σ4 13).2.2.1 12 (y3.2.1 0).toInt.toNat = z := ⟨_, rfl⟩
      refine l8_3_12 (x := x21) hx hb hK hP (vpo (by have f0 := b7; have f1 := k10; have f2 := t18; have f3 := j8_3_0 hJ6 rfl; have g0 := rg32 (y3.2.1 0); have z1 : (1 : Int32).toInt = 1 := (by decide); omega)) ex21 dX3_countRight_36 ?_
      have t22 := a8_3_12 hJ6 ex21
      refine lv_isub hx hb dX3_countRight_37 ?_
      refine lv_topi (fun x23 ex23 => ?_)
      have t24 := subO ex23 (by have f0 := t20; have f1 := t22; have g0 := rg32 x19; have g1 := rg32 x21; omega)
      refine lv_i2l (v := x23.toInt64) hx hb dX3_countRight_38 rfl ?_
      refine W.lcmp hx hb dX3_countRight_39 ?_
      refine lv_if_lt (tgt := 45) hx hb dX3_countRight_40 (by decide) (fun c25 => ?_) (fun c25 => ?_)
      ·
        have k26 := plt64 ((lg_cmp_lt r11 x23.toInt64).mp c25)
        refine lv_aload_n hx hb dX3_countRight_45 rfl (lv_at hl 2 rfl) ?_
        refine g8_3_13 hx hb hts hown hK hP (hts _ q298) dX3_countRight_46 ?_
        refine lv_iload_n hx hb dX3_countRight_49 rfl (lv_at hl 1 rfl) ?_
        refine lv_aload_n hx hb dX3_countRight_50 rfl (lv_at hl 2 rfl) ?_
        refine g8_3_12 hx hb hts hown hK hP (hts _ q297) dX3_countRight_51 ?_
        refine lv_iload_n hx hb dX3_countRight_54 rfl (lv_at hl 1 rfl) ?_
        refine l8_3_12 (x := x21) hx hb hK hP (vpo (by have f0 := b7; have f1 := k10; have f2 := t18; have f3 := j8_3_0 hJ6 rfl; have g0 := rg32 (y3.2.1 0); have z1 : (1 : Int32).toInt = 1 := (by decide); omega)) ex21 dX3_countRight_55 ?_
        refine lv_lload_n hx hb dX3_countRight_56 rfl (lv_at hl 0 rfl) ?_
        refine lv_l2i hx hb dX3_countRight_57 rfl ?_
        refine lv_topi (fun x27 ex27 => ?_)
        have t28 := l2iO ex27 (by have f0 := k16; have f1 := k26; have f2 := t64 (a := x23); have f3 := t24; have f4 := rg32 x23; have f5 := t20; have f6 := t22; have zl0 : (0 : Int64).toInt = 0 := (by decide); have w8 := t64 (a := x23); omega)
        refine lv_iadd hx hb dX3_countRight_58 ?_
        refine lv_topi (fun x29 ex29 => ?_)
        have t30 := addO ex29 (by have f0 := t22; have f1 := t24; have f2 := t28; have f3 := k16; have f4 := t20; have f5 := t64 (a := x23); have f6 := rg32 x23; have f7 := k26; have g0 := rg32 x21; have g1 := rg32 x27; have zl0 : (0 : Int64).toInt = 0 := (by decide); have w11 := t64 (a := x23); omega)
        refine t8_3_13 hx hb hK hP hD hS (vpo (by have f0 := b7; have f1 := k10; have f2 := t18; have f3 := j8_3_0 hJ6 rfl; have g0 := rg32 (y3.2.1 0); have z1 : (1 : Int32).toInt = 1 := (by decide); omega)) dX3_countRight_59 (fun H locs σ31 eσ31 hP hS => ?_)
        have hJ32 : J8 σ31 := hJ6.A eσ31 rfl (show PA8 3 13 x29 from (by have f0 := t30; have f1 := t22; have f2 := t24; have f3 := t28; have f4 := k16; have f5 := t20; have f6 := t64 (a := x23); have f7 := rg32 x23; have f8 := k26; have g0 := rg32 x29; have zl0 : (0 : Int64).toInt = 0 := (by decide); have w11 := t64 (a := x23); exact ⟨by omega, by omega⟩))
        refine lv_iload_n hx hb dX3_countRight_60 rfl (lv_at hl 1 rfl) ?_
        refine cut8 (D := D) (cy := cy) (g := g) (A := A8 cy g s.heap.size) (H0 := s.heap) 5 90 (fun x : LZ => [(3, .long r11), (2, .int (y3.2.1 0)), (0, .ref (gO g 13)), (1, .ref (gO g d1))]) (fun x : LZ => []) (fun x : LZ => (x.1 = σ31) ∧ True) ?_ ?_
        ·
          intro y35 hI34 H locs ls hP hS hl
          rw [show y35.1 = σ31 from hI34.1] at hP
          have hl : lv_has ls 5 [(3, .long r11), (2, .int (y3.2.1 0)), (0, .ref (gO g 13)), (1, .ref (gO g d1))] := hl
          obtain ⟨x36, ex36⟩ : ∃ y : Int32, y = (y3.2.1 0) + 1 := ⟨_, rfl⟩
          have t37 := addO ex36 (by have f0 := b7; have f1 := k10; have f2 := t18; have f3 := j8_3_0 hJ6 rfl; have g0 := rg32 (y3.2.1 0); have z1 : (1 : Int32).toInt = 1 := (by decide); omega)
          refine lv_iinc (v := x36) (lv' := [(2, .int x36), (3, .long r11), (0, .ref (gO g 13)), (1, .ref (gO g d1))]) hx hb dX3_countRight_90 hl (k := 1) rfl (by rw [ex36]; rfl) (by decide) rfl (fun ls hl => ?_)
          refine lv_goto (tgt := 2) hx hb dX3_countRight_93 (by decide) ?_
          have t38 : ((17 : Int) - x36.toInt).toNat < ((17 : Int) - (y3.2.1 0).toInt).toNat := (by have f0 := b7; have f1 := k10; have f2 := t18; have f3 := t37; have f4 := j8_3_0 hJ6 rfl; have g0 := rg32 (y3.2.1 0); have g1 := rg32 x36; have z1 : (1 : Int32).toInt = 1 := (by decide); omega)
          exact nl1 (σ31, lf [x36], lg []) ⟨Fr.tr (Fr.tr (Fr.rf) hF5 (fO_sub (fun _ q => q))) (sA_f eσ31) (fN_O mem0), hJ32, (show (0 : Int) ≤ (x36 : Int32).toInt ∧ (x36 : Int32).toInt ≤ 16 from (by have f0 := t37; have f1 := b7; have f2 := k10; have f3 := t18; have f4 := j8_3_0 hJ6 rfl; have g0 := rg32 x36; have z1 : (1 : Int32).toInt = 1 := (by decide); omega)), trivial⟩ (show ((17 : Int) - x36.toInt).toNat < _ from by first | exact t38 | (rw [← eσ4]; exact t38)) _ _ _ hP hS (lv_sub hl [0, 2, 3] rfl)
        ·
          intro nj33
          refine lv_if_le (tgt := 90) hx hb dX3_countRight_61 (by decide) (fun c39 => ?_) (fun c39 => ?_)
          ·
            have k40 := ple32 c39
            exact nj33 (σ31, lf [], lg []) ⟨rfl, trivial⟩ _ _ _ hP hS (lv_sub hl [0, 1, 2, 3] rfl)
          ·
            have k41 := nle32 c39
            refine lv_aload_n hx hb dX3_countRight_64 rfl (lv_at hl 2 rfl) ?_
            refine lv_iload_n hx hb dX3_countRight_65 rfl (lv_at hl 1 rfl) ?_
            refine lv_iconst (v := 1) hx hb dX3_countRight_66 (by decide) ?_
            refine lv_isub hx hb dX3_countRight_67 ?_
            refine lv_topi (fun x42 ex42 => ?_)
            have t43 := subO ex42 (by have f0 := b7; have f1 := k10; have f2 := t18; have f3 := k41; have f4 := j8_3_0 hJ6 rfl; have g0 := rg32 (y3.2.1 0); have z0 : (0 : Int32).toInt = 0 := (by decide); have z1 : (1 : Int32).toInt = 1 := (by decide); omega)
            refine lv_aload_n hx hb dX3_countRight_68 rfl (lv_at hl 2 rfl) ?_
            refine g8_3_13 hx hb hts hown hK hP (hts _ q298) dX3_countRight_69 ?_
            refine lv_iload_n hx hb dX3_countRight_72 rfl (lv_at hl 1 rfl) ?_
            refine lv_iconst (v := 1) hx hb dX3_countRight_73 (by decide) ?_
            refine lv_isub hx hb dX3_countRight_74 ?_
            refine lv_topi (fun x44 ex44 => ?_)
            have t45 := subO ex44 (by have f0 := b7; have f1 := k10; have f2 := t18; have f3 := k41; have f4 := t43; have f5 := j8_3_0 hJ6 rfl; have g0 := rg32 (y3.2.1 0); have z0 : (0 : Int32).toInt = 0 := (by decide); have z1 : (1 : Int32).toInt = 1 := (by decide); omega)
            obtain ⟨x46, ex46⟩ : ∃ z, (σ31 13).2.2.1 13 x44.toInt.toNat = z := ⟨_, rfl⟩
            refine l8_3_13 (x := x46) hx hb hK hP (vpo (by have f0 := t45; have f1 := b7; have f2 := k10; have f3 := t18; have f4 := k41; have f5 := t43; have f6 := j8_3_0 hJ6 rfl; have g0 := rg32 x44; have z0 : (0 : Int32).toInt = 0 := (by decide); have z1 : (1 : Int32).toInt = 1 := (by decide); omega)) ex46 dX3_countRight_75 ?_
            have t47 := a8_3_13 hJ32 ex46
            refine lv_aload_n hx hb dX3_countRight_76 rfl (lv_at hl 2 rfl) ?_
            refine g8_3_13 hx hb hts hown hK hP (hts _ q298) dX3_countRight_77 ?_
            refine lv_iload_n hx hb dX3_countRight_80 rfl (lv_at hl 1 rfl) ?_
            obtain ⟨x48, ex48⟩ : ∃ z, (σ31 13).2.2.1 13 (y3.2.1 0).toInt.toNat = z := ⟨_, rfl⟩
            refine l8_3_13 (x := x48) hx hb hK hP (vpo (by have f0 := b7; have f1 := k10; have f2 := t18; have f3 := k41; have f4 := t43; have f5 := t45; have f6 := j8_3_0 hJ6 rfl; have g0 := rg32 (y3.2.1 0); have z0 : (0 : Int32).toInt = 0 := (by decide); have z1 : (1 : Int32).toInt = 1 := (by decide); omega)) ex48 dX3_countRight_81 ?_
            have t49 := a8_3_13 hJ32 ex48
            refine va_calli (va_runV (As := [.int x42, .int x46, .int x48]) (rest := []) ⟨hx, hb, hml, hown, hts⟩ (m_X3_goes l D cy g σ31  x42 x46 x48 _ hJ32 (show (0 : Int) ≤ x42.toInt ∧ x42.toInt ≤ 14 from (by have f0 := t43; have f1 := b7; have f2 := k10; have f3 := t18; have f4 := k41; have f5 := t45; have f6 := j8_3_0 hJ6 rfl; have g0 := rg32 x42; have z0 : (0 : Int32).toInt = 0 := (by decide); have z1 : (1 : Int32).toInt = 1 := (by decide); omega)) (show (0 : Int) ≤ x46.toInt ∧ x46.toInt ≤ 1407 from (by have f0 := t43; have f1 := t47; have f2 := b7; have f3 := k10; have f4 := t18; have f5 := k41; have f6 := t45; have f7 := j8_3_0 hJ6 rfl; have g0 := rg32 x42; have g1 := rg32 x46; have z0 : (0 : Int32).toInt = 0 := (by decide); have z1 : (1 : Int32).toInt = 1 := (by decide); omega)) (show (0 : Int) ≤ x48.toInt ∧ x48.toInt ≤ 1407 from (by have f0 := t43; have f1 := t47; have f2 := t49; have f3 := b7; have f4 := k10; have f5 := t18; have f6 := k41; have f7 := t45; have f8 := j8_3_0 hJ6 rfl; have g0 := rg32 x42; have g1 := rg32 x46; have g2 := rg32 x48; have z0 : (0 : Int32).toInt = 0 := (by decide); have z1 : (1 : Int32).toInt = 1 := (by decide); omega))) (cwV 3 hts (gd_V q959 q961 q24 q129 q962) rfl rfl rfl (by decide +kernel) ⟨(Nat.le_of_ble_eq_true rfl), (Nat.le_of_ble_eq_true rfl)⟩) (pv8 hP hK hD hC hS (rv8_3 hK hP)) rfl rfl hl.1 rfl (lv_room (Nat.le_of_ble_eq_true rfl)) dX3_countRight_82 ⟨Nat.le_of_ble_eq_true rfl, Nat.le_of_ble_eq_true rfl⟩) hS (fun q _ h => up8 hS q h) (up8 hS) (fun r50 σ51 tS H1 locs ht hvm hw52 hB hz1 hk1 hS => ?_)
            have hP : va_P D clz (WD8 cy g σ51) H1 := by rw [← ht]; exact hB
            clear hB hz1 hk1 hvm ht
            generalize H1 = H at hP hS ⊢
            have hw52E : σ31 = σ51 := (hw52.1).symm
            subst hw52E
            have b53 : (0 : Int) ≤ r50.toInt ∧ r50.toInt ≤ 1 := hw52.2.1
            refine lv_if_ne (tgt := 90) hx hb dX3_countRight_85 (by decide) (fun c54 => ?_) (fun c54 => ?_)
            ·
              have k55 := neq32 c54
              exact nj33 (σ31, lf [], lg []) ⟨rfl, trivial⟩ _ _ _ hP hS (lv_sub hl [0, 1, 2, 3] rfl)
            ·
              have k56 := peq32 c54
              refine lv_iload_n hx hb dX3_countRight_88 rfl (lv_at hl 1 rfl) ?_
              exact W.iret (v := (y3.2.1 0)) hx hb hr (fun tS ht hW => ⟨⟨(y3.2.1 0), σ31, rfl, ⟨Fr.tr (Fr.tr (Fr.rf) hF5 (fO_sub (fun _ q => q))) (sA_f eσ31) (fN_O mem0), hJ32, (show (0 : Int) ≤ (y3.2.1 0).toInt ∧ (y3.2.1 0).toInt ≤ 16 from (by have f0 := b7; have f1 := k10; have f2 := t18; have f3 := k41; have f4 := t43; have f5 := t45; have f6 := j8_3_0 hJ6 rfl; have g0 := rg32 (y3.2.1 0); have z0 : (0 : Int32).toInt = 0 := (by decide); have z1 : (1 : Int32).toInt = 1 := (by decide); omega)), trivial⟩, (show va_P D clz (WD8 cy g σ31) tS.heap by rw [ht]; exact hP)⟩, hS.F ht⟩) hS.2.2 dX3_countRight_89
      ·
        have k57 := nlt64 (fun q => c25 ((lg_cmp_lt r11 x23.toInt64).mpr q))
        refine lv_iload_n hx hb dX3_countRight_43 rfl (lv_at hl 1 rfl) ?_
        exact W.iret (v := (y3.2.1 0)) hx hb hr (fun tS ht hW => ⟨⟨(y3.2.1 0), σ4, rfl, ⟨Fr.tr (Fr.rf) hF5 (fO_sub (fun _ q => q)), hJ6, (show (0 : Int) ≤ (y3.2.1 0).toInt ∧ (y3.2.1 0).toInt ≤ 16 from (by have f0 := b7; have f1 := k10; have f2 := t18; have f3 := j8_3_0 hJ6 rfl; have g0 := rg32 (y3.2.1 0); have z1 : (1 : Int32).toInt = 1 := (by decide); omega)), trivial⟩, (show va_P D clz (WD8 cy g σ4) tS.heap by rw [ht]; exact hP)⟩, hS.F ht⟩) hS.2.2 dX3_countRight_44

theorem q1262 : Cond.code yX8_judge cX8_judge 5 (some .int) ∈ lw_g := lw_gm (List.mem_of_getElem? (i := 1262) (by decide +kernel)) rfl
theorem q1263 : Cond.methodLink RX8 367 yX8_layJudged ∈ lw_g := lw_gm (List.mem_of_getElem? (i := 1263) (by decide +kernel)) rfl
theorem q1265 : Cond.instanceMethod yX8_layJudged ∈ lw_g := lw_gm (List.mem_of_getElem? (i := 1265) (by decide +kernel)) rfl
theorem q47 : Cond.selects RX8 yX8_layJudged yX8_layJudged ∈ lw_g := lw_gm (List.mem_of_getElem? (i := 47) (by decide +kernel)) rfl
theorem q1270 : Cond.methodLink RX8 370 yX3_countRight ∈ lw_g := lw_gm (List.mem_of_getElem? (i := 1270) (by decide +kernel)) rfl
theorem q1271 : Cond.instanceMethod yX3_countRight ∈ lw_g := lw_gm (List.mem_of_getElem? (i := 1271) (by decide +kernel)) rfl
theorem q1272 : Cond.selects RX3 yX3_countRight yX3_countRight ∈ lw_g := lw_gm (List.mem_of_getElem? (i := 1272) (by decide +kernel)) rfl
theorem dX8_judge_0 : decode cX8_judge 0 = .ok (.aload_n 0, 1) := by decide +kernel
theorem dX8_judge_1 : decode cX8_judge 1 = .ok (.iload_n 1, 1) := by decide +kernel
theorem dX8_judge_2 : decode cX8_judge 2 = .ok (.iload_n 2, 1) := by decide +kernel
theorem dX8_judge_3 : decode cX8_judge 3 = .ok (.iload_n 3, 1) := by decide +kernel
theorem dX8_judge_4 : decode cX8_judge 4 = .ok (.invokevirtual 367, 3) := by decide +kernel
theorem dX8_judge_7 : decode cX8_judge 7 = .ok (.istore 4, 2) := by decide +kernel
theorem dX8_judge_9 : decode cX8_judge 9 = .ok (.iload 4, 2) := by decide +kernel
theorem dX8_judge_11 : decode cX8_judge 11 = .ok (.ifCond .ne 19, 3) := by decide +kernel
theorem dX8_judge_14 : decode cX8_judge 14 = .ok (.aload_n 0, 1) := by decide +kernel
theorem dX8_judge_15 : decode cX8_judge 15 = .ok (.getfield 53, 3) := by decide +kernel
theorem dX8_judge_18 : decode cX8_judge 18 = .ok (.aload_n 0, 1) := by decide +kernel
theorem dX8_judge_19 : decode cX8_judge 19 = .ok (.getfield 36, 3) := by decide +kernel
theorem dX8_judge_22 : decode cX8_judge 22 = .ok (.iload_n 1, 1) := by decide +kernel
theorem dX8_judge_23 : decode cX8_judge 23 = .ok (.aaload, 1) := by decide +kernel
theorem dX8_judge_24 : decode cX8_judge 24 = .ok (.invokevirtual 370, 3) := by decide +kernel
theorem dX8_judge_27 : decode cX8_judge 27 = .ok (.goto 5, 3) := by decide +kernel
theorem dX8_judge_30 : decode cX8_judge 30 = .ok (.iload 4, 2) := by decide +kernel
theorem dX8_judge_32 : decode cX8_judge 32 = .ok (.ireturn, 1) := by decide +kernel
set_option maxHeartbeats 4000000 in
set_option maxRecDepth 100000 in
theorem m_X8_judge (l : Launch) (D : va_G) (cy : Nat → ClassId) (g : Nat → Nat) (σ : ST) (p1 : Int32) (p2 : Int32) (p3 : Int32) (sz : Nat) (hJ : J8 σ)  : Met l yX8_judge (ww yX8_judge cX8_judge 5 (some .int)) ({ frames := 7, cells := 0, slots := 0, locals := 448 }) (va_Pc [.ref (gO g 17), .int p1, .int p2, .int p3] (pr8 D cy g σ sz)) (qi8 D cy g sz (fun r τ => Fr (fO [11, 13]) σ τ ∧ J8 τ ∧ ((-7 : Int) ≤ r.toInt ∧ r.toInt ≤ 16) ∧ True)) 0 0 (A8 cy g sz) := by
  refine Met.ofW (cc := cX8_judge) (maxL := 5) (ret := (some .int)) (by decide) rfl ?_
  intro p e s m args below meth c s₁ B hml hv
  obtain ⟨rfl, hsz, hP, hK, hD0, hC⟩ := hv
  have hx := B.exec
  have hb := B.bytes
  have hr := B.returns
  have hts := hts_g (atoms_spec (ws := ww yX8_judge cX8_judge 5 (some .int)) B.pre)
  have hown : s.vm.findClass RX8 = some m.cls := findClass_of_methodNamed B.named
  have hlocks := B.notSynchronized
  clear B
  subst hsz
  have hD := fun τ => A8_D (sz := s.heap.size) hD0 τ
  clear hD0
  have hS : va_S (A8 cy g s.heap.size) s.heap s.heap [] := va_S.rf
  have hl := lv_entry ([.ref (gO g 17), .int p1, .int p2, .int p3]) (n := 5) (Nat.le_of_ble_eq_true rfl)
  rw [lg_entry_eq]
  generalize (lg_sl ([.ref (gO g 17), .int p1, .int p2, .int p3]) ++ List.replicate (5 - (lg_sl ([.ref (gO g 17), .int p1, .int p2, .int p3])).length) Slot.unset).toArray = ls at hl ⊢
  have hl : lv_has ls 5 [(0, .ref (gO g 17)), (1, .int p1), (2, .int p2), (3, .int p3)] := hl
  refine lv_aload_n hx hb dX8_judge_0 rfl (lv_at hl 0 rfl) ?_
  refine lv_iload_n hx hb dX8_judge_1 rfl (lv_at hl 1 rfl) ?_
  refine lv_iload_n hx hb dX8_judge_2 rfl (lv_at hl 2 rfl) ?_
  refine lv_iload_n hx hb dX8_judge_3 rfl (lv_at hl 3 rfl) ?_
  refine va_calli (va_runV (As := [.int p1, .int p2, .int p3]) (rest := []) ⟨hx, hb, hml, hown, hts⟩ (m_X8_layJudged l D cy g σ  p1 p2 p3 _ hJ ) (cwV 3 hts (gd_V q1263 q1265 q47 q125 q1266) rfl rfl rfl (by decide +kernel) ⟨(Nat.le_of_ble_eq_true rfl), (Nat.le_of_ble_eq_true rfl)⟩) (pv8 hP hK hD hC hS (rv8_8 hK hP)) rfl rfl hl.1 rfl (lv_room (Nat.le_of_ble_eq_true rfl)) dX8_judge_4 ⟨Nat.le_of_ble_eq_true rfl, Nat.le_of_ble_eq_true rfl⟩) hS (fun q _ h => up8 hS q h) (up8 hS) (fun r1 σ2 tS H1 locs ht hvm hw3 hB hz1 hk1 hS => ?_)
  have hP : va_P D clz (WD8 cy g σ2) H1 := by rw [← ht]; exact hB
  clear hB hz1 hk1 hvm ht
  generalize H1 = H at hP hS ⊢
  have hF4 : Fr (fO [11, 13]) σ σ2 := hw3.1
  have hJ5 : J8 σ2 := hw3.2.1
  have b6 : (-7 : Int) ≤ r1.toInt ∧ r1.toInt ≤ 0 := hw3.2.2.1
  have b7 : (¬ r1.toInt = 0) ∨ ((0 : Int) ≤ p1.toInt ∧ p1.toInt ≤ 3) := hw3.2.2.2.1
  refine lv_istore (lv' := [(4, .int r1), (0, .ref (gO g 17)), (1, .int p1), (2, .int p2), (3, .int p3)]) hx hb dX8_judge_7 hl (by decide) rfl (fun ls hl => ?_)
  refine lv_iload hx hb dX8_judge_9 (lv_at hl 0 rfl) ?_
  refine lv_if_ne (tgt := 30) hx hb dX8_judge_11 (by decide) (fun c8 => ?_) (fun c8 => ?_)
  ·
    have k9 := neq32 c8
    refine lv_iload hx hb dX8_judge_30 (lv_at hl 0 rfl) ?_
    exact W.iret (v := r1) hx hb hr (fun tS ht hW => ⟨⟨r1, σ2, rfl, ⟨Fr.tr (Fr.rf) hF4 (fO_sub (fun _ q => q)), hJ5, (show (-7 : Int) ≤ r1.toInt ∧ r1.toInt ≤ 16 from (by have f0 := b6; have f1 := b7; have f2 := k9; have g0 := rg32 p1; have g1 := rg32 r1; have z0 : (0 : Int32).toInt = 0 := (by decide); omega)), trivial⟩, (show va_P D clz (WD8 cy g σ2) tS.heap by rw [ht]; exact hP)⟩, hS.F ht⟩) hS.2.2 dX8_judge_32
  ·
    have k10 := peq32 c8
    refine lv_aload_n hx hb dX8_judge_14 rfl (lv_at hl 1 rfl) ?_
    refine g8_8_8 hx hb hts hown hK hP (hts _ q442) dX8_judge_15 ?_
    refine lv_aload_n hx hb dX8_judge_18 rfl (lv_at hl 1 rfl) ?_
    refine g8_8_5 hx hb hts hown hK hP (hts _ q439) dX8_judge_19 ?_
    refine lv_iload_n hx hb dX8_judge_22 rfl (lv_at hl 2 rfl) ?_
    obtain ⟨dx11, edx11⟩ : ∃ z : Nat, 5 + p1.toInt.toNat = z := ⟨_, rfl⟩
    have hdx11 : 5 ≤ dx11 ∧ dx11 < 9 := mrow (n := 4) (by have f0 := b7; have f1 := b6; have f2 := k10; have g0 := rg32 p1; have z0 : (0 : Int32).toInt = 0 := (by decide); omega) edx11 rfl
    refine l8_8_5 hx hb hK hP (vpo (by have f0 := b7; have f1 := b6; have f2 := k10; have g0 := rg32 p1; have z0 : (0 : Int32).toInt = 0 := (by decide); omega)) edx11 dX8_judge_23 ?_
    refine va_calli (va_runV (As := [.ref (gO g dx11)]) (rest := []) ⟨hx, hb, hml, hown, hts⟩ (m_X3_countRight l D cy g σ2  dx11 _ hJ5 (show 5 ≤ dx11 ∧ dx11 < 9 from hdx11)) (cwV 1 hts (gd_V q1270 q1271 q1272 q129 q1273) rfl rfl rfl (by decide +kernel) ⟨(Nat.le_of_ble_eq_true rfl), (Nat.le_of_ble_eq_true rfl)⟩) (pv8 hP hK hD hC hS (rv8_3 hK hP)) rfl rfl hl.1 rfl (lv_room (Nat.le_of_ble_eq_true rfl)) dX8_judge_24 ⟨Nat.le_of_ble_eq_true rfl, Nat.le_of_ble_eq_true rfl⟩) hS (fun q _ h => up8 hS q h) (up8 hS) (fun r12 σ13 tS H1 locs ht hvm hw14 hB hz1 hk1 hS => ?_)
    have hP : va_P D clz (WD8 cy g σ13) H1 := by rw [← ht]; exact hB
    clear hB hz1 hk1 hvm ht
    generalize H1 = H at hP hS ⊢
    have hF15 : Fr (fO [13]) σ2 σ13 := hw14.1
    have hJ16 : J8 σ13 := hw14.2.1
    have b17 : (0 : Int) ≤ r12.toInt ∧ r12.toInt ≤ 16 := hw14.2.2.1
    refine lv_goto (tgt := 32) hx hb dX8_judge_27 (by decide) ?_
    exact W.iret (v := r12) hx hb hr (fun tS ht hW => ⟨⟨r12, σ13, rfl, ⟨Fr.tr (Fr.tr (Fr.rf) hF4 (fO_sub (fun _ q => q))) hF15 (fO_sub (by simp)), hJ16, (show (-7 : Int) ≤ r12.toInt ∧ r12.toInt ≤ 16 from (by have f0 := b17; have g0 := rg32 r12; omega)), trivial⟩, (show va_P D clz (WD8 cy g σ13) tS.heap by rw [ht]; exact hP)⟩, hS.F ht⟩) hS.2.2 dX8_judge_32

theorem q1286 : Cond.code yX3_costOfPicked cX3_costOfPicked 3 (some .int) ∈ lw_g := lw_gm (List.mem_of_getElem? (i := 1286) (by decide +kernel)) rfl
theorem dX3_costOfPicked_0 : decode cX3_costOfPicked 0 = .ok (.iconst 0, 1) := by decide +kernel
theorem dX3_costOfPicked_1 : decode cX3_costOfPicked 1 = .ok (.istore_n 1, 1) := by decide +kernel
theorem dX3_costOfPicked_2 : decode cX3_costOfPicked 2 = .ok (.iconst 0, 1) := by decide +kernel
theorem dX3_costOfPicked_3 : decode cX3_costOfPicked 3 = .ok (.istore_n 2, 1) := by decide +kernel
theorem dX3_costOfPicked_4 : decode cX3_costOfPicked 4 = .ok (.iload_n 2, 1) := by decide +kernel
theorem dX3_costOfPicked_5 : decode cX3_costOfPicked 5 = .ok (.iconst 1, 1) := by decide +kernel
theorem dX3_costOfPicked_6 : decode cX3_costOfPicked 6 = .ok (.iadd, 1) := by decide +kernel
theorem dX3_costOfPicked_7 : decode cX3_costOfPicked 7 = .ok (.aload_n 0, 1) := by decide +kernel
theorem dX3_costOfPicked_8 : decode cX3_costOfPicked 8 = .ok (.getfield 75, 3) := by decide +kernel
theorem dX3_costOfPicked_11 : decode cX3_costOfPicked 11 = .ok (.if_icmp .ge 30, 3) := by decide +kernel
theorem dX3_costOfPicked_14 : decode cX3_costOfPicked 14 = .ok (.iload_n 1, 1) := by decide +kernel
theorem dX3_costOfPicked_15 : decode cX3_costOfPicked 15 = .ok (.aload_n 0, 1) := by decide +kernel
theorem dX3_costOfPicked_16 : decode cX3_costOfPicked 16 = .ok (.aload_n 0, 1) := by decide +kernel
theorem dX3_costOfPicked_17 : decode cX3_costOfPicked 17 = .ok (.getfield 37, 3) := by decide +kernel
theorem dX3_costOfPicked_20 : decode cX3_costOfPicked 20 = .ok (.iload_n 2, 1) := by decide +kernel
theorem dX3_costOfPicked_21 : decode cX3_costOfPicked 21 = .ok (.iaload, 1) := by decide +kernel
theorem dX3_costOfPicked_22 : decode cX3_costOfPicked 22 = .ok (.aload_n 0, 1) := by decide +kernel
theorem dX3_costOfPicked_23 : decode cX3_costOfPicked 23 = .ok (.getfield 37, 3) := by decide +kernel
theorem dX3_costOfPicked_26 : decode cX3_costOfPicked 26 = .ok (.iload_n 2, 1) := by decide +kernel
theorem dX3_costOfPicked_27 : decode cX3_costOfPicked 27 = .ok (.iconst 1, 1) := by decide +kernel
theorem dX3_costOfPicked_28 : decode cX3_costOfPicked 28 = .ok (.iadd, 1) := by decide +kernel
theorem dX3_costOfPicked_29 : decode cX3_costOfPicked 29 = .ok (.iaload, 1) := by decide +kernel
theorem dX3_costOfPicked_30 : decode cX3_costOfPicked 30 = .ok (.invokevirtual 110, 3) := by decide +kernel
theorem dX3_costOfPicked_33 : decode cX3_costOfPicked 33 = .ok (.iadd, 1) := by decide +kernel
theorem dX3_costOfPicked_34 : decode cX3_costOfPicked 34 = .ok (.istore_n 1, 1) := by decide +kernel
theorem dX3_costOfPicked_35 : decode cX3_costOfPicked 35 = .ok (.iinc 2 1, 3) := by decide +kernel
theorem dX3_costOfPicked_38 : decode cX3_costOfPicked 38 = .ok (.goto (-34), 3) := by decide +kernel
theorem dX3_costOfPicked_41 : decode cX3_costOfPicked 41 = .ok (.iload_n 1, 1) := by decide +kernel
theorem dX3_costOfPicked_42 : decode cX3_costOfPicked 42 = .ok (.ireturn, 1) := by decide +kernel
set_option maxHeartbeats 4000000 in
set_option maxRecDepth 100000 in
theorem m_X3_costOfPicked (l : Launch) (D : va_G) (cy : Nat → ClassId) (g : Nat → Nat) (σ : ST)  (sz : Nat) (hJ : J8 σ)  : Met l yX3_costOfPicked (ww yX3_costOfPicked cX3_costOfPicked 3 (some .int)) ({ frames := 2, cells := 0, slots := 0, locals := 128 }) (va_Pc [.ref (gO g 13)] (pr8 D cy g σ sz)) (qi8 D cy g sz (fun r τ => τ = σ ∧ True)) 0 0 (A8 cy g sz) := by
  refine Met.ofW (cc := cX3_costOfPicked) (maxL := 3) (ret := (some .int)) (by decide) rfl ?_
  intro p e s m args below meth c s₁ B hml hv
  obtain ⟨rfl, hsz, hP, hK, hD0, hC⟩ := hv
  have hx := B.exec
  have hb := B.bytes
  have hr := B.returns
  have hts := hts_g (atoms_spec (ws := ww yX3_costOfPicked cX3_costOfPicked 3 (some .int)) B.pre)
  have hown : s.vm.findClass RX3 = some m.cls := findClass_of_methodNamed B.named
  have hlocks := B.notSynchronized
  clear B
  subst hsz
  have hD := fun τ => A8_D (sz := s.heap.size) hD0 τ
  clear hD0
  have hS : va_S (A8 cy g s.heap.size) s.heap s.heap [] := va_S.rf
  have hl := lv_entry ([.ref (gO g 13)]) (n := 3) (Nat.le_of_ble_eq_true rfl)
  rw [lg_entry_eq]
  generalize (lg_sl ([.ref (gO g 13)]) ++ List.replicate (3 - (lg_sl ([.ref (gO g 13)])).length) Slot.unset).toArray = ls at hl ⊢
  have hl : lv_has ls 3 [(0, .ref (gO g 13))] := hl
  refine lv_iconst (v := 0) hx hb dX3_costOfPicked_0 (by decide) ?_
  refine lv_istore_n (lv' := [(1, .int 0), (0, .ref (gO g 13))]) hx hb dX3_costOfPicked_1 rfl hl (by decide) rfl (fun ls hl => ?_)
  refine lv_iconst (v := 0) hx hb dX3_costOfPicked_2 (by decide) ?_
  refine lv_istore_n (lv' := [(2, .int 0), (1, .int 0), (0, .ref (gO g 13))]) hx hb dX3_costOfPicked_3 rfl hl (by decide) rfl (fun ls hl => ?_)
  refine loop8 3 4 (fun x : LZ => [(2, .int (x.2.1 0)), (1, .int (x.2.1 1)), (0, .ref (gO g 13))]) (fun x : LZ => (x.1 = σ) ∧ ((0 : Int) ≤ (x.2.1 0).toInt ∧ (x.2.1 0).toInt ≤ 15) ∧ True) (fun x : LZ => ((16 : Int) - (x.2.1 0).toInt).toNat) ?_ (σ, lf [0, 0], lg []) ⟨rfl, (show (0 : Int) ≤ (0 : Int32).toInt ∧ (0 : Int32).toInt ≤ 15 from (by have z0 : (0 : Int32).toInt = 0 := (by decide); omega)), trivial⟩ _ _ _ hP hS (lv_sub hl [0, 1, 2] rfl)
  intro y3 hI2 nl1 H locs ls hP hS hl
  rw [show y3.1 = σ from hI2.1] at hP
  have b4 : (0 : Int) ≤ (y3.2.1 0).toInt ∧ (y3.2.1 0).toInt ≤ 15 := hI2.2.1
  have hl : lv_has ls 3 [(2, .int (y3.2.1 0)), (1, .int (y3.2.1 1)), (0, .ref (gO g 13))] := hl
  refine lv_iload_n hx hb dX3_costOfPicked_4 rfl (lv_at hl 0 rfl) ?_
  refine lv_iconst (v := 1) hx hb dX3_costOfPicked_5 (by decide) ?_
  refine lv_iadd hx hb dX3_costOfPicked_6 ?_
  refine lv_topi (fun x5 ex5 => ?_)
  have t6 := addO ex5 (by have f0 := b4; have g0 := rg32 (y3.2.1 0); have z1 : (1 : Int32).toInt = 1 := (by decide); omega)
  refine lv_aload_n hx hb dX3_costOfPicked_7 rfl (lv_at hl 2 rfl) ?_
  refine g8_3_0 (x := ((σ 13).1 0)) hx hb hts hown hK hP (rfl) (hts _ q280) dX3_costOfPicked_8 ?_
  refine lv_icmp_ge (tgt := 41) hx hb dX3_costOfPicked_11 (by decide) (fun c7 => ?_) (fun c7 => ?_)
  ·
    have k8 := ple32 c7
    refine lv_iload_n hx hb dX3_costOfPicked_41 rfl (lv_at hl 1 rfl) ?_
    exact W.iret (v := (y3.2.1 1)) hx hb hr (fun tS ht hW => ⟨⟨(y3.2.1 1), σ, rfl, ⟨rfl, trivial⟩, (show va_P D clz (WD8 cy g σ) tS.heap by rw [ht]; exact hP)⟩, hS.F ht⟩) hS.2.2 dX3_costOfPicked_42
  ·
    have k9 := nle32 c7
    refine lv_iload_n hx hb dX3_costOfPicked_14 rfl (lv_at hl 1 rfl) ?_
    refine lv_aload_n hx hb dX3_costOfPicked_15 rfl (lv_at hl 2 rfl) ?_
    refine lv_aload_n hx hb dX3_costOfPicked_16 rfl (lv_at hl 2 rfl) ?_
    refine g8_3_13 hx hb hts hown hK hP (hts _ q298) dX3_costOfPicked_17 ?_
    refine lv_iload_n hx hb dX3_costOfPicked_20 rfl (lv_at hl 0 rfl) ?_
    obtain ⟨x10, ex10⟩ : ∃ z, (σ 13).2.2.1 13 (y3.2.1 0).toInt.toNat = z := ⟨_, rfl⟩
    refine l8_3_13 (x := x10) hx hb hK hP (vpo (by have f0 := b4; have f1 := t6; have f2 := k9; have f3 := j8_3_0 hJ rfl; have g0 := rg32 (y3.2.1 0); have z1 : (1 : Int32).toInt = 1 := (by decide); omega)) ex10 dX3_costOfPicked_21 ?_
    have t11 := a8_3_13 hJ ex10
    refine lv_aload_n hx hb dX3_costOfPicked_22 rfl (lv_at hl 2 rfl) ?_
    refine g8_3_13 hx hb hts hown hK hP (hts _ q298) dX3_costOfPicked_23 ?_
    refine lv_iload_n hx hb dX3_costOfPicked_26 rfl (lv_at hl 0 rfl) ?_
    refine lv_iconst (v := 1) hx hb dX3_costOfPicked_27 (by decide) ?_
    refine lv_iadd hx hb dX3_costOfPicked_28 ?_
    refine lv_topi (fun x12 ex12 => ?_)
    have t13 := addO ex12 (by have f0 := b4; have f1 := t6; have f2 := k9; have f3 := j8_3_0 hJ rfl; have g0 := rg32 (y3.2.1 0); have z1 : (1 : Int32).toInt = 1 := (by decide); omega)
    obtain ⟨x14, ex14⟩ : ∃ z, (σ 13).2.2.1 13 x12.toInt.toNat = z := ⟨_, rfl⟩
    refine l8_3_13 (x := x14) hx hb hK hP (vpo (by have f0 := t13; have f1 := b4; have f2 := t6; have f3 := k9; have f4 := j8_3_0 hJ rfl; have g0 := rg32 x12; have z1 : (1 : Int32).toInt = 1 := (by decide); omega)) ex14 dX3_costOfPicked_29 ?_
    have t15 := a8_3_13 hJ ex14
    refine va_calli (va_runV (As := [.int x10, .int x14]) (rest := [.int (y3.2.1 1)]) ⟨hx, hb, hml, hown, hts⟩ (m_X3_moveFrom l D cy g σ  x10 x14 _ hJ (show (0 : Int) ≤ x10.toInt ∧ x10.toInt ≤ 1407 from (by have f0 := t11; have g0 := rg32 x10; omega)) (show (0 : Int) ≤ x14.toInt ∧ x14.toInt ≤ 1407 from (by have f0 := t11; have f1 := t15; have g0 := rg32 x10; have g1 := rg32 x14; omega))) (cwV 2 hts (gd_V q963 q965 q25 q129 q966) rfl rfl rfl (by decide +kernel) ⟨(Nat.le_of_ble_eq_true rfl), (Nat.le_of_ble_eq_true rfl)⟩) (pv8 hP hK hD hC hS (rv8_3 hK hP)) rfl rfl hl.1 rfl (lv_room (Nat.le_of_ble_eq_true rfl)) dX3_costOfPicked_30 ⟨Nat.le_of_ble_eq_true rfl, Nat.le_of_ble_eq_true rfl⟩) hS (fun q _ h => up8 hS q h) (up8 hS) (fun r16 σ17 tS H1 locs ht hvm hw18 hB hz1 hk1 hS => ?_)
    have hP : va_P D clz (WD8 cy g σ17) H1 := by rw [← ht]; exact hB
    clear hB hz1 hk1 hvm ht
    generalize H1 = H at hP hS ⊢
    have hw18E : σ = σ17 := (hw18.1).symm
    subst hw18E
    refine lv_iadd hx hb dX3_costOfPicked_33 ?_
    refine lv_topi (fun x19 ex19 => ?_)
    refine lv_istore_n (lv' := [(1, .int x19), (2, .int (y3.2.1 0)), (0, .ref (gO g 13))]) hx hb dX3_costOfPicked_34 rfl hl (by decide) rfl (fun ls hl => ?_)
    obtain ⟨x20, ex20⟩ : ∃ y : Int32, y = (y3.2.1 0) + 1 := ⟨_, rfl⟩
    have t21 := addO ex20 (by have f0 := b4; have f1 := t6; have f2 := t13; have f3 := k9; have f4 := j8_3_0 hJ rfl; have g0 := rg32 (y3.2.1 0); have z1 : (1 : Int32).toInt = 1 := (by decide); omega)
    refine lv_iinc (v := x20) (lv' := [(2, .int x20), (1, .int x19), (0, .ref (gO g 13))]) hx hb dX3_costOfPicked_35 hl (k := 1) rfl (by rw [ex20]; rfl) (by decide) rfl (fun ls hl => ?_)
    refine lv_goto (tgt := 4) hx hb dX3_costOfPicked_38 (by decide) ?_
    have t22 : ((16 : Int) - x20.toInt).toNat < ((16 : Int) - (y3.2.1 0).toInt).toNat := (by have f0 := b4; have f1 := t6; have f2 := t13; have f3 := t21; have f4 := k9; have f5 := j8_3_0 hJ rfl; have g0 := rg32 (y3.2.1 0); have g1 := rg32 x20; have z1 : (1 : Int32).toInt = 1 := (by decide); omega)
    exact nl1 (σ, lf [x20, x19], lg []) ⟨rfl, (show (0 : Int) ≤ (x20 : Int32).toInt ∧ (x20 : Int32).toInt ≤ 15 from (by have f0 := t21; have f1 := b4; have f2 := t6; have f3 := t13; have f4 := k9; have f5 := j8_3_0 hJ rfl; have g0 := rg32 x20; have z1 : (1 : Int32).toInt = 1 := (by decide); omega)), trivial⟩ (show ((16 : Int) - x20.toInt).toNat < _ from t22) _ _ _ hP hS (lv_sub hl [0, 1, 2] rfl)

theorem q1282 : Cond.code yX8_told cX8_told 5 (some .int) ∈ lw_g := lw_gm (List.mem_of_getElem? (i := 1282) (by decide +kernel)) rfl
theorem q1283 : Cond.methodLink RX8 374 yX3_costOfPicked ∈ lw_g := lw_gm (List.mem_of_getElem? (i := 1283) (by decide +kernel)) rfl
theorem q1284 : Cond.instanceMethod yX3_costOfPicked ∈ lw_g := lw_gm (List.mem_of_getElem? (i := 1284) (by decide +kernel)) rfl
theorem q1285 : Cond.selects RX3 yX3_costOfPicked yX3_costOfPicked ∈ lw_g := lw_gm (List.mem_of_getElem? (i := 1285) (by decide +kernel)) rfl
theorem dX8_told_0 : decode cX8_told 0 = .ok (.aload_n 0, 1) := by decide +kernel
theorem dX8_told_1 : decode cX8_told 1 = .ok (.iload_n 1, 1) := by decide +kernel
theorem dX8_told_2 : decode cX8_told 2 = .ok (.iload_n 2, 1) := by decide +kernel
theorem dX8_told_3 : decode cX8_told 3 = .ok (.iload_n 3, 1) := by decide +kernel
theorem dX8_told_4 : decode cX8_told 4 = .ok (.invokevirtual 367, 3) := by decide +kernel
theorem dX8_told_7 : decode cX8_told 7 = .ok (.istore 4, 2) := by decide +kernel
theorem dX8_told_9 : decode cX8_told 9 = .ok (.iload 4, 2) := by decide +kernel
theorem dX8_told_11 : decode cX8_told 11 = .ok (.ifCond .eq 6, 3) := by decide +kernel
theorem dX8_told_14 : decode cX8_told 14 = .ok (.iload 4, 2) := by decide +kernel
theorem dX8_told_16 : decode cX8_told 16 = .ok (.ireturn, 1) := by decide +kernel
theorem dX8_told_17 : decode cX8_told 17 = .ok (.aload_n 0, 1) := by decide +kernel
theorem dX8_told_18 : decode cX8_told 18 = .ok (.getfield 53, 3) := by decide +kernel
theorem dX8_told_21 : decode cX8_told 21 = .ok (.aload_n 0, 1) := by decide +kernel
theorem dX8_told_22 : decode cX8_told 22 = .ok (.getfield 36, 3) := by decide +kernel
theorem dX8_told_25 : decode cX8_told 25 = .ok (.iload_n 1, 1) := by decide +kernel
theorem dX8_told_26 : decode cX8_told 26 = .ok (.aaload, 1) := by decide +kernel
theorem dX8_told_27 : decode cX8_told 27 = .ok (.invokevirtual 370, 3) := by decide +kernel
theorem dX8_told_30 : decode cX8_told 30 = .ok (.aload_n 0, 1) := by decide +kernel
theorem dX8_told_31 : decode cX8_told 31 = .ok (.getfield 53, 3) := by decide +kernel
theorem dX8_told_34 : decode cX8_told 34 = .ok (.getfield 364, 3) := by decide +kernel
theorem dX8_told_37 : decode cX8_told 37 = .ok (.if_icmp .ne 13, 3) := by decide +kernel
theorem dX8_told_40 : decode cX8_told 40 = .ok (.aload_n 0, 1) := by decide +kernel
theorem dX8_told_41 : decode cX8_told 41 = .ok (.getfield 53, 3) := by decide +kernel
theorem dX8_told_44 : decode cX8_told 44 = .ok (.invokevirtual 374, 3) := by decide +kernel
theorem dX8_told_47 : decode cX8_told 47 = .ok (.goto 4, 3) := by decide +kernel
theorem dX8_told_50 : decode cX8_told 50 = .ok (.iconst (-1), 1) := by decide +kernel
theorem dX8_told_51 : decode cX8_told 51 = .ok (.ireturn, 1) := by decide +kernel
set_option maxHeartbeats 4000000 in
set_option maxRecDepth 100000 in
theorem m_X8_told (l : Launch) (D : va_G) (cy : Nat → ClassId) (g : Nat → Nat) (σ : ST) (p1 : Int32) (p2 : Int32) (p3 : Int32) (sz : Nat) (hJ : J8 σ)  : Met l yX8_told (ww yX8_told cX8_told 5 (some .int)) ({ frames := 7, cells := 0, slots := 0, locals := 448 }) (va_Pc [.ref (gO g 17), .int p1, .int p2, .int p3] (pr8 D cy g σ sz)) (qi8 D cy g sz (fun r τ => Fr (fO [11, 13]) σ τ ∧ J8 τ ∧ True)) 0 0 (A8 cy g sz) := by
  refine Met.ofW (cc := cX8_told) (maxL := 5) (ret := (some .int)) (by decide) rfl ?_
  intro p e s m args below meth c s₁ B hml hv
  obtain ⟨rfl, hsz, hP, hK, hD0, hC⟩ := hv
  have hx := B.exec
  have hb := B.bytes
  have hr := B.returns
  have hts := hts_g (atoms_spec (ws := ww yX8_told cX8_told 5 (some .int)) B.pre)
  have hown : s.vm.findClass RX8 = some m.cls := findClass_of_methodNamed B.named
  have hlocks := B.notSynchronized
  clear B
  subst hsz
  have hD := fun τ => A8_D (sz := s.heap.size) hD0 τ
  clear hD0
  have hS : va_S (A8 cy g s.heap.size) s.heap s.heap [] := va_S.rf
  have hl := lv_entry ([.ref (gO g 17), .int p1, .int p2, .int p3]) (n := 5) (Nat.le_of_ble_eq_true rfl)
  rw [lg_entry_eq]
  generalize (lg_sl ([.ref (gO g 17), .int p1, .int p2, .int p3]) ++ List.replicate (5 - (lg_sl ([.ref (gO g 17), .int p1, .int p2, .int p3])).length) Slot.unset).toArray = ls at hl ⊢
  have hl : lv_has ls 5 [(0, .ref (gO g 17)), (1, .int p1), (2, .int p2), (3, .int p3)] := hl
  refine lv_aload_n hx hb dX8_told_0 rfl (lv_at hl 0 rfl) ?_
  refine lv_iload_n hx hb dX8_told_1 rfl (lv_at hl 1 rfl) ?_
  refine lv_iload_n hx hb dX8_told_2 rfl (lv_at hl 2 rfl) ?_
  refine lv_iload_n hx hb dX8_told_3 rfl (lv_at hl 3 rfl) ?_
  refine va_calli (va_runV (As := [.int p1, .int p2, .int p3]) (rest := []) ⟨hx, hb, hml, hown, hts⟩ (m_X8_layJudged l D cy g σ  p1 p2 p3 _ hJ ) (cwV 3 hts (gd_V q1263 q1265 q47 q125 q1266) rfl rfl rfl (by decide +kernel) ⟨(Nat.le_of_ble_eq_true rfl), (Nat.le_of_ble_eq_true rfl)⟩) (pv8 hP hK hD hC hS (rv8_8 hK hP)) rfl rfl hl.1 rfl (lv_room (Nat.le_of_ble_eq_true rfl)) dX8_told_4 ⟨Nat.le_of_ble_eq_true rfl, Nat.le_of_ble_eq_true rfl⟩) hS (fun q _ h => up8 hS q h) (up8 hS) (fun r1 σ2 tS H1 locs ht hvm hw3 hB hz1 hk1 hS => ?_)
  have hP : va_P D clz (WD8 cy g σ2) H1 := by rw [← ht]; exact hB
  clear hB hz1 hk1 hvm ht
  generalize H1 = H at hP hS ⊢
  have hF4 : Fr (fO [11, 13]) σ σ2 := hw3.1
  have hJ5 : J8 σ2 := hw3.2.1
  have b6 : (-7 : Int) ≤ r1.toInt ∧ r1.toInt ≤ 0 := hw3.2.2.1
  have b7 : (¬ r1.toInt = 0) ∨ ((0 : Int) ≤ p1.toInt ∧ p1.toInt ≤ 3) := hw3.2.2.2.1
  refine lv_istore (lv' := [(4, .int r1), (0, .ref (gO g 17)), (1, .int p1), (2, .int p2), (3, .int p3)]) hx hb dX8_told_7 hl (by decide) rfl (fun ls hl => ?_)
  refine lv_iload hx hb dX8_told_9 (lv_at hl 0 rfl) ?_
  refine lv_if_eq (tgt := 17) hx hb dX8_told_11 (by decide) (fun c8 => ?_) (fun c8 => ?_)
  ·
    have k9 := peq32 c8
    refine lv_aload_n hx hb dX8_told_17 rfl (lv_at hl 1 rfl) ?_
    refine g8_8_8 hx hb hts hown hK hP (hts _ q442) dX8_told_18 ?_
    refine lv_aload_n hx hb dX8_told_21 rfl (lv_at hl 1 rfl) ?_
    refine g8_8_5 hx hb hts hown hK hP (hts _ q439) dX8_told_22 ?_
    refine lv_iload_n hx hb dX8_told_25 rfl (lv_at hl 2 rfl) ?_
    obtain ⟨dx10, edx10⟩ : ∃ z : Nat, 5 + p1.toInt.toNat = z := ⟨_, rfl⟩
    have hdx10 : 5 ≤ dx10 ∧ dx10 < 9 := mrow (n := 4) (by have f0 := b7; have f1 := b6; have f2 := k9; have g0 := rg32 p1; have z0 : (0 : Int32).toInt = 0 := (by decide); omega) edx10 rfl
    refine l8_8_5 hx hb hK hP (vpo (by have f0 := b7; have f1 := b6; have f2 := k9; have g0 := rg32 p1; have z0 : (0 : Int32).toInt = 0 := (by decide); omega)) edx10 dX8_told_26 ?_
    refine va_calli (va_runV (As := [.ref (gO g dx10)]) (rest := []) ⟨hx, hb, hml, hown, hts⟩ (m_X3_countRight l D cy g σ2  dx10 _ hJ5 (show 5 ≤ dx10 ∧ dx10 < 9 from hdx10)) (cwV 1 hts (gd_V q1270 q1271 q1272 q129 q1273) rfl rfl rfl (by decide +kernel) ⟨(Nat.le_of_ble_eq_true rfl), (Nat.le_of_ble_eq_true rfl)⟩) (pv8 hP hK hD hC hS (rv8_3 hK hP)) rfl rfl hl.1 rfl (lv_room (Nat.le_of_ble_eq_true rfl)) dX8_told_27 ⟨Nat.le_of_ble_eq_true rfl, Nat.le_of_ble_eq_true rfl⟩) hS (fun q _ h => up8 hS q h) (up8 hS) (fun r11 σ12 tS H1 locs ht hvm hw13 hB hz1 hk1 hS => ?_)
    have hP : va_P D clz (WD8 cy g σ12) H1 := by rw [← ht]; exact hB
    clear hB hz1 hk1 hvm ht
    generalize H1 = H at hP hS ⊢
    have hF14 : Fr (fO [13]) σ2 σ12 := hw13.1
    have hJ15 : J8 σ12 := hw13.2.1
    have b16 : (0 : Int) ≤ r11.toInt ∧ r11.toInt ≤ 16 := hw13.2.2.1
    refine lv_aload_n hx hb dX8_told_30 rfl (lv_at hl 1 rfl) ?_
    refine g8_8_8 hx hb hts hown hK hP (hts _ q442) dX8_told_31 ?_
    refine g8_3_0 (x := ((σ12 13).1 0)) hx hb hts hown hK hP (rfl) (hts _ q281) dX8_told_34 ?_
    refine lv_icmp_ne (tgt := 50) hx hb dX8_told_37 (by decide) (fun c17 => ?_) (fun c17 => ?_)
    ·
      have k18 := neq32 c17
      refine lv_iconst (v := (-1)) hx hb dX8_told_50 (by decide) ?_
      exact W.iret (v := (-1)) hx hb hr (fun tS ht hW => ⟨⟨(-1), σ12, rfl, ⟨Fr.tr (Fr.tr (Fr.rf) hF4 (fO_sub (fun _ q => q))) hF14 (fO_sub (by simp)), hJ15, trivial⟩, (show va_P D clz (WD8 cy g σ12) tS.heap by rw [ht]; exact hP)⟩, hS.F ht⟩) hS.2.2 dX8_told_51
    ·
      have k19 := peq32 c17
      refine lv_aload_n hx hb dX8_told_40 rfl (lv_at hl 1 rfl) ?_
      refine g8_8_8 hx hb hts hown hK hP (hts _ q442) dX8_told_41 ?_
      refine va_calli (va_runV (As := []) (rest := []) ⟨hx, hb, hml, hown, hts⟩ (m_X3_costOfPicked l D cy g σ12   _ hJ15 ) (cwV 0 hts (gd_V q1283 q1284 q1285 q129 q1286) rfl rfl rfl (by decide +kernel) ⟨(Nat.le_of_ble_eq_true rfl), (Nat.le_of_ble_eq_true rfl)⟩) (pv8 hP hK hD hC hS (rv8_3 hK hP)) rfl rfl hl.1 rfl (lv_room (Nat.le_of_ble_eq_true rfl)) dX8_told_44 ⟨Nat.le_of_ble_eq_true rfl, Nat.le_of_ble_eq_true rfl⟩) hS (fun q _ h => up8 hS q h) (up8 hS) (fun r20 σ21 tS H1 locs ht hvm hw22 hB hz1 hk1 hS => ?_)
      have hP : va_P D clz (WD8 cy g σ21) H1 := by rw [← ht]; exact hB
      clear hB hz1 hk1 hvm ht
      generalize H1 = H at hP hS ⊢
      have hw22E : σ12 = σ21 := (hw22.1).symm
      subst hw22E
      refine lv_goto (tgt := 51) hx hb dX8_told_47 (by decide) ?_
      exact W.iret (v := r20) hx hb hr (fun tS ht hW => ⟨⟨r20, σ12, rfl, ⟨Fr.tr (Fr.tr (Fr.rf) hF4 (fO_sub (fun _ q => q))) hF14 (fO_sub (by simp)), hJ15, trivial⟩, (show va_P D clz (WD8 cy g σ12) tS.heap by rw [ht]; exact hP)⟩, hS.F ht⟩) hS.2.2 dX8_told_51
  ·
    have k23 := neq32 c8
    refine lv_iload hx hb dX8_told_14 (lv_at hl 0 rfl) ?_
    exact W.iret (v := r1) hx hb hr (fun tS ht hW => ⟨⟨r1, σ2, rfl, ⟨Fr.tr (Fr.rf) hF4 (fO_sub (fun _ q => q)), hJ5, trivial⟩, (show va_P D clz (WD8 cy g σ2) tS.heap by rw [ht]; exact hP)⟩, hS.F ht⟩) hS.2.2 dX8_told_16

