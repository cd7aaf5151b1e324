theorem q895 : Cond.code yX8_common cX8_common 5 (some .int) ∈ lw_g := lw_gm (List.mem_of_getElem? (i := 895) (by decide +kernel)) rfl
theorem q441 : Cond.fieldLink RX8 47 "LipsAndSlides" "otherTube" "LLipsAndSlides$Tube;" ∈ lw_g := lw_gm (List.mem_of_getElem? (i := 441) (by decide +kernel)) rfl
theorem dX8_common_0 : decode cX8_common 0 = .ok (.iload_n 1, 1) := by decide +kernel
theorem dX8_common_1 : decode cX8_common 1 = .ok (.iload_n 2, 1) := by decide +kernel
theorem dX8_common_2 : decode cX8_common 2 = .ok (.if_icmp .eq 27, 3) := by decide +kernel
theorem dX8_common_5 : decode cX8_common 5 = .ok (.aload_n 0, 1) := by decide +kernel
theorem dX8_common_6 : decode cX8_common 6 = .ok (.aload_n 0, 1) := by decide +kernel
theorem dX8_common_7 : decode cX8_common 7 = .ok (.getfield 43, 3) := by decide +kernel
theorem dX8_common_10 : decode cX8_common 10 = .ok (.iload_n 1, 1) := by decide +kernel
theorem dX8_common_11 : decode cX8_common 11 = .ok (.invokevirtual 186, 3) := by decide +kernel
theorem dX8_common_14 : decode cX8_common 14 = .ok (.ifCond .eq 15, 3) := by decide +kernel
theorem dX8_common_17 : decode cX8_common 17 = .ok (.aload_n 0, 1) := by decide +kernel
theorem dX8_common_18 : decode cX8_common 18 = .ok (.aload_n 0, 1) := by decide +kernel
theorem dX8_common_19 : decode cX8_common 19 = .ok (.getfield 47, 3) := by decide +kernel
theorem dX8_common_22 : decode cX8_common 22 = .ok (.iload_n 2, 1) := by decide +kernel
theorem dX8_common_23 : decode cX8_common 23 = .ok (.invokevirtual 186, 3) := by decide +kernel
theorem dX8_common_26 : decode cX8_common 26 = .ok (.ifCond .ne 6, 3) := by decide +kernel
theorem dX8_common_29 : decode cX8_common 29 = .ok (.bipush (-2), 2) := by decide +kernel
theorem dX8_common_31 : decode cX8_common 31 = .ok (.ireturn, 1) := by decide +kernel
theorem dX8_common_32 : decode cX8_common 32 = .ok (.iconst 0, 1) := by decide +kernel
theorem dX8_common_33 : decode cX8_common 33 = .ok (.istore_n 3, 1) := by decide +kernel
theorem dX8_common_34 : decode cX8_common 34 = .ok (.iconst 0, 1) := by decide +kernel
theorem dX8_common_35 : decode cX8_common 35 = .ok (.istore 4, 2) := by decide +kernel
theorem dX8_common_37 : decode cX8_common 37 = .ok (.iload 4, 2) := by decide +kernel
theorem dX8_common_39 : decode cX8_common 39 = .ok (.bipush 60, 2) := by decide +kernel
theorem dX8_common_41 : decode cX8_common 41 = .ok (.if_icmp .gt 50, 3) := by decide +kernel
theorem dX8_common_44 : decode cX8_common 44 = .ok (.aload_n 0, 1) := by decide +kernel
theorem dX8_common_45 : decode cX8_common 45 = .ok (.getfield 43, 3) := by decide +kernel
theorem dX8_common_48 : decode cX8_common 48 = .ok (.iload 4, 2) := by decide +kernel
theorem dX8_common_50 : decode cX8_common 50 = .ok (.aload_n 0, 1) := by decide +kernel
theorem dX8_common_51 : decode cX8_common 51 = .ok (.getfield 19, 3) := by decide +kernel
theorem dX8_common_54 : decode cX8_common 54 = .ok (.getfield 104, 3) := by decide +kernel
theorem dX8_common_57 : decode cX8_common 57 = .ok (.invokevirtual 217, 3) := by decide +kernel
theorem dX8_common_60 : decode cX8_common 60 = .ok (.ifCond .le 25, 3) := by decide +kernel
theorem dX8_common_63 : decode cX8_common 63 = .ok (.aload_n 0, 1) := by decide +kernel
theorem dX8_common_64 : decode cX8_common 64 = .ok (.getfield 47, 3) := by decide +kernel
theorem dX8_common_67 : decode cX8_common 67 = .ok (.iload 4, 2) := by decide +kernel
theorem dX8_common_69 : decode cX8_common 69 = .ok (.aload_n 0, 1) := by decide +kernel
theorem dX8_common_70 : decode cX8_common 70 = .ok (.getfield 19, 3) := by decide +kernel
theorem dX8_common_73 : decode cX8_common 73 = .ok (.getfield 104, 3) := by decide +kernel
theorem dX8_common_76 : decode cX8_common 76 = .ok (.invokevirtual 217, 3) := by decide +kernel
theorem dX8_common_79 : decode cX8_common 79 = .ok (.ifCond .le 6, 3) := by decide +kernel
theorem dX8_common_82 : decode cX8_common 82 = .ok (.iinc 3 1, 3) := by decide +kernel
theorem dX8_common_85 : decode cX8_common 85 = .ok (.iinc 4 1, 3) := by decide +kernel
theorem dX8_common_88 : decode cX8_common 88 = .ok (.goto (-51), 3) := by decide +kernel
theorem dX8_common_91 : decode cX8_common 91 = .ok (.iload_n 3, 1) := by decide +kernel
theorem dX8_common_92 : decode cX8_common 92 = .ok (.ireturn, 1) := by decide +kernel
set_option maxHeartbeats 4000000 in
set_option maxRecDepth 100000 in
theorem m_X8_common (l : Launch) (D : va_G) (cy : Nat → ClassId) (g : Nat → Nat) (σ : ST) (p1 : Int32) (p2 : Int32) (sz : Nat) (hJ : J8 σ)  : Met l yX8_common (ww yX8_common cX8_common 5 (some .int)) ({ frames := 6, cells := 0, slots := 0, locals := 384 }) (va_Pc [.ref (gO g 17), .int p1, .int p2] (pr8 D cy g σ sz)) (qi8 D cy g sz (fun r τ => Fr (fO [10, 9]) σ τ ∧ J8 τ ∧ True)) 0 0 (A8 cy g sz) := by
  refine Met.ofW (cc := cX8_common) (maxL := 5) (ret := (some .int)) (by decide) rfl ?_
  intro p e s m args below meth c s₁ B hml hv
  obtain ⟨rfl, hsz, hP, hK, hD0, hC⟩ := hv
  have hx := B.exec
  have hb := B.bytes
  have hr := B.returns
  have hts := hts_g (atoms_spec (ws := ww yX8_common cX8_common 5 (some .int)) B.pre)
  have hown : s.vm.findClass RX8 = some m.cls := findClass_of_methodNamed B.named
  have hlocks := B.notSynchronized
  clear B
  subst hsz
  have hD := fun τ => A8_D (sz := s.heap.size) hD0 τ
  clear hD0
  have hS : va_S (A8 cy g s.heap.size) s.heap s.heap [] := va_S.rf
  have hl := lv_entry ([.ref (gO g 17), .int p1, .int p2]) (n := 5) (Nat.le_of_ble_eq_true rfl)
  rw [lg_entry_eq]
  generalize (lg_sl ([.ref (gO g 17), .int p1, .int p2]) ++ List.replicate (5 - (lg_sl ([.ref (gO g 17), .int p1, .int p2])).length) Slot.unset).toArray = ls at hl ⊢
  have hl : lv_has ls 5 [(0, .ref (gO g 17)), (1, .int p1), (2, .int p2)] := hl
  refine lv_iload_n hx hb dX8_common_0 rfl (lv_at hl 1 rfl) ?_
  refine lv_iload_n hx hb dX8_common_1 rfl (lv_at hl 2 rfl) ?_
  refine lv_icmp_eq (tgt := 29) hx hb dX8_common_2 (by decide) (fun c1 => ?_) (fun c1 => ?_)
  ·
    have k2 := peq32 c1
    refine lv_bipush (v := (-2)) hx hb dX8_common_29 (by decide) ?_
    exact W.iret (v := (-2)) hx hb hr (fun tS ht hW => ⟨⟨(-2), σ, rfl, ⟨Fr.rf, hJ, trivial⟩, (show va_P D clz (WD8 cy g σ) tS.heap by rw [ht]; exact hP)⟩, hS.F ht⟩) hS.2.2 dX8_common_31
  ·
    have k3 := neq32 c1
    refine lv_aload_n hx hb dX8_common_5 rfl (lv_at hl 0 rfl) ?_
    refine lv_aload_n hx hb dX8_common_6 rfl (lv_at hl 0 rfl) ?_
    refine g8_8_6 hx hb hts hown hK hP (hts _ q440) dX8_common_7 ?_
    refine lv_iload_n hx hb dX8_common_10 rfl (lv_at hl 1 rfl) ?_
    refine va_calli (va_runV (As := [.ref (gO g 9), .int p1]) (rest := []) ⟨hx, hb, hml, hown, hts⟩ (m_X8_aimTube l D cy g σ  9 p1 _ hJ (show 9 ≤ 9 ∧ 9 < 12 from ⟨by decide, by decide⟩)) (cwV 2 hts (gd_V q796 q798 q14 q125 q799) rfl rfl rfl (by decide +kernel) ⟨(Nat.le_of_ble_eq_true rfl), (Nat.le_of_ble_eq_true rfl)⟩) (pv8 hP hK hD hC hS (rv8_8 hK hP)) rfl rfl hl.1 rfl (lv_room (Nat.le_of_ble_eq_true rfl)) dX8_common_11 ⟨Nat.le_of_ble_eq_true rfl, Nat.le_of_ble_eq_true rfl⟩) hS (fun q _ h => up8 hS q h) (up8 hS) (fun r4 σ5 tS H1 locs ht hvm hw6 hB hz1 hk1 hS => ?_)
    have hP : va_P D clz (WD8 cy g σ5) H1 := by rw [← ht]; exact hB
    clear hB hz1 hk1 hvm ht
    generalize H1 = H at hP hS ⊢
    have hF7 : Fr (fO [9]) σ σ5 := hw6.1
    have hJ8 : J8 σ5 := hw6.2.1
    have b9 : (0 : Int) ≤ r4.toInt ∧ r4.toInt ≤ 1 := hw6.2.2.1
    refine lv_if_eq (tgt := 29) hx hb dX8_common_14 (by decide) (fun c10 => ?_) (fun c10 => ?_)
    ·
      have k11 := peq32 c10
      refine lv_bipush (v := (-2)) hx hb dX8_common_29 (by decide) ?_
      exact W.iret (v := (-2)) hx hb hr (fun tS ht hW => ⟨⟨(-2), σ5, rfl, ⟨Fr.tr (Fr.rf) hF7 (fO_sub (by simp)), hJ8, trivial⟩, (show va_P D clz (WD8 cy g σ5) tS.heap by rw [ht]; exact hP)⟩, hS.F ht⟩) hS.2.2 dX8_common_31
    ·
      have k12 := neq32 c10
      refine lv_aload_n hx hb dX8_common_17 rfl (lv_at hl 0 rfl) ?_
      refine lv_aload_n hx hb dX8_common_18 rfl (lv_at hl 0 rfl) ?_
      refine g8_8_7 hx hb hts hown hK hP (hts _ q441) dX8_common_19 ?_
      refine lv_iload_n hx hb dX8_common_22 rfl (lv_at hl 2 rfl) ?_
      refine va_calli (va_runV (As := [.ref (gO g 10), .int p2]) (rest := []) ⟨hx, hb, hml, hown, hts⟩ (m_X8_aimTube l D cy g σ5  10 p2 _ hJ8 (show 9 ≤ 10 ∧ 10 < 12 from ⟨by decide, by decide⟩)) (cwV 2 hts (gd_V q796 q798 q14 q125 q799) rfl rfl rfl (by decide +kernel) ⟨(Nat.le_of_ble_eq_true rfl), (Nat.le_of_ble_eq_true rfl)⟩) (pv8 hP hK hD hC hS (rv8_8 hK hP)) rfl rfl hl.1 rfl (lv_room (Nat.le_of_ble_eq_true rfl)) dX8_common_23 ⟨Nat.le_of_ble_eq_true rfl, Nat.le_of_ble_eq_true rfl⟩) hS (fun q _ h => up8 hS q h) (up8 hS) (fun r13 σ14 tS H1 locs ht hvm hw15 hB hz1 hk1 hS => ?_)
      have hP : va_P D clz (WD8 cy g σ14) H1 := by rw [← ht]; exact hB
      clear hB hz1 hk1 hvm ht
      generalize H1 = H at hP hS ⊢
      have hF16 : Fr (fO [10]) σ5 σ14 := hw15.1
      have hJ17 : J8 σ14 := hw15.2.1
      have b18 : (0 : Int) ≤ r13.toInt ∧ r13.toInt ≤ 1 := hw15.2.2.1
      refine lv_if_ne (tgt := 32) hx hb dX8_common_26 (by decide) (fun c19 => ?_) (fun c19 => ?_)
      ·
        have k20 := neq32 c19
        refine lv_iconst (v := 0) hx hb dX8_common_32 (by decide) ?_
        refine lv_istore_n (lv' := [(3, .int 0), (0, .ref (gO g 17)), (1, .int p1), (2, .int p2)]) hx hb dX8_common_33 rfl hl (by decide) rfl (fun ls hl => ?_)
        refine lv_iconst (v := 0) hx hb dX8_common_34 (by decide) ?_
        refine lv_istore (lv' := [(4, .int 0), (3, .int 0), (0, .ref (gO g 17)), (1, .int p1), (2, .int p2)]) hx hb dX8_common_35 hl (by decide) rfl (fun ls hl => ?_)
        refine loop8 5 37 (fun x : LZ => [(4, .int (x.2.1 0)), (3, .int (x.2.1 1)), (0, .ref (gO g 17)), (1, .int p1), (2, .int p2)]) (fun x : LZ => (x.1 = σ14) ∧ ((0 : Int) ≤ (x.2.1 0).toInt ∧ (x.2.1 0).toInt ≤ 61) ∧ True) (fun x : LZ => ((62 : Int) - (x.2.1 0).toInt).toNat) ?_ (σ14, lf [0, 0], lg []) ⟨rfl, (show (0 : Int) ≤ (0 : Int32).toInt ∧ (0 : Int32).toInt ≤ 61 from (by have z0 : (0 : Int32).toInt = 0 := (by decide); omega)), trivial⟩ _ _ _ hP hS (lv_sub hl [0, 1, 2, 3, 4] rfl)
        intro y23 hI22 nl21 H locs ls hP hS hl
        rw [show y23.1 = σ14 from hI22.1] at hP
        have b24 : (0 : Int) ≤ (y23.2.1 0).toInt ∧ (y23.2.1 0).toInt ≤ 61 := hI22.2.1
        have hl : lv_has ls 5 [(4, .int (y23.2.1 0)), (3, .int (y23.2.1 1)), (0, .ref (gO g 17)), (1, .int p1), (2, .int p2)] := hl
        refine lv_iload hx hb dX8_common_37 (lv_at hl 0 rfl) ?_
        refine lv_bipush (v := 60) hx hb dX8_common_39 (by decide) ?_
        refine lv_icmp_gt (tgt := 91) hx hb dX8_common_41 (by decide) (fun c25 => ?_) (fun c25 => ?_)
        ·
          have k26 := plt32 c25
          refine lv_iload_n hx hb dX8_common_91 rfl (lv_at hl 1 rfl) ?_
          exact W.iret (v := (y23.2.1 1)) hx hb hr (fun tS ht hW => ⟨⟨(y23.2.1 1), σ14, rfl, ⟨Fr.tr (Fr.tr (Fr.rf) hF7 (fO_sub (by simp))) hF16 (fO_sub (by simp)), hJ17, trivial⟩, (show va_P D clz (WD8 cy g σ14) tS.heap by rw [ht]; exact hP)⟩, hS.F ht⟩) hS.2.2 dX8_common_92
        ·
          have k27 := nlt32 c25
          refine lv_aload_n hx hb dX8_common_44 rfl (lv_at hl 2 rfl) ?_
          refine g8_8_6 hx hb hts hown hK hP (hts _ q440) dX8_common_45 ?_
          refine lv_iload hx hb dX8_common_48 (lv_at hl 0 rfl) ?_
          refine lv_aload_n hx hb dX8_common_50 rfl (lv_at hl 2 rfl) ?_
          obtain ⟨dx28, edx28⟩ : ∃ z : Nat, ((σ 17).1 1).toInt.toNat = z := ⟨_, rfl⟩
          have hdx28 : 0 ≤ dx28 ∧ dx28 < 5 := mnow (by have f0 := j8_8_1 hJ rfl; omega) edx28
          refine g8_8_1 (o := dx28) hx hb hts hown hK hP ((congrArg (fun z : Int32 => z.toInt.toNat) (((hF16 17 1 (fO_n (nmc (by decide) nm0))).1).trans ((hF7 17 1 (fO_n (nmc (by decide) nm0))).1))).trans edx28) (hts _ q435) dX8_common_51 ?_
          refine g8_0_0 (x := ((σ dx28).1 0)) hx hb hts hown hK hP hdx28 (((hF16 dx28 0 (fO_n (nmc (nel hdx28 (by decide)) nm0))).1).trans ((hF7 dx28 0 (fO_n (nmc (nel hdx28 (by decide)) nm0))).1)) (hts _ q194) dX8_common_54 ?_
          refine va_calli (va_runV (As := [.int (y23.2.1 0), .int ((σ dx28).1 0)]) (rest := []) ⟨hx, hb, hml, hown, hts⟩ (m_X7_countWays l D cy g σ14  9 (y23.2.1 0) ((σ dx28).1 0) _ hJ17 (show 9 ≤ 9 ∧ 9 < 12 from ⟨by decide, by decide⟩)) (cwV 2 hts (gd_V q872 q873 q874 q128 q875) rfl rfl rfl (by decide +kernel) ⟨(Nat.le_of_ble_eq_true rfl), (Nat.le_of_ble_eq_true rfl)⟩) (pv8 hP hK hD hC hS (rv8_7 hK hP (by decide : 9 ≤ 9 ∧ 9 < 12))) rfl rfl hl.1 rfl (lv_room (Nat.le_of_ble_eq_true rfl)) dX8_common_57 ⟨Nat.le_of_ble_eq_true rfl, Nat.le_of_ble_eq_true rfl⟩) hS (fun q _ h => up8 hS q h) (up8 hS) (fun r29 σ30 tS H1 locs ht hvm hw31 hB hz1 hk1 hS => ?_)
          have hP : va_P D clz (WD8 cy g σ30) H1 := by rw [← ht]; exact hB
          clear hB hz1 hk1 hvm ht
          generalize H1 = H at hP hS ⊢
          have hw31E : σ14 = σ30 := (hw31.1).symm
          subst hw31E
          refine cut8 (D := D) (cy := cy) (g := g) (A := A8 cy g s.heap.size) (H0 := s.heap) 5 85 (fun x : LZ => [(4, .int (y23.2.1 0)), (3, .int (x.2.1 0)), (0, .ref (gO g 17)), (1, .int p1), (2, .int p2)]) (fun x : LZ => []) (fun x : LZ => (x.1 = σ14) ∧ True) ?_ ?_
          ·
            intro y34 hI33 H locs ls hP hS hl
            rw [show y34.1 = σ14 from hI33.1] at hP
            have hl : lv_has ls 5 [(4, .int (y23.2.1 0)), (3, .int (y34.2.1 0)), (0, .ref (gO g 17)), (1, .int p1), (2, .int p2)] := hl
            obtain ⟨x35, ex35⟩ : ∃ y : Int32, y = (y23.2.1 0) + 1 := ⟨_, rfl⟩
            have t36 := addO ex35 (by have f0 := b24; have f1 := k27; have g0 := rg32 (y23.2.1 0); have z1 : (1 : Int32).toInt = 1 := (by decide); have z60 : (60 : Int32).toInt = 60 := (by decide); omega)
            refine lv_iinc (v := x35) (lv' := [(4, .int x35), (3, .int (y34.2.1 0)), (0, .ref (gO g 17)), (1, .int p1), (2, .int p2)]) hx hb dX8_common_85 hl (k := 0) rfl (by rw [ex35]; rfl) (by decide) rfl (fun ls hl => ?_)
            refine lv_goto (tgt := 37) hx hb dX8_common_88 (by decide) ?_
            have t37 : ((62 : Int) - x35.toInt).toNat < ((62 : Int) - (y23.2.1 0).toInt).toNat := (by have f0 := b24; have f1 := k27; have f2 := t36; have g0 := rg32 (y23.2.1 0); have g1 := rg32 x35; have z1 : (1 : Int32).toInt = 1 := (by decide); have z60 : (60 : Int32).toInt = 60 := (by decide); omega)
            exact nl21 (σ14, lf [x35, (y34.2.1 0)], lg []) ⟨rfl, (show (0 : Int) ≤ (x35 : Int32).toInt ∧ (x35 : Int32).toInt ≤ 61 from (by have f0 := t36; have f1 := b24; have f2 := k27; have g0 := rg32 x35; have z1 : (1 : Int32).toInt = 1 := (by decide); have z60 : (60 : Int32).toInt = 60 := (by decide); omega)), trivial⟩ (show ((62 : Int) - x35.toInt).toNat < _ from t37) _ _ _ hP hS (lv_sub hl [0, 1, 2, 3, 4] rfl)
          ·
            intro nj32
            refine lv_if_le (tgt := 85) hx hb dX8_common_60 (by decide) (fun c38 => ?_) (fun c38 => ?_)
            ·
              have k39 := ple32 c38
              exact nj32 (σ14, lf [(y23.2.1 1)], lg []) ⟨rfl, trivial⟩ _ _ _ hP hS (lv_sub hl [0, 1, 2, 3, 4] rfl)
            ·
              have k40 := nle32 c38
              refine lv_aload_n hx hb dX8_common_63 rfl (lv_at hl 2 rfl) ?_
              refine g8_8_7 hx hb hts hown hK hP (hts _ q441) dX8_common_64 ?_
              refine lv_iload hx hb dX8_common_67 (lv_at hl 0 rfl) ?_
              refine lv_aload_n hx hb dX8_common_69 rfl (lv_at hl 2 rfl) ?_
              refine g8_8_1 (o := dx28) hx hb hts hown hK hP ((congrArg (fun z : Int32 => z.toInt.toNat) (((hF16 17 1 (fO_n (nmc (by decide) nm0))).1).trans ((hF7 17 1 (fO_n (nmc (by decide) nm0))).1))).trans edx28) (hts _ q435) dX8_common_70 ?_
              refine g8_0_0 (x := ((σ dx28).1 0)) hx hb hts hown hK hP hdx28 (((hF16 dx28 0 (fO_n (nmc (nel hdx28 (by decide)) nm0))).1).trans ((hF7 dx28 0 (fO_n (nmc (nel hdx28 (by decide)) nm0))).1)) (hts _ q194) dX8_common_73 ?_
              refine va_calli (va_runV (As := [.int (y23.2.1 0), .int ((σ dx28).1 0)]) (rest := []) ⟨hx, hb, hml, hown, hts⟩ (m_X7_countWays l D cy g σ14  10 (y23.2.1 0) ((σ dx28).1 0) _ hJ17 (show 9 ≤ 10 ∧ 10 < 12 from ⟨by decide, by decide⟩)) (cwV 2 hts (gd_V q872 q873 q874 q128 q875) rfl rfl rfl (by decide +kernel) ⟨(Nat.le_of_ble_eq_true rfl), (Nat.le_of_ble_eq_true rfl)⟩) (pv8 hP hK hD hC hS (rv8_7 hK hP (by decide : 9 ≤ 10 ∧ 10 < 12))) rfl rfl hl.1 rfl (lv_room (Nat.le_of_ble_eq_true rfl)) dX8_common_76 ⟨Nat.le_of_ble_eq_true rfl, Nat.le_of_ble_eq_true rfl⟩) hS (fun q _ h => up8 hS q h) (up8 hS) (fun r41 σ42 tS H1 locs ht hvm hw43 hB hz1 hk1 hS => ?_)
              have hP : va_P D clz (WD8 cy g σ42) H1 := by rw [← ht]; exact hB
              clear hB hz1 hk1 hvm ht
              generalize H1 = H at hP hS ⊢
              have hw43E : σ14 = σ42 := (hw43.1).symm
              subst hw43E
              refine lv_if_le (tgt := 85) hx hb dX8_common_79 (by decide) (fun c44 => ?_) (fun c44 => ?_)
              ·
                have k45 := ple32 c44
                exact nj32 (σ14, lf [(y23.2.1 1)], lg []) ⟨rfl, trivial⟩ _ _ _ hP hS (lv_sub hl [0, 1, 2, 3, 4] rfl)
              ·
                have k46 := nle32 c44
                obtain ⟨x47, ex47⟩ : ∃ y : Int32, y = (y23.2.1 1) + 1 := ⟨_, rfl⟩
                refine lv_iinc (v := x47) (lv' := [(3, .int x47), (4, .int (y23.2.1 0)), (0, .ref (gO g 17)), (1, .int p1), (2, .int p2)]) hx hb dX8_common_82 hl (k := 1) rfl (by rw [ex47]; rfl) (by decide) rfl (fun ls hl => ?_)
                exact nj32 (σ14, lf [x47], lg []) ⟨rfl, trivial⟩ _ _ _ hP hS (lv_sub hl [1, 0, 2, 3, 4] rfl)
      ·
        have k48 := peq32 c19
        refine lv_bipush (v := (-2)) hx hb dX8_common_29 (by decide) ?_
        exact W.iret (v := (-2)) hx hb hr (fun tS ht hW => ⟨⟨(-2), σ14, rfl, ⟨Fr.tr (Fr.tr (Fr.rf) hF7 (fO_sub (by simp))) hF16 (fO_sub (by simp)), hJ17, trivial⟩, (show va_P D clz (WD8 cy g σ14) tS.heap by rw [ht]; exact hP)⟩, hS.F ht⟩) hS.2.2 dX8_common_31

theorem q903 : Cond.code yX7_moveBetween cX7_moveBetween 3 (some .int) ∈ lw_g := lw_gm (List.mem_of_getElem? (i := 903) (by decide +kernel)) rfl
theorem q904 : Cond.methodLink RX7 77 yJ6_bitCount_0f7a4 ∈ lw_g := lw_gm (List.mem_of_getElem? (i := 904) (by decide +kernel)) rfl
theorem q905 : Cond.static yJ6_bitCount_0f7a4 ∈ lw_g := lw_gm (List.mem_of_getElem? (i := 905) (by decide +kernel)) rfl
theorem q140 : Cond.initialized RJ6 ∈ lw_g := lw_gm (List.mem_of_getElem? (i := 140) (by decide +kernel)) rfl
theorem dX7_moveBetween_0 : decode cX7_moveBetween 0 = .ok (.aload_n 0, 1) := by decide +kernel
theorem dX7_moveBetween_1 : decode cX7_moveBetween 1 = .ok (.getfield 21, 3) := by decide +kernel
theorem dX7_moveBetween_4 : decode cX7_moveBetween 4 = .ok (.iconst 1, 1) := by decide +kernel
theorem dX7_moveBetween_5 : decode cX7_moveBetween 5 = .ok (.if_icmp .ne 10, 3) := by decide +kernel
theorem dX7_moveBetween_8 : decode cX7_moveBetween 8 = .ok (.iload_n 1, 1) := by decide +kernel
theorem dX7_moveBetween_9 : decode cX7_moveBetween 9 = .ok (.iload_n 2, 1) := by decide +kernel
theorem dX7_moveBetween_10 : decode cX7_moveBetween 10 = .ok (.ixor, 1) := by decide +kernel
theorem dX7_moveBetween_11 : decode cX7_moveBetween 11 = .ok (.invokestatic 77, 3) := by decide +kernel
theorem dX7_moveBetween_14 : decode cX7_moveBetween 14 = .ok (.ireturn, 1) := by decide +kernel
theorem dX7_moveBetween_15 : decode cX7_moveBetween 15 = .ok (.aload_n 0, 1) := by decide +kernel
theorem dX7_moveBetween_16 : decode cX7_moveBetween 16 = .ok (.getfield 21, 3) := by decide +kernel
theorem dX7_moveBetween_19 : decode cX7_moveBetween 19 = .ok (.iconst 2, 1) := by decide +kernel
theorem dX7_moveBetween_20 : decode cX7_moveBetween 20 = .ok (.if_icmp .ne 12, 3) := by decide +kernel
theorem dX7_moveBetween_23 : decode cX7_moveBetween 23 = .ok (.iload_n 1, 1) := by decide +kernel
theorem dX7_moveBetween_24 : decode cX7_moveBetween 24 = .ok (.iload_n 2, 1) := by decide +kernel
theorem dX7_moveBetween_25 : decode cX7_moveBetween 25 = .ok (.isub, 1) := by decide +kernel
theorem dX7_moveBetween_26 : decode cX7_moveBetween 26 = .ok (.invokestatic 62, 3) := by decide +kernel
theorem dX7_moveBetween_29 : decode cX7_moveBetween 29 = .ok (.goto 4, 3) := by decide +kernel
theorem dX7_moveBetween_32 : decode cX7_moveBetween 32 = .ok (.iconst 0, 1) := by decide +kernel
theorem dX7_moveBetween_33 : decode cX7_moveBetween 33 = .ok (.ireturn, 1) := by decide +kernel
set_option maxHeartbeats 4000000 in
set_option maxRecDepth 100000 in
theorem m_X7_moveBetween (l : Launch) (D : va_G) (cy : Nat → ClassId) (g : Nat → Nat) (σ : ST) (d0 : Nat) (p1 : Int32) (p2 : Int32) (sz : Nat) (hJ : J8 σ) (hd0 : 9 ≤ d0 ∧ d0 < 12) (h0 : (0 : Int) ≤ p1.toInt ∧ p1.toInt ≤ 7) (h1 : (0 : Int) ≤ p2.toInt ∧ p2.toInt ≤ 7) : Met l yX7_moveBetween (ww yX7_moveBetween cX7_moveBetween 3 (some .int)) ({ frames := 2, cells := 0, slots := 0, locals := 128 }) (va_Pc [.ref (gO g d0), .int p1, .int p2] (pr8 D cy g σ sz)) (qi8 D cy g sz (fun r τ => τ = σ ∧ True)) 0 0 (A8 cy g sz) := by
  refine Met.ofW (cc := cX7_moveBetween) (maxL := 3) (ret := (some .int)) (by decide) rfl ?_
  intro p e s m args below meth c s₁ B hml hv
  obtain ⟨rfl, hsz, hP, hK, hD0, hC⟩ := hv
  have hx := B.exec
  have hb := B.bytes
  have hr := B.returns
  have hts := hts_g (atoms_spec (ws := ww yX7_moveBetween cX7_moveBetween 3 (some .int)) B.pre)
  have hown : s.vm.findClass RX7 = some m.cls := findClass_of_methodNamed B.named
  have hlocks := B.notSynchronized
  clear B
  subst hsz
  have hD := fun τ => A8_D (sz := s.heap.size) hD0 τ
  clear hD0
  have hS : va_S (A8 cy g s.heap.size) s.heap s.heap [] := va_S.rf
  have hl := lv_entry ([.ref (gO g d0), .int p1, .int p2]) (n := 3) (Nat.le_of_ble_eq_true rfl)
  rw [lg_entry_eq]
  generalize (lg_sl ([.ref (gO g d0), .int p1, .int p2]) ++ List.replicate (3 - (lg_sl ([.ref (gO g d0), .int p1, .int p2])).length) Slot.unset).toArray = ls at hl ⊢
  have hl : lv_has ls 3 [(0, .ref (gO g d0)), (1, .int p1), (2, .int p2)] := hl
  refine lv_aload_n hx hb dX7_moveBetween_0 rfl (lv_at hl 0 rfl) ?_
  refine g8_7_2 (x := ((σ d0).1 2)) hx hb hts hown hK hP hd0 (rfl) (hts _ q252) dX7_moveBetween_1 ?_
  refine lv_iconst (v := 1) hx hb dX7_moveBetween_4 (by decide) ?_
  refine lv_icmp_ne (tgt := 15) hx hb dX7_moveBetween_5 (by decide) (fun c1 => ?_) (fun c1 => ?_)
  ·
    have k2 := neq32 c1
    refine lv_aload_n hx hb dX7_moveBetween_15 rfl (lv_at hl 0 rfl) ?_
    refine g8_7_2 (x := ((σ d0).1 2)) hx hb hts hown hK hP hd0 (rfl) (hts _ q252) dX7_moveBetween_16 ?_
    refine lv_iconst (v := 2) hx hb dX7_moveBetween_19 (by decide) ?_
    refine lv_icmp_ne (tgt := 32) hx hb dX7_moveBetween_20 (by decide) (fun c3 => ?_) (fun c3 => ?_)
    ·
      have k4 := neq32 c3
      refine lv_iconst (v := 0) hx hb dX7_moveBetween_32 (by decide) ?_
      exact W.iret (v := 0) hx hb hr (fun tS ht hW => ⟨⟨0, σ, rfl, ⟨rfl, trivial⟩, (show va_P D clz (WD8 cy g σ) tS.heap by rw [ht]; exact hP)⟩, hS.F ht⟩) hS.2.2 dX7_moveBetween_33
    ·
      have k5 := peq32 c3
      refine lv_iload_n hx hb dX7_moveBetween_23 rfl (lv_at hl 1 rfl) ?_
      refine lv_iload_n hx hb dX7_moveBetween_24 rfl (lv_at hl 2 rfl) ?_
      refine lv_isub hx hb dX7_moveBetween_25 ?_
      refine lv_topi (fun x6 ex6 => ?_)
      have t7 := subO ex6 (by have f0 := h0; have f1 := h1; have g0 := rg32 p1; have g1 := rg32 p2; omega)
      refine va_mabs hx hb (hml.trans hl.1.symm) hown (hts _ q859) (hts _ q860) (hts _ q135) (hts _ q861) (Nat.le_of_ble_eq_true rfl) (Nat.le_of_ble_eq_true rfl) (Nat.le_refl _) (Nat.le_refl _) dX7_moveBetween_26 ?_
      refine lv_topi (fun x8 ex8 => ?_)
      have t9 := absO ex8 (by have f0 := t7; have f1 := h0; have f2 := h1; have g0 := rg32 x6; omega)
      refine lv_goto (tgt := 33) hx hb dX7_moveBetween_29 (by decide) ?_
      exact W.iret (v := x8) hx hb hr (fun tS ht hW => ⟨⟨x8, σ, rfl, ⟨rfl, trivial⟩, (show va_P D clz (WD8 cy g σ) tS.heap by rw [ht]; exact hP)⟩, hS.F ht⟩) hS.2.2 dX7_moveBetween_33
  ·
    have k10 := peq32 c1
    refine lv_iload_n hx hb dX7_moveBetween_8 rfl (lv_at hl 1 rfl) ?_
    refine lv_iload_n hx hb dX7_moveBetween_9 rfl (lv_at hl 2 rfl) ?_
    refine lv_ixor hx hb dX7_moveBetween_10 ?_
    refine lv_topi (fun x11 ex11 => ?_)
    refine va_calli (va_runS (As := [.int x11]) (rest := []) ⟨hx, hb, hml, hown, hts⟩ (m_J6_bitCount_0f7a4 l D cy g σ  x11 _ hJ ) (va_cwS 1 hts (gd_S q904 q905 q140 q906) rfl rfl rfl (by decide +kernel) ⟨(Nat.le_of_ble_eq_true rfl), (Nat.le_of_ble_eq_true rfl)⟩) (ps8 hP hK hD hC hS) rfl rfl hl.1 rfl (lv_room (Nat.le_of_ble_eq_true rfl)) dX7_moveBetween_11 ⟨Nat.le_of_ble_eq_true rfl, Nat.le_of_ble_eq_true rfl⟩) hS (fun q _ h => up8 hS q h) (up8 hS) (fun r12 σ13 tS H1 locs ht hvm hw14 hB hz1 hk1 hS => ?_)
    have hP : va_P D clz (WD8 cy g σ13) H1 := by rw [← ht]; exact hB
    clear hB hz1 hk1 hvm ht
    generalize H1 = H at hP hS ⊢
    have hw14E : σ = σ13 := (hw14.1).symm
    subst hw14E
    have b15 : (0 : Int) ≤ r12.toInt ∧ r12.toInt ≤ 63 := hw14.2.1
    exact W.iret (v := r12) hx hb hr (fun tS ht hW => ⟨⟨r12, σ, rfl, ⟨rfl, trivial⟩, (show va_P D clz (WD8 cy g σ) tS.heap by rw [ht]; exact hP)⟩, hS.F ht⟩) hS.2.2 dX7_moveBetween_14

theorem q899 : Cond.code yX8_move cX8_move 4 (some .int) ∈ lw_g := lw_gm (List.mem_of_getElem? (i := 899) (by decide +kernel)) rfl
theorem q900 : Cond.methodLink RX8 223 yX7_moveBetween ∈ lw_g := lw_gm (List.mem_of_getElem? (i := 900) (by decide +kernel)) rfl
theorem q901 : Cond.instanceMethod yX7_moveBetween ∈ lw_g := lw_gm (List.mem_of_getElem? (i := 901) (by decide +kernel)) rfl
theorem q902 : Cond.selects RX7 yX7_moveBetween yX7_moveBetween ∈ lw_g := lw_gm (List.mem_of_getElem? (i := 902) (by decide +kernel)) rfl
theorem dX8_move_0 : decode cX8_move 0 = .ok (.aload_n 0, 1) := by decide +kernel
theorem dX8_move_1 : decode cX8_move 1 = .ok (.aload_n 0, 1) := by decide +kernel
theorem dX8_move_2 : decode cX8_move 2 = .ok (.getfield 43, 3) := by decide +kernel
theorem dX8_move_5 : decode cX8_move 5 = .ok (.iload_n 1, 1) := by decide +kernel
theorem dX8_move_6 : decode cX8_move 6 = .ok (.invokevirtual 186, 3) := by decide +kernel
theorem dX8_move_9 : decode cX8_move 9 = .ok (.ifCond .eq 25, 3) := by decide +kernel
theorem dX8_move_12 : decode cX8_move 12 = .ok (.aload_n 0, 1) := by decide +kernel
theorem dX8_move_13 : decode cX8_move 13 = .ok (.getfield 43, 3) := by decide +kernel
theorem dX8_move_16 : decode cX8_move 16 = .ok (.iload_n 2, 1) := by decide +kernel
theorem dX8_move_17 : decode cX8_move 17 = .ok (.invokevirtual 190, 3) := by decide +kernel
theorem dX8_move_20 : decode cX8_move 20 = .ok (.ifCond .eq 14, 3) := by decide +kernel
theorem dX8_move_23 : decode cX8_move 23 = .ok (.aload_n 0, 1) := by decide +kernel
theorem dX8_move_24 : decode cX8_move 24 = .ok (.getfield 43, 3) := by decide +kernel
theorem dX8_move_27 : decode cX8_move 27 = .ok (.iload_n 3, 1) := by decide +kernel
theorem dX8_move_28 : decode cX8_move 28 = .ok (.invokevirtual 190, 3) := by decide +kernel
theorem dX8_move_31 : decode cX8_move 31 = .ok (.ifCond .ne 6, 3) := by decide +kernel
theorem dX8_move_34 : decode cX8_move 34 = .ok (.bipush (-2), 2) := by decide +kernel
theorem dX8_move_36 : decode cX8_move 36 = .ok (.ireturn, 1) := by decide +kernel
theorem dX8_move_37 : decode cX8_move 37 = .ok (.aload_n 0, 1) := by decide +kernel
theorem dX8_move_38 : decode cX8_move 38 = .ok (.getfield 43, 3) := by decide +kernel
theorem dX8_move_41 : decode cX8_move 41 = .ok (.iload_n 2, 1) := by decide +kernel
theorem dX8_move_42 : decode cX8_move 42 = .ok (.iload_n 3, 1) := by decide +kernel
theorem dX8_move_43 : decode cX8_move 43 = .ok (.invokevirtual 223, 3) := by decide +kernel
theorem dX8_move_46 : decode cX8_move 46 = .ok (.ireturn, 1) := by decide +kernel
set_option maxHeartbeats 4000000 in
set_option maxRecDepth 100000 in
theorem m_X8_move (l : Launch) (D : va_G) (cy : Nat → ClassId) (g : Nat → Nat) (σ : ST) (p1 : Int32) (p2 : Int32) (p3 : Int32) (sz : Nat) (hJ : J8 σ)  : Met l yX8_move (ww yX8_move cX8_move 4 (some .int)) ({ frames := 6, cells := 0, slots := 0, locals := 384 }) (va_Pc [.ref (gO g 17), .int p1, .int p2, .int p3] (pr8 D cy g σ sz)) (qi8 D cy g sz (fun r τ => Fr (fO [9]) σ τ ∧ J8 τ ∧ True)) 0 0 (A8 cy g sz) := by
  refine Met.ofW (cc := cX8_move) (maxL := 4) (ret := (some .int)) (by decide) rfl ?_
  intro p e s m args below meth c s₁ B hml hv
  obtain ⟨rfl, hsz, hP, hK, hD0, hC⟩ := hv
  have hx := B.exec
  have hb := B.bytes
  have hr := B.returns
  have hts := hts_g (atoms_spec (ws := ww yX8_move cX8_move 4 (some .int)) B.pre)
  have hown : s.vm.findClass RX8 = some m.cls := findClass_of_methodNamed B.named
  have hlocks := B.notSynchronized
  clear B
  subst hsz
  have hD := fun τ => A8_D (sz := s.heap.size) hD0 τ
  clear hD0
  have hS : va_S (A8 cy g s.heap.size) s.heap s.heap [] := va_S.rf
  have hl := lv_entry ([.ref (gO g 17), .int p1, .int p2, .int p3]) (n := 4) (Nat.le_of_ble_eq_true rfl)
  rw [lg_entry_eq]
  generalize (lg_sl ([.ref (gO g 17), .int p1, .int p2, .int p3]) ++ List.replicate (4 - (lg_sl ([.ref (gO g 17), .int p1, .int p2, .int p3])).length) Slot.unset).toArray = ls at hl ⊢
  have hl : lv_has ls 4 [(0, .ref (gO g 17)), (1, .int p1), (2, .int p2), (3, .int p3)] := hl
  refine lv_aload_n hx hb dX8_move_0 rfl (lv_at hl 0 rfl) ?_
  refine lv_aload_n hx hb dX8_move_1 rfl (lv_at hl 0 rfl) ?_
  refine g8_8_6 hx hb hts hown hK hP (hts _ q440) dX8_move_2 ?_
  refine lv_iload_n hx hb dX8_move_5 rfl (lv_at hl 1 rfl) ?_
  refine va_calli (va_runV (As := [.ref (gO g 9), .int p1]) (rest := []) ⟨hx, hb, hml, hown, hts⟩ (m_X8_aimTube l D cy g σ  9 p1 _ hJ (show 9 ≤ 9 ∧ 9 < 12 from ⟨by decide, by decide⟩)) (cwV 2 hts (gd_V q796 q798 q14 q125 q799) rfl rfl rfl (by decide +kernel) ⟨(Nat.le_of_ble_eq_true rfl), (Nat.le_of_ble_eq_true rfl)⟩) (pv8 hP hK hD hC hS (rv8_8 hK hP)) rfl rfl hl.1 rfl (lv_room (Nat.le_of_ble_eq_true rfl)) dX8_move_6 ⟨Nat.le_of_ble_eq_true rfl, Nat.le_of_ble_eq_true rfl⟩) hS (fun q _ h => up8 hS q h) (up8 hS) (fun r1 σ2 tS H1 locs ht hvm hw3 hB hz1 hk1 hS => ?_)
  have hP : va_P D clz (WD8 cy g σ2) H1 := by rw [← ht]; exact hB
  clear hB hz1 hk1 hvm ht
  generalize H1 = H at hP hS ⊢
  have hF4 : Fr (fO [9]) σ σ2 := hw3.1
  have hJ5 : J8 σ2 := hw3.2.1
  have b6 : (0 : Int) ≤ r1.toInt ∧ r1.toInt ≤ 1 := hw3.2.2.1
  refine lv_if_eq (tgt := 34) hx hb dX8_move_9 (by decide) (fun c7 => ?_) (fun c7 => ?_)
  ·
    have k8 := peq32 c7
    refine lv_bipush (v := (-2)) hx hb dX8_move_34 (by decide) ?_
    exact W.iret (v := (-2)) hx hb hr (fun tS ht hW => ⟨⟨(-2), σ2, rfl, ⟨Fr.tr (Fr.rf) hF4 (fO_sub (fun _ q => q)), hJ5, trivial⟩, (show va_P D clz (WD8 cy g σ2) tS.heap by rw [ht]; exact hP)⟩, hS.F ht⟩) hS.2.2 dX8_move_36
  ·
    have k9 := neq32 c7
    refine lv_aload_n hx hb dX8_move_12 rfl (lv_at hl 0 rfl) ?_
    refine g8_8_6 hx hb hts hown hK hP (hts _ q440) dX8_move_13 ?_
    refine lv_iload_n hx hb dX8_move_16 rfl (lv_at hl 2 rfl) ?_
    refine va_calli (va_runV (As := [.int p2]) (rest := []) ⟨hx, hb, hml, hown, hts⟩ (m_X7_hasSetting l D cy g σ2  9 p2 _ hJ5 (show 9 ≤ 9 ∧ 9 < 12 from ⟨by decide, by decide⟩)) (cwV 1 hts (gd_V q809 q810 q811 q128 q812) rfl rfl rfl (by decide +kernel) ⟨(Nat.le_of_ble_eq_true rfl), (Nat.le_of_ble_eq_true rfl)⟩) (pv8 hP hK hD hC hS (rv8_7 hK hP (by decide : 9 ≤ 9 ∧ 9 < 12))) rfl rfl hl.1 rfl (lv_room (Nat.le_of_ble_eq_true rfl)) dX8_move_17 ⟨Nat.le_of_ble_eq_true rfl, Nat.le_of_ble_eq_true rfl⟩) hS (fun q _ h => up8 hS q h) (up8 hS) (fun r10 σ11 tS H1 locs ht hvm hw12 hB hz1 hk1 hS => ?_)
    have hP : va_P D clz (WD8 cy g σ11) H1 := by rw [← ht]; exact hB
    clear hB hz1 hk1 hvm ht
    generalize H1 = H at hP hS ⊢
    have hw12E : σ2 = σ11 := (hw12.1).symm
    subst hw12E
    have b13 : (0 : Int) ≤ r10.toInt ∧ r10.toInt ≤ 1 := hw12.2.1
    have b14 : (r10.toInt = 0) ∨ ((0 : Int) ≤ p2.toInt ∧ p2.toInt ≤ 7) := hw12.2.2.1
    refine lv_if_eq (tgt := 34) hx hb dX8_move_20 (by decide) (fun c15 => ?_) (fun c15 => ?_)
    ·
      have k16 := peq32 c15
      refine lv_bipush (v := (-2)) hx hb dX8_move_34 (by decide) ?_
      exact W.iret (v := (-2)) hx hb hr (fun tS ht hW => ⟨⟨(-2), σ2, rfl, ⟨Fr.tr (Fr.rf) hF4 (fO_sub (fun _ q => q)), hJ5, trivial⟩, (show va_P D clz (WD8 cy g σ2) tS.heap by rw [ht]; exact hP)⟩, hS.F ht⟩) hS.2.2 dX8_move_36
    ·
      have k17 := neq32 c15
      refine lv_aload_n hx hb dX8_move_23 rfl (lv_at hl 0 rfl) ?_
      refine g8_8_6 hx hb hts hown hK hP (hts _ q440) dX8_move_24 ?_
      refine lv_iload_n hx hb dX8_move_27 rfl (lv_at hl 3 rfl) ?_
      refine va_calli (va_runV (As := [.int p3]) (rest := []) ⟨hx, hb, hml, hown, hts⟩ (m_X7_hasSetting l D cy g σ2  9 p3 _ hJ5 (show 9 ≤ 9 ∧ 9 < 12 from ⟨by decide, by decide⟩)) (cwV 1 hts (gd_V q809 q810 q811 q128 q812) rfl rfl rfl (by decide +kernel) ⟨(Nat.le_of_ble_eq_true rfl), (Nat.le_of_ble_eq_true rfl)⟩) (pv8 hP hK hD hC hS (rv8_7 hK hP (by decide : 9 ≤ 9 ∧ 9 < 12))) rfl rfl hl.1 rfl (lv_room (Nat.le_of_ble_eq_true rfl)) dX8_move_28 ⟨Nat.le_of_ble_eq_true rfl, Nat.le_of_ble_eq_true rfl⟩) hS (fun q _ h => up8 hS q h) (up8 hS) (fun r18 σ19 tS H1 locs ht hvm hw20 hB hz1 hk1 hS => ?_)
      have hP : va_P D clz (WD8 cy g σ19) H1 := by rw [← ht]; exact hB
      clear hB hz1 hk1 hvm ht
      generalize H1 = H at hP hS ⊢
      have hw20E : σ2 = σ19 := (hw20.1).symm
      subst hw20E
      have b21 : (0 : Int) ≤ r18.toInt ∧ r18.toInt ≤ 1 := hw20.2.1
      have b22 : (r18.toInt = 0) ∨ ((0 : Int) ≤ p3.toInt ∧ p3.toInt ≤ 7) := hw20.2.2.1
      refine lv_if_ne (tgt := 37) hx hb dX8_move_31 (by decide) (fun c23 => ?_) (fun c23 => ?_)
      ·
        have k24 := neq32 c23
        refine lv_aload_n hx hb dX8_move_37 rfl (lv_at hl 0 rfl) ?_
        refine g8_8_6 hx hb hts hown hK hP (hts _ q440) dX8_move_38 ?_
        refine lv_iload_n hx hb dX8_move_41 rfl (lv_at hl 2 rfl) ?_
        refine lv_iload_n hx hb dX8_move_42 rfl (lv_at hl 3 rfl) ?_
        refine va_calli (va_runV (As := [.int p2, .int p3]) (rest := []) ⟨hx, hb, hml, hown, hts⟩ (m_X7_moveBetween l D cy g σ2  9 p2 p3 _ hJ5 (show 9 ≤ 9 ∧ 9 < 12 from ⟨by decide, by decide⟩) (show (0 : Int) ≤ p2.toInt ∧ p2.toInt ≤ 7 from (by have f0 := b14; have f1 := b13; have f2 := k17; have g0 := rg32 p2; have z0 : (0 : Int32).toInt = 0 := (by decide); omega)) (show (0 : Int) ≤ p3.toInt ∧ p3.toInt ≤ 7 from (by have f0 := b14; have f1 := b22; have f2 := b13; have f3 := k17; have f4 := b21; have f5 := k24; have g0 := rg32 p2; have g1 := rg32 p3; have z0 : (0 : Int32).toInt = 0 := (by decide); omega))) (cwV 2 hts (gd_V q900 q901 q902 q128 q903) rfl rfl rfl (by decide +kernel) ⟨(Nat.le_of_ble_eq_true rfl), (Nat.le_of_ble_eq_true rfl)⟩) (pv8 hP hK hD hC hS (rv8_7 hK hP (by decide : 9 ≤ 9 ∧ 9 < 12))) rfl rfl hl.1 rfl (lv_room (Nat.le_of_ble_eq_true rfl)) dX8_move_43 ⟨Nat.le_of_ble_eq_true rfl, Nat.le_of_ble_eq_true rfl⟩) hS (fun q _ h => up8 hS q h) (up8 hS) (fun r25 σ26 tS H1 locs ht hvm hw27 hB hz1 hk1 hS => ?_)
        have hP : va_P D clz (WD8 cy g σ26) H1 := by rw [← ht]; exact hB
        clear hB hz1 hk1 hvm ht
        generalize H1 = H at hP hS ⊢
        have hw27E : σ2 = σ26 := (hw27.1).symm
        subst hw27E
        exact W.iret (v := r25) hx hb hr (fun tS ht hW => ⟨⟨r25, σ2, rfl, ⟨Fr.tr (Fr.rf) hF4 (fO_sub (fun _ q => q)), hJ5, trivial⟩, (show va_P D clz (WD8 cy g σ2) tS.heap by rw [ht]; exact hP)⟩, hS.F ht⟩) hS.2.2 dX8_move_46
      ·
        have k28 := peq32 c23
        refine lv_bipush (v := (-2)) hx hb dX8_move_34 (by decide) ?_
        exact W.iret (v := (-2)) hx hb hr (fun tS ht hW => ⟨⟨(-2), σ2, rfl, ⟨Fr.tr (Fr.rf) hF4 (fO_sub (fun _ q => q)), hJ5, trivial⟩, (show va_P D clz (WD8 cy g σ2) tS.heap by rw [ht]; exact hP)⟩, hS.F ht⟩) hS.2.2 dX8_move_36

theorem q921 : Cond.code yX8_hasPair cX8_hasPair 3 (some .boolean) ∈ lw_g := lw_gm (List.mem_of_getElem? (i := 921) (by decide +kernel)) rfl
theorem dX8_hasPair_0 : decode cX8_hasPair 0 = .ok (.aload_n 0, 1) := by decide +kernel
theorem dX8_hasPair_1 : decode cX8_hasPair 1 = .ok (.getfield 19, 3) := by decide +kernel
theorem dX8_hasPair_4 : decode cX8_hasPair 4 = .ok (.iload_n 1, 1) := by decide +kernel
theorem dX8_hasPair_5 : decode cX8_hasPair 5 = .ok (.invokevirtual 163, 3) := by decide +kernel
theorem dX8_hasPair_8 : decode cX8_hasPair 8 = .ok (.ifCond .eq 18, 3) := by decide +kernel
theorem dX8_hasPair_11 : decode cX8_hasPair 11 = .ok (.aload_n 0, 1) := by decide +kernel
theorem dX8_hasPair_12 : decode cX8_hasPair 12 = .ok (.getfield 19, 3) := by decide +kernel
theorem dX8_hasPair_15 : decode cX8_hasPair 15 = .ok (.iload_n 2, 1) := by decide +kernel
theorem dX8_hasPair_16 : decode cX8_hasPair 16 = .ok (.invokevirtual 142, 3) := by decide +kernel
theorem dX8_hasPair_19 : decode cX8_hasPair 19 = .ok (.ifCond .eq 7, 3) := by decide +kernel
theorem dX8_hasPair_22 : decode cX8_hasPair 22 = .ok (.iconst 1, 1) := by decide +kernel
theorem dX8_hasPair_23 : decode cX8_hasPair 23 = .ok (.goto 4, 3) := by decide +kernel
theorem dX8_hasPair_26 : decode cX8_hasPair 26 = .ok (.iconst 0, 1) := by decide +kernel
theorem dX8_hasPair_27 : decode cX8_hasPair 27 = .ok (.ireturn, 1) := by decide +kernel
set_option maxHeartbeats 4000000 in
set_option maxRecDepth 100000 in
theorem m_X8_hasPair (l : Launch) (D : va_G) (cy : Nat → ClassId) (g : Nat → Nat) (σ : ST) (p1 : Int32) (p2 : Int32) (sz : Nat) (hJ : J8 σ)  : Met l yX8_hasPair (ww yX8_hasPair cX8_hasPair 3 (some .boolean)) ({ frames := 2, cells := 0, slots := 0, locals := 128 }) (va_Pc [.ref (gO g 17), .int p1, .int p2] (pr8 D cy g σ sz)) (qi8 D cy g sz (fun r τ => τ = σ ∧ ((0 : Int) ≤ r.toInt ∧ r.toInt ≤ 1) ∧ True)) 0 0 (A8 cy g sz) := by
  refine Met.ofW (cc := cX8_hasPair) (maxL := 3) (ret := (some .boolean)) (by decide) rfl ?_
  intro p e s m args below meth c s₁ B hml hv
  obtain ⟨rfl, hsz, hP, hK, hD0, hC⟩ := hv
  have hx := B.exec
  have hb := B.bytes
  have hr := B.returns
  have hts := hts_g (atoms_spec (ws := ww yX8_hasPair cX8_hasPair 3 (some .boolean)) B.pre)
  have hown : s.vm.findClass RX8 = some m.cls := findClass_of_methodNamed B.named
  have hlocks := B.notSynchronized
  clear B
  subst hsz
  have hD := fun τ => A8_D (sz := s.heap.size) hD0 τ
  clear hD0
  have hS : va_S (A8 cy g s.heap.size) s.heap s.heap [] := va_S.rf
  have hl := lv_entry ([.ref (gO g 17), .int p1, .int p2]) (n := 3) (Nat.le_of_ble_eq_true rfl)
  rw [lg_entry_eq]
  generalize (lg_sl ([.ref (gO g 17), .int p1, .int p2]) ++ List.replicate (3 - (lg_sl ([.ref (gO g 17), .int p1, .int p2])).length) Slot.unset).toArray = ls at hl ⊢
  have hl : lv_has ls 3 [(0, .ref (gO g 17)), (1, .int p1), (2, .int p2)] := hl
  refine lv_aload_n hx hb dX8_hasPair_0 rfl (lv_at hl 0 rfl) ?_
  obtain ⟨dx1, edx1⟩ : ∃ z : Nat, ((σ 17).1 1).toInt.toNat = z := ⟨_, rfl⟩
  have hdx1 : 0 ≤ dx1 ∧ dx1 < 5 := mnow (by have f0 := j8_8_1 hJ rfl; omega) edx1
  refine g8_8_1 (o := dx1) hx hb hts hown hK hP edx1 (hts _ q435) dX8_hasPair_1 ?_
  refine lv_iload_n hx hb dX8_hasPair_4 rfl (lv_at hl 1 rfl) ?_
  refine va_calli (va_runV (As := [.int p1]) (rest := []) ⟨hx, hb, hml, hown, hts⟩ (m_X0_hasPlayer l D cy g σ  dx1 p1 _ hJ (show 0 ≤ dx1 ∧ dx1 < 5 from hdx1)) (cwV 1 hts (gd_V q767 q628 q629 q127 q630) rfl rfl rfl (by decide +kernel) ⟨(Nat.le_of_ble_eq_true rfl), (Nat.le_of_ble_eq_true rfl)⟩) (pv8 hP hK hD hC hS (rv8_0 hK hP hdx1)) rfl rfl hl.1 rfl (lv_room (Nat.le_of_ble_eq_true rfl)) dX8_hasPair_5 ⟨Nat.le_of_ble_eq_true rfl, Nat.le_of_ble_eq_true rfl⟩) hS (fun q _ h => up8 hS q h) (up8 hS) (fun r2 σ3 tS H1 locs ht hvm hw4 hB hz1 hk1 hS => ?_)
  have hP : va_P D clz (WD8 cy g σ3) H1 := by rw [← ht]; exact hB
  clear hB hz1 hk1 hvm ht
  generalize H1 = H at hP hS ⊢
  have hw4E : σ = σ3 := (hw4.1).symm
  subst hw4E
  have b5 : (0 : Int) ≤ r2.toInt ∧ r2.toInt ≤ 1 := hw4.2.1
  have b6 : (r2.toInt = 0) ∨ ((0 : Int) ≤ p1.toInt ∧ p1.toInt ≤ 8) := hw4.2.2.1
  refine lv_if_eq (tgt := 26) hx hb dX8_hasPair_8 (by decide) (fun c7 => ?_) (fun c7 => ?_)
  ·
    have k8 := peq32 c7
    refine lv_iconst (v := 0) hx hb dX8_hasPair_26 (by decide) ?_
    exact W.zret (v := 0) hx hb hr rfl (fun tS ht hW => ⟨⟨0, σ, rfl, ⟨rfl, (show (0 : Int) ≤ (0 : Int32).toInt ∧ (0 : Int32).toInt ≤ 1 from (by have z0 : (0 : Int32).toInt = 0 := (by decide); omega)), trivial⟩, (show va_P D clz (WD8 cy g σ) tS.heap by rw [ht]; exact hP)⟩, hS.F ht⟩) hS.2.2 dX8_hasPair_27
  ·
    have k9 := neq32 c7
    refine lv_aload_n hx hb dX8_hasPair_11 rfl (lv_at hl 0 rfl) ?_
    refine g8_8_1 (o := dx1) hx hb hts hown hK hP edx1 (hts _ q435) dX8_hasPair_12 ?_
    refine lv_iload_n hx hb dX8_hasPair_15 rfl (lv_at hl 2 rfl) ?_
    refine va_calli (va_runV (As := [.int p2]) (rest := []) ⟨hx, hb, hml, hown, hts⟩ (m_X0_hasPart l D cy g σ  dx1 p2 _ hJ (show 0 ≤ dx1 ∧ dx1 < 5 from hdx1)) (cwV 1 hts (gd_V q738 q649 q650 q127 q651) rfl rfl rfl (by decide +kernel) ⟨(Nat.le_of_ble_eq_true rfl), (Nat.le_of_ble_eq_true rfl)⟩) (pv8 hP hK hD hC hS (rv8_0 hK hP hdx1)) rfl rfl hl.1 rfl (lv_room (Nat.le_of_ble_eq_true rfl)) dX8_hasPair_16 ⟨Nat.le_of_ble_eq_true rfl, Nat.le_of_ble_eq_true rfl⟩) hS (fun q _ h => up8 hS q h) (up8 hS) (fun r10 σ11 tS H1 locs ht hvm hw12 hB hz1 hk1 hS => ?_)
    have hP : va_P D clz (WD8 cy g σ11) H1 := by rw [← ht]; exact hB
    clear hB hz1 hk1 hvm ht
    generalize H1 = H at hP hS ⊢
    have hw12E : σ = σ11 := (hw12.1).symm
    subst hw12E
    have b13 : (0 : Int) ≤ r10.toInt ∧ r10.toInt ≤ 1 := hw12.2.1
    have b14 : (r10.toInt = 0) ∨ ((0 : Int) ≤ p2.toInt ∧ p2.toInt ≤ 2) := hw12.2.2.1
    refine lv_if_eq (tgt := 26) hx hb dX8_hasPair_19 (by decide) (fun c15 => ?_) (fun c15 => ?_)
    ·
      have k16 := peq32 c15
      refine lv_iconst (v := 0) hx hb dX8_hasPair_26 (by decide) ?_
      exact W.zret (v := 0) hx hb hr rfl (fun tS ht hW => ⟨⟨0, σ, rfl, ⟨rfl, (show (0 : Int) ≤ (0 : Int32).toInt ∧ (0 : Int32).toInt ≤ 1 from (by have z0 : (0 : Int32).toInt = 0 := (by decide); omega)), trivial⟩, (show va_P D clz (WD8 cy g σ) tS.heap by rw [ht]; exact hP)⟩, hS.F ht⟩) hS.2.2 dX8_hasPair_27
    ·
      have k17 := neq32 c15
      refine lv_iconst (v := 1) hx hb dX8_hasPair_22 (by decide) ?_
      refine lv_goto (tgt := 27) hx hb dX8_hasPair_23 (by decide) ?_
      exact W.zret (v := 1) hx hb hr rfl (fun tS ht hW => ⟨⟨1, σ, rfl, ⟨rfl, (show (0 : Int) ≤ (1 : Int32).toInt ∧ (1 : Int32).toInt ≤ 1 from (by have z1 : (1 : Int32).toInt = 1 := (by decide); omega)), trivial⟩, (show va_P D clz (WD8 cy g σ) tS.heap by rw [ht]; exact hP)⟩, hS.F ht⟩) hS.2.2 dX8_hasPair_27

theorem q931 : Cond.code yX3_layMoves cX3_layMoves 3 none ∈ lw_g := lw_gm (List.mem_of_getElem? (i := 931) (by decide +kernel)) rfl
theorem q291 : Cond.fieldLink RX3 14 "LipsAndSlides$Plays" "tube" "LLipsAndSlides$Tube;" ∈ lw_g := lw_gm (List.mem_of_getElem? (i := 291) (by decide +kernel)) rfl
theorem q248 : Cond.fieldLink RX3 101 "LipsAndSlides$Tube" "settings" "I" ∈ lw_g := lw_gm (List.mem_of_getElem? (i := 248) (by decide +kernel)) rfl
theorem q292 : Cond.fieldLink RX3 18 "LipsAndSlides$Plays" "moves" "[I" ∈ lw_g := lw_gm (List.mem_of_getElem? (i := 292) (by decide +kernel)) rfl
theorem q932 : Cond.methodLink RX3 107 yX7_moveBetween ∈ lw_g := lw_gm (List.mem_of_getElem? (i := 932) (by decide +kernel)) rfl
theorem dX3_layMoves_0 : decode cX3_layMoves 0 = .ok (.iconst 0, 1) := by decide +kernel
theorem dX3_layMoves_1 : decode cX3_layMoves 1 = .ok (.istore_n 1, 1) := by decide +kernel
theorem dX3_layMoves_2 : decode cX3_layMoves 2 = .ok (.iload_n 1, 1) := by decide +kernel
theorem dX3_layMoves_3 : decode cX3_layMoves 3 = .ok (.aload_n 0, 1) := by decide +kernel
theorem dX3_layMoves_4 : decode cX3_layMoves 4 = .ok (.getfield 14, 3) := by decide +kernel
theorem dX3_layMoves_7 : decode cX3_layMoves 7 = .ok (.getfield 101, 3) := by decide +kernel
theorem dX3_layMoves_10 : decode cX3_layMoves 10 = .ok (.if_icmp .ge 48, 3) := by decide +kernel
theorem dX3_layMoves_13 : decode cX3_layMoves 13 = .ok (.iconst 0, 1) := by decide +kernel
theorem dX3_layMoves_14 : decode cX3_layMoves 14 = .ok (.istore_n 2, 1) := by decide +kernel
theorem dX3_layMoves_15 : decode cX3_layMoves 15 = .ok (.iload_n 2, 1) := by decide +kernel
theorem dX3_layMoves_16 : decode cX3_layMoves 16 = .ok (.aload_n 0, 1) := by decide +kernel
theorem dX3_layMoves_17 : decode cX3_layMoves 17 = .ok (.getfield 14, 3) := by decide +kernel
theorem dX3_layMoves_20 : decode cX3_layMoves 20 = .ok (.getfield 101, 3) := by decide +kernel
theorem dX3_layMoves_23 : decode cX3_layMoves 23 = .ok (.if_icmp .ge 29, 3) := by decide +kernel
theorem dX3_layMoves_26 : decode cX3_layMoves 26 = .ok (.aload_n 0, 1) := by decide +kernel
theorem dX3_layMoves_27 : decode cX3_layMoves 27 = .ok (.getfield 18, 3) := by decide +kernel
theorem dX3_layMoves_30 : decode cX3_layMoves 30 = .ok (.iload_n 1, 1) := by decide +kernel
theorem dX3_layMoves_31 : decode cX3_layMoves 31 = .ok (.bipush 8, 2) := by decide +kernel
theorem dX3_layMoves_33 : decode cX3_layMoves 33 = .ok (.imul, 1) := by decide +kernel
theorem dX3_layMoves_34 : decode cX3_layMoves 34 = .ok (.iload_n 2, 1) := by decide +kernel
theorem dX3_layMoves_35 : decode cX3_layMoves 35 = .ok (.iadd, 1) := by decide +kernel
theorem dX3_layMoves_36 : decode cX3_layMoves 36 = .ok (.aload_n 0, 1) := by decide +kernel
theorem dX3_layMoves_37 : decode cX3_layMoves 37 = .ok (.getfield 14, 3) := by decide +kernel
theorem dX3_layMoves_40 : decode cX3_layMoves 40 = .ok (.iload_n 1, 1) := by decide +kernel
theorem dX3_layMoves_41 : decode cX3_layMoves 41 = .ok (.iload_n 2, 1) := by decide +kernel
theorem dX3_layMoves_42 : decode cX3_layMoves 42 = .ok (.invokevirtual 107, 3) := by decide +kernel
theorem dX3_layMoves_45 : decode cX3_layMoves 45 = .ok (.iastore, 1) := by decide +kernel
theorem dX3_layMoves_46 : decode cX3_layMoves 46 = .ok (.iinc 2 1, 3) := by decide +kernel
theorem dX3_layMoves_49 : decode cX3_layMoves 49 = .ok (.goto (-34), 3) := by decide +kernel
theorem dX3_layMoves_52 : decode cX3_layMoves 52 = .ok (.iinc 1 1, 3) := by decide +kernel
theorem dX3_layMoves_55 : decode cX3_layMoves 55 = .ok (.goto (-53), 3) := by decide +kernel
theorem dX3_layMoves_58 : decode cX3_layMoves 58 = .ok (.return_, 1) := by decide +kernel
set_option maxHeartbeats 4000000 in
set_option maxRecDepth 100000 in
theorem m_X3_layMoves (l : Launch) (D : va_G) (cy : Nat → ClassId) (g : Nat → Nat) (σ : ST)  (sz : Nat) (hJ : J8 σ)  : Met l yX3_layMoves (ww yX3_layMoves cX3_layMoves 3 none) ({ frames := 3, cells := 0, slots := 0, locals := 192 }) (va_Pc [.ref (gO g 13)] (pr8 D cy g σ sz)) (qv8 D cy g sz (fun τ => Fr (fO [13]) σ τ ∧ J8 τ ∧ True)) 0 0 (A8 cy g sz) := by
  refine Met.ofW (cc := cX3_layMoves) (maxL := 3) (ret := none) (by decide) rfl ?_
  intro p e s m args below meth c s₁ B hml hv
  obtain ⟨rfl, hsz, hP, hK, hD0, hC⟩ := hv
  have hx := B.exec
  have hb := B.bytes
  have hr := B.returns
  have hts := hts_g (atoms_spec (ws := ww yX3_layMoves cX3_layMoves 3 none) B.pre)
  have hown : s.vm.findClass RX3 = some m.cls := findClass_of_methodNamed B.named
  have hlocks := B.notSynchronized
  clear B
  subst hsz
  have hD := fun τ => A8_D (sz := s.heap.size) hD0 τ
  clear hD0
  have hS : va_S (A8 cy g s.heap.size) s.heap s.heap [] := va_S.rf
  have hl := lv_entry ([.ref (gO g 13)]) (n := 3) (Nat.le_of_ble_eq_true rfl)
  rw [lg_entry_eq]
  generalize (lg_sl ([.ref (gO g 13)]) ++ List.replicate (3 - (lg_sl ([.ref (gO g 13)])).length) Slot.unset).toArray = ls at hl ⊢
  have hl : lv_has ls 3 [(0, .ref (gO g 13))] := hl
  refine lv_iconst (v := 0) hx hb dX3_layMoves_0 (by decide) ?_
  refine lv_istore_n (lv' := [(1, .int 0), (0, .ref (gO g 13))]) hx hb dX3_layMoves_1 rfl hl (by decide) rfl (fun ls hl => ?_)
  refine loop8 3 2 (fun x : LZ => [(1, .int (x.2.1 0)), (0, .ref (gO g 13))]) (fun x : LZ => (Fr (fO [13]) σ x.1) ∧ (J8 x.1) ∧ ((0 : Int) ≤ (x.2.1 0).toInt ∧ (x.2.1 0).toInt ≤ 8) ∧ True) (fun x : LZ => ((9 : Int) - (x.2.1 0).toInt).toNat) ?_ (σ, lf [0], lg []) ⟨Fr.rf, hJ, (show (0 : Int) ≤ (0 : Int32).toInt ∧ (0 : Int32).toInt ≤ 8 from (by have z0 : (0 : Int32).toInt = 0 := (by decide); omega)), trivial⟩ _ _ _ hP hS (lv_sub hl [0, 1] rfl)
  intro y3 hI2 nl1 H locs ls hP hS hl
  obtain ⟨σ4, eσ4⟩ : ∃ z, z = y3.1 := ⟨_, rfl⟩
  rw [← eσ4] at hP hI2
  have hF5 : Fr (fO [13]) σ σ4 := hI2.1
  have hJ6 : J8 σ4 := hI2.2.1
  have b7 : (0 : Int) ≤ (y3.2.1 0).toInt ∧ (y3.2.1 0).toInt ≤ 8 := hI2.2.2.1
  have hl : lv_has ls 3 [(1, .int (y3.2.1 0)), (0, .ref (gO g 13))] := hl
  refine lv_iload_n hx hb dX3_layMoves_2 rfl (lv_at hl 0 rfl) ?_
  refine lv_aload_n hx hb dX3_layMoves_3 rfl (lv_at hl 1 rfl) ?_
  refine g8_3_6 hx hb hts hown hK hP (hts _ q291) dX3_layMoves_4 ?_
  refine g8_7_0 (x := ((σ 11).1 0)) hx hb hts hown hK hP (by decide : 9 ≤ 11 ∧ 11 < 12) ((hF5 11 0 (fO_n (nmc (by decide) nm0))).1) (hts _ q248) dX3_layMoves_7 ?_
  refine lv_icmp_ge (tgt := 58) hx hb dX3_layMoves_10 (by decide) (fun c8 => ?_) (fun c8 => ?_)
  ·
    have k9 := ple32 c8
    exact W.vret hx hb hr (fun tS ht hW => ⟨⟨σ4, rfl, ⟨Fr.tr (Fr.rf) hF5 (fO_sub (fun _ q => q)), hJ6, trivial⟩, (show va_P D clz (WD8 cy g σ4) tS.heap by rw [ht]; exact hP)⟩, hS.F ht⟩) hS.2.2 dX3_layMoves_58
  ·
    have k10 := nle32 c8
    refine lv_iconst (v := 0) hx hb dX3_layMoves_13 (by decide) ?_
    refine lv_istore_n (lv' := [(2, .int 0), (1, .int (y3.2.1 0)), (0, .ref (gO g 13))]) hx hb dX3_layMoves_14 rfl hl (by decide) rfl (fun ls hl => ?_)
    refine loop8 3 15 (fun x : LZ => [(2, .int (x.2.1 0)), (1, .int (y3.2.1 0)), (0, .ref (gO g 13))]) (fun x : LZ => (Fr (fO [13]) σ4 x.1) ∧ (J8 x.1) ∧ ((0 : Int) ≤ (x.2.1 0).toInt ∧ (x.2.1 0).toInt ≤ 8) ∧ True) (fun x : LZ => ((9 : Int) - (x.2.1 0).toInt).toNat) ?_ (σ4, lf [0], lg []) ⟨Fr.rf, hJ6, (show (0 : Int) ≤ (0 : Int32).toInt ∧ (0 : Int32).toInt ≤ 8 from (by have z0 : (0 : Int32).toInt = 0 := (by decide); omega)), trivial⟩ _ _ _ hP hS (lv_sub hl [0, 1, 2] rfl)
    intro y13 hI12 nl11 H locs ls hP hS hl
    obtain ⟨σ14, eσ14⟩ : ∃ z, z = y13.1 := ⟨_, rfl⟩
    rw [← eσ14] at hP hI12
    have hF15 : Fr (fO [13]) σ4 σ14 := hI12.1
    have hJ16 : J8 σ14 := hI12.2.1
    have b17 : (0 : Int) ≤ (y13.2.1 0).toInt ∧ (y13.2.1 0).toInt ≤ 8 := hI12.2.2.1
    have hl : lv_has ls 3 [(2, .int (y13.2.1 0)), (1, .int (y3.2.1 0)), (0, .ref (gO g 13))] := hl
    refine lv_iload_n hx hb dX3_layMoves_15 rfl (lv_at hl 0 rfl) ?_
    refine lv_aload_n hx hb dX3_layMoves_16 rfl (lv_at hl 2 rfl) ?_
    refine g8_3_6 hx hb hts hown hK hP (hts _ q291) dX3_layMoves_17 ?_
    refine g8_7_0 (x := ((σ 11).1 0)) hx hb hts hown hK hP (by decide : 9 ≤ 11 ∧ 11 < 12) (((hF15 11 0 (fO_n (nmc (by decide) nm0))).1).trans ((hF5 11 0 (fO_n (nmc (by decide) nm0))).1)) (hts _ q248) dX3_layMoves_20 ?_
    refine lv_icmp_ge (tgt := 52) hx hb dX3_layMoves_23 (by decide) (fun c18 => ?_) (fun c18 => ?_)
    ·
      have k19 := ple32 c18
      obtain ⟨x20, ex20⟩ : ∃ y : Int32, y = (y3.2.1 0) + 1 := ⟨_, rfl⟩
      have t21 := addO ex20 (by have f0 := b7; have f1 := k10; have f2 := j8_7_0 hJ (by decide : 9 ≤ 11 ∧ 11 < 12) rfl; have f3 := k19; have f4 := b17; have g0 := rg32 (y3.2.1 0); have z1 : (1 : Int32).toInt = 1 := (by decide); omega)
      refine lv_iinc (v := x20) (lv' := [(1, .int x20), (2, .int (y13.2.1 0)), (0, .ref (gO g 13))]) hx hb dX3_layMoves_52 hl (k := 1) rfl (by rw [ex20]; rfl) (by decide) rfl (fun ls hl => ?_)
      refine lv_goto (tgt := 2) hx hb dX3_layMoves_55 (by decide) ?_
      have t22 : ((9 : Int) - x20.toInt).toNat < ((9 : Int) - (y3.2.1 0).toInt).toNat := (by have f0 := b7; have f1 := k10; have f2 := t21; have f3 := j8_7_0 hJ (by decide : 9 ≤ 11 ∧ 11 < 12) rfl; have f4 := k19; have f5 := b17; have g0 := rg32 (y3.2.1 0); have g1 := rg32 x20; have z1 : (1 : Int32).toInt = 1 := (by decide); omega)
      exact nl1 (σ14, lf [x20], lg []) ⟨Fr.tr (Fr.tr (Fr.rf) hF5 (fO_sub (fun _ q => q))) hF15 (fO_sub (fun _ q => q)), hJ16, (show (0 : Int) ≤ (x20 : Int32).toInt ∧ (x20 : Int32).toInt ≤ 8 from (by have f0 := t21; have f1 := b7; have f2 := k10; have f3 := j8_7_0 hJ (by decide : 9 ≤ 11 ∧ 11 < 12) rfl; have f4 := k19; have f5 := b17; have g0 := rg32 x20; have z1 : (1 : Int32).toInt = 1 := (by decide); omega)), trivial⟩ (show ((9 : Int) - x20.toInt).toNat < _ from by first | exact t22 | (rw [← eσ4]; exact t22)) _ _ _ hP hS (lv_sub hl [0, 2] rfl)
    ·
      have k23 := nle32 c18
      refine lv_aload_n hx hb dX3_layMoves_26 rfl (lv_at hl 2 rfl) ?_
      refine g8_3_7 hx hb hts hown hK hP (hts _ q292) dX3_layMoves_27 ?_
      refine lv_iload_n hx hb dX3_layMoves_30 rfl (lv_at hl 1 rfl) ?_
      refine lv_bipush (v := 8) hx hb dX3_layMoves_31 (by decide) ?_
      refine lv_imul hx hb dX3_layMoves_33 ?_
      refine lv_topi (fun x24 ex24 => ?_)
      have t25 := mulC (n := 8) ex24 (by decide) (by have f0 := b7; have f1 := k10; have f2 := j8_7_0 hJ (by decide : 9 ≤ 11 ∧ 11 < 12) rfl; have f3 := k23; have f4 := b17; have g0 := rg32 (y3.2.1 0); omega)
      refine lv_iload_n hx hb dX3_layMoves_34 rfl (lv_at hl 0 rfl) ?_
      refine lv_iadd hx hb dX3_layMoves_35 ?_
      refine lv_topi (fun x26 ex26 => ?_)
      have t27 := addO ex26 (by have f0 := b17; have f1 := k23; have f2 := t25; have f3 := j8_7_0 hJ (by decide : 9 ≤ 11 ∧ 11 < 12) rfl; have f4 := b7; have f5 := k10; have g0 := rg32 (y13.2.1 0); have g1 := rg32 x24; omega)
      refine lv_aload_n hx hb dX3_layMoves_36 rfl (lv_at hl 2 rfl) ?_
      refine g8_3_6 hx hb hts hown hK hP (hts _ q291) dX3_layMoves_37 ?_
      refine lv_iload_n hx hb dX3_layMoves_40 rfl (lv_at hl 1 rfl) ?_
      refine lv_iload_n hx hb dX3_layMoves_41 rfl (lv_at hl 0 rfl) ?_
      refine va_calli (va_runV (As := [.int (y3.2.1 0), .int (y13.2.1 0)]) (rest := [.int x26, .ref (gR g 13 7)]) ⟨hx, hb, hml, hown, hts⟩ (m_X7_moveBetween l D cy g σ14  11 (y3.2.1 0) (y13.2.1 0) _ hJ16 (show 9 ≤ 11 ∧ 11 < 12 from ⟨by decide, by decide⟩) (show (0 : Int) ≤ (y3.2.1 0).toInt ∧ (y3.2.1 0).toInt ≤ 7 from (by have f0 := b7; have f1 := k10; have f2 := t25; have f3 := j8_7_0 hJ (by decide : 9 ≤ 11 ∧ 11 < 12) rfl; have f4 := k23; have f5 := t27; have f6 := b17; have g0 := rg32 (y3.2.1 0); omega)) (show (0 : Int) ≤ (y13.2.1 0).toInt ∧ (y13.2.1 0).toInt ≤ 7 from (by have f0 := b7; have f1 := k10; have f2 := b17; have f3 := k23; have f4 := t25; have f5 := t27; have f6 := j8_7_0 hJ (by decide : 9 ≤ 11 ∧ 11 < 12) rfl; have g0 := rg32 (y13.2.1 0); have g1 := rg32 (y3.2.1 0); omega))) (cwV 2 hts (gd_V q932 q901 q902 q128 q903) rfl rfl rfl (by decide +kernel) ⟨(Nat.le_of_ble_eq_true rfl), (Nat.le_of_ble_eq_true rfl)⟩) (pv8 hP hK hD hC hS (rv8_7 hK hP (by decide : 9 ≤ 11 ∧ 11 < 12))) rfl rfl hl.1 rfl (lv_room (Nat.le_of_ble_eq_true rfl)) dX3_layMoves_42 ⟨Nat.le_of_ble_eq_true rfl, Nat.le_of_ble_eq_true rfl⟩) hS (fun q _ h => up8 hS q h) (up8 hS) (fun r28 σ29 tS H1 locs ht hvm hw30 hB hz1 hk1 hS => ?_)
      have hP : va_P D clz (WD8 cy g σ29) H1 := by rw [← ht]; exact hB
      clear hB hz1 hk1 hvm ht
      generalize H1 = H at hP hS ⊢
      have hw30E : σ14 = σ29 := (hw30.1).symm
      subst hw30E
      refine t8_3_7 hx hb hK hP hD hS (vpo (by have f0 := t27; have f1 := b17; have f2 := k23; have f3 := t25; have f4 := j8_7_0 hJ (by decide : 9 ≤ 11 ∧ 11 < 12) rfl; have f5 := b7; have f6 := k10; have g0 := rg32 x26; omega)) dX3_layMoves_45 (fun H locs σ31 eσ31 hP hS => ?_)
      have hJ32 : J8 σ31 := hJ16.A eσ31 rfl (show PA8 3 7 r28 from trivial)
      obtain ⟨x33, ex33⟩ : ∃ y : Int32, y = (y13.2.1 0) + 1 := ⟨_, rfl⟩
      have t34 := addO ex33 (by have f0 := b17; have f1 := k23; have f2 := t27; have f3 := j8_7_0 hJ (by decide : 9 ≤ 11 ∧ 11 < 12) rfl; have f4 := k10; have f5 := t25; have f6 := b7; have g0 := rg32 (y13.2.1 0); have z1 : (1 : Int32).toInt = 1 := (by decide); omega)
      refine lv_iinc (v := x33) (lv' := [(2, .int x33), (1, .int (y3.2.1 0)), (0, .ref (gO g 13))]) hx hb dX3_layMoves_46 hl (k := 0) rfl (by rw [ex33]; rfl) (by decide) rfl (fun ls hl => ?_)
      refine lv_goto (tgt := 15) hx hb dX3_layMoves_49 (by decide) ?_
      have t35 : ((9 : Int) - x33.toInt).toNat < ((9 : Int) - (y13.2.1 0).toInt).toNat := (by have f0 := b17; have f1 := k23; have f2 := t27; have f3 := t34; have f4 := j8_7_0 hJ (by decide : 9 ≤ 11 ∧ 11 < 12) rfl; have f5 := k10; have f6 := t25; have f7 := b7; have g0 := rg32 (y13.2.1 0); have g1 := rg32 x33; have z1 : (1 : Int32).toInt = 1 := (by decide); omega)
      exact nl11 (σ31, lf [x33], lg []) ⟨Fr.tr (Fr.tr (Fr.rf) hF15 (fO_sub (fun _ q => q))) (sA_f eσ31) (fN_O mem0), hJ32, (show (0 : Int) ≤ (x33 : Int32).toInt ∧ (x33 : Int32).toInt ≤ 8 from (by have f0 := t34; have f1 := b17; have f2 := k23; have f3 := t27; have f4 := j8_7_0 hJ (by decide : 9 ≤ 11 ∧ 11 < 12) rfl; have f5 := k10; have f6 := t25; have f7 := b7; have g0 := rg32 x33; have z1 : (1 : Int32).toInt = 1 := (by decide); omega)), trivial⟩ (show ((9 : Int) - x33.toInt).toNat < _ from by first | exact t35 | (rw [← eσ14]; exact t35)) _ _ _ hP hS (lv_sub hl [0, 1, 2] rfl)

theorem q925 : Cond.code yX3_aim cX3_aim 6 none ∈ lw_g := lw_gm (List.mem_of_getElem? (i := 925) (by decide +kernel)) rfl
theorem q926 : Cond.methodLink RX3 58 yX0_playerField ∈ lw_g := lw_gm (List.mem_of_getElem? (i := 926) (by decide +kernel)) rfl
theorem q927 : Cond.methodLink RX3 64 yX7_aim ∈ lw_g := lw_gm (List.mem_of_getElem? (i := 927) (by decide +kernel)) rfl
theorem q928 : Cond.methodLink RX3 68 yX3_layMoves ∈ lw_g := lw_gm (List.mem_of_getElem? (i := 928) (by decide +kernel)) rfl
theorem q930 : Cond.instanceMethod yX3_layMoves ∈ lw_g := lw_gm (List.mem_of_getElem? (i := 930) (by decide +kernel)) rfl
theorem q20 : Cond.selects RX3 yX3_layMoves yX3_layMoves ∈ lw_g := lw_gm (List.mem_of_getElem? (i := 20) (by decide +kernel)) rfl
theorem q129 : Cond.initialized RX3 ∈ lw_g := lw_gm (List.mem_of_getElem? (i := 129) (by decide +kernel)) rfl
theorem q290 : Cond.fieldLink RX3 71 "LipsAndSlides$Plays" "quick" "I" ∈ lw_g := lw_gm (List.mem_of_getElem? (i := 290) (by decide +kernel)) rfl
theorem q280 : Cond.fieldLink RX3 75 "LipsAndSlides$Plays" "steps" "I" ∈ lw_g := lw_gm (List.mem_of_getElem? (i := 280) (by decide +kernel)) rfl
theorem q933 : Cond.methodLink RX3 78 yX0_tonesOf ∈ lw_g := lw_gm (List.mem_of_getElem? (i := 933) (by decide +kernel)) rfl
theorem q295 : Cond.fieldLink RX3 28 "LipsAndSlides$Plays" "gap" "[I" ∈ lw_g := lw_gm (List.mem_of_getElem? (i := 295) (by decide +kernel)) rfl
theorem q293 : Cond.fieldLink RX3 22 "LipsAndSlides$Plays" "toneOf" "[I" ∈ lw_g := lw_gm (List.mem_of_getElem? (i := 293) (by decide +kernel)) rfl
theorem q935 : Cond.methodLink RX3 86 yX0_toneField ∈ lw_g := lw_gm (List.mem_of_getElem? (i := 935) (by decide +kernel)) rfl
theorem q296 : Cond.fieldLink RX3 31 "LipsAndSlides$Plays" "tied" "[I" ∈ lw_g := lw_gm (List.mem_of_getElem? (i := 296) (by decide +kernel)) rfl
theorem q934 : Cond.methodLink RX3 82 yX0_isSounding ∈ lw_g := lw_gm (List.mem_of_getElem? (i := 934) (by decide +kernel)) rfl
theorem q294 : Cond.fieldLink RX3 25 "LipsAndSlides$Plays" "pitchOf" "[I" ∈ lw_g := lw_gm (List.mem_of_getElem? (i := 294) (by decide +kernel)) rfl
theorem dX3_aim_0 : decode cX3_aim 0 = .ok (.aload_n 1, 1) := by decide +kernel
theorem dX3_aim_1 : decode cX3_aim 1 = .ok (.iload_n 2, 1) := by decide +kernel
theorem dX3_aim_2 : decode cX3_aim 2 = .ok (.iconst 0, 1) := by decide +kernel
theorem dX3_aim_3 : decode cX3_aim 3 = .ok (.invokevirtual 58, 3) := by decide +kernel
theorem dX3_aim_6 : decode cX3_aim 6 = .ok (.istore 4, 2) := by decide +kernel
theorem dX3_aim_8 : decode cX3_aim 8 = .ok (.aload_n 0, 1) := by decide +kernel
theorem dX3_aim_9 : decode cX3_aim 9 = .ok (.getfield 14, 3) := by decide +kernel
theorem dX3_aim_12 : decode cX3_aim 12 = .ok (.aload_n 1, 1) := by decide +kernel
theorem dX3_aim_13 : decode cX3_aim 13 = .ok (.iload 4, 2) := by decide +kernel
theorem dX3_aim_15 : decode cX3_aim 15 = .ok (.invokevirtual 64, 3) := by decide +kernel
theorem dX3_aim_18 : decode cX3_aim 18 = .ok (.aload_n 0, 1) := by decide +kernel
theorem dX3_aim_19 : decode cX3_aim 19 = .ok (.invokevirtual 68, 3) := by decide +kernel
theorem dX3_aim_22 : decode cX3_aim 22 = .ok (.aload_n 0, 1) := by decide +kernel
theorem dX3_aim_23 : decode cX3_aim 23 = .ok (.aload_n 1, 1) := by decide +kernel
theorem dX3_aim_24 : decode cX3_aim 24 = .ok (.iload_n 2, 1) := by decide +kernel
theorem dX3_aim_25 : decode cX3_aim 25 = .ok (.iconst 1, 1) := by decide +kernel
theorem dX3_aim_26 : decode cX3_aim 26 = .ok (.invokevirtual 58, 3) := by decide +kernel
theorem dX3_aim_29 : decode cX3_aim 29 = .ok (.putfield 71, 3) := by decide +kernel
theorem dX3_aim_32 : decode cX3_aim 32 = .ok (.aload_n 0, 1) := by decide +kernel
theorem dX3_aim_33 : decode cX3_aim 33 = .ok (.iconst 0, 1) := by decide +kernel
theorem dX3_aim_34 : decode cX3_aim 34 = .ok (.putfield 75, 3) := by decide +kernel
theorem dX3_aim_37 : decode cX3_aim 37 = .ok (.iconst 0, 1) := by decide +kernel
theorem dX3_aim_38 : decode cX3_aim 38 = .ok (.istore 5, 2) := by decide +kernel
theorem dX3_aim_40 : decode cX3_aim 40 = .ok (.iload 5, 2) := by decide +kernel
theorem dX3_aim_42 : decode cX3_aim 42 = .ok (.aload_n 1, 1) := by decide +kernel
theorem dX3_aim_43 : decode cX3_aim 43 = .ok (.iload_n 3, 1) := by decide +kernel
theorem dX3_aim_44 : decode cX3_aim 44 = .ok (.invokevirtual 78, 3) := by decide +kernel
theorem dX3_aim_47 : decode cX3_aim 47 = .ok (.if_icmp .ge 93, 3) := by decide +kernel
theorem dX3_aim_50 : decode cX3_aim 50 = .ok (.aload_n 0, 1) := by decide +kernel
theorem dX3_aim_51 : decode cX3_aim 51 = .ok (.getfield 75, 3) := by decide +kernel
theorem dX3_aim_54 : decode cX3_aim 54 = .ok (.bipush 16, 2) := by decide +kernel
theorem dX3_aim_56 : decode cX3_aim 56 = .ok (.if_icmp .ge 84, 3) := by decide +kernel
theorem dX3_aim_59 : decode cX3_aim 59 = .ok (.aload_n 1, 1) := by decide +kernel
theorem dX3_aim_60 : decode cX3_aim 60 = .ok (.iload_n 3, 1) := by decide +kernel
theorem dX3_aim_61 : decode cX3_aim 61 = .ok (.iload 5, 2) := by decide +kernel
theorem dX3_aim_63 : decode cX3_aim 63 = .ok (.invokevirtual 82, 3) := by decide +kernel
theorem dX3_aim_66 : decode cX3_aim 66 = .ok (.ifCond .eq 68, 3) := by decide +kernel
theorem dX3_aim_69 : decode cX3_aim 69 = .ok (.aload_n 0, 1) := by decide +kernel
theorem dX3_aim_70 : decode cX3_aim 70 = .ok (.getfield 22, 3) := by decide +kernel
theorem dX3_aim_73 : decode cX3_aim 73 = .ok (.aload_n 0, 1) := by decide +kernel
theorem dX3_aim_74 : decode cX3_aim 74 = .ok (.getfield 75, 3) := by decide +kernel
theorem dX3_aim_77 : decode cX3_aim 77 = .ok (.iload 5, 2) := by decide +kernel
theorem dX3_aim_79 : decode cX3_aim 79 = .ok (.iastore, 1) := by decide +kernel
theorem dX3_aim_80 : decode cX3_aim 80 = .ok (.aload_n 0, 1) := by decide +kernel
theorem dX3_aim_81 : decode cX3_aim 81 = .ok (.getfield 25, 3) := by decide +kernel
theorem dX3_aim_84 : decode cX3_aim 84 = .ok (.aload_n 0, 1) := by decide +kernel
theorem dX3_aim_85 : decode cX3_aim 85 = .ok (.getfield 75, 3) := by decide +kernel
theorem dX3_aim_88 : decode cX3_aim 88 = .ok (.aload_n 1, 1) := by decide +kernel
theorem dX3_aim_89 : decode cX3_aim 89 = .ok (.iload_n 3, 1) := by decide +kernel
theorem dX3_aim_90 : decode cX3_aim 90 = .ok (.iload 5, 2) := by decide +kernel
theorem dX3_aim_92 : decode cX3_aim 92 = .ok (.iconst 0, 1) := by decide +kernel
theorem dX3_aim_93 : decode cX3_aim 93 = .ok (.invokevirtual 86, 3) := by decide +kernel
theorem dX3_aim_96 : decode cX3_aim 96 = .ok (.iastore, 1) := by decide +kernel
theorem dX3_aim_97 : decode cX3_aim 97 = .ok (.aload_n 0, 1) := by decide +kernel
theorem dX3_aim_98 : decode cX3_aim 98 = .ok (.getfield 31, 3) := by decide +kernel
theorem dX3_aim_101 : decode cX3_aim 101 = .ok (.aload_n 0, 1) := by decide +kernel
theorem dX3_aim_102 : decode cX3_aim 102 = .ok (.getfield 75, 3) := by decide +kernel
theorem dX3_aim_105 : decode cX3_aim 105 = .ok (.aload_n 1, 1) := by decide +kernel
theorem dX3_aim_106 : decode cX3_aim 106 = .ok (.iload_n 3, 1) := by decide +kernel
theorem dX3_aim_107 : decode cX3_aim 107 = .ok (.iload 5, 2) := by decide +kernel
theorem dX3_aim_109 : decode cX3_aim 109 = .ok (.iconst 2, 1) := by decide +kernel
theorem dX3_aim_110 : decode cX3_aim 110 = .ok (.invokevirtual 86, 3) := by decide +kernel
theorem dX3_aim_113 : decode cX3_aim 113 = .ok (.iastore, 1) := by decide +kernel
theorem dX3_aim_114 : decode cX3_aim 114 = .ok (.aload_n 0, 1) := by decide +kernel
theorem dX3_aim_115 : decode cX3_aim 115 = .ok (.getfield 28, 3) := by decide +kernel
theorem dX3_aim_118 : decode cX3_aim 118 = .ok (.aload_n 0, 1) := by decide +kernel
theorem dX3_aim_119 : decode cX3_aim 119 = .ok (.getfield 75, 3) := by decide +kernel
theorem dX3_aim_122 : decode cX3_aim 122 = .ok (.iconst 0, 1) := by decide +kernel
theorem dX3_aim_123 : decode cX3_aim 123 = .ok (.iastore, 1) := by decide +kernel
theorem dX3_aim_124 : decode cX3_aim 124 = .ok (.aload_n 0, 1) := by decide +kernel
theorem dX3_aim_125 : decode cX3_aim 125 = .ok (.dup, 1) := by decide +kernel
theorem dX3_aim_126 : decode cX3_aim 126 = .ok (.getfield 75, 3) := by decide +kernel
theorem dX3_aim_129 : decode cX3_aim 129 = .ok (.iconst 1, 1) := by decide +kernel
theorem dX3_aim_130 : decode cX3_aim 130 = .ok (.iadd, 1) := by decide +kernel
theorem dX3_aim_131 : decode cX3_aim 131 = .ok (.putfield 75, 3) := by decide +kernel
theorem dX3_aim_134 : decode cX3_aim 134 = .ok (.iinc 5 1, 3) := by decide +kernel
theorem dX3_aim_137 : decode cX3_aim 137 = .ok (.goto (-97), 3) := by decide +kernel
theorem dX3_aim_140 : decode cX3_aim 140 = .ok (.iconst 0, 1) := by decide +kernel
theorem dX3_aim_141 : decode cX3_aim 141 = .ok (.istore 5, 2) := by decide +kernel
theorem dX3_aim_143 : decode cX3_aim 143 = .ok (.iload 5, 2) := by decide +kernel
theorem dX3_aim_145 : decode cX3_aim 145 = .ok (.iconst 1, 1) := by decide +kernel
theorem dX3_aim_146 : decode cX3_aim 146 = .ok (.iadd, 1) := by decide +kernel
theorem dX3_aim_147 : decode cX3_aim 147 = .ok (.aload_n 0, 1) := by decide +kernel
theorem dX3_aim_148 : decode cX3_aim 148 = .ok (.getfield 75, 3) := by decide +kernel
theorem dX3_aim_151 : decode cX3_aim 151 = .ok (.if_icmp .ge 74, 3) := by decide +kernel
theorem dX3_aim_154 : decode cX3_aim 154 = .ok (.aload_n 0, 1) := by decide +kernel
theorem dX3_aim_155 : decode cX3_aim 155 = .ok (.getfield 28, 3) := by decide +kernel
theorem dX3_aim_158 : decode cX3_aim 158 = .ok (.iload 5, 2) := by decide +kernel
theorem dX3_aim_160 : decode cX3_aim 160 = .ok (.aload_n 1, 1) := by decide +kernel
theorem dX3_aim_161 : decode cX3_aim 161 = .ok (.iload_n 3, 1) := by decide +kernel
theorem dX3_aim_162 : decode cX3_aim 162 = .ok (.aload_n 0, 1) := by decide +kernel
theorem dX3_aim_163 : decode cX3_aim 163 = .ok (.getfield 22, 3) := by decide +kernel
theorem dX3_aim_166 : decode cX3_aim 166 = .ok (.iload 5, 2) := by decide +kernel
theorem dX3_aim_168 : decode cX3_aim 168 = .ok (.iconst 1, 1) := by decide +kernel
theorem dX3_aim_169 : decode cX3_aim 169 = .ok (.iadd, 1) := by decide +kernel
theorem dX3_aim_170 : decode cX3_aim 170 = .ok (.iaload, 1) := by decide +kernel
theorem dX3_aim_171 : decode cX3_aim 171 = .ok (.iconst 4, 1) := by decide +kernel
theorem dX3_aim_172 : decode cX3_aim 172 = .ok (.invokevirtual 86, 3) := by decide +kernel
theorem dX3_aim_175 : decode cX3_aim 175 = .ok (.aload_n 1, 1) := by decide +kernel
theorem dX3_aim_176 : decode cX3_aim 176 = .ok (.iload_n 3, 1) := by decide +kernel
theorem dX3_aim_177 : decode cX3_aim 177 = .ok (.aload_n 0, 1) := by decide +kernel
theorem dX3_aim_178 : decode cX3_aim 178 = .ok (.getfield 22, 3) := by decide +kernel
theorem dX3_aim_181 : decode cX3_aim 181 = .ok (.iload 5, 2) := by decide +kernel
theorem dX3_aim_183 : decode cX3_aim 183 = .ok (.iaload, 1) := by decide +kernel
theorem dX3_aim_184 : decode cX3_aim 184 = .ok (.iconst 4, 1) := by decide +kernel
theorem dX3_aim_185 : decode cX3_aim 185 = .ok (.invokevirtual 86, 3) := by decide +kernel
theorem dX3_aim_188 : decode cX3_aim 188 = .ok (.isub, 1) := by decide +kernel
theorem dX3_aim_189 : decode cX3_aim 189 = .ok (.iastore, 1) := by decide +kernel
theorem dX3_aim_190 : decode cX3_aim 190 = .ok (.aload_n 0, 1) := by decide +kernel
theorem dX3_aim_191 : decode cX3_aim 191 = .ok (.getfield 22, 3) := by decide +kernel
theorem dX3_aim_194 : decode cX3_aim 194 = .ok (.iload 5, 2) := by decide +kernel
theorem dX3_aim_196 : decode cX3_aim 196 = .ok (.iconst 1, 1) := by decide +kernel
theorem dX3_aim_197 : decode cX3_aim 197 = .ok (.iadd, 1) := by decide +kernel
theorem dX3_aim_198 : decode cX3_aim 198 = .ok (.iaload, 1) := by decide +kernel
theorem dX3_aim_199 : decode cX3_aim 199 = .ok (.aload_n 0, 1) := by decide +kernel
theorem dX3_aim_200 : decode cX3_aim 200 = .ok (.getfield 22, 3) := by decide +kernel
theorem dX3_aim_203 : decode cX3_aim 203 = .ok (.iload 5, 2) := by decide +kernel
theorem dX3_aim_205 : decode cX3_aim 205 = .ok (.iaload, 1) := by decide +kernel
theorem dX3_aim_206 : decode cX3_aim 206 = .ok (.iconst 1, 1) := by decide +kernel
theorem dX3_aim_207 : decode cX3_aim 207 = .ok (.iadd, 1) := by decide +kernel
theorem dX3_aim_208 : decode cX3_aim 208 = .ok (.if_icmp .eq 11, 3) := by decide +kernel
theorem dX3_aim_211 : decode cX3_aim 211 = .ok (.aload_n 0, 1) := by decide +kernel
theorem dX3_aim_212 : decode cX3_aim 212 = .ok (.getfield 31, 3) := by decide +kernel
theorem dX3_aim_215 : decode cX3_aim 215 = .ok (.iload 5, 2) := by decide +kernel
theorem dX3_aim_217 : decode cX3_aim 217 = .ok (.iconst 0, 1) := by decide +kernel
theorem dX3_aim_218 : decode cX3_aim 218 = .ok (.iastore, 1) := by decide +kernel
theorem dX3_aim_219 : decode cX3_aim 219 = .ok (.iinc 5 1, 3) := by decide +kernel
theorem dX3_aim_222 : decode cX3_aim 222 = .ok (.goto (-79), 3) := by decide +kernel
theorem dX3_aim_225 : decode cX3_aim 225 = .ok (.return_, 1) := by decide +kernel
set_option maxHeartbeats 4000000 in
set_option maxRecDepth 100000 in
theorem m_X3_aim (l : Launch) (D : va_G) (cy : Nat → ClassId) (g : Nat → Nat) (σ : ST) (d1 : Nat) (p2 : Int32) (p3 : Int32) (sz : Nat) (hJ : J8 σ) (hd1 : 0 ≤ d1 ∧ d1 < 5) : Met l yX3_aim (ww yX3_aim cX3_aim 6 none) ({ frames := 5, cells := 0, slots := 0, locals := 320 }) (va_Pc [.ref (gO g 13), .ref (gO g d1), .int p2, .int p3] (pr8 D cy g σ sz)) (qv8 D cy g sz (fun τ => Fr (fO [11, 13]) σ τ ∧ J8 τ ∧ True)) 0 0 (A8 cy g sz) := by
  refine Met.ofW (cc := cX3_aim) (maxL := 6) (ret := none) (by decide) rfl ?_
  intro p e s m args below meth c s₁ B hml hv
  obtain ⟨rfl, hsz, hP, hK, hD0, hC⟩ := hv
  have hx := B.exec
  have hb := B.bytes
  have hr := B.returns
  have hts := hts_g (atoms_spec (ws := ww yX3_aim cX3_aim 6 none) B.pre)
  have hown : s.vm.findClass RX3 = some m.cls := findClass_of_methodNamed B.named
  have hlocks := B.notSynchronized
  clear B
  subst hsz
  have hD := fun τ => A8_D (sz := s.heap.size) hD0 τ
  clear hD0
  have hS : va_S (A8 cy g s.heap.size) s.heap s.heap [] := va_S.rf
  have hl := lv_entry ([.ref (gO g 13), .ref (gO g d1), .int p2, .int p3]) (n := 6) (Nat.le_of_ble_eq_true rfl)
  rw [lg_entry_eq]
  generalize (lg_sl ([.ref (gO g 13), .ref (gO g d1), .int p2, .int p3]) ++ List.replicate (6 - (lg_sl ([.ref (gO g 13), .ref (gO g d1), .int p2, .int p3])).length) Slot.unset).toArray = ls at hl ⊢
  have hl : lv_has ls 6 [(0, .ref (gO g 13)), (1, .ref (gO g d1)), (2, .int p2), (3, .int p3)] := hl
  refine lv_aload_n hx hb dX3_aim_0 rfl (lv_at hl 1 rfl) ?_
  refine lv_iload_n hx hb dX3_aim_1 rfl (lv_at hl 2 rfl) ?_
  refine lv_iconst (v := 0) hx hb dX3_aim_2 (by decide) ?_
  refine va_calli (va_runV (As := [.int p2, .int 0]) (rest := []) ⟨hx, hb, hml, hown, hts⟩ (m_X0_playerField l D cy g σ  d1 p2 (0) _ hJ (show 0 ≤ d1 ∧ d1 < 5 from hd1)) (cwV 2 hts (gd_V q926 q726 q727 q127 q728) rfl rfl rfl (by decide +kernel) ⟨(Nat.le_of_ble_eq_true rfl), (Nat.le_of_ble_eq_true rfl)⟩) (pv8 hP hK hD hC hS (rv8_0 hK hP hd1)) rfl rfl hl.1 rfl (lv_room (Nat.le_of_ble_eq_true rfl)) dX3_aim_3 ⟨Nat.le_of_ble_eq_true rfl, Nat.le_of_ble_eq_true rfl⟩) hS (fun q _ h => up8 hS q h) (up8 hS) (fun r1 σ2 tS H1 locs ht hvm hw3 hB hz1 hk1 hS => ?_)
  have hP : va_P D clz (WD8 cy g σ2) H1 := by rw [← ht]; exact hB
  clear hB hz1 hk1 hvm ht
  generalize H1 = H at hP hS ⊢
  have hw3E : σ = σ2 := (hw3.1).symm
  subst hw3E
  refine lv_istore (lv' := [(4, .int r1), (0, .ref (gO g 13)), (1, .ref (gO g d1)), (2, .int p2), (3, .int p3)]) hx hb dX3_aim_6 hl (by decide) rfl (fun ls hl => ?_)
  refine lv_aload_n hx hb dX3_aim_8 rfl (lv_at hl 1 rfl) ?_
  refine g8_3_6 hx hb hts hown hK hP (hts _ q291) dX3_aim_9 ?_
  refine lv_aload_n hx hb dX3_aim_12 rfl (lv_at hl 2 rfl) ?_
  refine lv_iload hx hb dX3_aim_13 (lv_at hl 0 rfl) ?_
  refine va_callv (va_runV (As := [.ref (gO g d1), .int r1]) (rest := []) ⟨hx, hb, hml, hown, hts⟩ (m_X7_aim l D cy g σ  11 d1 r1 _ hJ (show 9 ≤ 11 ∧ 11 < 12 from ⟨by decide, by decide⟩) (show 0 ≤ d1 ∧ d1 < 5 from hd1)) (cwV 2 hts (gd_V q927 q801 q802 q128 q803) rfl rfl rfl (by decide +kernel) ⟨(Nat.le_of_ble_eq_true rfl), (Nat.le_of_ble_eq_true rfl)⟩) (pv8 hP hK hD hC hS (rv8_7 hK hP (by decide : 9 ≤ 11 ∧ 11 < 12))) rfl rfl hl.1 rfl (lv_room (Nat.le_of_ble_eq_true rfl)) dX3_aim_15 ⟨Nat.le_of_ble_eq_true rfl, Nat.le_of_ble_eq_true rfl⟩) hS (fun q _ h => up8 hS q h) (up8 hS) (fun σ5 tS H1 locs ht hvm hw6 hB hz1 hk1 hS => ?_)
  have hP : va_P D clz (WD8 cy g σ5) H1 := by rw [← ht]; exact hB
  clear hB hz1 hk1 hvm ht
  generalize H1 = H at hP hS ⊢
  have hF7 : Fr (fO [11]) σ σ5 := hw6.1
  have hJ8 : J8 σ5 := hw6.2.1
  refine lv_aload_n hx hb dX3_aim_18 rfl (lv_at hl 1 rfl) ?_
  refine va_callv (va_runV (As := []) (rest := []) ⟨hx, hb, hml, hown, hts⟩ (m_X3_layMoves l D cy g σ5   _ hJ8 ) (cwV 0 hts (gd_V q928 q930 q20 q129 q931) rfl rfl rfl (by decide +kernel) ⟨(Nat.le_of_ble_eq_true rfl), (Nat.le_of_ble_eq_true rfl)⟩) (pv8 hP hK hD hC hS (rv8_3 hK hP)) rfl rfl hl.1 rfl (lv_room (Nat.le_of_ble_eq_true rfl)) dX3_aim_19 ⟨Nat.le_of_ble_eq_true rfl, Nat.le_of_ble_eq_true rfl⟩) hS (fun q _ h => up8 hS q h) (up8 hS) (fun σ10 tS H1 locs ht hvm hw11 hB hz1 hk1 hS => ?_)
  have hP : va_P D clz (WD8 cy g σ10) H1 := by rw [← ht]; exact hB
  clear hB hz1 hk1 hvm ht
  generalize H1 = H at hP hS ⊢
  have hF12 : Fr (fO [13]) σ5 σ10 := hw11.1
  have hJ13 : J8 σ10 := hw11.2.1
  refine lv_aload_n hx hb dX3_aim_22 rfl (lv_at hl 1 rfl) ?_
  refine lv_aload_n hx hb dX3_aim_23 rfl (lv_at hl 2 rfl) ?_
  refine lv_iload_n hx hb dX3_aim_24 rfl (lv_at hl 3 rfl) ?_
  refine lv_iconst (v := 1) hx hb dX3_aim_25 (by decide) ?_
  refine va_calli (va_runV (As := [.int p2, .int 1]) (rest := [.ref (gO g 13)]) ⟨hx, hb, hml, hown, hts⟩ (m_X0_playerField l D cy g σ10  d1 p2 (1) _ hJ13 (show 0 ≤ d1 ∧ d1 < 5 from hd1)) (cwV 2 hts (gd_V q926 q726 q727 q127 q728) rfl rfl rfl (by decide +kernel) ⟨(Nat.le_of_ble_eq_true rfl), (Nat.le_of_ble_eq_true rfl)⟩) (pv8 hP hK hD hC hS (rv8_0 hK hP hd1)) rfl rfl hl.1 rfl (lv_room (Nat.le_of_ble_eq_true rfl)) dX3_aim_26 ⟨Nat.le_of_ble_eq_true rfl, Nat.le_of_ble_eq_true rfl⟩) hS (fun q _ h => up8 hS q h) (up8 hS) (fun r14 σ15 tS H1 locs ht hvm hw16 hB hz1 hk1 hS => ?_)
  have hP : va_P D clz (WD8 cy g σ15) H1 := by rw [← ht]; exact hB
  clear hB hz1 hk1 hvm ht
  generalize H1 = H at hP hS ⊢
  have hw16E : σ10 = σ15 := (hw16.1).symm
  subst hw16E
  refine p8_3_5 hx hb hts hown hK hP hD hS (hts _ q290) dX3_aim_29 (fun H locs σ17 eσ17 hP hS => ?_)
  have hJ18 : J8 σ17 := hJ13.I eσ17 rfl (show JI8 3 5 r14 from trivial)
  refine lv_aload_n hx hb dX3_aim_32 rfl (lv_at hl 1 rfl) ?_
  refine lv_iconst (v := 0) hx hb dX3_aim_33 (by decide) ?_
  refine p8_3_0 hx hb hts hown hK hP hD hS (hts _ q280) dX3_aim_34 (fun H locs σ19 eσ19 hP hS => ?_)
  have hJ20 : J8 σ19 := hJ18.I eσ19 rfl (show JI8 3 0 (0 : Int32) from (by constructor <;> decide))
  refine lv_iconst (v := 0) hx hb dX3_aim_37 (by decide) ?_
  refine lv_istore (lv' := [(5, .int 0), (4, .int r1), (0, .ref (gO g 13)), (1, .ref (gO g d1)), (2, .int p2), (3, .int p3)]) hx hb dX3_aim_38 hl (by decide) rfl (fun ls hl => ?_)
  refine loop8 6 40 (fun x : LZ => [(5, .int (x.2.1 0)), (4, .int r1), (0, .ref (gO g 13)), (1, .ref (gO g d1)), (2, .int p2), (3, .int p3)]) (fun x : LZ => (Fr (fO [13]) σ19 x.1) ∧ (J8 x.1) ∧ ((0 : Int) ≤ (x.2.1 0).toInt ∧ (x.2.1 0).toInt ≤ 16) ∧ True) (fun x : LZ => ((17 : Int) - (x.2.1 0).toInt).toNat) ?_ (σ19, lf [0], lg []) ⟨Fr.rf, hJ20, (show (0 : Int) ≤ (0 : Int32).toInt ∧ (0 : Int32).toInt ≤ 16 from (by have z0 : (0 : Int32).toInt = 0 := (by decide); omega)), trivial⟩ _ _ _ hP hS (lv_sub hl [0, 1, 2, 3, 4, 5] rfl)
  intro y23 hI22 nl21 H locs ls hP hS hl
  obtain ⟨σ24, eσ24⟩ : ∃ z, z = y23.1 := ⟨_, rfl⟩
  rw [← eσ24] at hP hI22
  have hF25 : Fr (fO [13]) σ19 σ24 := hI22.1
  have hJ26 : J8 σ24 := hI22.2.1
  have b27 : (0 : Int) ≤ (y23.2.1 0).toInt ∧ (y23.2.1 0).toInt ≤ 16 := hI22.2.2.1
  have hl : lv_has ls 6 [(5, .int (y23.2.1 0)), (4, .int r1), (0, .ref (gO g 13)), (1, .ref (gO g d1)), (2, .int p2), (3, .int p3)] := hl
  refine lv_iload hx hb dX3_aim_40 (lv_at hl 0 rfl) ?_
  refine lv_aload_n hx hb dX3_aim_42 rfl (lv_at hl 3 rfl) ?_
  refine lv_iload_n hx hb dX3_aim_43 rfl (lv_at hl 5 rfl) ?_
  refine va_calli (va_runV (As := [.int p3]) (rest := [.int (y23.2.1 0)]) ⟨hx, hb, hml, hown, hts⟩ (m_X0_tonesOf l D cy g σ24  d1 p3 _ hJ26 (show 0 ≤ d1 ∧ d1 < 5 from hd1)) (cwV 1 hts (gd_V q933 q657 q658 q127 q659) rfl rfl rfl (by decide +kernel) ⟨(Nat.le_of_ble_eq_true rfl), (Nat.le_of_ble_eq_true rfl)⟩) (pv8 hP hK hD hC hS (rv8_0 hK hP hd1)) rfl rfl hl.1 rfl (lv_room (Nat.le_of_ble_eq_true rfl)) dX3_aim_44 ⟨Nat.le_of_ble_eq_true rfl, Nat.le_of_ble_eq_true rfl⟩) hS (fun q _ h => up8 hS q h) (up8 hS) (fun r28 σ29 tS H1 locs ht hvm hw30 hB hz1 hk1 hS => ?_)
  have hP : va_P D clz (WD8 cy g σ29) H1 := by rw [← ht]; exact hB
  clear hB hz1 hk1 hvm ht
  generalize H1 = H at hP hS ⊢
  have hw30E : σ24 = σ29 := (hw30.1).symm
  subst hw30E
  have b31 : (0 : Int) ≤ r28.toInt ∧ r28.toInt ≤ 16 := hw30.2.1
  refine cut8 (D := D) (cy := cy) (g := g) (A := A8 cy g s.heap.size) (H0 := s.heap) 6 140 (fun x : LZ => [(5, .int (y23.2.1 0)), (4, .int r1), (0, .ref (gO g 13)), (1, .ref (gO g d1)), (2, .int p2), (3, .int p3)]) (fun x : LZ => []) (fun x : LZ => (x.1 = σ24) ∧ True) ?_ ?_
  ·
    intro y34 hI33 H locs ls hP hS hl
    rw [show y34.1 = σ24 from hI33.1] at hP
    have hl : lv_has ls 6 [(5, .int (y23.2.1 0)), (4, .int r1), (0, .ref (gO g 13)), (1, .ref (gO g d1)), (2, .int p2), (3, .int p3)] := hl
    refine lv_iconst (v := 0) hx hb dX3_aim_140 (by decide) ?_
    refine lv_istore (lv' := [(5, .int 0), (4, .int r1), (0, .ref (gO g 13)), (1, .ref (gO g d1)), (2, .int p2), (3, .int p3)]) hx hb dX3_aim_141 hl (by decide) rfl (fun ls hl => ?_)
    refine loop8 6 143 (fun x : LZ => [(5, .int (x.2.1 0)), (4, .int r1), (0, .ref (gO g 13)), (1, .ref (gO g d1)), (2, .int p2), (3, .int p3)]) (fun x : LZ => (Fr (fO [13]) σ24 x.1) ∧ (J8 x.1) ∧ ((0 : Int) ≤ (x.2.1 0).toInt ∧ (x.2.1 0).toInt ≤ 15) ∧ True) (fun x : LZ => ((16 : Int) - (x.2.1 0).toInt).toNat) ?_ (σ24, lf [0], lg []) ⟨Fr.rf, hJ26, (show (0 : Int) ≤ (0 : Int32).toInt ∧ (0 : Int32).toInt ≤ 15 from (by have z0 : (0 : Int32).toInt = 0 := (by decide); omega)), trivial⟩ _ _ _ hP hS (lv_sub hl [0, 1, 2, 3, 4, 5] rfl)
    intro y37 hI36 nl35 H locs ls hP hS hl
    obtain ⟨σ38, eσ38⟩ : ∃ z, z = y37.1 := ⟨_, rfl⟩
    rw [← eσ38] at hP hI36
    have hF39 : Fr (fO [13]) σ24 σ38 := hI36.1
    have hJ40 : J8 σ38 := hI36.2.1
    have b41 : (0 : Int) ≤ (y37.2.1 0).toInt ∧ (y37.2.1 0).toInt ≤ 15 := hI36.2.2.1
    have hl : lv_has ls 6 [(5, .int (y37.2.1 0)), (4, .int r1), (0, .ref (gO g 13)), (1, .ref (gO g d1)), (2, .int p2), (3, .int p3)] := hl
    refine lv_iload hx hb dX3_aim_143 (lv_at hl 0 rfl) ?_
    refine lv_iconst (v := 1) hx hb dX3_aim_145 (by decide) ?_
    refine lv_iadd hx hb dX3_aim_146 ?_
    refine lv_topi (fun x42 ex42 => ?_)
    have t43 := addO ex42 (by have f0 := b41; have g0 := rg32 (y37.2.1 0); have z1 : (1 : Int32).toInt = 1 := (by decide); omega)
    refine lv_aload_n hx hb dX3_aim_147 rfl (lv_at hl 2 rfl) ?_
    refine g8_3_0 (x := ((σ38 13).1 0)) hx hb hts hown hK hP (rfl) (hts _ q280) dX3_aim_148 ?_
    refine lv_icmp_ge (tgt := 225) hx hb dX3_aim_151 (by decide) (fun c44 => ?_) (fun c44 => ?_)
    ·
      have k45 := ple32 c44
      exact W.vret hx hb hr (fun tS ht hW => ⟨⟨σ38, rfl, ⟨Fr.tr (Fr.tr (Fr.tr (Fr.tr (Fr.tr (Fr.tr (Fr.rf) hF7 (fO_sub (by simp))) hF12 (fO_sub (by simp))) (sI_f eσ17) (fN_O (mne mem0))) (sI_f eσ19) (fN_O (mne mem0))) hF25 (fO_sub (by simp))) hF39 (fO_sub (by simp)), hJ40, trivial⟩, (show va_P D clz (WD8 cy g σ38) tS.heap by rw [ht]; exact hP)⟩, hS.F ht⟩) hS.2.2 dX3_aim_225
    ·
      have k46 := nle32 c44
      refine lv_aload_n hx hb dX3_aim_154 rfl (lv_at hl 2 rfl) ?_
      refine g8_3_10 hx hb hts hown hK hP (hts _ q295) dX3_aim_155 ?_
      refine lv_iload hx hb dX3_aim_158 (lv_at hl 0 rfl) ?_
      refine lv_aload_n hx hb dX3_aim_160 rfl (lv_at hl 3 rfl) ?_
      refine lv_iload_n hx hb dX3_aim_161 rfl (lv_at hl 5 rfl) ?_
      refine lv_aload_n hx hb dX3_aim_162 rfl (lv_at hl 2 rfl) ?_
      refine g8_3_8 hx hb hts hown hK hP (hts _ q293) dX3_aim_163 ?_
      refine lv_iload hx hb dX3_aim_166 (lv_at hl 0 rfl) ?_
      refine lv_iconst (v := 1) hx hb dX3_aim_168 (by decide) ?_
      refine lv_iadd hx hb dX3_aim_169 ?_
      refine lv_topi (fun x47 ex47 => ?_)
      have t48 := addO ex47 (by have f0 := b41; have f1 := t43; have f2 := k46; have f3 := j8_3_0 hJ40 rfl; have g0 := rg32 (y37.2.1 0); have z1 : (1 : Int32).toInt = 1 := (by decide); omega)
      obtain ⟨x49, ex49⟩ : ∃ z, (σ38 13).2.2.1 8 x47.toInt.toNat = z := ⟨_, rfl⟩
      refine l8_3_8 (x := x49) hx hb hK hP (vpo (by have f0 := t48; have f1 := b41; have f2 := t43; have f3 := k46; have f4 := j8_3_0 hJ40 rfl; have g0 := rg32 x47; have z1 : (1 : Int32).toInt = 1 := (by decide); omega)) ex49 dX3_aim_170 ?_
      have t50 := a8_3_8 hJ40 ex49
      refine lv_iconst (v := 4) hx hb dX3_aim_171 (by decide) ?_
      refine va_calli (va_runV (As := [.int p3, .int x49, .int 4]) (rest := [.int (y37.2.1 0), .ref (gR g 13 10)]) ⟨hx, hb, hml, hown, hts⟩ (m_X0_toneField l D cy g σ38  d1 p3 x49 (4) _ hJ40 (show 0 ≤ d1 ∧ d1 < 5 from hd1)) (cwV 3 hts (gd_V q935 q661 q662 q127 q663) rfl rfl rfl (by decide +kernel) ⟨(Nat.le_of_ble_eq_true rfl), (Nat.le_of_ble_eq_true rfl)⟩) (pv8 hP hK hD hC hS (rv8_0 hK hP hd1)) rfl rfl hl.1 rfl (lv_room (Nat.le_of_ble_eq_true rfl)) dX3_aim_172 ⟨Nat.le_of_ble_eq_true rfl, Nat.le_of_ble_eq_true rfl⟩) hS (fun q _ h => up8 hS q h) (up8 hS) (fun r51 σ52 tS H1 locs ht hvm hw53 hB hz1 hk1 hS => ?_)
      have hP : va_P D clz (WD8 cy g σ52) H1 := by rw [← ht]; exact hB
      clear hB hz1 hk1 hvm ht
      generalize H1 = H at hP hS ⊢
      have hw53E : σ38 = σ52 := (hw53.1).symm
      subst hw53E
      refine lv_aload_n hx hb dX3_aim_175 rfl (lv_at hl 3 rfl) ?_
      refine lv_iload_n hx hb dX3_aim_176 rfl (lv_at hl 5 rfl) ?_
      refine lv_aload_n hx hb dX3_aim_177 rfl (lv_at hl 2 rfl) ?_
      refine g8_3_8 hx hb hts hown hK hP (hts _ q293) dX3_aim_178 ?_
      refine lv_iload hx hb dX3_aim_181 (lv_at hl 0 rfl) ?_
      obtain ⟨x54, ex54⟩ : ∃ z, (σ38 13).2.2.1 8 (y37.2.1 0).toInt.toNat = z := ⟨_, rfl⟩
      refine l8_3_8 (x := x54) hx hb hK hP (vpo (by have f0 := b41; have f1 := t43; have f2 := t48; have f3 := k46; have f4 := j8_3_0 hJ40 rfl; have g0 := rg32 (y37.2.1 0); have z1 : (1 : Int32).toInt = 1 := (by decide); omega)) ex54 dX3_aim_183 ?_
      have t55 := a8_3_8 hJ40 ex54
      refine lv_iconst (v := 4) hx hb dX3_aim_184 (by decide) ?_
      refine va_calli (va_runV (As := [.int p3, .int x54, .int 4]) (rest := [.int r51, .int (y37.2.1 0), .ref (gR g 13 10)]) ⟨hx, hb, hml, hown, hts⟩ (m_X0_toneField l D cy g σ38  d1 p3 x54 (4) _ hJ40 (show 0 ≤ d1 ∧ d1 < 5 from hd1)) (cwV 3 hts (gd_V q935 q661 q662 q127 q663) rfl rfl rfl (by decide +kernel) ⟨(Nat.le_of_ble_eq_true rfl), (Nat.le_of_ble_eq_true rfl)⟩) (pv8 hP hK hD hC hS (rv8_0 hK hP hd1)) rfl rfl hl.1 rfl (lv_room (Nat.le_of_ble_eq_true rfl)) dX3_aim_185 ⟨Nat.le_of_ble_eq_true rfl, Nat.le_of_ble_eq_true rfl⟩) hS (fun q _ h => up8 hS q h) (up8 hS) (fun r56 σ57 tS H1 locs ht hvm hw58 hB hz1 hk1 hS => ?_)
      have hP : va_P D clz (WD8 cy g σ57) H1 := by rw [← ht]; exact hB
      clear hB hz1 hk1 hvm ht
      generalize H1 = H at hP hS ⊢
      have hw58E : σ38 = σ57 := (hw58.1).symm
      subst hw58E
      refine lv_isub hx hb dX3_aim_188 ?_
      refine lv_topi (fun x59 ex59 => ?_)
      refine t8_3_10 hx hb hK hP hD hS (vpo (by have f0 := b41; have f1 := t43; have f2 := t48; have f3 := k46; have f4 := j8_3_0 hJ40 rfl; have g0 := rg32 (y37.2.1 0); have z1 : (1 : Int32).toInt = 1 := (by decide); omega)) dX3_aim_189 (fun H locs σ60 eσ60 hP hS => ?_)
      have hJ61 : J8 σ60 := hJ40.A eσ60 rfl (show PA8 3 10 x59 from trivial)
      refine lv_aload_n hx hb dX3_aim_190 rfl (lv_at hl 2 rfl) ?_
      refine g8_3_8 hx hb hts hown hK hP (hts _ q293) dX3_aim_191 ?_
      refine lv_iload hx hb dX3_aim_194 (lv_at hl 0 rfl) ?_
      refine lv_iconst (v := 1) hx hb dX3_aim_196 (by decide) ?_
      refine lv_iadd hx hb dX3_aim_197 ?_
      refine lv_topi (fun x62 ex62 => ?_)
      have t63 := addO ex62 (by have f0 := b41; have f1 := t43; have f2 := t48; have f3 := k46; have f4 := j8_3_0 hJ40 rfl; have g0 := rg32 (y37.2.1 0); have z1 : (1 : Int32).toInt = 1 := (by decide); omega)
      obtain ⟨x64, ex64⟩ : ∃ z, (σ38 13).2.2.1 8 x62.toInt.toNat = z := ⟨_, rfl⟩
      refine l8_3_8 (x := x64) hx hb hK hP (vpo (by have f0 := t63; have f1 := b41; have f2 := t43; have f3 := t48; have f4 := k46; have f5 := j8_3_0 hJ40 rfl; have g0 := rg32 x62; have z1 : (1 : Int32).toInt = 1 := (by decide); omega)) ((congrFun (((sA_f eσ60) 13 8 (fN_k rfl)).2.2.1) _).trans ex64) dX3_aim_198 ?_
      have t65 := a8_3_8 hJ40 ex64
      refine lv_aload_n hx hb dX3_aim_199 rfl (lv_at hl 2 rfl) ?_
      refine g8_3_8 hx hb hts hown hK hP (hts _ q293) dX3_aim_200 ?_
      refine lv_iload hx hb dX3_aim_203 (lv_at hl 0 rfl) ?_
      refine l8_3_8 (x := x54) hx hb hK hP (vpo (by have f0 := b41; have f1 := t43; have f2 := t48; have f3 := t63; have f4 := k46; have f5 := j8_3_0 hJ40 rfl; have g0 := rg32 (y37.2.1 0); have z1 : (1 : Int32).toInt = 1 := (by decide); omega)) ((congrFun (((sA_f eσ60) 13 8 (fN_k rfl)).2.2.1) _).trans ex54) dX3_aim_205 ?_
      refine lv_iconst (v := 1) hx hb dX3_aim_206 (by decide) ?_
      refine lv_iadd hx hb dX3_aim_207 ?_
      refine lv_topi (fun x66 ex66 => ?_)
      have t67 := addO ex66 (by have f0 := t55; have g0 := rg32 x54; have z1 : (1 : Int32).toInt = 1 := (by decide); omega)
      refine cut8 (D := D) (cy := cy) (g := g) (A := A8 cy g s.heap.size) (H0 := s.heap) 6 219 (fun x : LZ => [(5, .int (y37.2.1 0)), (4, .int r1), (0, .ref (gO g 13)), (1, .ref (gO g d1)), (2, .int p2), (3, .int p3)]) (fun x : LZ => []) (fun x : LZ => (Fr (fO [13]) σ60 x.1) ∧ (J8 x.1) ∧ True) ?_ ?_
      ·
        intro y70 hI69 H locs ls hP hS hl
        obtain ⟨σ71, eσ71⟩ : ∃ z, z = y70.1 := ⟨_, rfl⟩
        rw [← eσ71] at hP hI69
        have hF72 : Fr (fO [13]) σ60 σ71 := hI69.1
        have hJ73 : J8 σ71 := hI69.2.1
        have hl : lv_has ls 6 [(5, .int (y37.2.1 0)), (4, .int r1), (0, .ref (gO g 13)), (1, .ref (gO g d1)), (2, .int p2), (3, .int p3)] := hl
        obtain ⟨x74, ex74⟩ : ∃ y : Int32, y = (y37.2.1 0) + 1 := ⟨_, rfl⟩
        have t75 := addO ex74 (by have f0 := b41; have f1 := t43; have f2 := t48; have f3 := t63; have f4 := k46; have f5 := j8_3_0 hJ40 rfl; have g0 := rg32 (y37.2.1 0); have z1 : (1 : Int32).toInt = 1 := (by decide); omega)
        refine lv_iinc (v := x74) (lv' := [(5, .int x74), (4, .int r1), (0, .ref (gO g 13)), (1, .ref (gO g d1)), (2, .int p2), (3, .int p3)]) hx hb dX3_aim_219 hl (k := 0) rfl (by rw [ex74]; rfl) (by decide) rfl (fun ls hl => ?_)
        refine lv_goto (tgt := 143) hx hb dX3_aim_222 (by decide) ?_
        have t76 : ((16 : Int) - x74.toInt).toNat < ((16 : Int) - (y37.2.1 0).toInt).toNat := (by have f0 := b41; have f1 := t43; have f2 := t48; have f3 := t63; have f4 := t75; have f5 := k46; have f6 := j8_3_0 hJ40 rfl; have g0 := rg32 (y37.2.1 0); have g1 := rg32 x74; have z1 : (1 : Int32).toInt = 1 := (by decide); omega)
        exact nl35 (σ71, lf [x74], lg []) ⟨Fr.tr (Fr.tr (Fr.tr (Fr.rf) hF39 (fO_sub (fun _ q => q))) (sA_f eσ60) (fN_O mem0)) hF72 (fO_sub (fun _ q => q)), hJ73, (show (0 : Int) ≤ (x74 : Int32).toInt ∧ (x74 : Int32).toInt ≤ 15 from (by have f0 := t75; have f1 := b41; have f2 := t43; have f3 := t48; have f4 := t63; have f5 := k46; have f6 := j8_3_0 hJ40 rfl; have g0 := rg32 x74; have z1 : (1 : Int32).toInt = 1 := (by decide); omega)), trivial⟩ (show ((16 : Int) - x74.toInt).toNat < _ from by first | exact t76 | (rw [← eσ38]; exact t76)) _ _ _ hP hS (lv_sub hl [0, 1, 2, 3, 4, 5] rfl)
      ·
        intro nj68
        refine lv_icmp_eq (tgt := 219) hx hb dX3_aim_208 (by decide) (fun c77 => ?_) (fun c77 => ?_)
        ·
          have k78 := peq32 c77
          exact nj68 (σ60, lf [], lg []) ⟨Fr.rf, hJ61, trivial⟩ _ _ _ hP hS (lv_sub hl [0, 1, 2, 3, 4, 5] rfl)
        ·
          have k79 := neq32 c77
          refine lv_aload_n hx hb dX3_aim_211 rfl (lv_at hl 2 rfl) ?_
          refine g8_3_11 hx hb hts hown hK hP (hts _ q296) dX3_aim_212 ?_
          refine lv_iload hx hb dX3_aim_215 (lv_at hl 0 rfl) ?_
          refine lv_iconst (v := 0) hx hb dX3_aim_217 (by decide) ?_
          refine t8_3_11 hx hb hK hP hD hS (vpo (by have f0 := b41; have f1 := t43; have f2 := t48; have f3 := t63; have f4 := k46; have f5 := j8_3_0 hJ40 rfl; have g0 := rg32 (y37.2.1 0); have z1 : (1 : Int32).toInt = 1 := (by decide); omega)) dX3_aim_218 (fun H locs σ80 eσ80 hP hS => ?_)
          have hJ81 : J8 σ80 := hJ61.A eσ80 rfl (show PA8 3 11 (0 : Int32) from trivial)
          exact nj68 (σ80, lf [], lg []) ⟨Fr.tr (Fr.rf) (sA_f eσ80) (fN_O mem0), hJ81, trivial⟩ _ _ _ hP hS (lv_sub hl [0, 1, 2, 3, 4, 5] rfl)
  ·
    intro nj32
    refine lv_icmp_ge (tgt := 140) hx hb dX3_aim_47 (by decide) (fun c82 => ?_) (fun c82 => ?_)
    ·
      have k83 := ple32 c82
      exact nj32 (σ24, lf [], lg []) ⟨rfl, trivial⟩ _ _ _ hP hS (lv_sub hl [0, 1, 2, 3, 4, 5] rfl)
    ·
      have k84 := nle32 c82
      refine lv_aload_n hx hb dX3_aim_50 rfl (lv_at hl 2 rfl) ?_
      refine g8_3_0 (x := ((σ24 13).1 0)) hx hb hts hown hK hP (rfl) (hts _ q280) dX3_aim_51 ?_
      refine lv_bipush (v := 16) hx hb dX3_aim_54 (by decide) ?_
      refine lv_icmp_ge (tgt := 140) hx hb dX3_aim_56 (by decide) (fun c85 => ?_) (fun c85 => ?_)
      ·
        have k86 := ple32 c85
        exact nj32 (σ24, lf [], lg []) ⟨rfl, trivial⟩ _ _ _ hP hS (lv_sub hl [0, 1, 2, 3, 4, 5] rfl)
      ·
        have k87 := nle32 c85
        refine lv_aload_n hx hb dX3_aim_59 rfl (lv_at hl 3 rfl) ?_
        refine lv_iload_n hx hb dX3_aim_60 rfl (lv_at hl 5 rfl) ?_
        refine lv_iload hx hb dX3_aim_61 (lv_at hl 0 rfl) ?_
        refine va_calli (va_runV (As := [.int p3, .int (y23.2.1 0)]) (rest := []) ⟨hx, hb, hml, hown, hts⟩ (m_X0_isSounding l D cy g σ24  d1 p3 (y23.2.1 0) _ hJ26 (show 0 ≤ d1 ∧ d1 < 5 from hd1)) (cwV 2 hts (gd_V q934 q783 q784 q127 q785) rfl rfl rfl (by decide +kernel) ⟨(Nat.le_of_ble_eq_true rfl), (Nat.le_of_ble_eq_true rfl)⟩) (pv8 hP hK hD hC hS (rv8_0 hK hP hd1)) rfl rfl hl.1 rfl (lv_room (Nat.le_of_ble_eq_true rfl)) dX3_aim_63 ⟨Nat.le_of_ble_eq_true rfl, Nat.le_of_ble_eq_true rfl⟩) hS (fun q _ h => up8 hS q h) (up8 hS) (fun r88 σ89 tS H1 locs ht hvm hw90 hB hz1 hk1 hS => ?_)
        have hP : va_P D clz (WD8 cy g σ89) H1 := by rw [← ht]; exact hB
        clear hB hz1 hk1 hvm ht
        generalize H1 = H at hP hS ⊢
        have hw90E : σ24 = σ89 := (hw90.1).symm
        subst hw90E
        have b91 : (0 : Int) ≤ r88.toInt ∧ r88.toInt ≤ 1 := hw90.2.1
        have b92 : (r88.toInt = 0) ∨ ((0 : Int) ≤ p3.toInt ∧ p3.toInt ≤ 2 ∧ (0 : Int) ≤ (y23.2.1 0).toInt ∧ (y23.2.1 0).toInt ≤ 15) := hw90.2.2.1
        refine cut8 (D := D) (cy := cy) (g := g) (A := A8 cy g s.heap.size) (H0 := s.heap) 6 134 (fun x : LZ => [(5, .int (y23.2.1 0)), (4, .int r1), (0, .ref (gO g 13)), (1, .ref (gO g d1)), (2, .int p2), (3, .int p3)]) (fun x : LZ => []) (fun x : LZ => (Fr (fO [13]) σ24 x.1) ∧ (J8 x.1) ∧ True) ?_ ?_
        ·
          intro y95 hI94 H locs ls hP hS hl
          obtain ⟨σ96, eσ96⟩ : ∃ z, z = y95.1 := ⟨_, rfl⟩
          rw [← eσ96] at hP hI94
          have hF97 : Fr (fO [13]) σ24 σ96 := hI94.1
          have hJ98 : J8 σ96 := hI94.2.1
          have hl : lv_has ls 6 [(5, .int (y23.2.1 0)), (4, .int r1), (0, .ref (gO g 13)), (1, .ref (gO g d1)), (2, .int p2), (3, .int p3)] := hl
          obtain ⟨x99, ex99⟩ : ∃ y : Int32, y = (y23.2.1 0) + 1 := ⟨_, rfl⟩
          have t100 := addO ex99 (by have f0 := b27; have f1 := k84; have f2 := b92; have f3 := b31; have f4 := b91; have g0 := rg32 (y23.2.1 0); have g1 := rg32 p3; have z1 : (1 : Int32).toInt = 1 := (by decide); omega)
          refine lv_iinc (v := x99) (lv' := [(5, .int x99), (4, .int r1), (0, .ref (gO g 13)), (1, .ref (gO g d1)), (2, .int p2), (3, .int p3)]) hx hb dX3_aim_134 hl (k := 0) rfl (by rw [ex99]; rfl) (by decide) rfl (fun ls hl => ?_)
          refine lv_goto (tgt := 40) hx hb dX3_aim_137 (by decide) ?_
          have t101 : ((17 : Int) - x99.toInt).toNat < ((17 : Int) - (y23.2.1 0).toInt).toNat := (by have f0 := b27; have f1 := k84; have f2 := b92; have f3 := t100; have f4 := b31; have f5 := b91; have g0 := rg32 (y23.2.1 0); have g1 := rg32 p3; have g2 := rg32 x99; have z1 : (1 : Int32).toInt = 1 := (by decide); omega)
          exact nl21 (σ96, lf [x99], lg []) ⟨Fr.tr (Fr.tr (Fr.rf) hF25 (fO_sub (fun _ q => q))) hF97 (fO_sub (fun _ q => q)), hJ98, (show (0 : Int) ≤ (x99 : Int32).toInt ∧ (x99 : Int32).toInt ≤ 16 from (by have f0 := t100; have f1 := b27; have f2 := k84; have f3 := b92; have f4 := b31; have f5 := b91; have g0 := rg32 p3; have g1 := rg32 x99; have z1 : (1 : Int32).toInt = 1 := (by decide); omega)), trivial⟩ (show ((17 : Int) - x99.toInt).toNat < _ from by first | exact t101 | (rw [← eσ24]; exact t101)) _ _ _ hP hS (lv_sub hl [0, 1, 2, 3, 4, 5] rfl)
        ·
          intro nj93
          refine lv_if_eq (tgt := 134) hx hb dX3_aim_66 (by decide) (fun c102 => ?_) (fun c102 => ?_)
          ·
            have k103 := peq32 c102
            exact nj93 (σ24, lf [], lg []) ⟨Fr.rf, hJ26, trivial⟩ _ _ _ hP hS (lv_sub hl [0, 1, 2, 3, 4, 5] rfl)
          ·
            have k104 := neq32 c102
            refine lv_aload_n hx hb dX3_aim_69 rfl (lv_at hl 2 rfl) ?_
            refine g8_3_8 hx hb hts hown hK hP (hts _ q293) dX3_aim_70 ?_
            refine lv_aload_n hx hb dX3_aim_73 rfl (lv_at hl 2 rfl) ?_
            refine g8_3_0 (x := ((σ24 13).1 0)) hx hb hts hown hK hP (rfl) (hts _ q280) dX3_aim_74 ?_
            refine lv_iload hx hb dX3_aim_77 (lv_at hl 0 rfl) ?_
            refine t8_3_8 hx hb hK hP hD hS (vpo (by have f0 := j8_3_0 hJ26 rfl; have f1 := k87; have z16 : (16 : Int32).toInt = 16 := (by decide); omega)) dX3_aim_79 (fun H locs σ105 eσ105 hP hS => ?_)
            have hJ106 : J8 σ105 := hJ26.A eσ105 rfl (show PA8 3 8 (y23.2.1 0) from (by have f0 := b27; have f1 := k84; have f2 := b92; have f3 := b31; have f4 := b91; have f5 := k104; have g0 := rg32 (y23.2.1 0); have z0 : (0 : Int32).toInt = 0 := (by decide); exact ⟨by omega, by omega⟩))
            refine lv_aload_n hx hb dX3_aim_80 rfl (lv_at hl 2 rfl) ?_
            refine g8_3_9 hx hb hts hown hK hP (hts _ q294) dX3_aim_81 ?_
            refine lv_aload_n hx hb dX3_aim_84 rfl (lv_at hl 2 rfl) ?_
            refine g8_3_0 (x := ((σ24 13).1 0)) hx hb hts hown hK hP (((sA_f eσ105) 13 0 (fN_k rfl)).1) (hts _ q280) dX3_aim_85 ?_
            refine lv_aload_n hx hb dX3_aim_88 rfl (lv_at hl 3 rfl) ?_
            refine lv_iload_n hx hb dX3_aim_89 rfl (lv_at hl 5 rfl) ?_
            refine lv_iload hx hb dX3_aim_90 (lv_at hl 0 rfl) ?_
            refine lv_iconst (v := 0) hx hb dX3_aim_92 (by decide) ?_
            refine va_calli (va_runV (As := [.int p3, .int (y23.2.1 0), .int 0]) (rest := [.int ((σ24 13).1 0), .ref (gR g 13 9)]) ⟨hx, hb, hml, hown, hts⟩ (m_X0_toneField l D cy g σ105  d1 p3 (y23.2.1 0) (0) _ hJ106 (show 0 ≤ d1 ∧ d1 < 5 from hd1)) (cwV 3 hts (gd_V q935 q661 q662 q127 q663) rfl rfl rfl (by decide +kernel) ⟨(Nat.le_of_ble_eq_true rfl), (Nat.le_of_ble_eq_true rfl)⟩) (pv8 hP hK hD hC hS (rv8_0 hK hP hd1)) rfl rfl hl.1 rfl (lv_room (Nat.le_of_ble_eq_true rfl)) dX3_aim_93 ⟨Nat.le_of_ble_eq_true rfl, Nat.le_of_ble_eq_true rfl⟩) hS (fun q _ h => up8 hS q h) (up8 hS) (fun r107 σ108 tS H1 locs ht hvm hw109 hB hz1 hk1 hS => ?_)
            have hP : va_P D clz (WD8 cy g σ108) H1 := by rw [← ht]; exact hB
            clear hB hz1 hk1 hvm ht
            generalize H1 = H at hP hS ⊢
            have hw109E : σ105 = σ108 := (hw109.1).symm
            subst hw109E
            refine t8_3_9 hx hb hK hP hD hS (vpo (by have f0 := j8_3_0 hJ26 rfl; have f1 := k87; have z16 : (16 : Int32).toInt = 16 := (by decide); omega)) dX3_aim_96 (fun H locs σ110 eσ110 hP hS => ?_)
            have hJ111 : J8 σ110 := hJ106.A eσ110 rfl (show PA8 3 9 r107 from trivial)
            refine lv_aload_n hx hb dX3_aim_97 rfl (lv_at hl 2 rfl) ?_
            refine g8_3_11 hx hb hts hown hK hP (hts _ q296) dX3_aim_98 ?_
            refine lv_aload_n hx hb dX3_aim_101 rfl (lv_at hl 2 rfl) ?_
            refine g8_3_0 (x := ((σ24 13).1 0)) hx hb hts hown hK hP ((((sA_f eσ110) 13 0 (fN_k rfl)).1).trans (((sA_f eσ105) 13 0 (fN_k rfl)).1)) (hts _ q280) dX3_aim_102 ?_
            refine lv_aload_n hx hb dX3_aim_105 rfl (lv_at hl 3 rfl) ?_
            refine lv_iload_n hx hb dX3_aim_106 rfl (lv_at hl 5 rfl) ?_
            refine lv_iload hx hb dX3_aim_107 (lv_at hl 0 rfl) ?_
            refine lv_iconst (v := 2) hx hb dX3_aim_109 (by decide) ?_
            refine va_calli (va_runV (As := [.int p3, .int (y23.2.1 0), .int 2]) (rest := [.int ((σ24 13).1 0), .ref (gR g 13 11)]) ⟨hx, hb, hml, hown, hts⟩ (m_X0_toneField l D cy g σ110  d1 p3 (y23.2.1 0) (2) _ hJ111 (show 0 ≤ d1 ∧ d1 < 5 from hd1)) (cwV 3 hts (gd_V q935 q661 q662 q127 q663) rfl rfl rfl (by decide +kernel) ⟨(Nat.le_of_ble_eq_true rfl), (Nat.le_of_ble_eq_true rfl)⟩) (pv8 hP hK hD hC hS (rv8_0 hK hP hd1)) rfl rfl hl.1 rfl (lv_room (Nat.le_of_ble_eq_true rfl)) dX3_aim_110 ⟨Nat.le_of_ble_eq_true rfl, Nat.le_of_ble_eq_true rfl⟩) hS (fun q _ h => up8 hS q h) (up8 hS) (fun r112 σ113 tS H1 locs ht hvm hw114 hB hz1 hk1 hS => ?_)
            have hP : va_P D clz (WD8 cy g σ113) H1 := by rw [← ht]; exact hB
            clear hB hz1 hk1 hvm ht
            generalize H1 = H at hP hS ⊢
            have hw114E : σ110 = σ113 := (hw114.1).symm
            subst hw114E
            refine t8_3_11 hx hb hK hP hD hS (vpo (by have f0 := j8_3_0 hJ26 rfl; have f1 := k87; have z16 : (16 : Int32).toInt = 16 := (by decide); omega)) dX3_aim_113 (fun H locs σ115 eσ115 hP hS => ?_)
            have hJ116 : J8 σ115 := hJ111.A eσ115 rfl (show PA8 3 11 r112 from trivial)
            refine lv_aload_n hx hb dX3_aim_114 rfl (lv_at hl 2 rfl) ?_
            refine g8_3_10 hx hb hts hown hK hP (hts _ q295) dX3_aim_115 ?_
            refine lv_aload_n hx hb dX3_aim_118 rfl (lv_at hl 2 rfl) ?_
            refine g8_3_0 (x := ((σ24 13).1 0)) hx hb hts hown hK hP ((((sA_f eσ115) 13 0 (fN_k rfl)).1).trans ((((sA_f eσ110) 13 0 (fN_k rfl)).1).trans (((sA_f eσ105) 13 0 (fN_k rfl)).1))) (hts _ q280) dX3_aim_119 ?_
            refine lv_iconst (v := 0) hx hb dX3_aim_122 (by decide) ?_
            refine t8_3_10 hx hb hK hP hD hS (vpo (by have f0 := j8_3_0 hJ26 rfl; have f1 := k87; have z16 : (16 : Int32).toInt = 16 := (by decide); omega)) dX3_aim_123 (fun H locs σ117 eσ117 hP hS => ?_)
            have hJ118 : J8 σ117 := hJ116.A eσ117 rfl (show PA8 3 10 (0 : Int32) from trivial)
            refine lv_aload_n hx hb dX3_aim_124 rfl (lv_at hl 2 rfl) ?_
            refine lv_dup hx hb dX3_aim_125 rfl ?_
            refine g8_3_0 (x := ((σ24 13).1 0)) hx hb hts hown hK hP ((((sA_f eσ117) 13 0 (fN_k rfl)).1).trans ((((sA_f eσ115) 13 0 (fN_k rfl)).1).trans ((((sA_f eσ110) 13 0 (fN_k rfl)).1).trans (((sA_f eσ105) 13 0 (fN_k rfl)).1)))) (hts _ q280) dX3_aim_126 ?_
            refine lv_iconst (v := 1) hx hb dX3_aim_129 (by decide) ?_
            refine lv_iadd hx hb dX3_aim_130 ?_
            refine lv_topi (fun x119 ex119 => ?_)
            have t120 := addO ex119 (by have f0 := j8_3_0 hJ26 rfl; have f1 := k87; have z1 : (1 : Int32).toInt = 1 := (by decide); have z16 : (16 : Int32).toInt = 16 := (by decide); omega)
            refine p8_3_0 hx hb hts hown hK hP hD hS (hts _ q280) dX3_aim_131 (fun H locs σ121 eσ121 hP hS => ?_)
            have hJ122 : J8 σ121 := hJ118.I eσ121 rfl (show JI8 3 0 x119 from (by have f0 := t120; have f1 := j8_3_0 hJ26 rfl; have f2 := k87; have g0 := rg32 x119; have z1 : (1 : Int32).toInt = 1 := (by decide); have z16 : (16 : Int32).toInt = 16 := (by decide); exact ⟨by omega, by omega⟩))
            exact nj93 (σ121, lf [], lg []) ⟨Fr.tr (Fr.tr (Fr.tr (Fr.tr (Fr.tr (Fr.rf) (sA_f eσ105) (fN_O mem0)) (sA_f eσ110) (fN_O mem0)) (sA_f eσ115) (fN_O mem0)) (sA_f eσ117) (fN_O mem0)) (sI_f eσ121) (fN_O mem0), hJ122, trivial⟩ _ _ _ hP hS (lv_sub hl [0, 1, 2, 3, 4, 5] rfl)

theorem q943 : Cond.code yX3_layPitch cX3_layPitch 9 (some .int) ∈ lw_g := lw_gm (List.mem_of_getElem? (i := 943) (by decide +kernel)) rfl
theorem q251 : Cond.fieldLink RX3 98 "LipsAndSlides$Tube" "highest" "I" ∈ lw_g := lw_gm (List.mem_of_getElem? (i := 251) (by decide +kernel)) rfl
theorem q945 : Cond.methodLink RX3 104 yX7_awayOf ∈ lw_g := lw_gm (List.mem_of_getElem? (i := 945) (by decide +kernel)) rfl
theorem q299 : Cond.fieldLink RX3 40 "LipsAndSlides$Plays" "partial" "[I" ∈ lw_g := lw_gm (List.mem_of_getElem? (i := 299) (by decide +kernel)) rfl
theorem q300 : Cond.fieldLink RX3 43 "LipsAndSlides$Plays" "setting" "[I" ∈ lw_g := lw_gm (List.mem_of_getElem? (i := 300) (by decide +kernel)) rfl
theorem q301 : Cond.fieldLink RX3 46 "LipsAndSlides$Plays" "away" "[I" ∈ lw_g := lw_gm (List.mem_of_getElem? (i := 301) (by decide +kernel)) rfl
theorem q302 : Cond.fieldLink RX3 49 "LipsAndSlides$Plays" "octave" "[I" ∈ lw_g := lw_gm (List.mem_of_getElem? (i := 302) (by decide +kernel)) rfl
theorem dX3_layPitch_0 : decode cX3_layPitch 0 = .ok (.iload_n 2, 1) := by decide +kernel
theorem dX3_layPitch_1 : decode cX3_layPitch 1 = .ok (.i2l, 1) := by decide +kernel
theorem dX3_layPitch_2 : decode cX3_layPitch 2 = .ok (.invokestatic 94, 3) := by decide +kernel
theorem dX3_layPitch_5 : decode cX3_layPitch 5 = .ok (.ifCond .ne 5, 3) := by decide +kernel
theorem dX3_layPitch_8 : decode cX3_layPitch 8 = .ok (.iload_n 1, 1) := by decide +kernel
theorem dX3_layPitch_9 : decode cX3_layPitch 9 = .ok (.ireturn, 1) := by decide +kernel
theorem dX3_layPitch_10 : decode cX3_layPitch 10 = .ok (.iload_n 1, 1) := by decide +kernel
theorem dX3_layPitch_11 : decode cX3_layPitch 11 = .ok (.istore 5, 2) := by decide +kernel
theorem dX3_layPitch_13 : decode cX3_layPitch 13 = .ok (.iconst 2, 1) := by decide +kernel
theorem dX3_layPitch_14 : decode cX3_layPitch 14 = .ok (.istore 6, 2) := by decide +kernel
theorem dX3_layPitch_16 : decode cX3_layPitch 16 = .ok (.iload 6, 2) := by decide +kernel
theorem dX3_layPitch_18 : decode cX3_layPitch 18 = .ok (.aload_n 0, 1) := by decide +kernel
theorem dX3_layPitch_19 : decode cX3_layPitch 19 = .ok (.getfield 14, 3) := by decide +kernel
theorem dX3_layPitch_22 : decode cX3_layPitch 22 = .ok (.getfield 98, 3) := by decide +kernel
theorem dX3_layPitch_25 : decode cX3_layPitch 25 = .ok (.if_icmp .gt 101, 3) := by decide +kernel
theorem dX3_layPitch_28 : decode cX3_layPitch 28 = .ok (.iconst 0, 1) := by decide +kernel
theorem dX3_layPitch_29 : decode cX3_layPitch 29 = .ok (.istore 7, 2) := by decide +kernel
theorem dX3_layPitch_31 : decode cX3_layPitch 31 = .ok (.iload 7, 2) := by decide +kernel
theorem dX3_layPitch_33 : decode cX3_layPitch 33 = .ok (.aload_n 0, 1) := by decide +kernel
theorem dX3_layPitch_34 : decode cX3_layPitch 34 = .ok (.getfield 14, 3) := by decide +kernel
theorem dX3_layPitch_37 : decode cX3_layPitch 37 = .ok (.getfield 101, 3) := by decide +kernel
theorem dX3_layPitch_40 : decode cX3_layPitch 40 = .ok (.if_icmp .ge 80, 3) := by decide +kernel
theorem dX3_layPitch_43 : decode cX3_layPitch 43 = .ok (.iload 5, 2) := by decide +kernel
theorem dX3_layPitch_45 : decode cX3_layPitch 45 = .ok (.sipush 1408, 3) := by decide +kernel
theorem dX3_layPitch_48 : decode cX3_layPitch 48 = .ok (.if_icmp .ge 72, 3) := by decide +kernel
theorem dX3_layPitch_51 : decode cX3_layPitch 51 = .ok (.aload_n 0, 1) := by decide +kernel
theorem dX3_layPitch_52 : decode cX3_layPitch 52 = .ok (.getfield 14, 3) := by decide +kernel
theorem dX3_layPitch_55 : decode cX3_layPitch 55 = .ok (.iload_n 2, 1) := by decide +kernel
theorem dX3_layPitch_56 : decode cX3_layPitch 56 = .ok (.iload 6, 2) := by decide +kernel
theorem dX3_layPitch_58 : decode cX3_layPitch 58 = .ok (.iload 7, 2) := by decide +kernel
theorem dX3_layPitch_60 : decode cX3_layPitch 60 = .ok (.iload_n 3, 1) := by decide +kernel
theorem dX3_layPitch_61 : decode cX3_layPitch 61 = .ok (.invokevirtual 104, 3) := by decide +kernel
theorem dX3_layPitch_64 : decode cX3_layPitch 64 = .ok (.istore 8, 2) := by decide +kernel
theorem dX3_layPitch_66 : decode cX3_layPitch 66 = .ok (.iload 8, 2) := by decide +kernel
theorem dX3_layPitch_68 : decode cX3_layPitch 68 = .ok (.iconst (-1), 1) := by decide +kernel
theorem dX3_layPitch_69 : decode cX3_layPitch 69 = .ok (.if_icmp .ne 6, 3) := by decide +kernel
theorem dX3_layPitch_72 : decode cX3_layPitch 72 = .ok (.goto 42, 3) := by decide +kernel
theorem dX3_layPitch_75 : decode cX3_layPitch 75 = .ok (.aload_n 0, 1) := by decide +kernel
theorem dX3_layPitch_76 : decode cX3_layPitch 76 = .ok (.getfield 40, 3) := by decide +kernel
theorem dX3_layPitch_79 : decode cX3_layPitch 79 = .ok (.iload 5, 2) := by decide +kernel
theorem dX3_layPitch_81 : decode cX3_layPitch 81 = .ok (.iload 6, 2) := by decide +kernel
theorem dX3_layPitch_83 : decode cX3_layPitch 83 = .ok (.iastore, 1) := by decide +kernel
theorem dX3_layPitch_84 : decode cX3_layPitch 84 = .ok (.aload_n 0, 1) := by decide +kernel
theorem dX3_layPitch_85 : decode cX3_layPitch 85 = .ok (.getfield 43, 3) := by decide +kernel
theorem dX3_layPitch_88 : decode cX3_layPitch 88 = .ok (.iload 5, 2) := by decide +kernel
theorem dX3_layPitch_90 : decode cX3_layPitch 90 = .ok (.iload 7, 2) := by decide +kernel
theorem dX3_layPitch_92 : decode cX3_layPitch 92 = .ok (.iastore, 1) := by decide +kernel
theorem dX3_layPitch_93 : decode cX3_layPitch 93 = .ok (.aload_n 0, 1) := by decide +kernel
theorem dX3_layPitch_94 : decode cX3_layPitch 94 = .ok (.getfield 46, 3) := by decide +kernel
theorem dX3_layPitch_97 : decode cX3_layPitch 97 = .ok (.iload 5, 2) := by decide +kernel
theorem dX3_layPitch_99 : decode cX3_layPitch 99 = .ok (.iload 8, 2) := by decide +kernel
theorem dX3_layPitch_101 : decode cX3_layPitch 101 = .ok (.iastore, 1) := by decide +kernel
theorem dX3_layPitch_102 : decode cX3_layPitch 102 = .ok (.aload_n 0, 1) := by decide +kernel
theorem dX3_layPitch_103 : decode cX3_layPitch 103 = .ok (.getfield 49, 3) := by decide +kernel
theorem dX3_layPitch_106 : decode cX3_layPitch 106 = .ok (.iload 5, 2) := by decide +kernel
theorem dX3_layPitch_108 : decode cX3_layPitch 108 = .ok (.iload 4, 2) := by decide +kernel
theorem dX3_layPitch_110 : decode cX3_layPitch 110 = .ok (.iastore, 1) := by decide +kernel
theorem dX3_layPitch_111 : decode cX3_layPitch 111 = .ok (.iinc 5 1, 3) := by decide +kernel
theorem dX3_layPitch_114 : decode cX3_layPitch 114 = .ok (.iinc 7 1, 3) := by decide +kernel
theorem dX3_layPitch_117 : decode cX3_layPitch 117 = .ok (.goto (-86), 3) := by decide +kernel
theorem dX3_layPitch_120 : decode cX3_layPitch 120 = .ok (.iinc 6 1, 3) := by decide +kernel
theorem dX3_layPitch_123 : decode cX3_layPitch 123 = .ok (.goto (-107), 3) := by decide +kernel
theorem dX3_layPitch_126 : decode cX3_layPitch 126 = .ok (.iload 5, 2) := by decide +kernel
theorem dX3_layPitch_128 : decode cX3_layPitch 128 = .ok (.ireturn, 1) := by decide +kernel
set_option maxHeartbeats 4000000 in
set_option maxRecDepth 100000 in
theorem m_X3_layPitch (l : Launch) (D : va_G) (cy : Nat → ClassId) (g : Nat → Nat) (σ : ST) (p1 : Int32) (p2 : Int32) (p3 : Int32) (p4 : Int32) (sz : Nat) (hJ : J8 σ) (h0 : (0 : Int) ≤ p1.toInt ∧ p1.toInt ≤ 1408) (h1 : (-12 : Int) ≤ p4.toInt ∧ p4.toInt ≤ 12) : Met l yX3_layPitch (ww yX3_layPitch cX3_layPitch 9 (some .int)) ({ frames := 4, cells := 0, slots := 0, locals := 256 }) (va_Pc [.ref (gO g 13), .int p1, .int p2, .int p3, .int p4] (pr8 D cy g σ sz)) (qi8 D cy g sz (fun r τ => Fr (fO [13]) σ τ ∧ J8 τ ∧ ((0 : Int) ≤ r.toInt ∧ r.toInt ≤ 1408) ∧ True)) 0 0 (A8 cy g sz) := by
  refine Met.ofW (cc := cX3_layPitch) (maxL := 9) (ret := (some .int)) (by decide) rfl ?_
  intro p e s m args below meth c s₁ B hml hv
  obtain ⟨rfl, hsz, hP, hK, hD0, hC⟩ := hv
  have hx := B.exec
  have hb := B.bytes
  have hr := B.returns
  have hts := hts_g (atoms_spec (ws := ww yX3_layPitch cX3_layPitch 9 (some .int)) B.pre)
  have hown : s.vm.findClass RX3 = some m.cls := findClass_of_methodNamed B.named
  have hlocks := B.notSynchronized
  clear B
  subst hsz
  have hD := fun τ => A8_D (sz := s.heap.size) hD0 τ
  clear hD0
  have hS : va_S (A8 cy g s.heap.size) s.heap s.heap [] := va_S.rf
  have hl := lv_entry ([.ref (gO g 13), .int p1, .int p2, .int p3, .int p4]) (n := 9) (Nat.le_of_ble_eq_true rfl)
  rw [lg_entry_eq]
  generalize (lg_sl ([.ref (gO g 13), .int p1, .int p2, .int p3, .int p4]) ++ List.replicate (9 - (lg_sl ([.ref (gO g 13), .int p1, .int p2, .int p3, .int p4])).length) Slot.unset).toArray = ls at hl ⊢
  have hl : lv_has ls 9 [(0, .ref (gO g 13)), (1, .int p1), (2, .int p2), (3, .int p3), (4, .int p4)] := hl
  refine lv_iload_n hx hb dX3_layPitch_0 rfl (lv_at hl 2 rfl) ?_
  refine lv_i2l (v := p2.toInt64) hx hb dX3_layPitch_1 rfl ?_
  refine va_calli (va_runSN (As := [.long p2.toInt64]) (rest := []) ⟨hx, hb, hml, hown, hts⟩ (m_X8_isPitch l D cy g σ  p2.toInt64 _ hJ ) ⟨va_cnB 1 hts (gd_I q831) rfl rfl rfl hC.2.2.2.2.1 (hts _ q125) (by decide +kernel) ⟨(Nat.le_of_ble_eq_true rfl), (Nat.le_of_ble_eq_true rfl)⟩, hts _ q830, trivial⟩ (ps8 hP hK hD hC hS) rfl rfl hl.1 rfl (lv_room (Nat.le_of_ble_eq_true rfl)) dX3_layPitch_2 ⟨Nat.le_of_ble_eq_true rfl, Nat.le_of_ble_eq_true rfl⟩) hS (fun q _ h => up8 hS q h) (up8 hS) (fun r1 σ2 tS H1 locs ht hvm hw3 hB hz1 hk1 hS => ?_)
  have hP : va_P D clz (WD8 cy g σ2) H1 := by rw [← ht]; exact hB
  clear hB hz1 hk1 hvm ht
  generalize H1 = H at hP hS ⊢
  have hw3E : σ = σ2 := (hw3.1).symm
  subst hw3E
  have b4 : (0 : Int) ≤ r1.toInt ∧ r1.toInt ≤ 1 := hw3.2.1
  refine lv_if_ne (tgt := 10) hx hb dX3_layPitch_5 (by decide) (fun c5 => ?_) (fun c5 => ?_)
  ·
    have k6 := neq32 c5
    refine lv_iload_n hx hb dX3_layPitch_10 rfl (lv_at hl 1 rfl) ?_
    refine lv_istore (lv' := [(5, .int p1), (0, .ref (gO g 13)), (1, .int p1), (2, .int p2), (3, .int p3), (4, .int p4)]) hx hb dX3_layPitch_11 hl (by decide) rfl (fun ls hl => ?_)
    refine lv_iconst (v := 2) hx hb dX3_layPitch_13 (by decide) ?_
    refine lv_istore (lv' := [(6, .int 2), (5, .int p1), (0, .ref (gO g 13)), (1, .int p1), (2, .int p2), (3, .int p3), (4, .int p4)]) hx hb dX3_layPitch_14 hl (by decide) rfl (fun ls hl => ?_)
    refine loop8 9 16 (fun x : LZ => [(6, .int (x.2.1 0)), (5, .int (x.2.1 1)), (0, .ref (gO g 13)), (1, .int p1), (2, .int p2), (3, .int p3), (4, .int p4)]) (fun x : LZ => (Fr (fO [13]) σ x.1) ∧ (J8 x.1) ∧ ((2 : Int) ≤ (x.2.1 0).toInt ∧ (x.2.1 0).toInt ≤ 10000000) ∧ ((0 : Int) ≤ (x.2.1 1).toInt ∧ (x.2.1 1).toInt ≤ 1408) ∧ True) (fun x : LZ => ((10000001 : Int) - (x.2.1 0).toInt).toNat) ?_ (σ, lf [2, p1], lg []) ⟨Fr.rf, hJ, (show (2 : Int) ≤ (2 : Int32).toInt ∧ (2 : Int32).toInt ≤ 10000000 from (by have z2 : (2 : Int32).toInt = 2 := (by decide); omega)), (show (0 : Int) ≤ (p1 : Int32).toInt ∧ (p1 : Int32).toInt ≤ 1408 from (by have f0 := h0; have g0 := rg32 p1; omega)), trivial⟩ _ _ _ hP hS (lv_sub hl [0, 1, 2, 3, 4, 5, 6] rfl)
    intro y9 hI8 nl7 H locs ls hP hS hl
    obtain ⟨σ10, eσ10⟩ : ∃ z, z = y9.1 := ⟨_, rfl⟩
    rw [← eσ10] at hP hI8
    have hF11 : Fr (fO [13]) σ σ10 := hI8.1
    have hJ12 : J8 σ10 := hI8.2.1
    have b13 : (2 : Int) ≤ (y9.2.1 0).toInt ∧ (y9.2.1 0).toInt ≤ 10000000 := hI8.2.2.1
    have b14 : (0 : Int) ≤ (y9.2.1 1).toInt ∧ (y9.2.1 1).toInt ≤ 1408 := hI8.2.2.2.1
    have hl : lv_has ls 9 [(6, .int (y9.2.1 0)), (5, .int (y9.2.1 1)), (0, .ref (gO g 13)), (1, .int p1), (2, .int p2), (3, .int p3), (4, .int p4)] := hl
    refine lv_iload hx hb dX3_layPitch_16 (lv_at hl 0 rfl) ?_
    refine lv_aload_n hx hb dX3_layPitch_18 rfl (lv_at hl 2 rfl) ?_
    refine g8_3_6 hx hb hts hown hK hP (hts _ q291) dX3_layPitch_19 ?_
    refine g8_7_1 (x := ((σ 11).1 1)) hx hb hts hown hK hP (by decide : 9 ≤ 11 ∧ 11 < 12) ((hF11 11 1 (fO_n (nmc (by decide) nm0))).1) (hts _ q251) dX3_layPitch_22 ?_
    refine lv_icmp_gt (tgt := 126) hx hb dX3_layPitch_25 (by decide) (fun c15 => ?_) (fun c15 => ?_)
    ·
      have k16 := plt32 c15
      refine lv_iload hx hb dX3_layPitch_126 (lv_at hl 1 rfl) ?_
      exact W.iret (v := (y9.2.1 1)) hx hb hr (fun tS ht hW => ⟨⟨(y9.2.1 1), σ10, rfl, ⟨Fr.tr (Fr.rf) hF11 (fO_sub (fun _ q => q)), hJ12, (show (0 : Int) ≤ (y9.2.1 1).toInt ∧ (y9.2.1 1).toInt ≤ 1408 from (by have f0 := b14; have g0 := rg32 (y9.2.1 1); omega)), trivial⟩, (show va_P D clz (WD8 cy g σ10) tS.heap by rw [ht]; exact hP)⟩, hS.F ht⟩) hS.2.2 dX3_layPitch_128
    ·
      have k17 := nlt32 c15
      refine lv_iconst (v := 0) hx hb dX3_layPitch_28 (by decide) ?_
      refine lv_istore (lv' := [(7, .int 0), (6, .int (y9.2.1 0)), (5, .int (y9.2.1 1)), (0, .ref (gO g 13)), (1, .int p1), (2, .int p2), (3, .int p3), (4, .int p4)]) hx hb dX3_layPitch_29 hl (by decide) rfl (fun ls hl => ?_)
      refine loop8 9 31 (fun x : LZ => [(7, .int (x.2.1 0)), (6, .int (y9.2.1 0)), (5, .int (x.2.1 1)), (0, .ref (gO g 13)), (1, .int p1), (2, .int p2), (3, .int p3), (4, .int p4)]) (fun x : LZ => (Fr (fO [13]) σ10 x.1) ∧ (J8 x.1) ∧ ((0 : Int) ≤ (x.2.1 0).toInt ∧ (x.2.1 0).toInt ≤ 8) ∧ ((0 : Int) ≤ (x.2.1 1).toInt ∧ (x.2.1 1).toInt ≤ 1408) ∧ True) (fun x : LZ => ((9 : Int) - (x.2.1 0).toInt).toNat) ?_ (σ10, lf [0, (y9.2.1 1)], lg []) ⟨Fr.rf, hJ12, (show (0 : Int) ≤ (0 : Int32).toInt ∧ (0 : Int32).toInt ≤ 8 from (by have z0 : (0 : Int32).toInt = 0 := (by decide); omega)), (show (0 : Int) ≤ ((y9.2.1 1) : Int32).toInt ∧ ((y9.2.1 1) : Int32).toInt ≤ 1408 from (by have f0 := b14; have g0 := rg32 (y9.2.1 1); omega)), trivial⟩ _ _ _ hP hS (lv_sub hl [0, 1, 2, 3, 4, 5, 6, 7] rfl)
      intro y20 hI19 nl18 H locs ls hP hS hl
      obtain ⟨σ21, eσ21⟩ : ∃ z, z = y20.1 := ⟨_, rfl⟩
      rw [← eσ21] at hP hI19
      have hF22 : Fr (fO [13]) σ10 σ21 := hI19.1
      have hJ23 : J8 σ21 := hI19.2.1
      have b24 : (0 : Int) ≤ (y20.2.1 0).toInt ∧ (y20.2.1 0).toInt ≤ 8 := hI19.2.2.1
      have b25 : (0 : Int) ≤ (y20.2.1 1).toInt ∧ (y20.2.1 1).toInt ≤ 1408 := hI19.2.2.2.1
      have hl : lv_has ls 9 [(7, .int (y20.2.1 0)), (6, .int (y9.2.1 0)), (5, .int (y20.2.1 1)), (0, .ref (gO g 13)), (1, .int p1), (2, .int p2), (3, .int p3), (4, .int p4)] := hl
      refine lv_iload hx hb dX3_layPitch_31 (lv_at hl 0 rfl) ?_
      refine lv_aload_n hx hb dX3_layPitch_33 rfl (lv_at hl 3 rfl) ?_
      refine g8_3_6 hx hb hts hown hK hP (hts _ q291) dX3_layPitch_34 ?_
      refine g8_7_0 (x := ((σ 11).1 0)) hx hb hts hown hK hP (by decide : 9 ≤ 11 ∧ 11 < 12) (((hF22 11 0 (fO_n (nmc (by decide) nm0))).1).trans ((hF11 11 0 (fO_n (nmc (by decide) nm0))).1)) (hts _ q248) dX3_layPitch_37 ?_
      refine cut8 (D := D) (cy := cy) (g := g) (A := A8 cy g s.heap.size) (H0 := s.heap) 9 120 (fun x : LZ => [(7, .int (y20.2.1 0)), (6, .int (y9.2.1 0)), (5, .int (y20.2.1 1)), (0, .ref (gO g 13)), (1, .int p1), (2, .int p2), (3, .int p3), (4, .int p4)]) (fun x : LZ => []) (fun x : LZ => (x.1 = σ21) ∧ True) ?_ ?_
      ·
        intro y28 hI27 H locs ls hP hS hl
        rw [show y28.1 = σ21 from hI27.1] at hP
        have hl : lv_has ls 9 [(7, .int (y20.2.1 0)), (6, .int (y9.2.1 0)), (5, .int (y20.2.1 1)), (0, .ref (gO g 13)), (1, .int p1), (2, .int p2), (3, .int p3), (4, .int p4)] := hl
        obtain ⟨x29, ex29⟩ : ∃ y : Int32, y = (y9.2.1 0) + 1 := ⟨_, rfl⟩
        have t30 := addO ex29 (by have f0 := b13; have f1 := k17; have f2 := j8_7_1 hJ (by decide : 9 ≤ 11 ∧ 11 < 12) rfl; have g0 := rg32 (y9.2.1 0); have z1 : (1 : Int32).toInt = 1 := (by decide); omega)
        refine lv_iinc (v := x29) (lv' := [(6, .int x29), (7, .int (y20.2.1 0)), (5, .int (y20.2.1 1)), (0, .ref (gO g 13)), (1, .int p1), (2, .int p2), (3, .int p3), (4, .int p4)]) hx hb dX3_layPitch_120 hl (k := 1) rfl (by rw [ex29]; rfl) (by decide) rfl (fun ls hl => ?_)
        refine lv_goto (tgt := 16) hx hb dX3_layPitch_123 (by decide) ?_
        have t31 : ((10000001 : Int) - x29.toInt).toNat < ((10000001 : Int) - (y9.2.1 0).toInt).toNat := (by have f0 := b13; have f1 := k17; have f2 := t30; have f3 := j8_7_1 hJ (by decide : 9 ≤ 11 ∧ 11 < 12) rfl; have g0 := rg32 (y9.2.1 0); have g1 := rg32 x29; have z1 : (1 : Int32).toInt = 1 := (by decide); omega)
        exact nl7 (σ21, lf [x29, (y20.2.1 1)], lg []) ⟨Fr.tr (Fr.tr (Fr.rf) hF11 (fO_sub (fun _ q => q))) hF22 (fO_sub (fun _ q => q)), hJ23, (show (2 : Int) ≤ (x29 : Int32).toInt ∧ (x29 : Int32).toInt ≤ 10000000 from (by have f0 := t30; have f1 := b13; have f2 := k17; have f3 := j8_7_1 hJ (by decide : 9 ≤ 11 ∧ 11 < 12) rfl; have g0 := rg32 x29; have z1 : (1 : Int32).toInt = 1 := (by decide); omega)), (show (0 : Int) ≤ ((y20.2.1 1) : Int32).toInt ∧ ((y20.2.1 1) : Int32).toInt ≤ 1408 from (by have f0 := b25; have g0 := rg32 (y20.2.1 1); omega)), trivial⟩ (show ((10000001 : Int) - x29.toInt).toNat < _ from by first | exact t31 | (rw [← eσ10]; exact t31)) _ _ _ hP hS (lv_sub hl [0, 2, 3, 4, 5, 6, 7] rfl)
      ·
        intro nj26
        refine lv_icmp_ge (tgt := 120) hx hb dX3_layPitch_40 (by decide) (fun c32 => ?_) (fun c32 => ?_)
        ·
          have k33 := ple32 c32
          exact nj26 (σ21, lf [], lg []) ⟨rfl, trivial⟩ _ _ _ hP hS (lv_sub hl [0, 1, 2, 3, 4, 5, 6, 7] rfl)
        ·
          have k34 := nle32 c32
          refine lv_iload hx hb dX3_layPitch_43 (lv_at hl 2 rfl) ?_
          refine lv_sipush (v := 1408) hx hb dX3_layPitch_45 (by decide) ?_
          refine lv_icmp_ge (tgt := 120) hx hb dX3_layPitch_48 (by decide) (fun c35 => ?_) (fun c35 => ?_)
          ·
            have k36 := ple32 c35
            exact nj26 (σ21, lf [], lg []) ⟨rfl, trivial⟩ _ _ _ hP hS (lv_sub hl [0, 1, 2, 3, 4, 5, 6, 7] rfl)
          ·
            have k37 := nle32 c35
            refine lv_aload_n hx hb dX3_layPitch_51 rfl (lv_at hl 3 rfl) ?_
            refine g8_3_6 hx hb hts hown hK hP (hts _ q291) dX3_layPitch_52 ?_
            refine lv_iload_n hx hb dX3_layPitch_55 rfl (lv_at hl 5 rfl) ?_
            refine lv_iload hx hb dX3_layPitch_56 (lv_at hl 1 rfl) ?_
            refine lv_iload hx hb dX3_layPitch_58 (lv_at hl 0 rfl) ?_
            refine lv_iload_n hx hb dX3_layPitch_60 rfl (lv_at hl 6 rfl) ?_
            refine va_calli (va_runV (As := [.int p2, .int (y9.2.1 0), .int (y20.2.1 0), .int p3]) (rest := []) ⟨hx, hb, hml, hown, hts⟩ (m_X7_awayOf l D cy g σ21  11 p2 (y9.2.1 0) (y20.2.1 0) p3 _ hJ23 (show 9 ≤ 11 ∧ 11 < 12 from ⟨by decide, by decide⟩) (show (2 : Int) ≤ (y9.2.1 0).toInt ∧ (y9.2.1 0).toInt ≤ 1000000 from (by have f0 := b13; have f1 := k17; have f2 := j8_7_1 hJ (by decide : 9 ≤ 11 ∧ 11 < 12) rfl; have g0 := rg32 (y9.2.1 0); omega))) (cwV 4 hts (gd_V q945 q877 q878 q128 q879) rfl rfl rfl (by decide +kernel) ⟨(Nat.le_of_ble_eq_true rfl), (Nat.le_of_ble_eq_true rfl)⟩) (pv8 hP hK hD hC hS (rv8_7 hK hP (by decide : 9 ≤ 11 ∧ 11 < 12))) rfl rfl hl.1 rfl (lv_room (Nat.le_of_ble_eq_true rfl)) dX3_layPitch_61 ⟨Nat.le_of_ble_eq_true rfl, Nat.le_of_ble_eq_true rfl⟩) hS (fun q _ h => up8 hS q h) (up8 hS) (fun r38 σ39 tS H1 locs ht hvm hw40 hB hz1 hk1 hS => ?_)
            have hP : va_P D clz (WD8 cy g σ39) H1 := by rw [← ht]; exact hB
            clear hB hz1 hk1 hvm ht
            generalize H1 = H at hP hS ⊢
            have hw40E : σ21 = σ39 := (hw40.1).symm
            subst hw40E
            refine lv_istore (lv' := [(8, .int r38), (7, .int (y20.2.1 0)), (6, .int (y9.2.1 0)), (5, .int (y20.2.1 1)), (0, .ref (gO g 13)), (1, .int p1), (2, .int p2), (3, .int p3), (4, .int p4)]) hx hb dX3_layPitch_64 hl (by decide) rfl (fun ls hl => ?_)
            refine lv_iload hx hb dX3_layPitch_66 (lv_at hl 0 rfl) ?_
            refine lv_iconst (v := (-1)) hx hb dX3_layPitch_68 (by decide) ?_
            refine cut8 (D := D) (cy := cy) (g := g) (A := A8 cy g s.heap.size) (H0 := s.heap) 9 114 (fun x : LZ => [(8, .int r38), (7, .int (y20.2.1 0)), (6, .int (y9.2.1 0)), (5, .int (x.2.1 0)), (0, .ref (gO g 13)), (1, .int p1), (2, .int p2), (3, .int p3), (4, .int p4)]) (fun x : LZ => []) (fun x : LZ => (Fr (fO [13]) σ21 x.1) ∧ (J8 x.1) ∧ ((0 : Int) ≤ (x.2.1 0).toInt ∧ (x.2.1 0).toInt ≤ 1408) ∧ True) ?_ ?_
            ·
              intro y43 hI42 H locs ls hP hS hl
              obtain ⟨σ44, eσ44⟩ : ∃ z, z = y43.1 := ⟨_, rfl⟩
              rw [← eσ44] at hP hI42
              have hF45 : Fr (fO [13]) σ21 σ44 := hI42.1
              have hJ46 : J8 σ44 := hI42.2.1
              have b47 : (0 : Int) ≤ (y43.2.1 0).toInt ∧ (y43.2.1 0).toInt ≤ 1408 := hI42.2.2.1
              have hl : lv_has ls 9 [(8, .int r38), (7, .int (y20.2.1 0)), (6, .int (y9.2.1 0)), (5, .int (y43.2.1 0)), (0, .ref (gO g 13)), (1, .int p1), (2, .int p2), (3, .int p3), (4, .int p4)] := hl
              obtain ⟨x48, ex48⟩ : ∃ y : Int32, y = (y20.2.1 0) + 1 := ⟨_, rfl⟩
              have t49 := addO ex48 (by have f0 := b24; have f1 := k34; have f2 := j8_7_0 hJ (by decide : 9 ≤ 11 ∧ 11 < 12) rfl; have g0 := rg32 (y20.2.1 0); have z1 : (1 : Int32).toInt = 1 := (by decide); omega)
              refine lv_iinc (v := x48) (lv' := [(7, .int x48), (8, .int r38), (6, .int (y9.2.1 0)), (5, .int (y43.2.1 0)), (0, .ref (gO g 13)), (1, .int p1), (2, .int p2), (3, .int p3), (4, .int p4)]) hx hb dX3_layPitch_114 hl (k := 1) rfl (by rw [ex48]; rfl) (by decide) rfl (fun ls hl => ?_)
              refine lv_goto (tgt := 31) hx hb dX3_layPitch_117 (by decide) ?_
              have t50 : ((9 : Int) - x48.toInt).toNat < ((9 : Int) - (y20.2.1 0).toInt).toNat := (by have f0 := b24; have f1 := k34; have f2 := t49; have f3 := j8_7_0 hJ (by decide : 9 ≤ 11 ∧ 11 < 12) rfl; have g0 := rg32 (y20.2.1 0); have g1 := rg32 x48; have z1 : (1 : Int32).toInt = 1 := (by decide); omega)
              exact nl18 (σ44, lf [x48, (y43.2.1 0)], lg []) ⟨Fr.tr (Fr.tr (Fr.rf) hF22 (fO_sub (fun _ q => q))) hF45 (fO_sub (fun _ q => q)), hJ46, (show (0 : Int) ≤ (x48 : Int32).toInt ∧ (x48 : Int32).toInt ≤ 8 from (by have f0 := t49; have f1 := b24; have f2 := k34; have f3 := j8_7_0 hJ (by decide : 9 ≤ 11 ∧ 11 < 12) rfl; have g0 := rg32 x48; have z1 : (1 : Int32).toInt = 1 := (by decide); omega)), (show (0 : Int) ≤ ((y43.2.1 0) : Int32).toInt ∧ ((y43.2.1 0) : Int32).toInt ≤ 1408 from (by have f0 := b47; have g0 := rg32 (y43.2.1 0); omega)), trivial⟩ (show ((9 : Int) - x48.toInt).toNat < _ from by first | exact t50 | (rw [← eσ21]; exact t50)) _ _ _ hP hS (lv_sub hl [0, 2, 3, 4, 5, 6, 7, 8] rfl)
            ·
              intro nj41
              refine lv_icmp_ne (tgt := 75) hx hb dX3_layPitch_69 (by decide) (fun c51 => ?_) (fun c51 => ?_)
              ·
                have k52 := neq32 c51
                refine lv_aload_n hx hb dX3_layPitch_75 rfl (lv_at hl 4 rfl) ?_
                refine g8_3_14 hx hb hts hown hK hP (hts _ q299) dX3_layPitch_76 ?_
                refine lv_iload hx hb dX3_layPitch_79 (lv_at hl 3 rfl) ?_
                refine lv_iload hx hb dX3_layPitch_81 (lv_at hl 2 rfl) ?_
                refine t8_3_14 hx hb hK hP hD hS (vpo (by have f0 := b25; have f1 := k37; have g0 := rg32 (y20.2.1 1); have z1408 : (1408 : Int32).toInt = 1408 := (by decide); omega)) dX3_layPitch_83 (fun H locs σ53 eσ53 hP hS => ?_)
                have hJ54 : J8 σ53 := hJ23.A eσ53 rfl (show PA8 3 14 (y9.2.1 0) from trivial)
                refine lv_aload_n hx hb dX3_layPitch_84 rfl (lv_at hl 4 rfl) ?_
                refine g8_3_15 hx hb hts hown hK hP (hts _ q300) dX3_layPitch_85 ?_
                refine lv_iload hx hb dX3_layPitch_88 (lv_at hl 3 rfl) ?_
                refine lv_iload hx hb dX3_layPitch_90 (lv_at hl 1 rfl) ?_
                refine t8_3_15 hx hb hK hP hD hS (vpo (by have f0 := b25; have f1 := k37; have g0 := rg32 (y20.2.1 1); have z1408 : (1408 : Int32).toInt = 1408 := (by decide); omega)) dX3_layPitch_92 (fun H locs σ55 eσ55 hP hS => ?_)
                have hJ56 : J8 σ55 := hJ54.A eσ55 rfl (show PA8 3 15 (y20.2.1 0) from (by have f0 := b24; have f1 := k34; have f2 := j8_7_0 hJ (by decide : 9 ≤ 11 ∧ 11 < 12) rfl; have g0 := rg32 (y20.2.1 0); exact ⟨by omega, by omega⟩))
                refine lv_aload_n hx hb dX3_layPitch_93 rfl (lv_at hl 4 rfl) ?_
                refine g8_3_16 hx hb hts hown hK hP (hts _ q301) dX3_layPitch_94 ?_
                refine lv_iload hx hb dX3_layPitch_97 (lv_at hl 3 rfl) ?_
                refine lv_iload hx hb dX3_layPitch_99 (lv_at hl 0 rfl) ?_
                refine t8_3_16 hx hb hK hP hD hS (vpo (by have f0 := b25; have f1 := k37; have g0 := rg32 (y20.2.1 1); have z1408 : (1408 : Int32).toInt = 1408 := (by decide); omega)) dX3_layPitch_101 (fun H locs σ57 eσ57 hP hS => ?_)
                have hJ58 : J8 σ57 := hJ56.A eσ57 rfl (show PA8 3 16 r38 from trivial)
                refine lv_aload_n hx hb dX3_layPitch_102 rfl (lv_at hl 4 rfl) ?_
                refine g8_3_17 hx hb hts hown hK hP (hts _ q302) dX3_layPitch_103 ?_
                refine lv_iload hx hb dX3_layPitch_106 (lv_at hl 3 rfl) ?_
                refine lv_iload hx hb dX3_layPitch_108 (lv_at hl 8 rfl) ?_
                refine t8_3_17 hx hb hK hP hD hS (vpo (by have f0 := b25; have f1 := k37; have g0 := rg32 (y20.2.1 1); have z1408 : (1408 : Int32).toInt = 1408 := (by decide); omega)) dX3_layPitch_110 (fun H locs σ59 eσ59 hP hS => ?_)
                have hJ60 : J8 σ59 := hJ58.A eσ59 rfl (show PA8 3 17 p4 from trivial)
                obtain ⟨x61, ex61⟩ : ∃ y : Int32, y = (y20.2.1 1) + 1 := ⟨_, rfl⟩
                have t62 := addO ex61 (by have f0 := b25; have f1 := k37; have g0 := rg32 (y20.2.1 1); have z1 : (1 : Int32).toInt = 1 := (by decide); have z1408 : (1408 : Int32).toInt = 1408 := (by decide); omega)
                refine lv_iinc (v := x61) (lv' := [(5, .int x61), (8, .int r38), (7, .int (y20.2.1 0)), (6, .int (y9.2.1 0)), (0, .ref (gO g 13)), (1, .int p1), (2, .int p2), (3, .int p3), (4, .int p4)]) hx hb dX3_layPitch_111 hl (k := 3) rfl (by rw [ex61]; rfl) (by decide) rfl (fun ls hl => ?_)
                exact nj41 (σ59, lf [x61], lg []) ⟨Fr.tr (Fr.tr (Fr.tr (Fr.tr (Fr.rf) (sA_f eσ53) (fN_O mem0)) (sA_f eσ55) (fN_O mem0)) (sA_f eσ57) (fN_O mem0)) (sA_f eσ59) (fN_O mem0), hJ60, (show (0 : Int) ≤ (x61 : Int32).toInt ∧ (x61 : Int32).toInt ≤ 1408 from (by have f0 := t62; have f1 := b25; have f2 := k37; have g0 := rg32 x61; have z1 : (1 : Int32).toInt = 1 := (by decide); have z1408 : (1408 : Int32).toInt = 1408 := (by decide); omega)), trivial⟩ _ _ _ hP hS (lv_sub hl [1, 2, 3, 0, 4, 5, 6, 7, 8] rfl)
              ·
                have k63 := peq32 c51
                refine lv_goto (tgt := 114) hx hb dX3_layPitch_72 (by decide) ?_
                exact nj41 (σ21, lf [(y20.2.1 1)], lg []) ⟨Fr.rf, hJ23, (show (0 : Int) ≤ ((y20.2.1 1) : Int32).toInt ∧ ((y20.2.1 1) : Int32).toInt ≤ 1408 from (by have f0 := b25; have f1 := k37; have g0 := rg32 (y20.2.1 1); have z1408 : (1408 : Int32).toInt = 1408 := (by decide); omega)), trivial⟩ _ _ _ hP hS (lv_sub hl [0, 1, 2, 3, 4, 5, 6, 7, 8] rfl)
  ·
    have k64 := peq32 c5
    refine lv_iload_n hx hb dX3_layPitch_8 rfl (lv_at hl 1 rfl) ?_
    exact W.iret (v := p1) hx hb hr (fun tS ht hW => ⟨⟨p1, σ, rfl, ⟨Fr.rf, hJ, (show (0 : Int) ≤ p1.toInt ∧ p1.toInt ≤ 1408 from (by have f0 := h0; have g0 := rg32 p1; omega)), trivial⟩, (show va_P D clz (WD8 cy g σ) tS.heap by rw [ht]; exact hP)⟩, hS.F ht⟩) hS.2.2 dX3_layPitch_9

