theorem q1114 : Cond.code yX2_firstInRow cX2_firstInRow 5 (some .int) ∈ lw_g := lw_gm (List.mem_of_getElem? (i := 1114) (by decide +kernel)) rfl
theorem q1115 : Cond.methodLink RX2 44 yX0_isSounding ∈ lw_g := lw_gm (List.mem_of_getElem? (i := 1115) (by decide +kernel)) rfl
theorem dX2_firstInRow_0 : decode cX2_firstInRow 0 = .ok (.iload_n 2, 1) := by decide +kernel
theorem dX2_firstInRow_1 : decode cX2_firstInRow 1 = .ok (.istore_n 3, 1) := by decide +kernel
theorem dX2_firstInRow_2 : decode cX2_firstInRow 2 = .ok (.iconst 0, 1) := by decide +kernel
theorem dX2_firstInRow_3 : decode cX2_firstInRow 3 = .ok (.istore 4, 2) := by decide +kernel
theorem dX2_firstInRow_5 : decode cX2_firstInRow 5 = .ok (.iload 4, 2) := by decide +kernel
theorem dX2_firstInRow_7 : decode cX2_firstInRow 7 = .ok (.bipush 16, 2) := by decide +kernel
theorem dX2_firstInRow_9 : decode cX2_firstInRow 9 = .ok (.if_icmp .ge 23, 3) := by decide +kernel
theorem dX2_firstInRow_12 : decode cX2_firstInRow 12 = .ok (.aload_n 0, 1) := by decide +kernel
theorem dX2_firstInRow_13 : decode cX2_firstInRow 13 = .ok (.iload_n 1, 1) := by decide +kernel
theorem dX2_firstInRow_14 : decode cX2_firstInRow 14 = .ok (.iload_n 3, 1) := by decide +kernel
theorem dX2_firstInRow_15 : decode cX2_firstInRow 15 = .ok (.iconst 1, 1) := by decide +kernel
theorem dX2_firstInRow_16 : decode cX2_firstInRow 16 = .ok (.isub, 1) := by decide +kernel
theorem dX2_firstInRow_17 : decode cX2_firstInRow 17 = .ok (.invokevirtual 44, 3) := by decide +kernel
theorem dX2_firstInRow_20 : decode cX2_firstInRow 20 = .ok (.ifCond .eq 12, 3) := by decide +kernel
theorem dX2_firstInRow_23 : decode cX2_firstInRow 23 = .ok (.iinc 3 (-1), 3) := by decide +kernel
theorem dX2_firstInRow_26 : decode cX2_firstInRow 26 = .ok (.iinc 4 1, 3) := by decide +kernel
theorem dX2_firstInRow_29 : decode cX2_firstInRow 29 = .ok (.goto (-24), 3) := by decide +kernel
theorem dX2_firstInRow_32 : decode cX2_firstInRow 32 = .ok (.iload_n 3, 1) := by decide +kernel
theorem dX2_firstInRow_33 : decode cX2_firstInRow 33 = .ok (.ireturn, 1) := by decide +kernel
set_option maxHeartbeats 4000000 in
set_option maxRecDepth 100000 in
theorem m_X2_firstInRow (l : Launch) (D : va_G) (cy : Nat → ClassId) (g : Nat → Nat) (σ : ST) (d0 : Nat) (p1 : Int32) (p2 : Int32) (sz : Nat) (hJ : J8 σ) (hd0 : 0 ≤ d0 ∧ d0 < 5) (h0 : (0 : Int) ≤ p2.toInt ∧ p2.toInt ≤ 15) : Met l yX2_firstInRow (ww yX2_firstInRow cX2_firstInRow 5 (some .int)) ({ frames := 5, cells := 0, slots := 0, locals := 320 }) (va_Pc [.ref (gO g d0), .int p1, .int p2] (pr8 D cy g σ sz)) (qi8 D cy g sz (fun r τ => τ = σ ∧ ((0 : Int) ≤ r.toInt ∧ r.toInt ≤ 15) ∧ True)) 0 0 (A8 cy g sz) := by
  refine Met.ofW (cc := cX2_firstInRow) (maxL := 5) (ret := (some .int)) (by decide) rfl ?_
  intro p e s m args below meth c s₁ B hml hv
  obtain ⟨rfl, hsz, hP, hK, hD0, hC⟩ := hv
  have hx := B.exec
  have hb := B.bytes
  have hr := B.returns
  have hts := hts_g (atoms_spec (ws := ww yX2_firstInRow cX2_firstInRow 5 (some .int)) B.pre)
  have hown : s.vm.findClass RX2 = some m.cls := findClass_of_methodNamed B.named
  have hlocks := B.notSynchronized
  clear B
  subst hsz
  have hD := fun τ => A8_D (sz := s.heap.size) hD0 τ
  clear hD0
  have hS : va_S (A8 cy g s.heap.size) s.heap s.heap [] := va_S.rf
  have hl := lv_entry ([.ref (gO g d0), .int p1, .int p2]) (n := 5) (Nat.le_of_ble_eq_true rfl)
  rw [lg_entry_eq]
  generalize (lg_sl ([.ref (gO g d0), .int p1, .int p2]) ++ List.replicate (5 - (lg_sl ([.ref (gO g d0), .int p1, .int p2])).length) Slot.unset).toArray = ls at hl ⊢
  have hl : lv_has ls 5 [(0, .ref (gO g d0)), (1, .int p1), (2, .int p2)] := hl
  refine lv_iload_n hx hb dX2_firstInRow_0 rfl (lv_at hl 2 rfl) ?_
  refine lv_istore_n (lv' := [(3, .int p2), (0, .ref (gO g d0)), (1, .int p1), (2, .int p2)]) hx hb dX2_firstInRow_1 rfl hl (by decide) rfl (fun ls hl => ?_)
  refine lv_iconst (v := 0) hx hb dX2_firstInRow_2 (by decide) ?_
  refine lv_istore (lv' := [(4, .int 0), (3, .int p2), (0, .ref (gO g d0)), (1, .int p1), (2, .int p2)]) hx hb dX2_firstInRow_3 hl (by decide) rfl (fun ls hl => ?_)
  refine loop8 5 5 (fun x : LZ => [(4, .int (x.2.1 0)), (3, .int (x.2.1 1)), (0, .ref (gO g d0)), (1, .int p1), (2, .int p2)]) (fun x : LZ => (x.1 = σ) ∧ ((0 : Int) ≤ (x.2.1 0).toInt ∧ (x.2.1 0).toInt ≤ 16) ∧ ((0 : Int) ≤ (x.2.1 1).toInt ∧ (x.2.1 1).toInt ≤ 15) ∧ True) (fun x : LZ => ((17 : Int) - (x.2.1 0).toInt).toNat) ?_ (σ, lf [0, p2], lg []) ⟨rfl, (show (0 : Int) ≤ (0 : Int32).toInt ∧ (0 : Int32).toInt ≤ 16 from (by have z0 : (0 : Int32).toInt = 0 := (by decide); omega)), (show (0 : Int) ≤ (p2 : Int32).toInt ∧ (p2 : Int32).toInt ≤ 15 from (by have f0 := h0; have g0 := rg32 p2; omega)), trivial⟩ _ _ _ hP hS (lv_sub hl [0, 1, 2, 3, 4] rfl)
  intro y3 hI2 nl1 H locs ls hP hS hl
  rw [show y3.1 = σ from hI2.1] at hP
  have b4 : (0 : Int) ≤ (y3.2.1 0).toInt ∧ (y3.2.1 0).toInt ≤ 16 := hI2.2.1
  have b5 : (0 : Int) ≤ (y3.2.1 1).toInt ∧ (y3.2.1 1).toInt ≤ 15 := hI2.2.2.1
  have hl : lv_has ls 5 [(4, .int (y3.2.1 0)), (3, .int (y3.2.1 1)), (0, .ref (gO g d0)), (1, .int p1), (2, .int p2)] := hl
  refine lv_iload hx hb dX2_firstInRow_5 (lv_at hl 0 rfl) ?_
  refine lv_bipush (v := 16) hx hb dX2_firstInRow_7 (by decide) ?_
  refine lv_icmp_ge (tgt := 32) hx hb dX2_firstInRow_9 (by decide) (fun c6 => ?_) (fun c6 => ?_)
  ·
    have k7 := ple32 c6
    refine lv_iload_n hx hb dX2_firstInRow_32 rfl (lv_at hl 1 rfl) ?_
    exact W.iret (v := (y3.2.1 1)) hx hb hr (fun tS ht hW => ⟨⟨(y3.2.1 1), σ, rfl, ⟨rfl, (show (0 : Int) ≤ (y3.2.1 1).toInt ∧ (y3.2.1 1).toInt ≤ 15 from (by have f0 := b5; have g0 := rg32 (y3.2.1 1); omega)), trivial⟩, (show va_P D clz (WD8 cy g σ) tS.heap by rw [ht]; exact hP)⟩, hS.F ht⟩) hS.2.2 dX2_firstInRow_33
  ·
    have k8 := nle32 c6
    refine lv_aload_n hx hb dX2_firstInRow_12 rfl (lv_at hl 2 rfl) ?_
    refine lv_iload_n hx hb dX2_firstInRow_13 rfl (lv_at hl 3 rfl) ?_
    refine lv_iload_n hx hb dX2_firstInRow_14 rfl (lv_at hl 1 rfl) ?_
    refine lv_iconst (v := 1) hx hb dX2_firstInRow_15 (by decide) ?_
    refine lv_isub hx hb dX2_firstInRow_16 ?_
    refine lv_topi (fun x9 ex9 => ?_)
    have t10 := subO ex9 (by have f0 := b5; have g0 := rg32 (y3.2.1 1); have z1 : (1 : Int32).toInt = 1 := (by decide); omega)
    refine va_calli (va_runV (As := [.int p1, .int x9]) (rest := []) ⟨hx, hb, hml, hown, hts⟩ (m_X0_isSounding l D cy g σ  d0 p1 x9 _ hJ (show 0 ≤ d0 ∧ d0 < 5 from hd0)) (cwV 2 hts (gd_V q1115 q783 q784 q127 q785) rfl rfl rfl (by decide +kernel) ⟨(Nat.le_of_ble_eq_true rfl), (Nat.le_of_ble_eq_true rfl)⟩) (pv8 hP hK hD hC hS (rv8_0 hK hP hd0)) rfl rfl hl.1 rfl (lv_room (Nat.le_of_ble_eq_true rfl)) dX2_firstInRow_17 ⟨Nat.le_of_ble_eq_true rfl, Nat.le_of_ble_eq_true rfl⟩) hS (fun q _ h => up8 hS q h) (up8 hS) (fun r11 σ12 tS H1 locs ht hvm hw13 hB hz1 hk1 hS => ?_)
    have hP : va_P D clz (WD8 cy g σ12) H1 := by rw [← ht]; exact hB
    clear hB hz1 hk1 hvm ht
    generalize H1 = H at hP hS ⊢
    have hw13E : σ = σ12 := (hw13.1).symm
    subst hw13E
    have b14 : (0 : Int) ≤ r11.toInt ∧ r11.toInt ≤ 1 := hw13.2.1
    have b15 : (r11.toInt = 0) ∨ ((0 : Int) ≤ p1.toInt ∧ p1.toInt ≤ 2 ∧ (0 : Int) ≤ x9.toInt ∧ x9.toInt ≤ 15) := hw13.2.2.1
    refine lv_if_eq (tgt := 32) hx hb dX2_firstInRow_20 (by decide) (fun c16 => ?_) (fun c16 => ?_)
    ·
      have k17 := peq32 c16
      refine lv_iload_n hx hb dX2_firstInRow_32 rfl (lv_at hl 1 rfl) ?_
      exact W.iret (v := (y3.2.1 1)) hx hb hr (fun tS ht hW => ⟨⟨(y3.2.1 1), σ, rfl, ⟨rfl, (show (0 : Int) ≤ (y3.2.1 1).toInt ∧ (y3.2.1 1).toInt ≤ 15 from (by have f0 := b5; have f1 := t10; have f2 := b15; have f3 := b14; have f4 := k17; have g0 := rg32 (y3.2.1 1); have g1 := rg32 p1; have z0 : (0 : Int32).toInt = 0 := (by decide); have z1 : (1 : Int32).toInt = 1 := (by decide); omega)), trivial⟩, (show va_P D clz (WD8 cy g σ) tS.heap by rw [ht]; exact hP)⟩, hS.F ht⟩) hS.2.2 dX2_firstInRow_33
    ·
      have k18 := neq32 c16
      obtain ⟨x19, ex19⟩ : ∃ y : Int32, y = (y3.2.1 1) + (-1) := ⟨_, rfl⟩
      have t20 := addO ex19 (by have f0 := b5; have f1 := t10; have f2 := b15; have f3 := b14; have f4 := k18; have g0 := rg32 (y3.2.1 1); have zm1 : ((-1) : Int32).toInt = (-1) := (by decide); have z0 : (0 : Int32).toInt = 0 := (by decide); have z1 : (1 : Int32).toInt = 1 := (by decide); omega)
      refine lv_iinc (v := x19) (lv' := [(3, .int x19), (4, .int (y3.2.1 0)), (0, .ref (gO g d0)), (1, .int p1), (2, .int p2)]) hx hb dX2_firstInRow_23 hl (k := 1) rfl (by rw [ex19]; rfl) (by decide) rfl (fun ls hl => ?_)
      obtain ⟨x21, ex21⟩ : ∃ y : Int32, y = (y3.2.1 0) + 1 := ⟨_, rfl⟩
      have t22 := addO ex21 (by have f0 := b4; have f1 := k8; have g0 := rg32 (y3.2.1 0); have z1 : (1 : Int32).toInt = 1 := (by decide); have z16 : (16 : Int32).toInt = 16 := (by decide); omega)
      refine lv_iinc (v := x21) (lv' := [(4, .int x21), (3, .int x19), (0, .ref (gO g d0)), (1, .int p1), (2, .int p2)]) hx hb dX2_firstInRow_26 hl (k := 1) rfl (by rw [ex21]; rfl) (by decide) rfl (fun ls hl => ?_)
      refine lv_goto (tgt := 5) hx hb dX2_firstInRow_29 (by decide) ?_
      have t23 : ((17 : Int) - x21.toInt).toNat < ((17 : Int) - (y3.2.1 0).toInt).toNat := (by have f0 := b4; have f1 := k8; have f2 := t22; have g0 := rg32 (y3.2.1 0); have g1 := rg32 x21; have z1 : (1 : Int32).toInt = 1 := (by decide); have z16 : (16 : Int32).toInt = 16 := (by decide); omega)
      exact nl1 (σ, lf [x21, x19], lg []) ⟨rfl, (show (0 : Int) ≤ (x21 : Int32).toInt ∧ (x21 : Int32).toInt ≤ 16 from (by have f0 := t22; have f1 := b4; have f2 := k8; have g0 := rg32 x21; have z1 : (1 : Int32).toInt = 1 := (by decide); have z16 : (16 : Int32).toInt = 16 := (by decide); omega)), (show (0 : Int) ≤ (x19 : Int32).toInt ∧ (x19 : Int32).toInt ≤ 15 from (by have f0 := t20; have f1 := b5; have f2 := t10; have f3 := b15; have f4 := b14; have f5 := k18; have g0 := rg32 x19; have zm1 : ((-1) : Int32).toInt = (-1) := (by decide); have z0 : (0 : Int32).toInt = 0 := (by decide); have z1 : (1 : Int32).toInt = 1 := (by decide); omega)), trivial⟩ (show ((17 : Int) - x21.toInt).toNat < _ from t23) _ _ _ hP hS (lv_sub hl [0, 1, 2, 3, 4] rfl)

theorem q1111 : Cond.code yX2_lowestMark cX2_lowestMark 8 (some .int) ∈ lw_g := lw_gm (List.mem_of_getElem? (i := 1111) (by decide +kernel)) rfl
theorem q1112 : Cond.methodLink RX2 36 yX2_firstInRow ∈ lw_g := lw_gm (List.mem_of_getElem? (i := 1112) (by decide +kernel)) rfl
theorem q1113 : Cond.static yX2_firstInRow ∈ lw_g := lw_gm (List.mem_of_getElem? (i := 1113) (by decide +kernel)) rfl
theorem q130 : Cond.initialized RX2 ∈ lw_g := lw_gm (List.mem_of_getElem? (i := 130) (by decide +kernel)) rfl
theorem q1116 : Cond.methodLink RX2 40 yX0_toneField ∈ lw_g := lw_gm (List.mem_of_getElem? (i := 1116) (by decide +kernel)) rfl
theorem dX2_lowestMark_0 : decode cX2_lowestMark 0 = .ok (.aload_n 0, 1) := by decide +kernel
theorem dX2_lowestMark_1 : decode cX2_lowestMark 1 = .ok (.iload_n 1, 1) := by decide +kernel
theorem dX2_lowestMark_2 : decode cX2_lowestMark 2 = .ok (.iload_n 2, 1) := by decide +kernel
theorem dX2_lowestMark_3 : decode cX2_lowestMark 3 = .ok (.invokestatic 36, 3) := by decide +kernel
theorem dX2_lowestMark_6 : decode cX2_lowestMark 6 = .ok (.istore 4, 2) := by decide +kernel
theorem dX2_lowestMark_8 : decode cX2_lowestMark 8 = .ok (.iconst 0, 1) := by decide +kernel
theorem dX2_lowestMark_9 : decode cX2_lowestMark 9 = .ok (.istore 5, 2) := by decide +kernel
theorem dX2_lowestMark_11 : decode cX2_lowestMark 11 = .ok (.bipush (-2), 2) := by decide +kernel
theorem dX2_lowestMark_13 : decode cX2_lowestMark 13 = .ok (.istore 6, 2) := by decide +kernel
theorem dX2_lowestMark_15 : decode cX2_lowestMark 15 = .ok (.iload_n 2, 1) := by decide +kernel
theorem dX2_lowestMark_16 : decode cX2_lowestMark 16 = .ok (.istore 7, 2) := by decide +kernel
theorem dX2_lowestMark_18 : decode cX2_lowestMark 18 = .ok (.iload 7, 2) := by decide +kernel
theorem dX2_lowestMark_20 : decode cX2_lowestMark 20 = .ok (.iload 4, 2) := by decide +kernel
theorem dX2_lowestMark_22 : decode cX2_lowestMark 22 = .ok (.if_icmp .lt 58, 3) := by decide +kernel
theorem dX2_lowestMark_25 : decode cX2_lowestMark 25 = .ok (.iload 5, 2) := by decide +kernel
theorem dX2_lowestMark_27 : decode cX2_lowestMark 27 = .ok (.aload_n 0, 1) := by decide +kernel
theorem dX2_lowestMark_28 : decode cX2_lowestMark 28 = .ok (.iload_n 1, 1) := by decide +kernel
theorem dX2_lowestMark_29 : decode cX2_lowestMark 29 = .ok (.iload 7, 2) := by decide +kernel
theorem dX2_lowestMark_31 : decode cX2_lowestMark 31 = .ok (.iconst 1, 1) := by decide +kernel
theorem dX2_lowestMark_32 : decode cX2_lowestMark 32 = .ok (.invokevirtual 40, 3) := by decide +kernel
theorem dX2_lowestMark_35 : decode cX2_lowestMark 35 = .ok (.iadd, 1) := by decide +kernel
theorem dX2_lowestMark_36 : decode cX2_lowestMark 36 = .ok (.istore 5, 2) := by decide +kernel
theorem dX2_lowestMark_38 : decode cX2_lowestMark 38 = .ok (.iload 5, 2) := by decide +kernel
theorem dX2_lowestMark_40 : decode cX2_lowestMark 40 = .ok (.iload_n 3, 1) := by decide +kernel
theorem dX2_lowestMark_41 : decode cX2_lowestMark 41 = .ok (.if_icmp .le 6, 3) := by decide +kernel
theorem dX2_lowestMark_44 : decode cX2_lowestMark 44 = .ok (.iload 6, 2) := by decide +kernel
theorem dX2_lowestMark_46 : decode cX2_lowestMark 46 = .ok (.ireturn, 1) := by decide +kernel
theorem dX2_lowestMark_47 : decode cX2_lowestMark 47 = .ok (.iload 7, 2) := by decide +kernel
theorem dX2_lowestMark_49 : decode cX2_lowestMark 49 = .ok (.iload 4, 2) := by decide +kernel
theorem dX2_lowestMark_51 : decode cX2_lowestMark 51 = .ok (.if_icmp .le 23, 3) := by decide +kernel
theorem dX2_lowestMark_54 : decode cX2_lowestMark 54 = .ok (.aload_n 0, 1) := by decide +kernel
theorem dX2_lowestMark_55 : decode cX2_lowestMark 55 = .ok (.iload_n 1, 1) := by decide +kernel
theorem dX2_lowestMark_56 : decode cX2_lowestMark 56 = .ok (.iload 7, 2) := by decide +kernel
theorem dX2_lowestMark_58 : decode cX2_lowestMark 58 = .ok (.iconst 1, 1) := by decide +kernel
theorem dX2_lowestMark_59 : decode cX2_lowestMark 59 = .ok (.isub, 1) := by decide +kernel
theorem dX2_lowestMark_60 : decode cX2_lowestMark 60 = .ok (.iconst 3, 1) := by decide +kernel
theorem dX2_lowestMark_61 : decode cX2_lowestMark 61 = .ok (.invokevirtual 40, 3) := by decide +kernel
theorem dX2_lowestMark_64 : decode cX2_lowestMark 64 = .ok (.iconst 1, 1) := by decide +kernel
theorem dX2_lowestMark_65 : decode cX2_lowestMark 65 = .ok (.if_icmp .ne 9, 3) := by decide +kernel
theorem dX2_lowestMark_68 : decode cX2_lowestMark 68 = .ok (.iload 7, 2) := by decide +kernel
theorem dX2_lowestMark_70 : decode cX2_lowestMark 70 = .ok (.iconst 1, 1) := by decide +kernel
theorem dX2_lowestMark_71 : decode cX2_lowestMark 71 = .ok (.isub, 1) := by decide +kernel
theorem dX2_lowestMark_72 : decode cX2_lowestMark 72 = .ok (.istore 6, 2) := by decide +kernel
theorem dX2_lowestMark_74 : decode cX2_lowestMark 74 = .ok (.iinc 7 (-1), 3) := by decide +kernel
theorem dX2_lowestMark_77 : decode cX2_lowestMark 77 = .ok (.goto (-59), 3) := by decide +kernel
theorem dX2_lowestMark_80 : decode cX2_lowestMark 80 = .ok (.iconst (-1), 1) := by decide +kernel
theorem dX2_lowestMark_81 : decode cX2_lowestMark 81 = .ok (.ireturn, 1) := by decide +kernel
set_option maxHeartbeats 4000000 in
set_option maxRecDepth 100000 in
theorem m_X2_lowestMark (l : Launch) (D : va_G) (cy : Nat → ClassId) (g : Nat → Nat) (σ : ST) (d0 : Nat) (p1 : Int32) (p2 : Int32) (p3 : Int32) (sz : Nat) (hJ : J8 σ) (hd0 : 0 ≤ d0 ∧ d0 < 5) (h0 : (0 : Int) ≤ p2.toInt ∧ p2.toInt ≤ 15) : Met l yX2_lowestMark (ww yX2_lowestMark cX2_lowestMark 8 (some .int)) ({ frames := 6, cells := 0, slots := 0, locals := 384 }) (va_Pc [.ref (gO g d0), .int p1, .int p2, .int p3] (pr8 D cy g σ sz)) (qi8 D cy g sz (fun r τ => τ = σ ∧ ((-2 : Int) ≤ r.toInt ∧ r.toInt ≤ 14) ∧ True)) 0 0 (A8 cy g sz) := by
  refine Met.ofW (cc := cX2_lowestMark) (maxL := 8) (ret := (some .int)) (by decide) rfl ?_
  intro p e s m args below meth c s₁ B hml hv
  obtain ⟨rfl, hsz, hP, hK, hD0, hC⟩ := hv
  have hx := B.exec
  have hb := B.bytes
  have hr := B.returns
  have hts := hts_g (atoms_spec (ws := ww yX2_lowestMark cX2_lowestMark 8 (some .int)) B.pre)
  have hown : s.vm.findClass RX2 = some m.cls := findClass_of_methodNamed B.named
  have hlocks := B.notSynchronized
  clear B
  subst hsz
  have hD := fun τ => A8_D (sz := s.heap.size) hD0 τ
  clear hD0
  have hS : va_S (A8 cy g s.heap.size) s.heap s.heap [] := va_S.rf
  have hl := lv_entry ([.ref (gO g d0), .int p1, .int p2, .int p3]) (n := 8) (Nat.le_of_ble_eq_true rfl)
  rw [lg_entry_eq]
  generalize (lg_sl ([.ref (gO g d0), .int p1, .int p2, .int p3]) ++ List.replicate (8 - (lg_sl ([.ref (gO g d0), .int p1, .int p2, .int p3])).length) Slot.unset).toArray = ls at hl ⊢
  have hl : lv_has ls 8 [(0, .ref (gO g d0)), (1, .int p1), (2, .int p2), (3, .int p3)] := hl
  refine lv_aload_n hx hb dX2_lowestMark_0 rfl (lv_at hl 0 rfl) ?_
  refine lv_iload_n hx hb dX2_lowestMark_1 rfl (lv_at hl 1 rfl) ?_
  refine lv_iload_n hx hb dX2_lowestMark_2 rfl (lv_at hl 2 rfl) ?_
  refine va_calli (va_runS (As := [.ref (gO g d0), .int p1, .int p2]) (rest := []) ⟨hx, hb, hml, hown, hts⟩ (m_X2_firstInRow l D cy g σ  d0 p1 p2 _ hJ (show 0 ≤ d0 ∧ d0 < 5 from hd0) (show (0 : Int) ≤ p2.toInt ∧ p2.toInt ≤ 15 from (by have f0 := h0; have g0 := rg32 p2; omega))) (va_cwS 3 hts (gd_S q1112 q1113 q130 q1114) rfl rfl rfl (by decide +kernel) ⟨(Nat.le_of_ble_eq_true rfl), (Nat.le_of_ble_eq_true rfl)⟩) (ps8 hP hK hD hC hS) rfl rfl hl.1 rfl (lv_room (Nat.le_of_ble_eq_true rfl)) dX2_lowestMark_3 ⟨Nat.le_of_ble_eq_true rfl, Nat.le_of_ble_eq_true rfl⟩) hS (fun q _ h => up8 hS q h) (up8 hS) (fun r1 σ2 tS H1 locs ht hvm hw3 hB hz1 hk1 hS => ?_)
  have hP : va_P D clz (WD8 cy g σ2) H1 := by rw [← ht]; exact hB
  clear hB hz1 hk1 hvm ht
  generalize H1 = H at hP hS ⊢
  have hw3E : σ = σ2 := (hw3.1).symm
  subst hw3E
  have b4 : (0 : Int) ≤ r1.toInt ∧ r1.toInt ≤ 15 := hw3.2.1
  refine lv_istore (lv' := [(4, .int r1), (0, .ref (gO g d0)), (1, .int p1), (2, .int p2), (3, .int p3)]) hx hb dX2_lowestMark_6 hl (by decide) rfl (fun ls hl => ?_)
  refine lv_iconst (v := 0) hx hb dX2_lowestMark_8 (by decide) ?_
  refine lv_istore (lv' := [(5, .int 0), (4, .int r1), (0, .ref (gO g d0)), (1, .int p1), (2, .int p2), (3, .int p3)]) hx hb dX2_lowestMark_9 hl (by decide) rfl (fun ls hl => ?_)
  refine lv_bipush (v := (-2)) hx hb dX2_lowestMark_11 (by decide) ?_
  refine lv_istore (lv' := [(6, .int (-2)), (5, .int 0), (4, .int r1), (0, .ref (gO g d0)), (1, .int p1), (2, .int p2), (3, .int p3)]) hx hb dX2_lowestMark_13 hl (by decide) rfl (fun ls hl => ?_)
  refine lv_iload_n hx hb dX2_lowestMark_15 rfl (lv_at hl 5 rfl) ?_
  refine lv_istore (lv' := [(7, .int p2), (6, .int (-2)), (5, .int 0), (4, .int r1), (0, .ref (gO g d0)), (1, .int p1), (2, .int p2), (3, .int p3)]) hx hb dX2_lowestMark_16 hl (by decide) rfl (fun ls hl => ?_)
  refine loop8 8 18 (fun x : LZ => [(7, .int (x.2.1 0)), (6, .int (x.2.1 1)), (5, .int (x.2.1 2)), (4, .int r1), (0, .ref (gO g d0)), (1, .int p1), (2, .int p2), (3, .int p3)]) (fun x : LZ => (x.1 = σ) ∧ ((-1 : Int) ≤ (x.2.1 0).toInt ∧ (x.2.1 0).toInt ≤ 15) ∧ ((-2 : Int) ≤ (x.2.1 1).toInt ∧ (x.2.1 1).toInt ≤ 14) ∧ True) (fun x : LZ => ((x.2.1 0).toInt - (-2 : Int)).toNat) ?_ (σ, lf [p2, (-2), 0], lg []) ⟨rfl, (show (-1 : Int) ≤ (p2 : Int32).toInt ∧ (p2 : Int32).toInt ≤ 15 from (by have f0 := h0; have g0 := rg32 p2; omega)), (show (-2 : Int) ≤ ((-2) : Int32).toInt ∧ ((-2) : Int32).toInt ≤ 14 from (by have zm2 : ((-2) : Int32).toInt = (-2) := (by decide); omega)), trivial⟩ _ _ _ hP hS (lv_sub hl [0, 1, 2, 3, 4, 5, 6, 7] rfl)
  intro y7 hI6 nl5 H locs ls hP hS hl
  rw [show y7.1 = σ from hI6.1] at hP
  have b8 : (-1 : Int) ≤ (y7.2.1 0).toInt ∧ (y7.2.1 0).toInt ≤ 15 := hI6.2.1
  have b9 : (-2 : Int) ≤ (y7.2.1 1).toInt ∧ (y7.2.1 1).toInt ≤ 14 := hI6.2.2.1
  have hl : lv_has ls 8 [(7, .int (y7.2.1 0)), (6, .int (y7.2.1 1)), (5, .int (y7.2.1 2)), (4, .int r1), (0, .ref (gO g d0)), (1, .int p1), (2, .int p2), (3, .int p3)] := hl
  refine lv_iload hx hb dX2_lowestMark_18 (lv_at hl 0 rfl) ?_
  refine lv_iload hx hb dX2_lowestMark_20 (lv_at hl 3 rfl) ?_
  refine lv_icmp_lt (tgt := 80) hx hb dX2_lowestMark_22 (by decide) (fun c10 => ?_) (fun c10 => ?_)
  ·
    have k11 := plt32 c10
    refine lv_iconst (v := (-1)) hx hb dX2_lowestMark_80 (by decide) ?_
    exact W.iret (v := (-1)) hx hb hr (fun tS ht hW => ⟨⟨(-1), σ, rfl, ⟨rfl, (show (-2 : Int) ≤ ((-1) : Int32).toInt ∧ ((-1) : Int32).toInt ≤ 14 from (by have zm1 : ((-1) : Int32).toInt = (-1) := (by decide); omega)), trivial⟩, (show va_P D clz (WD8 cy g σ) tS.heap by rw [ht]; exact hP)⟩, hS.F ht⟩) hS.2.2 dX2_lowestMark_81
  ·
    have k12 := nlt32 c10
    refine lv_iload hx hb dX2_lowestMark_25 (lv_at hl 2 rfl) ?_
    refine lv_aload_n hx hb dX2_lowestMark_27 rfl (lv_at hl 4 rfl) ?_
    refine lv_iload_n hx hb dX2_lowestMark_28 rfl (lv_at hl 5 rfl) ?_
    refine lv_iload hx hb dX2_lowestMark_29 (lv_at hl 0 rfl) ?_
    refine lv_iconst (v := 1) hx hb dX2_lowestMark_31 (by decide) ?_
    refine va_calli (va_runV (As := [.int p1, .int (y7.2.1 0), .int 1]) (rest := [.int (y7.2.1 2)]) ⟨hx, hb, hml, hown, hts⟩ (m_X0_toneField l D cy g σ  d0 p1 (y7.2.1 0) (1) _ hJ (show 0 ≤ d0 ∧ d0 < 5 from hd0)) (cwV 3 hts (gd_V q1116 q661 q662 q127 q663) rfl rfl rfl (by decide +kernel) ⟨(Nat.le_of_ble_eq_true rfl), (Nat.le_of_ble_eq_true rfl)⟩) (pv8 hP hK hD hC hS (rv8_0 hK hP hd0)) rfl rfl hl.1 rfl (lv_room (Nat.le_of_ble_eq_true rfl)) dX2_lowestMark_32 ⟨Nat.le_of_ble_eq_true rfl, Nat.le_of_ble_eq_true rfl⟩) hS (fun q _ h => up8 hS q h) (up8 hS) (fun r13 σ14 tS H1 locs ht hvm hw15 hB hz1 hk1 hS => ?_)
    have hP : va_P D clz (WD8 cy g σ14) H1 := by rw [← ht]; exact hB
    clear hB hz1 hk1 hvm ht
    generalize H1 = H at hP hS ⊢
    have hw15E : σ = σ14 := (hw15.1).symm
    subst hw15E
    refine lv_iadd hx hb dX2_lowestMark_35 ?_
    refine lv_topi (fun x16 ex16 => ?_)
    refine lv_istore (lv' := [(5, .int x16), (7, .int (y7.2.1 0)), (6, .int (y7.2.1 1)), (4, .int r1), (0, .ref (gO g d0)), (1, .int p1), (2, .int p2), (3, .int p3)]) hx hb dX2_lowestMark_36 hl (by decide) rfl (fun ls hl => ?_)
    refine lv_iload hx hb dX2_lowestMark_38 (lv_at hl 0 rfl) ?_
    refine lv_iload_n hx hb dX2_lowestMark_40 rfl (lv_at hl 7 rfl) ?_
    refine lv_icmp_le (tgt := 47) hx hb dX2_lowestMark_41 (by decide) (fun c17 => ?_) (fun c17 => ?_)
    ·
      have k18 := ple32 c17
      refine lv_iload hx hb dX2_lowestMark_47 (lv_at hl 1 rfl) ?_
      refine lv_iload hx hb dX2_lowestMark_49 (lv_at hl 3 rfl) ?_
      refine cut8 (D := D) (cy := cy) (g := g) (A := A8 cy g s.heap.size) (H0 := s.heap) 8 74 (fun x : LZ => [(5, .int x16), (7, .int (y7.2.1 0)), (6, .int (x.2.1 0)), (4, .int r1), (0, .ref (gO g d0)), (1, .int p1), (2, .int p2), (3, .int p3)]) (fun x : LZ => []) (fun x : LZ => (x.1 = σ) ∧ ((-2 : Int) ≤ (x.2.1 0).toInt ∧ (x.2.1 0).toInt ≤ 14) ∧ True) ?_ ?_
      ·
        intro y21 hI20 H locs ls hP hS hl
        rw [show y21.1 = σ from hI20.1] at hP
        have b22 : (-2 : Int) ≤ (y21.2.1 0).toInt ∧ (y21.2.1 0).toInt ≤ 14 := hI20.2.1
        have hl : lv_has ls 8 [(5, .int x16), (7, .int (y7.2.1 0)), (6, .int (y21.2.1 0)), (4, .int r1), (0, .ref (gO g d0)), (1, .int p1), (2, .int p2), (3, .int p3)] := hl
        obtain ⟨x23, ex23⟩ : ∃ y : Int32, y = (y7.2.1 0) + (-1) := ⟨_, rfl⟩
        have t24 := addO ex23 (by have f0 := b8; have f1 := k12; have f2 := b4; have g0 := rg32 (y7.2.1 0); have zm1 : ((-1) : Int32).toInt = (-1) := (by decide); omega)
        refine lv_iinc (v := x23) (lv' := [(7, .int x23), (5, .int x16), (6, .int (y21.2.1 0)), (4, .int r1), (0, .ref (gO g d0)), (1, .int p1), (2, .int p2), (3, .int p3)]) hx hb dX2_lowestMark_74 hl (k := 1) rfl (by rw [ex23]; rfl) (by decide) rfl (fun ls hl => ?_)
        refine lv_goto (tgt := 18) hx hb dX2_lowestMark_77 (by decide) ?_
        have t25 : (x23.toInt - (-2 : Int)).toNat < ((y7.2.1 0).toInt - (-2 : Int)).toNat := (by have f0 := b8; have f1 := k12; have f2 := t24; have f3 := b4; have g0 := rg32 (y7.2.1 0); have g1 := rg32 x23; have zm1 : ((-1) : Int32).toInt = (-1) := (by decide); omega)
        exact nl5 (σ, lf [x23, (y21.2.1 0), x16], lg []) ⟨rfl, (show (-1 : Int) ≤ (x23 : Int32).toInt ∧ (x23 : Int32).toInt ≤ 15 from (by have f0 := t24; have f1 := b8; have f2 := k12; have f3 := b4; have g0 := rg32 x23; have zm1 : ((-1) : Int32).toInt = (-1) := (by decide); omega)), (show (-2 : Int) ≤ ((y21.2.1 0) : Int32).toInt ∧ ((y21.2.1 0) : Int32).toInt ≤ 14 from (by have f0 := b22; have g0 := rg32 (y21.2.1 0); omega)), trivial⟩ (show (x23.toInt - (-2 : Int)).toNat < _ from t25) _ _ _ hP hS (lv_sub hl [0, 2, 1, 3, 4, 5, 6, 7] rfl)
      ·
        intro nj19
        refine lv_icmp_le (tgt := 74) hx hb dX2_lowestMark_51 (by decide) (fun c26 => ?_) (fun c26 => ?_)
        ·
          have k27 := ple32 c26
          exact nj19 (σ, lf [(y7.2.1 1)], lg []) ⟨rfl, (show (-2 : Int) ≤ ((y7.2.1 1) : Int32).toInt ∧ ((y7.2.1 1) : Int32).toInt ≤ 14 from (by have f0 := b9; have g0 := rg32 (y7.2.1 1); omega)), trivial⟩ _ _ _ hP hS (lv_sub hl [0, 1, 2, 3, 4, 5, 6, 7] rfl)
        ·
          have k28 := nle32 c26
          refine lv_aload_n hx hb dX2_lowestMark_54 rfl (lv_at hl 4 rfl) ?_
          refine lv_iload_n hx hb dX2_lowestMark_55 rfl (lv_at hl 5 rfl) ?_
          refine lv_iload hx hb dX2_lowestMark_56 (lv_at hl 1 rfl) ?_
          refine lv_iconst (v := 1) hx hb dX2_lowestMark_58 (by decide) ?_
          refine lv_isub hx hb dX2_lowestMark_59 ?_
          refine lv_topi (fun x29 ex29 => ?_)
          have t30 := subO ex29 (by have f0 := b8; have f1 := k12; have f2 := k28; have f3 := b4; have g0 := rg32 (y7.2.1 0); have z1 : (1 : Int32).toInt = 1 := (by decide); omega)
          refine lv_iconst (v := 3) hx hb dX2_lowestMark_60 (by decide) ?_
          refine va_calli (va_runV (As := [.int p1, .int x29, .int 3]) (rest := []) ⟨hx, hb, hml, hown, hts⟩ (m_X0_toneField l D cy g σ  d0 p1 x29 (3) _ hJ (show 0 ≤ d0 ∧ d0 < 5 from hd0)) (cwV 3 hts (gd_V q1116 q661 q662 q127 q663) rfl rfl rfl (by decide +kernel) ⟨(Nat.le_of_ble_eq_true rfl), (Nat.le_of_ble_eq_true rfl)⟩) (pv8 hP hK hD hC hS (rv8_0 hK hP hd0)) rfl rfl hl.1 rfl (lv_room (Nat.le_of_ble_eq_true rfl)) dX2_lowestMark_61 ⟨Nat.le_of_ble_eq_true rfl, Nat.le_of_ble_eq_true rfl⟩) hS (fun q _ h => up8 hS q h) (up8 hS) (fun r31 σ32 tS H1 locs ht hvm hw33 hB hz1 hk1 hS => ?_)
          have hP : va_P D clz (WD8 cy g σ32) H1 := by rw [← ht]; exact hB
          clear hB hz1 hk1 hvm ht
          generalize H1 = H at hP hS ⊢
          have hw33E : σ = σ32 := (hw33.1).symm
          subst hw33E
          refine lv_iconst (v := 1) hx hb dX2_lowestMark_64 (by decide) ?_
          refine lv_icmp_ne (tgt := 74) hx hb dX2_lowestMark_65 (by decide) (fun c34 => ?_) (fun c34 => ?_)
          ·
            have k35 := neq32 c34
            exact nj19 (σ, lf [(y7.2.1 1)], lg []) ⟨rfl, (show (-2 : Int) ≤ ((y7.2.1 1) : Int32).toInt ∧ ((y7.2.1 1) : Int32).toInt ≤ 14 from (by have f0 := b9; have g0 := rg32 (y7.2.1 1); omega)), trivial⟩ _ _ _ hP hS (lv_sub hl [0, 1, 2, 3, 4, 5, 6, 7] rfl)
          ·
            have k36 := peq32 c34
            refine lv_iload hx hb dX2_lowestMark_68 (lv_at hl 1 rfl) ?_
            refine lv_iconst (v := 1) hx hb dX2_lowestMark_70 (by decide) ?_
            refine lv_isub hx hb dX2_lowestMark_71 ?_
            refine lv_topi (fun x37 ex37 => ?_)
            have t38 := subO ex37 (by have f0 := b8; have f1 := k12; have f2 := k28; have f3 := t30; have f4 := b4; have g0 := rg32 (y7.2.1 0); have z1 : (1 : Int32).toInt = 1 := (by decide); omega)
            refine lv_istore (lv' := [(6, .int x37), (5, .int x16), (7, .int (y7.2.1 0)), (4, .int r1), (0, .ref (gO g d0)), (1, .int p1), (2, .int p2), (3, .int p3)]) hx hb dX2_lowestMark_72 hl (by decide) rfl (fun ls hl => ?_)
            exact nj19 (σ, lf [x37], lg []) ⟨rfl, (show (-2 : Int) ≤ (x37 : Int32).toInt ∧ (x37 : Int32).toInt ≤ 14 from (by have f0 := t38; have f1 := b8; have f2 := k12; have f3 := k28; have f4 := t30; have f5 := b4; have g0 := rg32 x37; have z1 : (1 : Int32).toInt = 1 := (by decide); omega)), trivial⟩ _ _ _ hP hS (lv_sub hl [1, 2, 0, 3, 4, 5, 6, 7] rfl)
    ·
      have k39 := nle32 c17
      refine lv_iload hx hb dX2_lowestMark_44 (lv_at hl 2 rfl) ?_
      exact W.iret (v := (y7.2.1 1)) hx hb hr (fun tS ht hW => ⟨⟨(y7.2.1 1), σ, rfl, ⟨rfl, (show (-2 : Int) ≤ (y7.2.1 1).toInt ∧ (y7.2.1 1).toInt ≤ 14 from (by have f0 := b9; have g0 := rg32 (y7.2.1 1); omega)), trivial⟩, (show va_P D clz (WD8 cy g σ) tS.heap by rw [ht]; exact hP)⟩, hS.F ht⟩) hS.2.2 dX2_lowestMark_46

theorem q1105 : Cond.code yX2_findMarks cX2_findMarks 8 (some .boolean) ∈ lw_g := lw_gm (List.mem_of_getElem? (i := 1105) (by decide +kernel)) rfl
theorem q1106 : Cond.methodLink RX2 9 yX0_playerField ∈ lw_g := lw_gm (List.mem_of_getElem? (i := 1106) (by decide +kernel)) rfl
theorem q352 : Cond.fieldLink RX2 15 "LipsAndSlides$Lungs" "taken" "I" ∈ lw_g := lw_gm (List.mem_of_getElem? (i := 352) (by decide +kernel)) rfl
theorem q354 : Cond.fieldLink RX2 21 "LipsAndSlides$Lungs" "bits" "I" ∈ lw_g := lw_gm (List.mem_of_getElem? (i := 354) (by decide +kernel)) rfl
theorem q1107 : Cond.methodLink RX2 24 yX0_tonesOf ∈ lw_g := lw_gm (List.mem_of_getElem? (i := 1107) (by decide +kernel)) rfl
theorem q1108 : Cond.methodLink RX2 28 yX0_isRest ∈ lw_g := lw_gm (List.mem_of_getElem? (i := 1108) (by decide +kernel)) rfl
theorem q1109 : Cond.methodLink RX2 32 yX2_lowestMark ∈ lw_g := lw_gm (List.mem_of_getElem? (i := 1109) (by decide +kernel)) rfl
theorem q1110 : Cond.static yX2_lowestMark ∈ lw_g := lw_gm (List.mem_of_getElem? (i := 1110) (by decide +kernel)) rfl
theorem dX2_findMarks_0 : decode cX2_findMarks 0 = .ok (.aload_n 1, 1) := by decide +kernel
theorem dX2_findMarks_1 : decode cX2_findMarks 1 = .ok (.iload_n 2, 1) := by decide +kernel
theorem dX2_findMarks_2 : decode cX2_findMarks 2 = .ok (.iconst 2, 1) := by decide +kernel
theorem dX2_findMarks_3 : decode cX2_findMarks 3 = .ok (.invokevirtual 9, 3) := by decide +kernel
theorem dX2_findMarks_6 : decode cX2_findMarks 6 = .ok (.istore 4, 2) := by decide +kernel
theorem dX2_findMarks_8 : decode cX2_findMarks 8 = .ok (.aload_n 0, 1) := by decide +kernel
theorem dX2_findMarks_9 : decode cX2_findMarks 9 = .ok (.iconst 0, 1) := by decide +kernel
theorem dX2_findMarks_10 : decode cX2_findMarks 10 = .ok (.putfield 15, 3) := by decide +kernel
theorem dX2_findMarks_13 : decode cX2_findMarks 13 = .ok (.aload_n 0, 1) := by decide +kernel
theorem dX2_findMarks_14 : decode cX2_findMarks 14 = .ok (.iconst 0, 1) := by decide +kernel
theorem dX2_findMarks_15 : decode cX2_findMarks 15 = .ok (.putfield 21, 3) := by decide +kernel
theorem dX2_findMarks_18 : decode cX2_findMarks 18 = .ok (.aload_n 1, 1) := by decide +kernel
theorem dX2_findMarks_19 : decode cX2_findMarks 19 = .ok (.iload_n 3, 1) := by decide +kernel
theorem dX2_findMarks_20 : decode cX2_findMarks 20 = .ok (.invokevirtual 24, 3) := by decide +kernel
theorem dX2_findMarks_23 : decode cX2_findMarks 23 = .ok (.iconst 1, 1) := by decide +kernel
theorem dX2_findMarks_24 : decode cX2_findMarks 24 = .ok (.isub, 1) := by decide +kernel
theorem dX2_findMarks_25 : decode cX2_findMarks 25 = .ok (.istore 5, 2) := by decide +kernel
theorem dX2_findMarks_27 : decode cX2_findMarks 27 = .ok (.iconst 0, 1) := by decide +kernel
theorem dX2_findMarks_28 : decode cX2_findMarks 28 = .ok (.istore 6, 2) := by decide +kernel
theorem dX2_findMarks_30 : decode cX2_findMarks 30 = .ok (.iload 6, 2) := by decide +kernel
theorem dX2_findMarks_32 : decode cX2_findMarks 32 = .ok (.bipush 16, 2) := by decide +kernel
theorem dX2_findMarks_34 : decode cX2_findMarks 34 = .ok (.if_icmp .gt 97, 3) := by decide +kernel
theorem dX2_findMarks_37 : decode cX2_findMarks 37 = .ok (.iload 5, 2) := by decide +kernel
theorem dX2_findMarks_39 : decode cX2_findMarks 39 = .ok (.ifCond .lt 92, 3) := by decide +kernel
theorem dX2_findMarks_42 : decode cX2_findMarks 42 = .ok (.aload_n 1, 1) := by decide +kernel
theorem dX2_findMarks_43 : decode cX2_findMarks 43 = .ok (.iload_n 3, 1) := by decide +kernel
theorem dX2_findMarks_44 : decode cX2_findMarks 44 = .ok (.iload 5, 2) := by decide +kernel
theorem dX2_findMarks_46 : decode cX2_findMarks 46 = .ok (.invokevirtual 28, 3) := by decide +kernel
theorem dX2_findMarks_49 : decode cX2_findMarks 49 = .ok (.ifCond .eq 9, 3) := by decide +kernel
theorem dX2_findMarks_52 : decode cX2_findMarks 52 = .ok (.iinc 5 (-1), 3) := by decide +kernel
theorem dX2_findMarks_55 : decode cX2_findMarks 55 = .ok (.goto 70, 3) := by decide +kernel
theorem dX2_findMarks_58 : decode cX2_findMarks 58 = .ok (.aload_n 1, 1) := by decide +kernel
theorem dX2_findMarks_59 : decode cX2_findMarks 59 = .ok (.iload_n 3, 1) := by decide +kernel
theorem dX2_findMarks_60 : decode cX2_findMarks 60 = .ok (.iload 5, 2) := by decide +kernel
theorem dX2_findMarks_62 : decode cX2_findMarks 62 = .ok (.iload 4, 2) := by decide +kernel
theorem dX2_findMarks_64 : decode cX2_findMarks 64 = .ok (.invokestatic 32, 3) := by decide +kernel
theorem dX2_findMarks_67 : decode cX2_findMarks 67 = .ok (.istore 7, 2) := by decide +kernel
theorem dX2_findMarks_69 : decode cX2_findMarks 69 = .ok (.iload 7, 2) := by decide +kernel
theorem dX2_findMarks_71 : decode cX2_findMarks 71 = .ok (.bipush (-2), 2) := by decide +kernel
theorem dX2_findMarks_73 : decode cX2_findMarks 73 = .ok (.if_icmp .ne 5, 3) := by decide +kernel
theorem dX2_findMarks_76 : decode cX2_findMarks 76 = .ok (.iconst 0, 1) := by decide +kernel
theorem dX2_findMarks_77 : decode cX2_findMarks 77 = .ok (.ireturn, 1) := by decide +kernel
theorem dX2_findMarks_78 : decode cX2_findMarks 78 = .ok (.iload 7, 2) := by decide +kernel
theorem dX2_findMarks_80 : decode cX2_findMarks 80 = .ok (.iconst (-1), 1) := by decide +kernel
theorem dX2_findMarks_81 : decode cX2_findMarks 81 = .ok (.if_icmp .ne 17, 3) := by decide +kernel
theorem dX2_findMarks_84 : decode cX2_findMarks 84 = .ok (.aload_n 1, 1) := by decide +kernel
theorem dX2_findMarks_85 : decode cX2_findMarks 85 = .ok (.iload_n 3, 1) := by decide +kernel
theorem dX2_findMarks_86 : decode cX2_findMarks 86 = .ok (.iload 5, 2) := by decide +kernel
theorem dX2_findMarks_88 : decode cX2_findMarks 88 = .ok (.invokestatic 36, 3) := by decide +kernel
theorem dX2_findMarks_91 : decode cX2_findMarks 91 = .ok (.iconst 1, 1) := by decide +kernel
theorem dX2_findMarks_92 : decode cX2_findMarks 92 = .ok (.isub, 1) := by decide +kernel
theorem dX2_findMarks_93 : decode cX2_findMarks 93 = .ok (.istore 5, 2) := by decide +kernel
theorem dX2_findMarks_95 : decode cX2_findMarks 95 = .ok (.goto 30, 3) := by decide +kernel
theorem dX2_findMarks_98 : decode cX2_findMarks 98 = .ok (.aload_n 0, 1) := by decide +kernel
theorem dX2_findMarks_99 : decode cX2_findMarks 99 = .ok (.dup, 1) := by decide +kernel
theorem dX2_findMarks_100 : decode cX2_findMarks 100 = .ok (.getfield 15, 3) := by decide +kernel
theorem dX2_findMarks_103 : decode cX2_findMarks 103 = .ok (.iconst 1, 1) := by decide +kernel
theorem dX2_findMarks_104 : decode cX2_findMarks 104 = .ok (.iadd, 1) := by decide +kernel
theorem dX2_findMarks_105 : decode cX2_findMarks 105 = .ok (.putfield 15, 3) := by decide +kernel
theorem dX2_findMarks_108 : decode cX2_findMarks 108 = .ok (.aload_n 0, 1) := by decide +kernel
theorem dX2_findMarks_109 : decode cX2_findMarks 109 = .ok (.dup, 1) := by decide +kernel
theorem dX2_findMarks_110 : decode cX2_findMarks 110 = .ok (.getfield 21, 3) := by decide +kernel
theorem dX2_findMarks_113 : decode cX2_findMarks 113 = .ok (.iconst 1, 1) := by decide +kernel
theorem dX2_findMarks_114 : decode cX2_findMarks 114 = .ok (.iload 7, 2) := by decide +kernel
theorem dX2_findMarks_116 : decode cX2_findMarks 116 = .ok (.ishl, 1) := by decide +kernel
theorem dX2_findMarks_117 : decode cX2_findMarks 117 = .ok (.ior, 1) := by decide +kernel
theorem dX2_findMarks_118 : decode cX2_findMarks 118 = .ok (.putfield 21, 3) := by decide +kernel
theorem dX2_findMarks_121 : decode cX2_findMarks 121 = .ok (.iload 7, 2) := by decide +kernel
theorem dX2_findMarks_123 : decode cX2_findMarks 123 = .ok (.istore 5, 2) := by decide +kernel
theorem dX2_findMarks_125 : decode cX2_findMarks 125 = .ok (.iinc 6 1, 3) := by decide +kernel
theorem dX2_findMarks_128 : decode cX2_findMarks 128 = .ok (.goto (-98), 3) := by decide +kernel
theorem dX2_findMarks_131 : decode cX2_findMarks 131 = .ok (.iconst 1, 1) := by decide +kernel
theorem dX2_findMarks_132 : decode cX2_findMarks 132 = .ok (.ireturn, 1) := by decide +kernel
set_option maxHeartbeats 4000000 in
set_option maxRecDepth 100000 in
theorem m_X2_findMarks (l : Launch) (D : va_G) (cy : Nat → ClassId) (g : Nat → Nat) (σ : ST) (d1 : Nat) (p2 : Int32) (p3 : Int32) (sz : Nat) (hJ : J8 σ) (hd1 : 0 ≤ d1 ∧ d1 < 5) : Met l yX2_findMarks (ww yX2_findMarks cX2_findMarks 8 (some .boolean)) ({ frames := 7, cells := 0, slots := 0, locals := 448 }) (va_Pc [.ref (gO g 14), .ref (gO g d1), .int p2, .int p3] (pr8 D cy g σ sz)) (qi8 D cy g sz (fun r τ => Fr (fO [14]) σ τ ∧ J8 τ ∧ ((0 : Int) ≤ r.toInt ∧ r.toInt ≤ 1) ∧ True)) 0 0 (A8 cy g sz) := by
  refine Met.ofW (cc := cX2_findMarks) (maxL := 8) (ret := (some .boolean)) (by decide) rfl ?_
  intro p e s m args below meth c s₁ B hml hv
  obtain ⟨rfl, hsz, hP, hK, hD0, hC⟩ := hv
  have hx := B.exec
  have hb := B.bytes
  have hr := B.returns
  have hts := hts_g (atoms_spec (ws := ww yX2_findMarks cX2_findMarks 8 (some .boolean)) B.pre)
  have hown : s.vm.findClass RX2 = some m.cls := findClass_of_methodNamed B.named
  have hlocks := B.notSynchronized
  clear B
  subst hsz
  have hD := fun τ => A8_D (sz := s.heap.size) hD0 τ
  clear hD0
  have hS : va_S (A8 cy g s.heap.size) s.heap s.heap [] := va_S.rf
  have hl := lv_entry ([.ref (gO g 14), .ref (gO g d1), .int p2, .int p3]) (n := 8) (Nat.le_of_ble_eq_true rfl)
  rw [lg_entry_eq]
  generalize (lg_sl ([.ref (gO g 14), .ref (gO g d1), .int p2, .int p3]) ++ List.replicate (8 - (lg_sl ([.ref (gO g 14), .ref (gO g d1), .int p2, .int p3])).length) Slot.unset).toArray = ls at hl ⊢
  have hl : lv_has ls 8 [(0, .ref (gO g 14)), (1, .ref (gO g d1)), (2, .int p2), (3, .int p3)] := hl
  refine lv_aload_n hx hb dX2_findMarks_0 rfl (lv_at hl 1 rfl) ?_
  refine lv_iload_n hx hb dX2_findMarks_1 rfl (lv_at hl 2 rfl) ?_
  refine lv_iconst (v := 2) hx hb dX2_findMarks_2 (by decide) ?_
  refine va_calli (va_runV (As := [.int p2, .int 2]) (rest := []) ⟨hx, hb, hml, hown, hts⟩ (m_X0_playerField l D cy g σ  d1 p2 (2) _ hJ (show 0 ≤ d1 ∧ d1 < 5 from hd1)) (cwV 2 hts (gd_V q1106 q726 q727 q127 q728) rfl rfl rfl (by decide +kernel) ⟨(Nat.le_of_ble_eq_true rfl), (Nat.le_of_ble_eq_true rfl)⟩) (pv8 hP hK hD hC hS (rv8_0 hK hP hd1)) rfl rfl hl.1 rfl (lv_room (Nat.le_of_ble_eq_true rfl)) dX2_findMarks_3 ⟨Nat.le_of_ble_eq_true rfl, Nat.le_of_ble_eq_true rfl⟩) hS (fun q _ h => up8 hS q h) (up8 hS) (fun r1 σ2 tS H1 locs ht hvm hw3 hB hz1 hk1 hS => ?_)
  have hP : va_P D clz (WD8 cy g σ2) H1 := by rw [← ht]; exact hB
  clear hB hz1 hk1 hvm ht
  generalize H1 = H at hP hS ⊢
  have hw3E : σ = σ2 := (hw3.1).symm
  subst hw3E
  refine lv_istore (lv' := [(4, .int r1), (0, .ref (gO g 14)), (1, .ref (gO g d1)), (2, .int p2), (3, .int p3)]) hx hb dX2_findMarks_6 hl (by decide) rfl (fun ls hl => ?_)
  refine lv_aload_n hx hb dX2_findMarks_8 rfl (lv_at hl 1 rfl) ?_
  refine lv_iconst (v := 0) hx hb dX2_findMarks_9 (by decide) ?_
  refine p8_2_0 hx hb hts hown hK hP hD hS (hts _ q352) dX2_findMarks_10 (fun H locs σ4 eσ4 hP hS => ?_)
  have hJ5 : J8 σ4 := hJ.I eσ4 rfl (show JI8 2 0 (0 : Int32) from trivial)
  refine lv_aload_n hx hb dX2_findMarks_13 rfl (lv_at hl 1 rfl) ?_
  refine lv_iconst (v := 0) hx hb dX2_findMarks_14 (by decide) ?_
  refine p8_2_1 hx hb hts hown hK hP hD hS (hts _ q354) dX2_findMarks_15 (fun H locs σ6 eσ6 hP hS => ?_)
  have hJ7 : J8 σ6 := hJ5.I eσ6 rfl (show JI8 2 1 (0 : Int32) from trivial)
  refine lv_aload_n hx hb dX2_findMarks_18 rfl (lv_at hl 2 rfl) ?_
  refine lv_iload_n hx hb dX2_findMarks_19 rfl (lv_at hl 4 rfl) ?_
  refine va_calli (va_runV (As := [.int p3]) (rest := []) ⟨hx, hb, hml, hown, hts⟩ (m_X0_tonesOf l D cy g σ6  d1 p3 _ hJ7 (show 0 ≤ d1 ∧ d1 < 5 from hd1)) (cwV 1 hts (gd_V q1107 q657 q658 q127 q659) rfl rfl rfl (by decide +kernel) ⟨(Nat.le_of_ble_eq_true rfl), (Nat.le_of_ble_eq_true rfl)⟩) (pv8 hP hK hD hC hS (rv8_0 hK hP hd1)) rfl rfl hl.1 rfl (lv_room (Nat.le_of_ble_eq_true rfl)) dX2_findMarks_20 ⟨Nat.le_of_ble_eq_true rfl, Nat.le_of_ble_eq_true rfl⟩) hS (fun q _ h => up8 hS q h) (up8 hS) (fun r8 σ9 tS H1 locs ht hvm hw10 hB hz1 hk1 hS => ?_)
  have hP : va_P D clz (WD8 cy g σ9) H1 := by rw [← ht]; exact hB
  clear hB hz1 hk1 hvm ht
  generalize H1 = H at hP hS ⊢
  have hw10E : σ6 = σ9 := (hw10.1).symm
  subst hw10E
  have b11 : (0 : Int) ≤ r8.toInt ∧ r8.toInt ≤ 16 := hw10.2.1
  refine lv_iconst (v := 1) hx hb dX2_findMarks_23 (by decide) ?_
  refine lv_isub hx hb dX2_findMarks_24 ?_
  refine lv_topi (fun x12 ex12 => ?_)
  have t13 := subO ex12 (by have f0 := b11; have g0 := rg32 r8; have z1 : (1 : Int32).toInt = 1 := (by decide); omega)
  refine lv_istore (lv' := [(5, .int x12), (4, .int r1), (0, .ref (gO g 14)), (1, .ref (gO g d1)), (2, .int p2), (3, .int p3)]) hx hb dX2_findMarks_25 hl (by decide) rfl (fun ls hl => ?_)
  refine lv_iconst (v := 0) hx hb dX2_findMarks_27 (by decide) ?_
  refine lv_istore (lv' := [(6, .int 0), (5, .int x12), (4, .int r1), (0, .ref (gO g 14)), (1, .ref (gO g d1)), (2, .int p2), (3, .int p3)]) hx hb dX2_findMarks_28 hl (by decide) rfl (fun ls hl => ?_)
  refine loop8 8 30 (fun x : LZ => [(6, .int (x.2.1 0)), (5, .int (x.2.1 1)), (4, .int r1), (0, .ref (gO g 14)), (1, .ref (gO g d1)), (2, .int p2), (3, .int p3)]) (fun x : LZ => (Fr (fO [14]) σ6 x.1) ∧ (J8 x.1) ∧ ((0 : Int) ≤ (x.2.1 0).toInt ∧ (x.2.1 0).toInt ≤ 17) ∧ ((-1 : Int) ≤ (x.2.1 1).toInt ∧ (x.2.1 1).toInt ≤ 15) ∧ True) (fun x : LZ => ((18 : Int) - (x.2.1 0).toInt).toNat) ?_ (σ6, lf [0, x12], lg []) ⟨Fr.rf, hJ7, (show (0 : Int) ≤ (0 : Int32).toInt ∧ (0 : Int32).toInt ≤ 17 from (by have z0 : (0 : Int32).toInt = 0 := (by decide); omega)), (show (-1 : Int) ≤ (x12 : Int32).toInt ∧ (x12 : Int32).toInt ≤ 15 from (by have f0 := t13; have f1 := b11; have g0 := rg32 x12; have z1 : (1 : Int32).toInt = 1 := (by decide); omega)), trivial⟩ _ _ _ hP hS (lv_sub hl [0, 1, 2, 3, 4, 5, 6] rfl)
  intro y16 hI15 nl14 H locs ls hP hS hl
  obtain ⟨σ17, eσ17⟩ : ∃ z, z = y16.1 := ⟨_, rfl⟩
  rw [← eσ17] at hP hI15
  have hF18 : Fr (fO [14]) σ6 σ17 := hI15.1
  have hJ19 : J8 σ17 := hI15.2.1
  have b20 : (0 : Int) ≤ (y16.2.1 0).toInt ∧ (y16.2.1 0).toInt ≤ 17 := hI15.2.2.1
  have b21 : (-1 : Int) ≤ (y16.2.1 1).toInt ∧ (y16.2.1 1).toInt ≤ 15 := hI15.2.2.2.1
  have hl : lv_has ls 8 [(6, .int (y16.2.1 0)), (5, .int (y16.2.1 1)), (4, .int r1), (0, .ref (gO g 14)), (1, .ref (gO g d1)), (2, .int p2), (3, .int p3)] := hl
  refine lv_iload hx hb dX2_findMarks_30 (lv_at hl 0 rfl) ?_
  refine lv_bipush (v := 16) hx hb dX2_findMarks_32 (by decide) ?_
  refine lv_icmp_gt (tgt := 131) hx hb dX2_findMarks_34 (by decide) (fun c22 => ?_) (fun c22 => ?_)
  ·
    have k23 := plt32 c22
    refine lv_iconst (v := 1) hx hb dX2_findMarks_131 (by decide) ?_
    exact W.zret (v := 1) hx hb hr rfl (fun tS ht hW => ⟨⟨1, σ17, rfl, ⟨Fr.tr (Fr.tr (Fr.tr (Fr.rf) (sI_f eσ4) (fN_O mem0)) (sI_f eσ6) (fN_O mem0)) hF18 (fO_sub (fun _ q => q)), hJ19, (show (0 : Int) ≤ (1 : Int32).toInt ∧ (1 : Int32).toInt ≤ 1 from (by have z1 : (1 : Int32).toInt = 1 := (by decide); omega)), trivial⟩, (show va_P D clz (WD8 cy g σ17) tS.heap by rw [ht]; exact hP)⟩, hS.F ht⟩) hS.2.2 dX2_findMarks_132
  ·
    have k24 := nlt32 c22
    refine lv_iload hx hb dX2_findMarks_37 (lv_at hl 1 rfl) ?_
    refine lv_if_lt (tgt := 131) hx hb dX2_findMarks_39 (by decide) (fun c25 => ?_) (fun c25 => ?_)
    ·
      have k26 := plt32 c25
      refine lv_iconst (v := 1) hx hb dX2_findMarks_131 (by decide) ?_
      exact W.zret (v := 1) hx hb hr rfl (fun tS ht hW => ⟨⟨1, σ17, rfl, ⟨Fr.tr (Fr.tr (Fr.tr (Fr.rf) (sI_f eσ4) (fN_O mem0)) (sI_f eσ6) (fN_O mem0)) hF18 (fO_sub (fun _ q => q)), hJ19, (show (0 : Int) ≤ (1 : Int32).toInt ∧ (1 : Int32).toInt ≤ 1 from (by have z1 : (1 : Int32).toInt = 1 := (by decide); omega)), trivial⟩, (show va_P D clz (WD8 cy g σ17) tS.heap by rw [ht]; exact hP)⟩, hS.F ht⟩) hS.2.2 dX2_findMarks_132
    ·
      have k27 := nlt32 c25
      refine lv_aload_n hx hb dX2_findMarks_42 rfl (lv_at hl 4 rfl) ?_
      refine lv_iload_n hx hb dX2_findMarks_43 rfl (lv_at hl 6 rfl) ?_
      refine lv_iload hx hb dX2_findMarks_44 (lv_at hl 1 rfl) ?_
      refine va_calli (va_runV (As := [.int p3, .int (y16.2.1 1)]) (rest := []) ⟨hx, hb, hml, hown, hts⟩ (m_X0_isRest l D cy g σ17  d1 p3 (y16.2.1 1) _ hJ19 (show 0 ≤ d1 ∧ d1 < 5 from hd1) (show (0 : Int) ≤ (y16.2.1 1).toInt ∧ (y16.2.1 1).toInt ≤ 15 from (by have f0 := b21; have f1 := k27; have g0 := rg32 (y16.2.1 1); have z0 : (0 : Int32).toInt = 0 := (by decide); omega))) (cwV 2 hts (gd_V q1108 q750 q751 q127 q752) rfl rfl rfl (by decide +kernel) ⟨(Nat.le_of_ble_eq_true rfl), (Nat.le_of_ble_eq_true rfl)⟩) (pv8 hP hK hD hC hS (rv8_0 hK hP hd1)) rfl rfl hl.1 rfl (lv_room (Nat.le_of_ble_eq_true rfl)) dX2_findMarks_46 ⟨Nat.le_of_ble_eq_true rfl, Nat.le_of_ble_eq_true rfl⟩) hS (fun q _ h => up8 hS q h) (up8 hS) (fun r28 σ29 tS H1 locs ht hvm hw30 hB hz1 hk1 hS => ?_)
      have hP : va_P D clz (WD8 cy g σ29) H1 := by rw [← ht]; exact hB
      clear hB hz1 hk1 hvm ht
      generalize H1 = H at hP hS ⊢
      have hw30E : σ17 = σ29 := (hw30.1).symm
      subst hw30E
      have b31 : (0 : Int) ≤ r28.toInt ∧ r28.toInt ≤ 1 := hw30.2.1
      refine cut8 (D := D) (cy := cy) (g := g) (A := A8 cy g s.heap.size) (H0 := s.heap) 8 125 (fun x : LZ => [(6, .int (y16.2.1 0)), (5, .int (x.2.1 0)), (4, .int r1), (0, .ref (gO g 14)), (1, .ref (gO g d1)), (2, .int p2), (3, .int p3)]) (fun x : LZ => []) (fun x : LZ => (Fr (fO [14]) σ17 x.1) ∧ (J8 x.1) ∧ ((-1 : Int) ≤ (x.2.1 0).toInt ∧ (x.2.1 0).toInt ≤ 14) ∧ True) ?_ ?_
      ·
        intro y34 hI33 H locs ls hP hS hl
        obtain ⟨σ35, eσ35⟩ : ∃ z, z = y34.1 := ⟨_, rfl⟩
        rw [← eσ35] at hP hI33
        have hF36 : Fr (fO [14]) σ17 σ35 := hI33.1
        have hJ37 : J8 σ35 := hI33.2.1
        have b38 : (-1 : Int) ≤ (y34.2.1 0).toInt ∧ (y34.2.1 0).toInt ≤ 14 := hI33.2.2.1
        have hl : lv_has ls 8 [(6, .int (y16.2.1 0)), (5, .int (y34.2.1 0)), (4, .int r1), (0, .ref (gO g 14)), (1, .ref (gO g d1)), (2, .int p2), (3, .int p3)] := hl
        obtain ⟨x39, ex39⟩ : ∃ y : Int32, y = (y16.2.1 0) + 1 := ⟨_, rfl⟩
        have t40 := addO ex39 (by have f0 := b20; have f1 := k24; have g0 := rg32 (y16.2.1 0); have z1 : (1 : Int32).toInt = 1 := (by decide); have z16 : (16 : Int32).toInt = 16 := (by decide); omega)
        refine lv_iinc (v := x39) (lv' := [(6, .int x39), (5, .int (y34.2.1 0)), (4, .int r1), (0, .ref (gO g 14)), (1, .ref (gO g d1)), (2, .int p2), (3, .int p3)]) hx hb dX2_findMarks_125 hl (k := 0) rfl (by rw [ex39]; rfl) (by decide) rfl (fun ls hl => ?_)
        refine lv_goto (tgt := 30) hx hb dX2_findMarks_128 (by decide) ?_
        have t41 : ((18 : Int) - x39.toInt).toNat < ((18 : Int) - (y16.2.1 0).toInt).toNat := (by have f0 := b20; have f1 := k24; have f2 := t40; have g0 := rg32 (y16.2.1 0); have g1 := rg32 x39; have z1 : (1 : Int32).toInt = 1 := (by decide); have z16 : (16 : Int32).toInt = 16 := (by decide); omega)
        exact nl14 (σ35, lf [x39, (y34.2.1 0)], lg []) ⟨Fr.tr (Fr.tr (Fr.rf) hF18 (fO_sub (fun _ q => q))) hF36 (fO_sub (fun _ q => q)), hJ37, (show (0 : Int) ≤ (x39 : Int32).toInt ∧ (x39 : Int32).toInt ≤ 17 from (by have f0 := t40; have f1 := b20; have f2 := k24; have g0 := rg32 x39; have z1 : (1 : Int32).toInt = 1 := (by decide); have z16 : (16 : Int32).toInt = 16 := (by decide); omega)), (show (-1 : Int) ≤ ((y34.2.1 0) : Int32).toInt ∧ ((y34.2.1 0) : Int32).toInt ≤ 15 from (by have f0 := b38; have g0 := rg32 (y34.2.1 0); omega)), trivial⟩ (show ((18 : Int) - x39.toInt).toNat < _ from by first | exact t41 | (rw [← eσ17]; exact t41)) _ _ _ hP hS (lv_sub hl [0, 1, 2, 3, 4, 5, 6] rfl)
      ·
        intro nj32
        refine lv_if_eq (tgt := 58) hx hb dX2_findMarks_49 (by decide) (fun c42 => ?_) (fun c42 => ?_)
        ·
          have k43 := peq32 c42
          refine lv_aload_n hx hb dX2_findMarks_58 rfl (lv_at hl 4 rfl) ?_
          refine lv_iload_n hx hb dX2_findMarks_59 rfl (lv_at hl 6 rfl) ?_
          refine lv_iload hx hb dX2_findMarks_60 (lv_at hl 1 rfl) ?_
          refine lv_iload hx hb dX2_findMarks_62 (lv_at hl 2 rfl) ?_
          refine va_calli (va_runS (As := [.ref (gO g d1), .int p3, .int (y16.2.1 1), .int r1]) (rest := []) ⟨hx, hb, hml, hown, hts⟩ (m_X2_lowestMark l D cy g σ17  d1 p3 (y16.2.1 1) r1 _ hJ19 (show 0 ≤ d1 ∧ d1 < 5 from hd1) (show (0 : Int) ≤ (y16.2.1 1).toInt ∧ (y16.2.1 1).toInt ≤ 15 from (by have f0 := b21; have f1 := k27; have g0 := rg32 (y16.2.1 1); have z0 : (0 : Int32).toInt = 0 := (by decide); omega))) (va_cwS 4 hts (gd_S q1109 q1110 q130 q1111) rfl rfl rfl (by decide +kernel) ⟨(Nat.le_of_ble_eq_true rfl), (Nat.le_of_ble_eq_true rfl)⟩) (ps8 hP hK hD hC hS) rfl rfl hl.1 rfl (lv_room (Nat.le_of_ble_eq_true rfl)) dX2_findMarks_64 ⟨Nat.le_of_ble_eq_true rfl, Nat.le_of_ble_eq_true rfl⟩) hS (fun q _ h => up8 hS q h) (up8 hS) (fun r44 σ45 tS H1 locs ht hvm hw46 hB hz1 hk1 hS => ?_)
          have hP : va_P D clz (WD8 cy g σ45) H1 := by rw [← ht]; exact hB
          clear hB hz1 hk1 hvm ht
          generalize H1 = H at hP hS ⊢
          have hw46E : σ17 = σ45 := (hw46.1).symm
          subst hw46E
          have b47 : (-2 : Int) ≤ r44.toInt ∧ r44.toInt ≤ 14 := hw46.2.1
          refine lv_istore (lv' := [(7, .int r44), (6, .int (y16.2.1 0)), (5, .int (y16.2.1 1)), (4, .int r1), (0, .ref (gO g 14)), (1, .ref (gO g d1)), (2, .int p2), (3, .int p3)]) hx hb dX2_findMarks_67 hl (by decide) rfl (fun ls hl => ?_)
          refine lv_iload hx hb dX2_findMarks_69 (lv_at hl 0 rfl) ?_
          refine lv_bipush (v := (-2)) hx hb dX2_findMarks_71 (by decide) ?_
          refine lv_icmp_ne (tgt := 78) hx hb dX2_findMarks_73 (by decide) (fun c48 => ?_) (fun c48 => ?_)
          ·
            have k49 := neq32 c48
            refine lv_iload hx hb dX2_findMarks_78 (lv_at hl 0 rfl) ?_
            refine lv_iconst (v := (-1)) hx hb dX2_findMarks_80 (by decide) ?_
            refine lv_icmp_ne (tgt := 98) hx hb dX2_findMarks_81 (by decide) (fun c50 => ?_) (fun c50 => ?_)
            ·
              have k51 := neq32 c50
              refine lv_aload_n hx hb dX2_findMarks_98 rfl (lv_at hl 4 rfl) ?_
              refine lv_dup hx hb dX2_findMarks_99 rfl ?_
              refine g8_2_0 (x := ((σ17 14).1 0)) hx hb hts hown hK hP (rfl) (hts _ q352) dX2_findMarks_100 ?_
              refine lv_iconst (v := 1) hx hb dX2_findMarks_103 (by decide) ?_
              refine lv_iadd hx hb dX2_findMarks_104 ?_
              refine lv_topi (fun x52 ex52 => ?_)
              refine p8_2_0 hx hb hts hown hK hP hD hS (hts _ q352) dX2_findMarks_105 (fun H locs σ53 eσ53 hP hS => ?_)
              have hJ54 : J8 σ53 := hJ19.I eσ53 rfl (show JI8 2 0 x52 from trivial)
              refine lv_aload_n hx hb dX2_findMarks_108 rfl (lv_at hl 4 rfl) ?_
              refine lv_dup hx hb dX2_findMarks_109 rfl ?_
              refine g8_2_1 (x := ((σ17 14).1 1)) hx hb hts hown hK hP (((sI_f eσ53) 14 1 (fN_k rfl)).1) (hts _ q354) dX2_findMarks_110 ?_
              refine lv_iconst (v := 1) hx hb dX2_findMarks_113 (by decide) ?_
              refine lv_iload hx hb dX2_findMarks_114 (lv_at hl 0 rfl) ?_
              refine lv_ishl hx hb dX2_findMarks_116 ?_
              refine lv_topi (fun x55 ex55 => ?_)
              refine lv_ior hx hb dX2_findMarks_117 ?_
              refine lv_topi (fun x56 ex56 => ?_)
              refine p8_2_1 hx hb hts hown hK hP hD hS (hts _ q354) dX2_findMarks_118 (fun H locs σ57 eσ57 hP hS => ?_)
              have hJ58 : J8 σ57 := hJ54.I eσ57 rfl (show JI8 2 1 x56 from trivial)
              refine lv_iload hx hb dX2_findMarks_121 (lv_at hl 0 rfl) ?_
              refine lv_istore (lv' := [(5, .int r44), (7, .int r44), (6, .int (y16.2.1 0)), (4, .int r1), (0, .ref (gO g 14)), (1, .ref (gO g d1)), (2, .int p2), (3, .int p3)]) hx hb dX2_findMarks_123 hl (by decide) rfl (fun ls hl => ?_)
              exact nj32 (σ57, lf [r44], lg []) ⟨Fr.tr (Fr.tr (Fr.rf) (sI_f eσ53) (fN_O mem0)) (sI_f eσ57) (fN_O mem0), hJ58, (show (-1 : Int) ≤ (r44 : Int32).toInt ∧ (r44 : Int32).toInt ≤ 14 from (by have f0 := b47; have f1 := k49; have f2 := k51; have g0 := rg32 r44; have zm2 : ((-2) : Int32).toInt = (-2) := (by decide); have zm1 : ((-1) : Int32).toInt = (-1) := (by decide); omega)), trivial⟩ _ _ _ hP hS (lv_sub hl [2, 0, 3, 4, 5, 6, 7] rfl)
            ·
              have k59 := peq32 c50
              refine lv_aload_n hx hb dX2_findMarks_84 rfl (lv_at hl 5 rfl) ?_
              refine lv_iload_n hx hb dX2_findMarks_85 rfl (lv_at hl 7 rfl) ?_
              refine lv_iload hx hb dX2_findMarks_86 (lv_at hl 2 rfl) ?_
              refine va_calli (va_runS (As := [.ref (gO g d1), .int p3, .int (y16.2.1 1)]) (rest := []) ⟨hx, hb, hml, hown, hts⟩ (m_X2_firstInRow l D cy g σ17  d1 p3 (y16.2.1 1) _ hJ19 (show 0 ≤ d1 ∧ d1 < 5 from hd1) (show (0 : Int) ≤ (y16.2.1 1).toInt ∧ (y16.2.1 1).toInt ≤ 15 from (by have f0 := b21; have f1 := k27; have g0 := rg32 (y16.2.1 1); have z0 : (0 : Int32).toInt = 0 := (by decide); omega))) (va_cwS 3 hts (gd_S q1112 q1113 q130 q1114) rfl rfl rfl (by decide +kernel) ⟨(Nat.le_of_ble_eq_true rfl), (Nat.le_of_ble_eq_true rfl)⟩) (ps8 hP hK hD hC hS) rfl rfl hl.1 rfl (lv_room (Nat.le_of_ble_eq_true rfl)) dX2_findMarks_88 ⟨Nat.le_of_ble_eq_true rfl, Nat.le_of_ble_eq_true rfl⟩) hS (fun q _ h => up8 hS q h) (up8 hS) (fun r60 σ61 tS H1 locs ht hvm hw62 hB hz1 hk1 hS => ?_)
              have hP : va_P D clz (WD8 cy g σ61) H1 := by rw [← ht]; exact hB
              clear hB hz1 hk1 hvm ht
              generalize H1 = H at hP hS ⊢
              have hw62E : σ17 = σ61 := (hw62.1).symm
              subst hw62E
              have b63 : (0 : Int) ≤ r60.toInt ∧ r60.toInt ≤ 15 := hw62.2.1
              refine lv_iconst (v := 1) hx hb dX2_findMarks_91 (by decide) ?_
              refine lv_isub hx hb dX2_findMarks_92 ?_
              refine lv_topi (fun x64 ex64 => ?_)
              have t65 := subO ex64 (by have f0 := b63; have g0 := rg32 r60; have z1 : (1 : Int32).toInt = 1 := (by decide); omega)
              refine lv_istore (lv' := [(5, .int x64), (7, .int r44), (6, .int (y16.2.1 0)), (4, .int r1), (0, .ref (gO g 14)), (1, .ref (gO g d1)), (2, .int p2), (3, .int p3)]) hx hb dX2_findMarks_93 hl (by decide) rfl (fun ls hl => ?_)
              refine lv_goto (tgt := 125) hx hb dX2_findMarks_95 (by decide) ?_
              exact nj32 (σ17, lf [x64], lg []) ⟨Fr.rf, hJ19, (show (-1 : Int) ≤ (x64 : Int32).toInt ∧ (x64 : Int32).toInt ≤ 14 from (by have f0 := t65; have f1 := b63; have g0 := rg32 x64; have z1 : (1 : Int32).toInt = 1 := (by decide); omega)), trivial⟩ _ _ _ hP hS (lv_sub hl [2, 0, 3, 4, 5, 6, 7] rfl)
          ·
            have k66 := peq32 c48
            refine lv_iconst (v := 0) hx hb dX2_findMarks_76 (by decide) ?_
            exact W.zret (v := 0) hx hb hr rfl (fun tS ht hW => ⟨⟨0, σ17, rfl, ⟨Fr.tr (Fr.tr (Fr.tr (Fr.rf) (sI_f eσ4) (fN_O mem0)) (sI_f eσ6) (fN_O mem0)) hF18 (fO_sub (fun _ q => q)), hJ19, (show (0 : Int) ≤ (0 : Int32).toInt ∧ (0 : Int32).toInt ≤ 1 from (by have z0 : (0 : Int32).toInt = 0 := (by decide); omega)), trivial⟩, (show va_P D clz (WD8 cy g σ17) tS.heap by rw [ht]; exact hP)⟩, hS.F ht⟩) hS.2.2 dX2_findMarks_77
        ·
          have k67 := neq32 c42
          obtain ⟨x68, ex68⟩ : ∃ y : Int32, y = (y16.2.1 1) + (-1) := ⟨_, rfl⟩
          have t69 := addO ex68 (by have f0 := b21; have f1 := k27; have g0 := rg32 (y16.2.1 1); have zm1 : ((-1) : Int32).toInt = (-1) := (by decide); have z0 : (0 : Int32).toInt = 0 := (by decide); omega)
          refine lv_iinc (v := x68) (lv' := [(5, .int x68), (6, .int (y16.2.1 0)), (4, .int r1), (0, .ref (gO g 14)), (1, .ref (gO g d1)), (2, .int p2), (3, .int p3)]) hx hb dX2_findMarks_52 hl (k := 1) rfl (by rw [ex68]; rfl) (by decide) rfl (fun ls hl => ?_)
          refine lv_goto (tgt := 125) hx hb dX2_findMarks_55 (by decide) ?_
          exact nj32 (σ17, lf [x68], lg []) ⟨Fr.rf, hJ19, (show (-1 : Int) ≤ (x68 : Int32).toInt ∧ (x68 : Int32).toInt ≤ 14 from (by have f0 := t69; have f1 := b21; have f2 := k27; have g0 := rg32 x68; have zm1 : ((-1) : Int32).toInt = (-1) := (by decide); have z0 : (0 : Int32).toInt = 0 := (by decide); omega)), trivial⟩ _ _ _ hP hS (lv_sub hl [1, 0, 2, 3, 4, 5, 6] rfl)

theorem q1101 : Cond.code yX8_breaths cX8_breaths 3 (some .int) ∈ lw_g := lw_gm (List.mem_of_getElem? (i := 1101) (by decide +kernel)) rfl
theorem q443 : Cond.fieldLink RX8 60 "LipsAndSlides" "lungs" "LLipsAndSlides$Lungs;" ∈ lw_g := lw_gm (List.mem_of_getElem? (i := 443) (by decide +kernel)) rfl
theorem q1102 : Cond.methodLink RX8 294 yX2_findMarks ∈ lw_g := lw_gm (List.mem_of_getElem? (i := 1102) (by decide +kernel)) rfl
theorem q1103 : Cond.instanceMethod yX2_findMarks ∈ lw_g := lw_gm (List.mem_of_getElem? (i := 1103) (by decide +kernel)) rfl
theorem q1104 : Cond.selects RX2 yX2_findMarks yX2_findMarks ∈ lw_g := lw_gm (List.mem_of_getElem? (i := 1104) (by decide +kernel)) rfl
theorem q353 : Cond.fieldLink RX8 298 "LipsAndSlides$Lungs" "taken" "I" ∈ lw_g := lw_gm (List.mem_of_getElem? (i := 353) (by decide +kernel)) rfl
theorem dX8_breaths_0 : decode cX8_breaths 0 = .ok (.aload_n 0, 1) := by decide +kernel
theorem dX8_breaths_1 : decode cX8_breaths 1 = .ok (.iload_n 1, 1) := by decide +kernel
theorem dX8_breaths_2 : decode cX8_breaths 2 = .ok (.iload_n 2, 1) := by decide +kernel
theorem dX8_breaths_3 : decode cX8_breaths 3 = .ok (.invokevirtual 235, 3) := by decide +kernel
theorem dX8_breaths_6 : decode cX8_breaths 6 = .ok (.ifCond .ne 6, 3) := by decide +kernel
theorem dX8_breaths_9 : decode cX8_breaths 9 = .ok (.bipush (-2), 2) := by decide +kernel
theorem dX8_breaths_11 : decode cX8_breaths 11 = .ok (.ireturn, 1) := by decide +kernel
theorem dX8_breaths_12 : decode cX8_breaths 12 = .ok (.aload_n 0, 1) := by decide +kernel
theorem dX8_breaths_13 : decode cX8_breaths 13 = .ok (.getfield 60, 3) := by decide +kernel
theorem dX8_breaths_16 : decode cX8_breaths 16 = .ok (.aload_n 0, 1) := by decide +kernel
theorem dX8_breaths_17 : decode cX8_breaths 17 = .ok (.getfield 19, 3) := by decide +kernel
theorem dX8_breaths_20 : decode cX8_breaths 20 = .ok (.iload_n 1, 1) := by decide +kernel
theorem dX8_breaths_21 : decode cX8_breaths 21 = .ok (.iload_n 2, 1) := by decide +kernel
theorem dX8_breaths_22 : decode cX8_breaths 22 = .ok (.invokevirtual 294, 3) := by decide +kernel
theorem dX8_breaths_25 : decode cX8_breaths 25 = .ok (.ifCond .eq 13, 3) := by decide +kernel
theorem dX8_breaths_28 : decode cX8_breaths 28 = .ok (.aload_n 0, 1) := by decide +kernel
theorem dX8_breaths_29 : decode cX8_breaths 29 = .ok (.getfield 60, 3) := by decide +kernel
theorem dX8_breaths_32 : decode cX8_breaths 32 = .ok (.getfield 298, 3) := by decide +kernel
theorem dX8_breaths_35 : decode cX8_breaths 35 = .ok (.goto 4, 3) := by decide +kernel
theorem dX8_breaths_38 : decode cX8_breaths 38 = .ok (.iconst (-1), 1) := by decide +kernel
theorem dX8_breaths_39 : decode cX8_breaths 39 = .ok (.ireturn, 1) := by decide +kernel
set_option maxHeartbeats 4000000 in
set_option maxRecDepth 100000 in
theorem m_X8_breaths (l : Launch) (D : va_G) (cy : Nat → ClassId) (g : Nat → Nat) (σ : ST) (p1 : Int32) (p2 : Int32) (sz : Nat) (hJ : J8 σ)  : Met l yX8_breaths (ww yX8_breaths cX8_breaths 3 (some .int)) ({ frames := 8, cells := 0, slots := 0, locals := 512 }) (va_Pc [.ref (gO g 17), .int p1, .int p2] (pr8 D cy g σ sz)) (qi8 D cy g sz (fun r τ => Fr (fO [14]) σ τ ∧ J8 τ ∧ True)) 0 0 (A8 cy g sz) := by
  refine Met.ofW (cc := cX8_breaths) (maxL := 3) (ret := (some .int)) (by decide) rfl ?_
  intro p e s m args below meth c s₁ B hml hv
  obtain ⟨rfl, hsz, hP, hK, hD0, hC⟩ := hv
  have hx := B.exec
  have hb := B.bytes
  have hr := B.returns
  have hts := hts_g (atoms_spec (ws := ww yX8_breaths cX8_breaths 3 (some .int)) B.pre)
  have hown : s.vm.findClass RX8 = some m.cls := findClass_of_methodNamed B.named
  have hlocks := B.notSynchronized
  clear B
  subst hsz
  have hD := fun τ => A8_D (sz := s.heap.size) hD0 τ
  clear hD0
  have hS : va_S (A8 cy g s.heap.size) s.heap s.heap [] := va_S.rf
  have hl := lv_entry ([.ref (gO g 17), .int p1, .int p2]) (n := 3) (Nat.le_of_ble_eq_true rfl)
  rw [lg_entry_eq]
  generalize (lg_sl ([.ref (gO g 17), .int p1, .int p2]) ++ List.replicate (3 - (lg_sl ([.ref (gO g 17), .int p1, .int p2])).length) Slot.unset).toArray = ls at hl ⊢
  have hl : lv_has ls 3 [(0, .ref (gO g 17)), (1, .int p1), (2, .int p2)] := hl
  refine lv_aload_n hx hb dX8_breaths_0 rfl (lv_at hl 0 rfl) ?_
  refine lv_iload_n hx hb dX8_breaths_1 rfl (lv_at hl 1 rfl) ?_
  refine lv_iload_n hx hb dX8_breaths_2 rfl (lv_at hl 2 rfl) ?_
  refine va_calli (va_runV (As := [.int p1, .int p2]) (rest := []) ⟨hx, hb, hml, hown, hts⟩ (m_X8_hasPair l D cy g σ  p1 p2 _ hJ ) (cwV 2 hts (gd_V q918 q920 q19 q125 q921) rfl rfl rfl (by decide +kernel) ⟨(Nat.le_of_ble_eq_true rfl), (Nat.le_of_ble_eq_true rfl)⟩) (pv8 hP hK hD hC hS (rv8_8 hK hP)) rfl rfl hl.1 rfl (lv_room (Nat.le_of_ble_eq_true rfl)) dX8_breaths_3 ⟨Nat.le_of_ble_eq_true rfl, Nat.le_of_ble_eq_true rfl⟩) hS (fun q _ h => up8 hS q h) (up8 hS) (fun r1 σ2 tS H1 locs ht hvm hw3 hB hz1 hk1 hS => ?_)
  have hP : va_P D clz (WD8 cy g σ2) H1 := by rw [← ht]; exact hB
  clear hB hz1 hk1 hvm ht
  generalize H1 = H at hP hS ⊢
  have hw3E : σ = σ2 := (hw3.1).symm
  subst hw3E
  have b4 : (0 : Int) ≤ r1.toInt ∧ r1.toInt ≤ 1 := hw3.2.1
  refine lv_if_ne (tgt := 12) hx hb dX8_breaths_6 (by decide) (fun c5 => ?_) (fun c5 => ?_)
  ·
    have k6 := neq32 c5
    refine lv_aload_n hx hb dX8_breaths_12 rfl (lv_at hl 0 rfl) ?_
    refine g8_8_9 hx hb hts hown hK hP (hts _ q443) dX8_breaths_13 ?_
    refine lv_aload_n hx hb dX8_breaths_16 rfl (lv_at hl 0 rfl) ?_
    obtain ⟨dx7, edx7⟩ : ∃ z : Nat, ((σ 17).1 1).toInt.toNat = z := ⟨_, rfl⟩
    have hdx7 : 0 ≤ dx7 ∧ dx7 < 5 := mnow (by have f0 := j8_8_1 hJ rfl; omega) edx7
    refine g8_8_1 (o := dx7) hx hb hts hown hK hP edx7 (hts _ q435) dX8_breaths_17 ?_
    refine lv_iload_n hx hb dX8_breaths_20 rfl (lv_at hl 1 rfl) ?_
    refine lv_iload_n hx hb dX8_breaths_21 rfl (lv_at hl 2 rfl) ?_
    refine va_calli (va_runV (As := [.ref (gO g dx7), .int p1, .int p2]) (rest := []) ⟨hx, hb, hml, hown, hts⟩ (m_X2_findMarks l D cy g σ  dx7 p1 p2 _ hJ (show 0 ≤ dx7 ∧ dx7 < 5 from hdx7)) (cwV 3 hts (gd_V q1102 q1103 q1104 q130 q1105) rfl rfl rfl (by decide +kernel) ⟨(Nat.le_of_ble_eq_true rfl), (Nat.le_of_ble_eq_true rfl)⟩) (pv8 hP hK hD hC hS (rv8_2 hK hP)) rfl rfl hl.1 rfl (lv_room (Nat.le_of_ble_eq_true rfl)) dX8_breaths_22 ⟨Nat.le_of_ble_eq_true rfl, Nat.le_of_ble_eq_true rfl⟩) hS (fun q _ h => up8 hS q h) (up8 hS) (fun r8 σ9 tS H1 locs ht hvm hw10 hB hz1 hk1 hS => ?_)
    have hP : va_P D clz (WD8 cy g σ9) H1 := by rw [← ht]; exact hB
    clear hB hz1 hk1 hvm ht
    generalize H1 = H at hP hS ⊢
    have hF11 : Fr (fO [14]) σ σ9 := hw10.1
    have hJ12 : J8 σ9 := hw10.2.1
    have b13 : (0 : Int) ≤ r8.toInt ∧ r8.toInt ≤ 1 := hw10.2.2.1
    refine lv_if_eq (tgt := 38) hx hb dX8_breaths_25 (by decide) (fun c14 => ?_) (fun c14 => ?_)
    ·
      have k15 := peq32 c14
      refine lv_iconst (v := (-1)) hx hb dX8_breaths_38 (by decide) ?_
      exact W.iret (v := (-1)) hx hb hr (fun tS ht hW => ⟨⟨(-1), σ9, rfl, ⟨Fr.tr (Fr.rf) hF11 (fO_sub (fun _ q => q)), hJ12, trivial⟩, (show va_P D clz (WD8 cy g σ9) tS.heap by rw [ht]; exact hP)⟩, hS.F ht⟩) hS.2.2 dX8_breaths_39
    ·
      have k16 := neq32 c14
      refine lv_aload_n hx hb dX8_breaths_28 rfl (lv_at hl 0 rfl) ?_
      refine g8_8_9 hx hb hts hown hK hP (hts _ q443) dX8_breaths_29 ?_
      refine g8_2_0 (x := ((σ9 14).1 0)) hx hb hts hown hK hP (rfl) (hts _ q353) dX8_breaths_32 ?_
      refine lv_goto (tgt := 39) hx hb dX8_breaths_35 (by decide) ?_
      exact W.iret (v := ((σ9 14).1 0)) hx hb hr (fun tS ht hW => ⟨⟨((σ9 14).1 0), σ9, rfl, ⟨Fr.tr (Fr.rf) hF11 (fO_sub (fun _ q => q)), hJ12, trivial⟩, (show va_P D clz (WD8 cy g σ9) tS.heap by rw [ht]; exact hP)⟩, hS.F ht⟩) hS.2.2 dX8_breaths_39
  ·
    have k17 := peq32 c5
    refine lv_bipush (v := (-2)) hx hb dX8_breaths_9 (by decide) ?_
    exact W.iret (v := (-2)) hx hb hr (fun tS ht hW => ⟨⟨(-2), σ, rfl, ⟨Fr.rf, hJ, trivial⟩, (show va_P D clz (WD8 cy g σ) tS.heap by rw [ht]; exact hP)⟩, hS.F ht⟩) hS.2.2 dX8_breaths_11

theorem q1120 : Cond.code yX8_marks cX8_marks 3 (some .int) ∈ lw_g := lw_gm (List.mem_of_getElem? (i := 1120) (by decide +kernel)) rfl
theorem q355 : Cond.fieldLink RX8 301 "LipsAndSlides$Lungs" "bits" "I" ∈ lw_g := lw_gm (List.mem_of_getElem? (i := 355) (by decide +kernel)) rfl
theorem dX8_marks_0 : decode cX8_marks 0 = .ok (.aload_n 0, 1) := by decide +kernel
theorem dX8_marks_1 : decode cX8_marks 1 = .ok (.iload_n 1, 1) := by decide +kernel
theorem dX8_marks_2 : decode cX8_marks 2 = .ok (.iload_n 2, 1) := by decide +kernel
theorem dX8_marks_3 : decode cX8_marks 3 = .ok (.invokevirtual 235, 3) := by decide +kernel
theorem dX8_marks_6 : decode cX8_marks 6 = .ok (.ifCond .ne 6, 3) := by decide +kernel
theorem dX8_marks_9 : decode cX8_marks 9 = .ok (.bipush (-2), 2) := by decide +kernel
theorem dX8_marks_11 : decode cX8_marks 11 = .ok (.ireturn, 1) := by decide +kernel
theorem dX8_marks_12 : decode cX8_marks 12 = .ok (.aload_n 0, 1) := by decide +kernel
theorem dX8_marks_13 : decode cX8_marks 13 = .ok (.getfield 60, 3) := by decide +kernel
theorem dX8_marks_16 : decode cX8_marks 16 = .ok (.aload_n 0, 1) := by decide +kernel
theorem dX8_marks_17 : decode cX8_marks 17 = .ok (.getfield 19, 3) := by decide +kernel
theorem dX8_marks_20 : decode cX8_marks 20 = .ok (.iload_n 1, 1) := by decide +kernel
theorem dX8_marks_21 : decode cX8_marks 21 = .ok (.iload_n 2, 1) := by decide +kernel
theorem dX8_marks_22 : decode cX8_marks 22 = .ok (.invokevirtual 294, 3) := by decide +kernel
theorem dX8_marks_25 : decode cX8_marks 25 = .ok (.ifCond .eq 13, 3) := by decide +kernel
theorem dX8_marks_28 : decode cX8_marks 28 = .ok (.aload_n 0, 1) := by decide +kernel
theorem dX8_marks_29 : decode cX8_marks 29 = .ok (.getfield 60, 3) := by decide +kernel
theorem dX8_marks_32 : decode cX8_marks 32 = .ok (.getfield 301, 3) := by decide +kernel
theorem dX8_marks_35 : decode cX8_marks 35 = .ok (.goto 4, 3) := by decide +kernel
theorem dX8_marks_38 : decode cX8_marks 38 = .ok (.iconst (-1), 1) := by decide +kernel
theorem dX8_marks_39 : decode cX8_marks 39 = .ok (.ireturn, 1) := by decide +kernel
set_option maxHeartbeats 4000000 in
set_option maxRecDepth 100000 in
theorem m_X8_marks (l : Launch) (D : va_G) (cy : Nat → ClassId) (g : Nat → Nat) (σ : ST) (p1 : Int32) (p2 : Int32) (sz : Nat) (hJ : J8 σ)  : Met l yX8_marks (ww yX8_marks cX8_marks 3 (some .int)) ({ frames := 8, cells := 0, slots := 0, locals := 512 }) (va_Pc [.ref (gO g 17), .int p1, .int p2] (pr8 D cy g σ sz)) (qi8 D cy g sz (fun r τ => Fr (fO [14]) σ τ ∧ J8 τ ∧ True)) 0 0 (A8 cy g sz) := by
  refine Met.ofW (cc := cX8_marks) (maxL := 3) (ret := (some .int)) (by decide) rfl ?_
  intro p e s m args below meth c s₁ B hml hv
  obtain ⟨rfl, hsz, hP, hK, hD0, hC⟩ := hv
  have hx := B.exec
  have hb := B.bytes
  have hr := B.returns
  have hts := hts_g (atoms_spec (ws := ww yX8_marks cX8_marks 3 (some .int)) B.pre)
  have hown : s.vm.findClass RX8 = some m.cls := findClass_of_methodNamed B.named
  have hlocks := B.notSynchronized
  clear B
  subst hsz
  have hD := fun τ => A8_D (sz := s.heap.size) hD0 τ
  clear hD0
  have hS : va_S (A8 cy g s.heap.size) s.heap s.heap [] := va_S.rf
  have hl := lv_entry ([.ref (gO g 17), .int p1, .int p2]) (n := 3) (Nat.le_of_ble_eq_true rfl)
  rw [lg_entry_eq]
  generalize (lg_sl ([.ref (gO g 17), .int p1, .int p2]) ++ List.replicate (3 - (lg_sl ([.ref (gO g 17), .int p1, .int p2])).length) Slot.unset).toArray = ls at hl ⊢
  have hl : lv_has ls 3 [(0, .ref (gO g 17)), (1, .int p1), (2, .int p2)] := hl
  refine lv_aload_n hx hb dX8_marks_0 rfl (lv_at hl 0 rfl) ?_
  refine lv_iload_n hx hb dX8_marks_1 rfl (lv_at hl 1 rfl) ?_
  refine lv_iload_n hx hb dX8_marks_2 rfl (lv_at hl 2 rfl) ?_
  refine va_calli (va_runV (As := [.int p1, .int p2]) (rest := []) ⟨hx, hb, hml, hown, hts⟩ (m_X8_hasPair l D cy g σ  p1 p2 _ hJ ) (cwV 2 hts (gd_V q918 q920 q19 q125 q921) rfl rfl rfl (by decide +kernel) ⟨(Nat.le_of_ble_eq_true rfl), (Nat.le_of_ble_eq_true rfl)⟩) (pv8 hP hK hD hC hS (rv8_8 hK hP)) rfl rfl hl.1 rfl (lv_room (Nat.le_of_ble_eq_true rfl)) dX8_marks_3 ⟨Nat.le_of_ble_eq_true rfl, Nat.le_of_ble_eq_true rfl⟩) hS (fun q _ h => up8 hS q h) (up8 hS) (fun r1 σ2 tS H1 locs ht hvm hw3 hB hz1 hk1 hS => ?_)
  have hP : va_P D clz (WD8 cy g σ2) H1 := by rw [← ht]; exact hB
  clear hB hz1 hk1 hvm ht
  generalize H1 = H at hP hS ⊢
  have hw3E : σ = σ2 := (hw3.1).symm
  subst hw3E
  have b4 : (0 : Int) ≤ r1.toInt ∧ r1.toInt ≤ 1 := hw3.2.1
  refine lv_if_ne (tgt := 12) hx hb dX8_marks_6 (by decide) (fun c5 => ?_) (fun c5 => ?_)
  ·
    have k6 := neq32 c5
    refine lv_aload_n hx hb dX8_marks_12 rfl (lv_at hl 0 rfl) ?_
    refine g8_8_9 hx hb hts hown hK hP (hts _ q443) dX8_marks_13 ?_
    refine lv_aload_n hx hb dX8_marks_16 rfl (lv_at hl 0 rfl) ?_
    obtain ⟨dx7, edx7⟩ : ∃ z : Nat, ((σ 17).1 1).toInt.toNat = z := ⟨_, rfl⟩
    have hdx7 : 0 ≤ dx7 ∧ dx7 < 5 := mnow (by have f0 := j8_8_1 hJ rfl; omega) edx7
    refine g8_8_1 (o := dx7) hx hb hts hown hK hP edx7 (hts _ q435) dX8_marks_17 ?_
    refine lv_iload_n hx hb dX8_marks_20 rfl (lv_at hl 1 rfl) ?_
    refine lv_iload_n hx hb dX8_marks_21 rfl (lv_at hl 2 rfl) ?_
    refine va_calli (va_runV (As := [.ref (gO g dx7), .int p1, .int p2]) (rest := []) ⟨hx, hb, hml, hown, hts⟩ (m_X2_findMarks l D cy g σ  dx7 p1 p2 _ hJ (show 0 ≤ dx7 ∧ dx7 < 5 from hdx7)) (cwV 3 hts (gd_V q1102 q1103 q1104 q130 q1105) rfl rfl rfl (by decide +kernel) ⟨(Nat.le_of_ble_eq_true rfl), (Nat.le_of_ble_eq_true rfl)⟩) (pv8 hP hK hD hC hS (rv8_2 hK hP)) rfl rfl hl.1 rfl (lv_room (Nat.le_of_ble_eq_true rfl)) dX8_marks_22 ⟨Nat.le_of_ble_eq_true rfl, Nat.le_of_ble_eq_true rfl⟩) hS (fun q _ h => up8 hS q h) (up8 hS) (fun r8 σ9 tS H1 locs ht hvm hw10 hB hz1 hk1 hS => ?_)
    have hP : va_P D clz (WD8 cy g σ9) H1 := by rw [← ht]; exact hB
    clear hB hz1 hk1 hvm ht
    generalize H1 = H at hP hS ⊢
    have hF11 : Fr (fO [14]) σ σ9 := hw10.1
    have hJ12 : J8 σ9 := hw10.2.1
    have b13 : (0 : Int) ≤ r8.toInt ∧ r8.toInt ≤ 1 := hw10.2.2.1
    refine lv_if_eq (tgt := 38) hx hb dX8_marks_25 (by decide) (fun c14 => ?_) (fun c14 => ?_)
    ·
      have k15 := peq32 c14
      refine lv_iconst (v := (-1)) hx hb dX8_marks_38 (by decide) ?_
      exact W.iret (v := (-1)) hx hb hr (fun tS ht hW => ⟨⟨(-1), σ9, rfl, ⟨Fr.tr (Fr.rf) hF11 (fO_sub (fun _ q => q)), hJ12, trivial⟩, (show va_P D clz (WD8 cy g σ9) tS.heap by rw [ht]; exact hP)⟩, hS.F ht⟩) hS.2.2 dX8_marks_39
    ·
      have k16 := neq32 c14
      refine lv_aload_n hx hb dX8_marks_28 rfl (lv_at hl 0 rfl) ?_
      refine g8_8_9 hx hb hts hown hK hP (hts _ q443) dX8_marks_29 ?_
      refine g8_2_1 (x := ((σ9 14).1 1)) hx hb hts hown hK hP (rfl) (hts _ q355) dX8_marks_32 ?_
      refine lv_goto (tgt := 39) hx hb dX8_marks_35 (by decide) ?_
      exact W.iret (v := ((σ9 14).1 1)) hx hb hr (fun tS ht hW => ⟨⟨((σ9 14).1 1), σ9, rfl, ⟨Fr.tr (Fr.rf) hF11 (fO_sub (fun _ q => q)), hJ12, trivial⟩, (show va_P D clz (WD8 cy g σ9) tS.heap by rw [ht]; exact hP)⟩, hS.F ht⟩) hS.2.2 dX8_marks_39
  ·
    have k17 := peq32 c5
    refine lv_bipush (v := (-2)) hx hb dX8_marks_9 (by decide) ?_
    exact W.iret (v := (-2)) hx hb hr (fun tS ht hW => ⟨⟨(-2), σ, rfl, ⟨Fr.rf, hJ, trivial⟩, (show va_P D clz (WD8 cy g σ) tS.heap by rw [ht]; exact hP)⟩, hS.F ht⟩) hS.2.2 dX8_marks_11

theorem q1128 : Cond.code yX2_firstChoked cX2_firstChoked 7 (some .int) ∈ lw_g := lw_gm (List.mem_of_getElem? (i := 1128) (by decide +kernel)) rfl
theorem dX2_firstChoked_0 : decode cX2_firstChoked 0 = .ok (.aload_n 1, 1) := by decide +kernel
theorem dX2_firstChoked_1 : decode cX2_firstChoked 1 = .ok (.iload_n 2, 1) := by decide +kernel
theorem dX2_firstChoked_2 : decode cX2_firstChoked 2 = .ok (.iconst 2, 1) := by decide +kernel
theorem dX2_firstChoked_3 : decode cX2_firstChoked 3 = .ok (.invokevirtual 9, 3) := by decide +kernel
theorem dX2_firstChoked_6 : decode cX2_firstChoked 6 = .ok (.istore 4, 2) := by decide +kernel
theorem dX2_firstChoked_8 : decode cX2_firstChoked 8 = .ok (.iconst 0, 1) := by decide +kernel
theorem dX2_firstChoked_9 : decode cX2_firstChoked 9 = .ok (.istore 5, 2) := by decide +kernel
theorem dX2_firstChoked_11 : decode cX2_firstChoked 11 = .ok (.iconst 0, 1) := by decide +kernel
theorem dX2_firstChoked_12 : decode cX2_firstChoked 12 = .ok (.istore 6, 2) := by decide +kernel
theorem dX2_firstChoked_14 : decode cX2_firstChoked 14 = .ok (.iload 6, 2) := by decide +kernel
theorem dX2_firstChoked_16 : decode cX2_firstChoked 16 = .ok (.aload_n 1, 1) := by decide +kernel
theorem dX2_firstChoked_17 : decode cX2_firstChoked 17 = .ok (.iload_n 3, 1) := by decide +kernel
theorem dX2_firstChoked_18 : decode cX2_firstChoked 18 = .ok (.invokevirtual 24, 3) := by decide +kernel
theorem dX2_firstChoked_21 : decode cX2_firstChoked 21 = .ok (.if_icmp .ge 63, 3) := by decide +kernel
theorem dX2_firstChoked_24 : decode cX2_firstChoked 24 = .ok (.aload_n 1, 1) := by decide +kernel
theorem dX2_firstChoked_25 : decode cX2_firstChoked 25 = .ok (.iload_n 3, 1) := by decide +kernel
theorem dX2_firstChoked_26 : decode cX2_firstChoked 26 = .ok (.iload 6, 2) := by decide +kernel
theorem dX2_firstChoked_28 : decode cX2_firstChoked 28 = .ok (.invokevirtual 28, 3) := by decide +kernel
theorem dX2_firstChoked_31 : decode cX2_firstChoked 31 = .ok (.ifCond .eq 9, 3) := by decide +kernel
theorem dX2_firstChoked_34 : decode cX2_firstChoked 34 = .ok (.iconst 0, 1) := by decide +kernel
theorem dX2_firstChoked_35 : decode cX2_firstChoked 35 = .ok (.istore 5, 2) := by decide +kernel
theorem dX2_firstChoked_37 : decode cX2_firstChoked 37 = .ok (.goto 41, 3) := by decide +kernel
theorem dX2_firstChoked_40 : decode cX2_firstChoked 40 = .ok (.iload 5, 2) := by decide +kernel
theorem dX2_firstChoked_42 : decode cX2_firstChoked 42 = .ok (.aload_n 1, 1) := by decide +kernel
theorem dX2_firstChoked_43 : decode cX2_firstChoked 43 = .ok (.iload_n 3, 1) := by decide +kernel
theorem dX2_firstChoked_44 : decode cX2_firstChoked 44 = .ok (.iload 6, 2) := by decide +kernel
theorem dX2_firstChoked_46 : decode cX2_firstChoked 46 = .ok (.iconst 1, 1) := by decide +kernel
theorem dX2_firstChoked_47 : decode cX2_firstChoked 47 = .ok (.invokevirtual 40, 3) := by decide +kernel
theorem dX2_firstChoked_50 : decode cX2_firstChoked 50 = .ok (.iadd, 1) := by decide +kernel
theorem dX2_firstChoked_51 : decode cX2_firstChoked 51 = .ok (.istore 5, 2) := by decide +kernel
theorem dX2_firstChoked_53 : decode cX2_firstChoked 53 = .ok (.iload 5, 2) := by decide +kernel
theorem dX2_firstChoked_55 : decode cX2_firstChoked 55 = .ok (.iload 4, 2) := by decide +kernel
theorem dX2_firstChoked_57 : decode cX2_firstChoked 57 = .ok (.if_icmp .le 6, 3) := by decide +kernel
theorem dX2_firstChoked_60 : decode cX2_firstChoked 60 = .ok (.iload 6, 2) := by decide +kernel
theorem dX2_firstChoked_62 : decode cX2_firstChoked 62 = .ok (.ireturn, 1) := by decide +kernel
theorem dX2_firstChoked_63 : decode cX2_firstChoked 63 = .ok (.aload_n 1, 1) := by decide +kernel
theorem dX2_firstChoked_64 : decode cX2_firstChoked 64 = .ok (.iload_n 3, 1) := by decide +kernel
theorem dX2_firstChoked_65 : decode cX2_firstChoked 65 = .ok (.iload 6, 2) := by decide +kernel
theorem dX2_firstChoked_67 : decode cX2_firstChoked 67 = .ok (.iconst 3, 1) := by decide +kernel
theorem dX2_firstChoked_68 : decode cX2_firstChoked 68 = .ok (.invokevirtual 40, 3) := by decide +kernel
theorem dX2_firstChoked_71 : decode cX2_firstChoked 71 = .ok (.iconst 1, 1) := by decide +kernel
theorem dX2_firstChoked_72 : decode cX2_firstChoked 72 = .ok (.if_icmp .ne 6, 3) := by decide +kernel
theorem dX2_firstChoked_75 : decode cX2_firstChoked 75 = .ok (.iconst 0, 1) := by decide +kernel
theorem dX2_firstChoked_76 : decode cX2_firstChoked 76 = .ok (.istore 5, 2) := by decide +kernel
theorem dX2_firstChoked_78 : decode cX2_firstChoked 78 = .ok (.iinc 6 1, 3) := by decide +kernel
theorem dX2_firstChoked_81 : decode cX2_firstChoked 81 = .ok (.goto (-67), 3) := by decide +kernel
theorem dX2_firstChoked_84 : decode cX2_firstChoked 84 = .ok (.iconst (-1), 1) := by decide +kernel
theorem dX2_firstChoked_85 : decode cX2_firstChoked 85 = .ok (.ireturn, 1) := by decide +kernel
set_option maxHeartbeats 4000000 in
set_option maxRecDepth 100000 in
theorem m_X2_firstChoked (l : Launch) (D : va_G) (cy : Nat → ClassId) (g : Nat → Nat) (σ : ST) (d1 : Nat) (p2 : Int32) (p3 : Int32) (sz : Nat) (hJ : J8 σ) (hd1 : 0 ≤ d1 ∧ d1 < 5) : Met l yX2_firstChoked (ww yX2_firstChoked cX2_firstChoked 7 (some .int)) ({ frames := 4, cells := 0, slots := 0, locals := 256 }) (va_Pc [.ref (gO g 14), .ref (gO g d1), .int p2, .int p3] (pr8 D cy g σ sz)) (qi8 D cy g sz (fun r τ => τ = σ ∧ ((-1 : Int) ≤ r.toInt ∧ r.toInt ≤ 15) ∧ True)) 0 0 (A8 cy g sz) := by
  refine Met.ofW (cc := cX2_firstChoked) (maxL := 7) (ret := (some .int)) (by decide) rfl ?_
  intro p e s m args below meth c s₁ B hml hv
  obtain ⟨rfl, hsz, hP, hK, hD0, hC⟩ := hv
  have hx := B.exec
  have hb := B.bytes
  have hr := B.returns
  have hts := hts_g (atoms_spec (ws := ww yX2_firstChoked cX2_firstChoked 7 (some .int)) B.pre)
  have hown : s.vm.findClass RX2 = some m.cls := findClass_of_methodNamed B.named
  have hlocks := B.notSynchronized
  clear B
  subst hsz
  have hD := fun τ => A8_D (sz := s.heap.size) hD0 τ
  clear hD0
  have hS : va_S (A8 cy g s.heap.size) s.heap s.heap [] := va_S.rf
  have hl := lv_entry ([.ref (gO g 14), .ref (gO g d1), .int p2, .int p3]) (n := 7) (Nat.le_of_ble_eq_true rfl)
  rw [lg_entry_eq]
  generalize (lg_sl ([.ref (gO g 14), .ref (gO g d1), .int p2, .int p3]) ++ List.replicate (7 - (lg_sl ([.ref (gO g 14), .ref (gO g d1), .int p2, .int p3])).length) Slot.unset).toArray = ls at hl ⊢
  have hl : lv_has ls 7 [(0, .ref (gO g 14)), (1, .ref (gO g d1)), (2, .int p2), (3, .int p3)] := hl
  refine lv_aload_n hx hb dX2_firstChoked_0 rfl (lv_at hl 1 rfl) ?_
  refine lv_iload_n hx hb dX2_firstChoked_1 rfl (lv_at hl 2 rfl) ?_
  refine lv_iconst (v := 2) hx hb dX2_firstChoked_2 (by decide) ?_
  refine va_calli (va_runV (As := [.int p2, .int 2]) (rest := []) ⟨hx, hb, hml, hown, hts⟩ (m_X0_playerField l D cy g σ  d1 p2 (2) _ hJ (show 0 ≤ d1 ∧ d1 < 5 from hd1)) (cwV 2 hts (gd_V q1106 q726 q727 q127 q728) rfl rfl rfl (by decide +kernel) ⟨(Nat.le_of_ble_eq_true rfl), (Nat.le_of_ble_eq_true rfl)⟩) (pv8 hP hK hD hC hS (rv8_0 hK hP hd1)) rfl rfl hl.1 rfl (lv_room (Nat.le_of_ble_eq_true rfl)) dX2_firstChoked_3 ⟨Nat.le_of_ble_eq_true rfl, Nat.le_of_ble_eq_true rfl⟩) hS (fun q _ h => up8 hS q h) (up8 hS) (fun r1 σ2 tS H1 locs ht hvm hw3 hB hz1 hk1 hS => ?_)
  have hP : va_P D clz (WD8 cy g σ2) H1 := by rw [← ht]; exact hB
  clear hB hz1 hk1 hvm ht
  generalize H1 = H at hP hS ⊢
  have hw3E : σ = σ2 := (hw3.1).symm
  subst hw3E
  refine lv_istore (lv' := [(4, .int r1), (0, .ref (gO g 14)), (1, .ref (gO g d1)), (2, .int p2), (3, .int p3)]) hx hb dX2_firstChoked_6 hl (by decide) rfl (fun ls hl => ?_)
  refine lv_iconst (v := 0) hx hb dX2_firstChoked_8 (by decide) ?_
  refine lv_istore (lv' := [(5, .int 0), (4, .int r1), (0, .ref (gO g 14)), (1, .ref (gO g d1)), (2, .int p2), (3, .int p3)]) hx hb dX2_firstChoked_9 hl (by decide) rfl (fun ls hl => ?_)
  refine lv_iconst (v := 0) hx hb dX2_firstChoked_11 (by decide) ?_
  refine lv_istore (lv' := [(6, .int 0), (5, .int 0), (4, .int r1), (0, .ref (gO g 14)), (1, .ref (gO g d1)), (2, .int p2), (3, .int p3)]) hx hb dX2_firstChoked_12 hl (by decide) rfl (fun ls hl => ?_)
  refine loop8 7 14 (fun x : LZ => [(6, .int (x.2.1 0)), (5, .int (x.2.1 1)), (4, .int r1), (0, .ref (gO g 14)), (1, .ref (gO g d1)), (2, .int p2), (3, .int p3)]) (fun x : LZ => (x.1 = σ) ∧ ((0 : Int) ≤ (x.2.1 0).toInt ∧ (x.2.1 0).toInt ≤ 16) ∧ True) (fun x : LZ => ((17 : Int) - (x.2.1 0).toInt).toNat) ?_ (σ, lf [0, 0], lg []) ⟨rfl, (show (0 : Int) ≤ (0 : Int32).toInt ∧ (0 : Int32).toInt ≤ 16 from (by have z0 : (0 : Int32).toInt = 0 := (by decide); omega)), trivial⟩ _ _ _ hP hS (lv_sub hl [0, 1, 2, 3, 4, 5, 6] rfl)
  intro y6 hI5 nl4 H locs ls hP hS hl
  rw [show y6.1 = σ from hI5.1] at hP
  have b7 : (0 : Int) ≤ (y6.2.1 0).toInt ∧ (y6.2.1 0).toInt ≤ 16 := hI5.2.1
  have hl : lv_has ls 7 [(6, .int (y6.2.1 0)), (5, .int (y6.2.1 1)), (4, .int r1), (0, .ref (gO g 14)), (1, .ref (gO g d1)), (2, .int p2), (3, .int p3)] := hl
  refine lv_iload hx hb dX2_firstChoked_14 (lv_at hl 0 rfl) ?_
  refine lv_aload_n hx hb dX2_firstChoked_16 rfl (lv_at hl 4 rfl) ?_
  refine lv_iload_n hx hb dX2_firstChoked_17 rfl (lv_at hl 6 rfl) ?_
  refine va_calli (va_runV (As := [.int p3]) (rest := [.int (y6.2.1 0)]) ⟨hx, hb, hml, hown, hts⟩ (m_X0_tonesOf l D cy g σ  d1 p3 _ hJ (show 0 ≤ d1 ∧ d1 < 5 from hd1)) (cwV 1 hts (gd_V q1107 q657 q658 q127 q659) rfl rfl rfl (by decide +kernel) ⟨(Nat.le_of_ble_eq_true rfl), (Nat.le_of_ble_eq_true rfl)⟩) (pv8 hP hK hD hC hS (rv8_0 hK hP hd1)) rfl rfl hl.1 rfl (lv_room (Nat.le_of_ble_eq_true rfl)) dX2_firstChoked_18 ⟨Nat.le_of_ble_eq_true rfl, Nat.le_of_ble_eq_true rfl⟩) hS (fun q _ h => up8 hS q h) (up8 hS) (fun r8 σ9 tS H1 locs ht hvm hw10 hB hz1 hk1 hS => ?_)
  have hP : va_P D clz (WD8 cy g σ9) H1 := by rw [← ht]; exact hB
  clear hB hz1 hk1 hvm ht
  generalize H1 = H at hP hS ⊢
  have hw10E : σ = σ9 := (hw10.1).symm
  subst hw10E
  have b11 : (0 : Int) ≤ r8.toInt ∧ r8.toInt ≤ 16 := hw10.2.1
  refine lv_icmp_ge (tgt := 84) hx hb dX2_firstChoked_21 (by decide) (fun c12 => ?_) (fun c12 => ?_)
  ·
    have k13 := ple32 c12
    refine lv_iconst (v := (-1)) hx hb dX2_firstChoked_84 (by decide) ?_
    exact W.iret (v := (-1)) hx hb hr (fun tS ht hW => ⟨⟨(-1), σ, rfl, ⟨rfl, (show (-1 : Int) ≤ ((-1) : Int32).toInt ∧ ((-1) : Int32).toInt ≤ 15 from (by have zm1 : ((-1) : Int32).toInt = (-1) := (by decide); omega)), trivial⟩, (show va_P D clz (WD8 cy g σ) tS.heap by rw [ht]; exact hP)⟩, hS.F ht⟩) hS.2.2 dX2_firstChoked_85
  ·
    have k14 := nle32 c12
    refine lv_aload_n hx hb dX2_firstChoked_24 rfl (lv_at hl 4 rfl) ?_
    refine lv_iload_n hx hb dX2_firstChoked_25 rfl (lv_at hl 6 rfl) ?_
    refine lv_iload hx hb dX2_firstChoked_26 (lv_at hl 0 rfl) ?_
    refine va_calli (va_runV (As := [.int p3, .int (y6.2.1 0)]) (rest := []) ⟨hx, hb, hml, hown, hts⟩ (m_X0_isRest l D cy g σ  d1 p3 (y6.2.1 0) _ hJ (show 0 ≤ d1 ∧ d1 < 5 from hd1) (show (0 : Int) ≤ (y6.2.1 0).toInt ∧ (y6.2.1 0).toInt ≤ 15 from (by have f0 := b7; have f1 := k14; have f2 := b11; have g0 := rg32 (y6.2.1 0); omega))) (cwV 2 hts (gd_V q1108 q750 q751 q127 q752) rfl rfl rfl (by decide +kernel) ⟨(Nat.le_of_ble_eq_true rfl), (Nat.le_of_ble_eq_true rfl)⟩) (pv8 hP hK hD hC hS (rv8_0 hK hP hd1)) rfl rfl hl.1 rfl (lv_room (Nat.le_of_ble_eq_true rfl)) dX2_firstChoked_28 ⟨Nat.le_of_ble_eq_true rfl, Nat.le_of_ble_eq_true rfl⟩) hS (fun q _ h => up8 hS q h) (up8 hS) (fun r15 σ16 tS H1 locs ht hvm hw17 hB hz1 hk1 hS => ?_)
    have hP : va_P D clz (WD8 cy g σ16) H1 := by rw [← ht]; exact hB
    clear hB hz1 hk1 hvm ht
    generalize H1 = H at hP hS ⊢
    have hw17E : σ = σ16 := (hw17.1).symm
    subst hw17E
    have b18 : (0 : Int) ≤ r15.toInt ∧ r15.toInt ≤ 1 := hw17.2.1
    refine cut8 (D := D) (cy := cy) (g := g) (A := A8 cy g s.heap.size) (H0 := s.heap) 7 78 (fun x : LZ => [(6, .int (y6.2.1 0)), (5, .int (x.2.1 0)), (4, .int r1), (0, .ref (gO g 14)), (1, .ref (gO g d1)), (2, .int p2), (3, .int p3)]) (fun x : LZ => []) (fun x : LZ => (x.1 = σ) ∧ True) ?_ ?_
    ·
      intro y21 hI20 H locs ls hP hS hl
      rw [show y21.1 = σ from hI20.1] at hP
      have hl : lv_has ls 7 [(6, .int (y6.2.1 0)), (5, .int (y21.2.1 0)), (4, .int r1), (0, .ref (gO g 14)), (1, .ref (gO g d1)), (2, .int p2), (3, .int p3)] := hl
      obtain ⟨x22, ex22⟩ : ∃ y : Int32, y = (y6.2.1 0) + 1 := ⟨_, rfl⟩
      have t23 := addO ex22 (by have f0 := b7; have f1 := k14; have f2 := b11; have g0 := rg32 (y6.2.1 0); have z1 : (1 : Int32).toInt = 1 := (by decide); omega)
      refine lv_iinc (v := x22) (lv' := [(6, .int x22), (5, .int (y21.2.1 0)), (4, .int r1), (0, .ref (gO g 14)), (1, .ref (gO g d1)), (2, .int p2), (3, .int p3)]) hx hb dX2_firstChoked_78 hl (k := 0) rfl (by rw [ex22]; rfl) (by decide) rfl (fun ls hl => ?_)
      refine lv_goto (tgt := 14) hx hb dX2_firstChoked_81 (by decide) ?_
      have t24 : ((17 : Int) - x22.toInt).toNat < ((17 : Int) - (y6.2.1 0).toInt).toNat := (by have f0 := b7; have f1 := k14; have f2 := t23; have f3 := b11; have g0 := rg32 (y6.2.1 0); have g1 := rg32 x22; have z1 : (1 : Int32).toInt = 1 := (by decide); omega)
      exact nl4 (σ, lf [x22, (y21.2.1 0)], lg []) ⟨rfl, (show (0 : Int) ≤ (x22 : Int32).toInt ∧ (x22 : Int32).toInt ≤ 16 from (by have f0 := t23; have f1 := b7; have f2 := k14; have f3 := b11; have g0 := rg32 x22; have z1 : (1 : Int32).toInt = 1 := (by decide); omega)), trivial⟩ (show ((17 : Int) - x22.toInt).toNat < _ from t24) _ _ _ hP hS (lv_sub hl [0, 1, 2, 3, 4, 5, 6] rfl)
    ·
      intro nj19
      refine lv_if_eq (tgt := 40) hx hb dX2_firstChoked_31 (by decide) (fun c25 => ?_) (fun c25 => ?_)
      ·
        have k26 := peq32 c25
        refine lv_iload hx hb dX2_firstChoked_40 (lv_at hl 1 rfl) ?_
        refine lv_aload_n hx hb dX2_firstChoked_42 rfl (lv_at hl 4 rfl) ?_
        refine lv_iload_n hx hb dX2_firstChoked_43 rfl (lv_at hl 6 rfl) ?_
        refine lv_iload hx hb dX2_firstChoked_44 (lv_at hl 0 rfl) ?_
        refine lv_iconst (v := 1) hx hb dX2_firstChoked_46 (by decide) ?_
        refine va_calli (va_runV (As := [.int p3, .int (y6.2.1 0), .int 1]) (rest := [.int (y6.2.1 1)]) ⟨hx, hb, hml, hown, hts⟩ (m_X0_toneField l D cy g σ  d1 p3 (y6.2.1 0) (1) _ hJ (show 0 ≤ d1 ∧ d1 < 5 from hd1)) (cwV 3 hts (gd_V q1116 q661 q662 q127 q663) rfl rfl rfl (by decide +kernel) ⟨(Nat.le_of_ble_eq_true rfl), (Nat.le_of_ble_eq_true rfl)⟩) (pv8 hP hK hD hC hS (rv8_0 hK hP hd1)) rfl rfl hl.1 rfl (lv_room (Nat.le_of_ble_eq_true rfl)) dX2_firstChoked_47 ⟨Nat.le_of_ble_eq_true rfl, Nat.le_of_ble_eq_true rfl⟩) hS (fun q _ h => up8 hS q h) (up8 hS) (fun r27 σ28 tS H1 locs ht hvm hw29 hB hz1 hk1 hS => ?_)
        have hP : va_P D clz (WD8 cy g σ28) H1 := by rw [← ht]; exact hB
        clear hB hz1 hk1 hvm ht
        generalize H1 = H at hP hS ⊢
        have hw29E : σ = σ28 := (hw29.1).symm
        subst hw29E
        refine lv_iadd hx hb dX2_firstChoked_50 ?_
        refine lv_topi (fun x30 ex30 => ?_)
        refine lv_istore (lv' := [(5, .int x30), (6, .int (y6.2.1 0)), (4, .int r1), (0, .ref (gO g 14)), (1, .ref (gO g d1)), (2, .int p2), (3, .int p3)]) hx hb dX2_firstChoked_51 hl (by decide) rfl (fun ls hl => ?_)
        refine lv_iload hx hb dX2_firstChoked_53 (lv_at hl 0 rfl) ?_
        refine lv_iload hx hb dX2_firstChoked_55 (lv_at hl 2 rfl) ?_
        refine lv_icmp_le (tgt := 63) hx hb dX2_firstChoked_57 (by decide) (fun c31 => ?_) (fun c31 => ?_)
        ·
          have k32 := ple32 c31
          refine lv_aload_n hx hb dX2_firstChoked_63 rfl (lv_at hl 4 rfl) ?_
          refine lv_iload_n hx hb dX2_firstChoked_64 rfl (lv_at hl 6 rfl) ?_
          refine lv_iload hx hb dX2_firstChoked_65 (lv_at hl 1 rfl) ?_
          refine lv_iconst (v := 3) hx hb dX2_firstChoked_67 (by decide) ?_
          refine va_calli (va_runV (As := [.int p3, .int (y6.2.1 0), .int 3]) (rest := []) ⟨hx, hb, hml, hown, hts⟩ (m_X0_toneField l D cy g σ  d1 p3 (y6.2.1 0) (3) _ hJ (show 0 ≤ d1 ∧ d1 < 5 from hd1)) (cwV 3 hts (gd_V q1116 q661 q662 q127 q663) rfl rfl rfl (by decide +kernel) ⟨(Nat.le_of_ble_eq_true rfl), (Nat.le_of_ble_eq_true rfl)⟩) (pv8 hP hK hD hC hS (rv8_0 hK hP hd1)) rfl rfl hl.1 rfl (lv_room (Nat.le_of_ble_eq_true rfl)) dX2_firstChoked_68 ⟨Nat.le_of_ble_eq_true rfl, Nat.le_of_ble_eq_true rfl⟩) hS (fun q _ h => up8 hS q h) (up8 hS) (fun r33 σ34 tS H1 locs ht hvm hw35 hB hz1 hk1 hS => ?_)
          have hP : va_P D clz (WD8 cy g σ34) H1 := by rw [← ht]; exact hB
          clear hB hz1 hk1 hvm ht
          generalize H1 = H at hP hS ⊢
          have hw35E : σ = σ34 := (hw35.1).symm
          subst hw35E
          refine lv_iconst (v := 1) hx hb dX2_firstChoked_71 (by decide) ?_
          refine lv_icmp_ne (tgt := 78) hx hb dX2_firstChoked_72 (by decide) (fun c36 => ?_) (fun c36 => ?_)
          ·
            have k37 := neq32 c36
            exact nj19 (σ, lf [x30], lg []) ⟨rfl, trivial⟩ _ _ _ hP hS (lv_sub hl [1, 0, 2, 3, 4, 5, 6] rfl)
          ·
            have k38 := peq32 c36
            refine lv_iconst (v := 0) hx hb dX2_firstChoked_75 (by decide) ?_
            refine lv_istore (lv' := [(5, .int 0), (6, .int (y6.2.1 0)), (4, .int r1), (0, .ref (gO g 14)), (1, .ref (gO g d1)), (2, .int p2), (3, .int p3)]) hx hb dX2_firstChoked_76 hl (by decide) rfl (fun ls hl => ?_)
            exact nj19 (σ, lf [0], lg []) ⟨rfl, trivial⟩ _ _ _ hP hS (lv_sub hl [1, 0, 2, 3, 4, 5, 6] rfl)
        ·
          have k39 := nle32 c31
          refine lv_iload hx hb dX2_firstChoked_60 (lv_at hl 1 rfl) ?_
          exact W.iret (v := (y6.2.1 0)) hx hb hr (fun tS ht hW => ⟨⟨(y6.2.1 0), σ, rfl, ⟨rfl, (show (-1 : Int) ≤ (y6.2.1 0).toInt ∧ (y6.2.1 0).toInt ≤ 15 from (by have f0 := b7; have f1 := k14; have f2 := b11; have g0 := rg32 (y6.2.1 0); omega)), trivial⟩, (show va_P D clz (WD8 cy g σ) tS.heap by rw [ht]; exact hP)⟩, hS.F ht⟩) hS.2.2 dX2_firstChoked_62
      ·
        have k40 := neq32 c25
        refine lv_iconst (v := 0) hx hb dX2_firstChoked_34 (by decide) ?_
        refine lv_istore (lv' := [(5, .int 0), (6, .int (y6.2.1 0)), (4, .int r1), (0, .ref (gO g 14)), (1, .ref (gO g d1)), (2, .int p2), (3, .int p3)]) hx hb dX2_firstChoked_35 hl (by decide) rfl (fun ls hl => ?_)
        refine lv_goto (tgt := 78) hx hb dX2_firstChoked_37 (by decide) ?_
        exact nj19 (σ, lf [0], lg []) ⟨rfl, trivial⟩ _ _ _ hP hS (lv_sub hl [1, 0, 2, 3, 4, 5, 6] rfl)

theorem q1124 : Cond.code yX8_choked cX8_choked 3 (some .int) ∈ lw_g := lw_gm (List.mem_of_getElem? (i := 1124) (by decide +kernel)) rfl
theorem q1125 : Cond.methodLink RX8 304 yX2_firstChoked ∈ lw_g := lw_gm (List.mem_of_getElem? (i := 1125) (by decide +kernel)) rfl
theorem q1126 : Cond.instanceMethod yX2_firstChoked ∈ lw_g := lw_gm (List.mem_of_getElem? (i := 1126) (by decide +kernel)) rfl
theorem q1127 : Cond.selects RX2 yX2_firstChoked yX2_firstChoked ∈ lw_g := lw_gm (List.mem_of_getElem? (i := 1127) (by decide +kernel)) rfl
theorem dX8_choked_0 : decode cX8_choked 0 = .ok (.aload_n 0, 1) := by decide +kernel
theorem dX8_choked_1 : decode cX8_choked 1 = .ok (.iload_n 1, 1) := by decide +kernel
theorem dX8_choked_2 : decode cX8_choked 2 = .ok (.iload_n 2, 1) := by decide +kernel
theorem dX8_choked_3 : decode cX8_choked 3 = .ok (.invokevirtual 235, 3) := by decide +kernel
theorem dX8_choked_6 : decode cX8_choked 6 = .ok (.ifCond .ne 6, 3) := by decide +kernel
theorem dX8_choked_9 : decode cX8_choked 9 = .ok (.bipush (-2), 2) := by decide +kernel
theorem dX8_choked_11 : decode cX8_choked 11 = .ok (.ireturn, 1) := by decide +kernel
theorem dX8_choked_12 : decode cX8_choked 12 = .ok (.aload_n 0, 1) := by decide +kernel
theorem dX8_choked_13 : decode cX8_choked 13 = .ok (.getfield 60, 3) := by decide +kernel
theorem dX8_choked_16 : decode cX8_choked 16 = .ok (.aload_n 0, 1) := by decide +kernel
theorem dX8_choked_17 : decode cX8_choked 17 = .ok (.getfield 19, 3) := by decide +kernel
theorem dX8_choked_20 : decode cX8_choked 20 = .ok (.iload_n 1, 1) := by decide +kernel
theorem dX8_choked_21 : decode cX8_choked 21 = .ok (.iload_n 2, 1) := by decide +kernel
theorem dX8_choked_22 : decode cX8_choked 22 = .ok (.invokevirtual 304, 3) := by decide +kernel
theorem dX8_choked_25 : decode cX8_choked 25 = .ok (.ireturn, 1) := by decide +kernel
set_option maxHeartbeats 4000000 in
set_option maxRecDepth 100000 in
theorem m_X8_choked (l : Launch) (D : va_G) (cy : Nat → ClassId) (g : Nat → Nat) (σ : ST) (p1 : Int32) (p2 : Int32) (sz : Nat) (hJ : J8 σ)  : Met l yX8_choked (ww yX8_choked cX8_choked 3 (some .int)) ({ frames := 5, cells := 0, slots := 0, locals := 320 }) (va_Pc [.ref (gO g 17), .int p1, .int p2] (pr8 D cy g σ sz)) (qi8 D cy g sz (fun r τ => τ = σ ∧ ((-2 : Int) ≤ r.toInt ∧ r.toInt ≤ 15) ∧ True)) 0 0 (A8 cy g sz) := by
  refine Met.ofW (cc := cX8_choked) (maxL := 3) (ret := (some .int)) (by decide) rfl ?_
  intro p e s m args below meth c s₁ B hml hv
  obtain ⟨rfl, hsz, hP, hK, hD0, hC⟩ := hv
  have hx := B.exec
  have hb := B.bytes
  have hr := B.returns
  have hts := hts_g (atoms_spec (ws := ww yX8_choked cX8_choked 3 (some .int)) B.pre)
  have hown : s.vm.findClass RX8 = some m.cls := findClass_of_methodNamed B.named
  have hlocks := B.notSynchronized
  clear B
  subst hsz
  have hD := fun τ => A8_D (sz := s.heap.size) hD0 τ
  clear hD0
  have hS : va_S (A8 cy g s.heap.size) s.heap s.heap [] := va_S.rf
  have hl := lv_entry ([.ref (gO g 17), .int p1, .int p2]) (n := 3) (Nat.le_of_ble_eq_true rfl)
  rw [lg_entry_eq]
  generalize (lg_sl ([.ref (gO g 17), .int p1, .int p2]) ++ List.replicate (3 - (lg_sl ([.ref (gO g 17), .int p1, .int p2])).length) Slot.unset).toArray = ls at hl ⊢
  have hl : lv_has ls 3 [(0, .ref (gO g 17)), (1, .int p1), (2, .int p2)] := hl
  refine lv_aload_n hx hb dX8_choked_0 rfl (lv_at hl 0 rfl) ?_
  refine lv_iload_n hx hb dX8_choked_1 rfl (lv_at hl 1 rfl) ?_
  refine lv_iload_n hx hb dX8_choked_2 rfl (lv_at hl 2 rfl) ?_
  refine va_calli (va_runV (As := [.int p1, .int p2]) (rest := []) ⟨hx, hb, hml, hown, hts⟩ (m_X8_hasPair l D cy g σ  p1 p2 _ hJ ) (cwV 2 hts (gd_V q918 q920 q19 q125 q921) rfl rfl rfl (by decide +kernel) ⟨(Nat.le_of_ble_eq_true rfl), (Nat.le_of_ble_eq_true rfl)⟩) (pv8 hP hK hD hC hS (rv8_8 hK hP)) rfl rfl hl.1 rfl (lv_room (Nat.le_of_ble_eq_true rfl)) dX8_choked_3 ⟨Nat.le_of_ble_eq_true rfl, Nat.le_of_ble_eq_true rfl⟩) hS (fun q _ h => up8 hS q h) (up8 hS) (fun r1 σ2 tS H1 locs ht hvm hw3 hB hz1 hk1 hS => ?_)
  have hP : va_P D clz (WD8 cy g σ2) H1 := by rw [← ht]; exact hB
  clear hB hz1 hk1 hvm ht
  generalize H1 = H at hP hS ⊢
  have hw3E : σ = σ2 := (hw3.1).symm
  subst hw3E
  have b4 : (0 : Int) ≤ r1.toInt ∧ r1.toInt ≤ 1 := hw3.2.1
  refine lv_if_ne (tgt := 12) hx hb dX8_choked_6 (by decide) (fun c5 => ?_) (fun c5 => ?_)
  ·
    have k6 := neq32 c5
    refine lv_aload_n hx hb dX8_choked_12 rfl (lv_at hl 0 rfl) ?_
    refine g8_8_9 hx hb hts hown hK hP (hts _ q443) dX8_choked_13 ?_
    refine lv_aload_n hx hb dX8_choked_16 rfl (lv_at hl 0 rfl) ?_
    obtain ⟨dx7, edx7⟩ : ∃ z : Nat, ((σ 17).1 1).toInt.toNat = z := ⟨_, rfl⟩
    have hdx7 : 0 ≤ dx7 ∧ dx7 < 5 := mnow (by have f0 := j8_8_1 hJ rfl; omega) edx7
    refine g8_8_1 (o := dx7) hx hb hts hown hK hP edx7 (hts _ q435) dX8_choked_17 ?_
    refine lv_iload_n hx hb dX8_choked_20 rfl (lv_at hl 1 rfl) ?_
    refine lv_iload_n hx hb dX8_choked_21 rfl (lv_at hl 2 rfl) ?_
    refine va_calli (va_runV (As := [.ref (gO g dx7), .int p1, .int p2]) (rest := []) ⟨hx, hb, hml, hown, hts⟩ (m_X2_firstChoked l D cy g σ  dx7 p1 p2 _ hJ (show 0 ≤ dx7 ∧ dx7 < 5 from hdx7)) (cwV 3 hts (gd_V q1125 q1126 q1127 q130 q1128) rfl rfl rfl (by decide +kernel) ⟨(Nat.le_of_ble_eq_true rfl), (Nat.le_of_ble_eq_true rfl)⟩) (pv8 hP hK hD hC hS (rv8_2 hK hP)) rfl rfl hl.1 rfl (lv_room (Nat.le_of_ble_eq_true rfl)) dX8_choked_22 ⟨Nat.le_of_ble_eq_true rfl, Nat.le_of_ble_eq_true rfl⟩) hS (fun q _ h => up8 hS q h) (up8 hS) (fun r8 σ9 tS H1 locs ht hvm hw10 hB hz1 hk1 hS => ?_)
    have hP : va_P D clz (WD8 cy g σ9) H1 := by rw [← ht]; exact hB
    clear hB hz1 hk1 hvm ht
    generalize H1 = H at hP hS ⊢
    have hw10E : σ = σ9 := (hw10.1).symm
    subst hw10E
    have b11 : (-1 : Int) ≤ r8.toInt ∧ r8.toInt ≤ 15 := hw10.2.1
    exact W.iret (v := r8) hx hb hr (fun tS ht hW => ⟨⟨r8, σ, rfl, ⟨rfl, (show (-2 : Int) ≤ r8.toInt ∧ r8.toInt ≤ 15 from (by have f0 := b11; have g0 := rg32 r8; omega)), trivial⟩, (show va_P D clz (WD8 cy g σ) tS.heap by rw [ht]; exact hP)⟩, hS.F ht⟩) hS.2.2 dX8_choked_25
  ·
    have k12 := peq32 c5
    refine lv_bipush (v := (-2)) hx hb dX8_choked_9 (by decide) ?_
    exact W.iret (v := (-2)) hx hb hr (fun tS ht hW => ⟨⟨(-2), σ, rfl, ⟨rfl, (show (-2 : Int) ≤ ((-2) : Int32).toInt ∧ ((-2) : Int32).toInt ≤ 15 from (by have zm2 : ((-2) : Int32).toInt = (-2) := (by decide); omega)), trivial⟩, (show va_P D clz (WD8 cy g σ) tS.heap by rw [ht]; exact hP)⟩, hS.F ht⟩) hS.2.2 dX8_choked_11

theorem q1141 : Cond.code yX8_loadAfter cX8_loadAfter 5 (some .int) ∈ lw_g := lw_gm (List.mem_of_getElem? (i := 1141) (by decide +kernel)) rfl
theorem q1142 : Cond.methodLink RX8 323 Lib.Math.max.name ∈ lw_g := lw_gm (List.mem_of_getElem? (i := 1142) (by decide +kernel)) rfl
theorem dX8_loadAfter_0 : decode cX8_loadAfter 0 = .ok (.aload_n 0, 1) := by decide +kernel
theorem dX8_loadAfter_1 : decode cX8_loadAfter 1 = .ok (.getfield 19, 3) := by decide +kernel
theorem dX8_loadAfter_4 : decode cX8_loadAfter 4 = .ok (.iload_n 2, 1) := by decide +kernel
theorem dX8_loadAfter_5 : decode cX8_loadAfter 5 = .ok (.iload_n 3, 1) := by decide +kernel
theorem dX8_loadAfter_6 : decode cX8_loadAfter 6 = .ok (.iconst 1, 1) := by decide +kernel
theorem dX8_loadAfter_7 : decode cX8_loadAfter 7 = .ok (.invokevirtual 138, 3) := by decide +kernel
theorem dX8_loadAfter_10 : decode cX8_loadAfter 10 = .ok (.istore 4, 2) := by decide +kernel
theorem dX8_loadAfter_12 : decode cX8_loadAfter 12 = .ok (.aload_n 0, 1) := by decide +kernel
theorem dX8_loadAfter_13 : decode cX8_loadAfter 13 = .ok (.getfield 19, 3) := by decide +kernel
theorem dX8_loadAfter_16 : decode cX8_loadAfter 16 = .ok (.iload_n 2, 1) := by decide +kernel
theorem dX8_loadAfter_17 : decode cX8_loadAfter 17 = .ok (.iload_n 3, 1) := by decide +kernel
theorem dX8_loadAfter_18 : decode cX8_loadAfter 18 = .ok (.invokevirtual 153, 3) := by decide +kernel
theorem dX8_loadAfter_21 : decode cX8_loadAfter 21 = .ok (.ifCond .eq 14, 3) := by decide +kernel
theorem dX8_loadAfter_24 : decode cX8_loadAfter 24 = .ok (.iconst 0, 1) := by decide +kernel
theorem dX8_loadAfter_25 : decode cX8_loadAfter 25 = .ok (.iload_n 1, 1) := by decide +kernel
theorem dX8_loadAfter_26 : decode cX8_loadAfter 26 = .ok (.iconst 2, 1) := by decide +kernel
theorem dX8_loadAfter_27 : decode cX8_loadAfter 27 = .ok (.iload 4, 2) := by decide +kernel
theorem dX8_loadAfter_29 : decode cX8_loadAfter 29 = .ok (.imul, 1) := by decide +kernel
theorem dX8_loadAfter_30 : decode cX8_loadAfter 30 = .ok (.isub, 1) := by decide +kernel
theorem dX8_loadAfter_31 : decode cX8_loadAfter 31 = .ok (.invokestatic 323, 3) := by decide +kernel
theorem dX8_loadAfter_34 : decode cX8_loadAfter 34 = .ok (.ireturn, 1) := by decide +kernel
theorem dX8_loadAfter_35 : decode cX8_loadAfter 35 = .ok (.iload_n 1, 1) := by decide +kernel
theorem dX8_loadAfter_36 : decode cX8_loadAfter 36 = .ok (.iload 4, 2) := by decide +kernel
theorem dX8_loadAfter_38 : decode cX8_loadAfter 38 = .ok (.iconst 1, 1) := by decide +kernel
theorem dX8_loadAfter_39 : decode cX8_loadAfter 39 = .ok (.aload_n 0, 1) := by decide +kernel
theorem dX8_loadAfter_40 : decode cX8_loadAfter 40 = .ok (.getfield 53, 3) := by decide +kernel
theorem dX8_loadAfter_43 : decode cX8_loadAfter 43 = .ok (.aload_n 0, 1) := by decide +kernel
theorem dX8_loadAfter_44 : decode cX8_loadAfter 44 = .ok (.getfield 53, 3) := by decide +kernel
theorem dX8_loadAfter_47 : decode cX8_loadAfter 47 = .ok (.iload_n 3, 1) := by decide +kernel
theorem dX8_loadAfter_48 : decode cX8_loadAfter 48 = .ok (.invokevirtual 257, 3) := by decide +kernel
theorem dX8_loadAfter_51 : decode cX8_loadAfter 51 = .ok (.iconst 0, 1) := by decide +kernel
theorem dX8_loadAfter_52 : decode cX8_loadAfter 52 = .ok (.invokevirtual 260, 3) := by decide +kernel
theorem dX8_loadAfter_55 : decode cX8_loadAfter 55 = .ok (.iconst 3, 1) := by decide +kernel
theorem dX8_loadAfter_56 : decode cX8_loadAfter 56 = .ok (.isub, 1) := by decide +kernel
theorem dX8_loadAfter_57 : decode cX8_loadAfter 57 = .ok (.invokestatic 323, 3) := by decide +kernel
theorem dX8_loadAfter_60 : decode cX8_loadAfter 60 = .ok (.imul, 1) := by decide +kernel
theorem dX8_loadAfter_61 : decode cX8_loadAfter 61 = .ok (.iadd, 1) := by decide +kernel
theorem dX8_loadAfter_62 : decode cX8_loadAfter 62 = .ok (.ireturn, 1) := by decide +kernel
set_option maxHeartbeats 4000000 in
set_option maxRecDepth 100000 in
theorem m_X8_loadAfter (l : Launch) (D : va_G) (cy : Nat → ClassId) (g : Nat → Nat) (σ : ST) (p1 : Int32) (p2 : Int32) (p3 : Int32) (sz : Nat) (hJ : J8 σ) (h0 : (0 : Int) ≤ p3.toInt ∧ p3.toInt ≤ 15) : Met l yX8_loadAfter (ww yX8_loadAfter cX8_loadAfter 5 (some .int)) ({ frames := 4, cells := 0, slots := 0, locals := 256 }) (va_Pc [.ref (gO g 17), .int p1, .int p2, .int p3] (pr8 D cy g σ sz)) (qi8 D cy g sz (fun r τ => τ = σ ∧ True)) 0 0 (A8 cy g sz) := by
  refine Met.ofW (cc := cX8_loadAfter) (maxL := 5) (ret := (some .int)) (by decide) rfl ?_
  intro p e s m args below meth c s₁ B hml hv
  obtain ⟨rfl, hsz, hP, hK, hD0, hC⟩ := hv
  have hx := B.exec
  have hb := B.bytes
  have hr := B.returns
  have hts := hts_g (atoms_spec (ws := ww yX8_loadAfter cX8_loadAfter 5 (some .int)) B.pre)
  have hown : s.vm.findClass RX8 = some m.cls := findClass_of_methodNamed B.named
  have hlocks := B.notSynchronized
  clear B
  subst hsz
  have hD := fun τ => A8_D (sz := s.heap.size) hD0 τ
  clear hD0
  have hS : va_S (A8 cy g s.heap.size) s.heap s.heap [] := va_S.rf
  have hl := lv_entry ([.ref (gO g 17), .int p1, .int p2, .int p3]) (n := 5) (Nat.le_of_ble_eq_true rfl)
  rw [lg_entry_eq]
  generalize (lg_sl ([.ref (gO g 17), .int p1, .int p2, .int p3]) ++ List.replicate (5 - (lg_sl ([.ref (gO g 17), .int p1, .int p2, .int p3])).length) Slot.unset).toArray = ls at hl ⊢
  have hl : lv_has ls 5 [(0, .ref (gO g 17)), (1, .int p1), (2, .int p2), (3, .int p3)] := hl
  refine lv_aload_n hx hb dX8_loadAfter_0 rfl (lv_at hl 0 rfl) ?_
  obtain ⟨dx1, edx1⟩ : ∃ z : Nat, ((σ 17).1 1).toInt.toNat = z := ⟨_, rfl⟩
  have hdx1 : 0 ≤ dx1 ∧ dx1 < 5 := mnow (by have f0 := j8_8_1 hJ rfl; omega) edx1
  refine g8_8_1 (o := dx1) hx hb hts hown hK hP edx1 (hts _ q435) dX8_loadAfter_1 ?_
  refine lv_iload_n hx hb dX8_loadAfter_4 rfl (lv_at hl 2 rfl) ?_
  refine lv_iload_n hx hb dX8_loadAfter_5 rfl (lv_at hl 3 rfl) ?_
  refine lv_iconst (v := 1) hx hb dX8_loadAfter_6 (by decide) ?_
  refine va_calli (va_runV (As := [.int p2, .int p3, .int 1]) (rest := []) ⟨hx, hb, hml, hown, hts⟩ (m_X0_toneField l D cy g σ  dx1 p2 p3 (1) _ hJ (show 0 ≤ dx1 ∧ dx1 < 5 from hdx1)) (cwV 3 hts (gd_V q733 q661 q662 q127 q663) rfl rfl rfl (by decide +kernel) ⟨(Nat.le_of_ble_eq_true rfl), (Nat.le_of_ble_eq_true rfl)⟩) (pv8 hP hK hD hC hS (rv8_0 hK hP hdx1)) rfl rfl hl.1 rfl (lv_room (Nat.le_of_ble_eq_true rfl)) dX8_loadAfter_7 ⟨Nat.le_of_ble_eq_true rfl, Nat.le_of_ble_eq_true rfl⟩) hS (fun q _ h => up8 hS q h) (up8 hS) (fun r2 σ3 tS H1 locs ht hvm hw4 hB hz1 hk1 hS => ?_)
  have hP : va_P D clz (WD8 cy g σ3) H1 := by rw [← ht]; exact hB
  clear hB hz1 hk1 hvm ht
  generalize H1 = H at hP hS ⊢
  have hw4E : σ = σ3 := (hw4.1).symm
  subst hw4E
  refine lv_istore (lv' := [(4, .int r2), (0, .ref (gO g 17)), (1, .int p1), (2, .int p2), (3, .int p3)]) hx hb dX8_loadAfter_10 hl (by decide) rfl (fun ls hl => ?_)
  refine lv_aload_n hx hb dX8_loadAfter_12 rfl (lv_at hl 1 rfl) ?_
  refine g8_8_1 (o := dx1) hx hb hts hown hK hP edx1 (hts _ q435) dX8_loadAfter_13 ?_
  refine lv_iload_n hx hb dX8_loadAfter_16 rfl (lv_at hl 3 rfl) ?_
  refine lv_iload_n hx hb dX8_loadAfter_17 rfl (lv_at hl 4 rfl) ?_
  refine va_calli (va_runV (As := [.int p2, .int p3]) (rest := []) ⟨hx, hb, hml, hown, hts⟩ (m_X0_isRest l D cy g σ  dx1 p2 p3 _ hJ (show 0 ≤ dx1 ∧ dx1 < 5 from hdx1) (show (0 : Int) ≤ p3.toInt ∧ p3.toInt ≤ 15 from (by have f0 := h0; have g0 := rg32 p3; omega))) (cwV 2 hts (gd_V q749 q750 q751 q127 q752) rfl rfl rfl (by decide +kernel) ⟨(Nat.le_of_ble_eq_true rfl), (Nat.le_of_ble_eq_true rfl)⟩) (pv8 hP hK hD hC hS (rv8_0 hK hP hdx1)) rfl rfl hl.1 rfl (lv_room (Nat.le_of_ble_eq_true rfl)) dX8_loadAfter_18 ⟨Nat.le_of_ble_eq_true rfl, Nat.le_of_ble_eq_true rfl⟩) hS (fun q _ h => up8 hS q h) (up8 hS) (fun r5 σ6 tS H1 locs ht hvm hw7 hB hz1 hk1 hS => ?_)
  have hP : va_P D clz (WD8 cy g σ6) H1 := by rw [← ht]; exact hB
  clear hB hz1 hk1 hvm ht
  generalize H1 = H at hP hS ⊢
  have hw7E : σ = σ6 := (hw7.1).symm
  subst hw7E
  have b8 : (0 : Int) ≤ r5.toInt ∧ r5.toInt ≤ 1 := hw7.2.1
  refine lv_if_eq (tgt := 35) hx hb dX8_loadAfter_21 (by decide) (fun c9 => ?_) (fun c9 => ?_)
  ·
    have k10 := peq32 c9
    refine lv_iload_n hx hb dX8_loadAfter_35 rfl (lv_at hl 2 rfl) ?_
    refine lv_iload hx hb dX8_loadAfter_36 (lv_at hl 0 rfl) ?_
    refine lv_iconst (v := 1) hx hb dX8_loadAfter_38 (by decide) ?_
    refine lv_aload_n hx hb dX8_loadAfter_39 rfl (lv_at hl 1 rfl) ?_
    refine g8_8_8 hx hb hts hown hK hP (hts _ q442) dX8_loadAfter_40 ?_
    refine lv_aload_n hx hb dX8_loadAfter_43 rfl (lv_at hl 1 rfl) ?_
    refine g8_8_8 hx hb hts hown hK hP (hts _ q442) dX8_loadAfter_44 ?_
    refine lv_iload_n hx hb dX8_loadAfter_47 rfl (lv_at hl 4 rfl) ?_
    refine va_calli (va_runV (As := [.int p3]) (rest := [.ref (gO g 13), .int 1, .int r2, .int p1]) ⟨hx, hb, hml, hown, hts⟩ (m_X3_stepOf l D cy g σ  p3 _ hJ ) (cwV 1 hts (gd_V q1004 q1005 q1006 q129 q1007) rfl rfl rfl (by decide +kernel) ⟨(Nat.le_of_ble_eq_true rfl), (Nat.le_of_ble_eq_true rfl)⟩) (pv8 hP hK hD hC hS (rv8_3 hK hP)) rfl rfl hl.1 rfl (lv_room (Nat.le_of_ble_eq_true rfl)) dX8_loadAfter_48 ⟨Nat.le_of_ble_eq_true rfl, Nat.le_of_ble_eq_true rfl⟩) hS (fun q _ h => up8 hS q h) (up8 hS) (fun r11 σ12 tS H1 locs ht hvm hw13 hB hz1 hk1 hS => ?_)
    have hP : va_P D clz (WD8 cy g σ12) H1 := by rw [← ht]; exact hB
    clear hB hz1 hk1 hvm ht
    generalize H1 = H at hP hS ⊢
    have hw13E : σ = σ12 := (hw13.1).symm
    subst hw13E
    have b14 : (-1 : Int) ≤ r11.toInt ∧ r11.toInt ≤ 15 := hw13.2.1
    refine lv_iconst (v := 0) hx hb dX8_loadAfter_51 (by decide) ?_
    refine va_calli (va_runV (As := [.int r11, .int 0]) (rest := [.int 1, .int r2, .int p1]) ⟨hx, hb, hml, hown, hts⟩ (m_X3_pickedAt l D cy g σ  r11 (0) _ hJ (show (-1 : Int) ≤ r11.toInt ∧ r11.toInt ≤ 15 from (by have f0 := b14; have g0 := rg32 r11; omega)) (show (0 : Int) ≤ (0 : Int32).toInt ∧ (0 : Int32).toInt ≤ 2 from (by have f0 := b14; have g0 := rg32 r11; have z0 : (0 : Int32).toInt = 0 := (by decide); omega))) (cwV 2 hts (gd_V q1008 q1009 q1010 q129 q1011) rfl rfl rfl (by decide +kernel) ⟨(Nat.le_of_ble_eq_true rfl), (Nat.le_of_ble_eq_true rfl)⟩) (pv8 hP hK hD hC hS (rv8_3 hK hP)) rfl rfl hl.1 rfl (lv_room (Nat.le_of_ble_eq_true rfl)) dX8_loadAfter_52 ⟨Nat.le_of_ble_eq_true rfl, Nat.le_of_ble_eq_true rfl⟩) hS (fun q _ h => up8 hS q h) (up8 hS) (fun r15 σ16 tS H1 locs ht hvm hw17 hB hz1 hk1 hS => ?_)
    have hP : va_P D clz (WD8 cy g σ16) H1 := by rw [← ht]; exact hB
    clear hB hz1 hk1 hvm ht
    generalize H1 = H at hP hS ⊢
    have hw17E : σ = σ16 := (hw17.1).symm
    subst hw17E
    refine lv_iconst (v := 3) hx hb dX8_loadAfter_55 (by decide) ?_
    refine lv_isub hx hb dX8_loadAfter_56 ?_
    refine lv_topi (fun x18 ex18 => ?_)
    refine va_mmax hx hb (hml.trans hl.1.symm) hown (hts _ q1142) (hts _ q977) (hts _ q135) (hts _ q978) (Nat.le_of_ble_eq_true rfl) (Nat.le_of_ble_eq_true rfl) (Nat.le_refl _) (Nat.le_refl _) dX8_loadAfter_57 ?_
    refine lv_topi (fun x19 ex19 => ?_)
    have t20 := maxO ex19
    refine lv_imul hx hb dX8_loadAfter_60 ?_
    refine lv_topi (fun x21 ex21 => ?_)
    refine lv_iadd hx hb dX8_loadAfter_61 ?_
    refine lv_topi (fun x22 ex22 => ?_)
    exact W.iret (v := x22) hx hb hr (fun tS ht hW => ⟨⟨x22, σ, rfl, ⟨rfl, trivial⟩, (show va_P D clz (WD8 cy g σ) tS.heap by rw [ht]; exact hP)⟩, hS.F ht⟩) hS.2.2 dX8_loadAfter_62
  ·
    have k23 := neq32 c9
    refine lv_iconst (v := 0) hx hb dX8_loadAfter_24 (by decide) ?_
    refine lv_iload_n hx hb dX8_loadAfter_25 rfl (lv_at hl 2 rfl) ?_
    refine lv_iconst (v := 2) hx hb dX8_loadAfter_26 (by decide) ?_
    refine lv_iload hx hb dX8_loadAfter_27 (lv_at hl 0 rfl) ?_
    refine lv_imul hx hb dX8_loadAfter_29 ?_
    refine lv_topi (fun x24 ex24 => ?_)
    refine lv_isub hx hb dX8_loadAfter_30 ?_
    refine lv_topi (fun x25 ex25 => ?_)
    refine va_mmax hx hb (hml.trans hl.1.symm) hown (hts _ q1142) (hts _ q977) (hts _ q135) (hts _ q978) (Nat.le_of_ble_eq_true rfl) (Nat.le_of_ble_eq_true rfl) (Nat.le_refl _) (Nat.le_refl _) dX8_loadAfter_31 ?_
    refine lv_topi (fun x26 ex26 => ?_)
    have t27 := maxO ex26
    exact W.iret (v := x26) hx hb hr (fun tS ht hW => ⟨⟨x26, σ, rfl, ⟨rfl, trivial⟩, (show va_P D clz (WD8 cy g σ) tS.heap by rw [ht]; exact hP)⟩, hS.F ht⟩) hS.2.2 dX8_loadAfter_34

theorem q1137 : Cond.code yX8_loadBehind cX8_loadBehind 5 (some .int) ∈ lw_g := lw_gm (List.mem_of_getElem? (i := 1137) (by decide +kernel)) rfl
theorem q1138 : Cond.methodLink RX8 320 yX8_loadAfter ∈ lw_g := lw_gm (List.mem_of_getElem? (i := 1138) (by decide +kernel)) rfl
theorem q1140 : Cond.instanceMethod yX8_loadAfter ∈ lw_g := lw_gm (List.mem_of_getElem? (i := 1140) (by decide +kernel)) rfl
theorem q36 : Cond.selects RX8 yX8_loadAfter yX8_loadAfter ∈ lw_g := lw_gm (List.mem_of_getElem? (i := 36) (by decide +kernel)) rfl
theorem dX8_loadBehind_0 : decode cX8_loadBehind 0 = .ok (.iconst 0, 1) := by decide +kernel
theorem dX8_loadBehind_1 : decode cX8_loadBehind 1 = .ok (.istore_n 3, 1) := by decide +kernel
theorem dX8_loadBehind_2 : decode cX8_loadBehind 2 = .ok (.iconst 0, 1) := by decide +kernel
theorem dX8_loadBehind_3 : decode cX8_loadBehind 3 = .ok (.istore 4, 2) := by decide +kernel
theorem dX8_loadBehind_5 : decode cX8_loadBehind 5 = .ok (.iload 4, 2) := by decide +kernel
theorem dX8_loadBehind_7 : decode cX8_loadBehind 7 = .ok (.iload_n 2, 1) := by decide +kernel
theorem dX8_loadBehind_8 : decode cX8_loadBehind 8 = .ok (.if_icmp .gt 31, 3) := by decide +kernel
theorem dX8_loadBehind_11 : decode cX8_loadBehind 11 = .ok (.iload 4, 2) := by decide +kernel
theorem dX8_loadBehind_13 : decode cX8_loadBehind 13 = .ok (.aload_n 0, 1) := by decide +kernel
theorem dX8_loadBehind_14 : decode cX8_loadBehind 14 = .ok (.getfield 19, 3) := by decide +kernel
theorem dX8_loadBehind_17 : decode cX8_loadBehind 17 = .ok (.iload_n 1, 1) := by decide +kernel
theorem dX8_loadBehind_18 : decode cX8_loadBehind 18 = .ok (.invokevirtual 146, 3) := by decide +kernel
theorem dX8_loadBehind_21 : decode cX8_loadBehind 21 = .ok (.if_icmp .ge 18, 3) := by decide +kernel
theorem dX8_loadBehind_24 : decode cX8_loadBehind 24 = .ok (.aload_n 0, 1) := by decide +kernel
theorem dX8_loadBehind_25 : decode cX8_loadBehind 25 = .ok (.iload_n 3, 1) := by decide +kernel
theorem dX8_loadBehind_26 : decode cX8_loadBehind 26 = .ok (.iload_n 1, 1) := by decide +kernel
theorem dX8_loadBehind_27 : decode cX8_loadBehind 27 = .ok (.iload 4, 2) := by decide +kernel
theorem dX8_loadBehind_29 : decode cX8_loadBehind 29 = .ok (.invokevirtual 320, 3) := by decide +kernel
theorem dX8_loadBehind_32 : decode cX8_loadBehind 32 = .ok (.istore_n 3, 1) := by decide +kernel
theorem dX8_loadBehind_33 : decode cX8_loadBehind 33 = .ok (.iinc 4 1, 3) := by decide +kernel
theorem dX8_loadBehind_36 : decode cX8_loadBehind 36 = .ok (.goto (-31), 3) := by decide +kernel
theorem dX8_loadBehind_39 : decode cX8_loadBehind 39 = .ok (.iload_n 3, 1) := by decide +kernel
theorem dX8_loadBehind_40 : decode cX8_loadBehind 40 = .ok (.ireturn, 1) := by decide +kernel
set_option maxHeartbeats 4000000 in
set_option maxRecDepth 100000 in
theorem m_X8_loadBehind (l : Launch) (D : va_G) (cy : Nat → ClassId) (g : Nat → Nat) (σ : ST) (p1 : Int32) (p2 : Int32) (sz : Nat) (hJ : J8 σ) (h0 : (0 : Int) ≤ p1.toInt ∧ p1.toInt ≤ 2) (h1 : (0 : Int) ≤ p2.toInt ∧ p2.toInt ≤ 15) : Met l yX8_loadBehind (ww yX8_loadBehind cX8_loadBehind 5 (some .int)) ({ frames := 5, cells := 0, slots := 0, locals := 320 }) (va_Pc [.ref (gO g 17), .int p1, .int p2] (pr8 D cy g σ sz)) (qi8 D cy g sz (fun r τ => τ = σ ∧ True)) 0 0 (A8 cy g sz) := by
  refine Met.ofW (cc := cX8_loadBehind) (maxL := 5) (ret := (some .int)) (by decide) rfl ?_
  intro p e s m args below meth c s₁ B hml hv
  obtain ⟨rfl, hsz, hP, hK, hD0, hC⟩ := hv
  have hx := B.exec
  have hb := B.bytes
  have hr := B.returns
  have hts := hts_g (atoms_spec (ws := ww yX8_loadBehind cX8_loadBehind 5 (some .int)) B.pre)
  have hown : s.vm.findClass RX8 = some m.cls := findClass_of_methodNamed B.named
  have hlocks := B.notSynchronized
  clear B
  subst hsz
  have hD := fun τ => A8_D (sz := s.heap.size) hD0 τ
  clear hD0
  have hS : va_S (A8 cy g s.heap.size) s.heap s.heap [] := va_S.rf
  have hl := lv_entry ([.ref (gO g 17), .int p1, .int p2]) (n := 5) (Nat.le_of_ble_eq_true rfl)
  rw [lg_entry_eq]
  generalize (lg_sl ([.ref (gO g 17), .int p1, .int p2]) ++ List.replicate (5 - (lg_sl ([.ref (gO g 17), .int p1, .int p2])).length) Slot.unset).toArray = ls at hl ⊢
  have hl : lv_has ls 5 [(0, .ref (gO g 17)), (1, .int p1), (2, .int p2)] := hl
  refine lv_iconst (v := 0) hx hb dX8_loadBehind_0 (by decide) ?_
  refine lv_istore_n (lv' := [(3, .int 0), (0, .ref (gO g 17)), (1, .int p1), (2, .int p2)]) hx hb dX8_loadBehind_1 rfl hl (by decide) rfl (fun ls hl => ?_)
  refine lv_iconst (v := 0) hx hb dX8_loadBehind_2 (by decide) ?_
  refine lv_istore (lv' := [(4, .int 0), (3, .int 0), (0, .ref (gO g 17)), (1, .int p1), (2, .int p2)]) hx hb dX8_loadBehind_3 hl (by decide) rfl (fun ls hl => ?_)
  refine loop8 5 5 (fun x : LZ => [(4, .int (x.2.1 0)), (3, .int (x.2.1 1)), (0, .ref (gO g 17)), (1, .int p1), (2, .int p2)]) (fun x : LZ => (x.1 = σ) ∧ ((0 : Int) ≤ (x.2.1 0).toInt ∧ (x.2.1 0).toInt ≤ 16) ∧ True) (fun x : LZ => ((17 : Int) - (x.2.1 0).toInt).toNat) ?_ (σ, lf [0, 0], lg []) ⟨rfl, (show (0 : Int) ≤ (0 : Int32).toInt ∧ (0 : Int32).toInt ≤ 16 from (by have z0 : (0 : Int32).toInt = 0 := (by decide); omega)), trivial⟩ _ _ _ hP hS (lv_sub hl [0, 1, 2, 3, 4] rfl)
  intro y3 hI2 nl1 H locs ls hP hS hl
  rw [show y3.1 = σ from hI2.1] at hP
  have b4 : (0 : Int) ≤ (y3.2.1 0).toInt ∧ (y3.2.1 0).toInt ≤ 16 := hI2.2.1
  have hl : lv_has ls 5 [(4, .int (y3.2.1 0)), (3, .int (y3.2.1 1)), (0, .ref (gO g 17)), (1, .int p1), (2, .int p2)] := hl
  refine lv_iload hx hb dX8_loadBehind_5 (lv_at hl 0 rfl) ?_
  refine lv_iload_n hx hb dX8_loadBehind_7 rfl (lv_at hl 4 rfl) ?_
  refine lv_icmp_gt (tgt := 39) hx hb dX8_loadBehind_8 (by decide) (fun c5 => ?_) (fun c5 => ?_)
  ·
    have k6 := plt32 c5
    refine lv_iload_n hx hb dX8_loadBehind_39 rfl (lv_at hl 1 rfl) ?_
    exact W.iret (v := (y3.2.1 1)) hx hb hr (fun tS ht hW => ⟨⟨(y3.2.1 1), σ, rfl, ⟨rfl, trivial⟩, (show va_P D clz (WD8 cy g σ) tS.heap by rw [ht]; exact hP)⟩, hS.F ht⟩) hS.2.2 dX8_loadBehind_40
  ·
    have k7 := nlt32 c5
    refine lv_iload hx hb dX8_loadBehind_11 (lv_at hl 0 rfl) ?_
    refine lv_aload_n hx hb dX8_loadBehind_13 rfl (lv_at hl 2 rfl) ?_
    obtain ⟨dx8, edx8⟩ : ∃ z : Nat, ((σ 17).1 1).toInt.toNat = z := ⟨_, rfl⟩
    have hdx8 : 0 ≤ dx8 ∧ dx8 < 5 := mnow (by have f0 := j8_8_1 hJ rfl; omega) edx8
    refine g8_8_1 (o := dx8) hx hb hts hown hK hP edx8 (hts _ q435) dX8_loadBehind_14 ?_
    refine lv_iload_n hx hb dX8_loadBehind_17 rfl (lv_at hl 3 rfl) ?_
    refine va_calli (va_runV (As := [.int p1]) (rest := [.int (y3.2.1 0)]) ⟨hx, hb, hml, hown, hts⟩ (m_X0_tonesOf l D cy g σ  dx8 p1 _ hJ (show 0 ≤ dx8 ∧ dx8 < 5 from hdx8)) (cwV 1 hts (gd_V q739 q657 q658 q127 q659) rfl rfl rfl (by decide +kernel) ⟨(Nat.le_of_ble_eq_true rfl), (Nat.le_of_ble_eq_true rfl)⟩) (pv8 hP hK hD hC hS (rv8_0 hK hP hdx8)) rfl rfl hl.1 rfl (lv_room (Nat.le_of_ble_eq_true rfl)) dX8_loadBehind_18 ⟨Nat.le_of_ble_eq_true rfl, Nat.le_of_ble_eq_true rfl⟩) hS (fun q _ h => up8 hS q h) (up8 hS) (fun r9 σ10 tS H1 locs ht hvm hw11 hB hz1 hk1 hS => ?_)
    have hP : va_P D clz (WD8 cy g σ10) H1 := by rw [← ht]; exact hB
    clear hB hz1 hk1 hvm ht
    generalize H1 = H at hP hS ⊢
    have hw11E : σ = σ10 := (hw11.1).symm
    subst hw11E
    have b12 : (0 : Int) ≤ r9.toInt ∧ r9.toInt ≤ 16 := hw11.2.1
    refine lv_icmp_ge (tgt := 39) hx hb dX8_loadBehind_21 (by decide) (fun c13 => ?_) (fun c13 => ?_)
    ·
      have k14 := ple32 c13
      refine lv_iload_n hx hb dX8_loadBehind_39 rfl (lv_at hl 1 rfl) ?_
      exact W.iret (v := (y3.2.1 1)) hx hb hr (fun tS ht hW => ⟨⟨(y3.2.1 1), σ, rfl, ⟨rfl, trivial⟩, (show va_P D clz (WD8 cy g σ) tS.heap by rw [ht]; exact hP)⟩, hS.F ht⟩) hS.2.2 dX8_loadBehind_40
    ·
      have k15 := nle32 c13
      refine lv_aload_n hx hb dX8_loadBehind_24 rfl (lv_at hl 2 rfl) ?_
      refine lv_iload_n hx hb dX8_loadBehind_25 rfl (lv_at hl 1 rfl) ?_
      refine lv_iload_n hx hb dX8_loadBehind_26 rfl (lv_at hl 3 rfl) ?_
      refine lv_iload hx hb dX8_loadBehind_27 (lv_at hl 0 rfl) ?_
      refine va_calli (va_runV (As := [.int (y3.2.1 1), .int p1, .int (y3.2.1 0)]) (rest := []) ⟨hx, hb, hml, hown, hts⟩ (m_X8_loadAfter l D cy g σ  (y3.2.1 1) p1 (y3.2.1 0) _ hJ (show (0 : Int) ≤ (y3.2.1 0).toInt ∧ (y3.2.1 0).toInt ≤ 15 from (by have f0 := b4; have f1 := k7; have f2 := k15; have f3 := h1; have f4 := b12; have g0 := rg32 (y3.2.1 0); omega))) (cwV 3 hts (gd_V q1138 q1140 q36 q125 q1141) rfl rfl rfl (by decide +kernel) ⟨(Nat.le_of_ble_eq_true rfl), (Nat.le_of_ble_eq_true rfl)⟩) (pv8 hP hK hD hC hS (rv8_8 hK hP)) rfl rfl hl.1 rfl (lv_room (Nat.le_of_ble_eq_true rfl)) dX8_loadBehind_29 ⟨Nat.le_of_ble_eq_true rfl, Nat.le_of_ble_eq_true rfl⟩) hS (fun q _ h => up8 hS q h) (up8 hS) (fun r16 σ17 tS H1 locs ht hvm hw18 hB hz1 hk1 hS => ?_)
      have hP : va_P D clz (WD8 cy g σ17) H1 := by rw [← ht]; exact hB
      clear hB hz1 hk1 hvm ht
      generalize H1 = H at hP hS ⊢
      have hw18E : σ = σ17 := (hw18.1).symm
      subst hw18E
      refine lv_istore_n (lv' := [(3, .int r16), (4, .int (y3.2.1 0)), (0, .ref (gO g 17)), (1, .int p1), (2, .int p2)]) hx hb dX8_loadBehind_32 rfl hl (by decide) rfl (fun ls hl => ?_)
      obtain ⟨x19, ex19⟩ : ∃ y : Int32, y = (y3.2.1 0) + 1 := ⟨_, rfl⟩
      have t20 := addO ex19 (by have f0 := b4; have f1 := k7; have f2 := k15; have f3 := h1; have f4 := b12; have g0 := rg32 (y3.2.1 0); have z1 : (1 : Int32).toInt = 1 := (by decide); omega)
      refine lv_iinc (v := x19) (lv' := [(4, .int x19), (3, .int r16), (0, .ref (gO g 17)), (1, .int p1), (2, .int p2)]) hx hb dX8_loadBehind_33 hl (k := 1) rfl (by rw [ex19]; rfl) (by decide) rfl (fun ls hl => ?_)
      refine lv_goto (tgt := 5) hx hb dX8_loadBehind_36 (by decide) ?_
      have t21 : ((17 : Int) - x19.toInt).toNat < ((17 : Int) - (y3.2.1 0).toInt).toNat := (by have f0 := b4; have f1 := k7; have f2 := k15; have f3 := t20; have f4 := h1; have f5 := b12; have g0 := rg32 (y3.2.1 0); have g1 := rg32 x19; have z1 : (1 : Int32).toInt = 1 := (by decide); omega)
      exact nl1 (σ, lf [x19, r16], lg []) ⟨rfl, (show (0 : Int) ≤ (x19 : Int32).toInt ∧ (x19 : Int32).toInt ≤ 16 from (by have f0 := t20; have f1 := b4; have f2 := k7; have f3 := k15; have f4 := h1; have f5 := b12; have g0 := rg32 x19; have z1 : (1 : Int32).toInt = 1 := (by decide); omega)), trivial⟩ (show ((17 : Int) - x19.toInt).toNat < _ from t21) _ _ _ hP hS (lv_sub hl [0, 1, 2, 3, 4] rfl)

