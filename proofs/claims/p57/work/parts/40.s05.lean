theorem q752 : Cond.code yX0_isRest cX0_isRest 3 (some .boolean) ∈ lw_g := lw_gm (List.mem_of_getElem? (i := 752) (by decide +kernel)) rfl
theorem dX0_isRest_0 : decode cX0_isRest 0 = .ok (.aload_n 0, 1) := by decide +kernel
theorem dX0_isRest_1 : decode cX0_isRest 1 = .ok (.iload_n 1, 1) := by decide +kernel
theorem dX0_isRest_2 : decode cX0_isRest 2 = .ok (.iload_n 2, 1) := by decide +kernel
theorem dX0_isRest_3 : decode cX0_isRest 3 = .ok (.iconst 0, 1) := by decide +kernel
theorem dX0_isRest_4 : decode cX0_isRest 4 = .ok (.invokevirtual 49, 3) := by decide +kernel
theorem dX0_isRest_7 : decode cX0_isRest 7 = .ok (.iconst (-1), 1) := by decide +kernel
theorem dX0_isRest_8 : decode cX0_isRest 8 = .ok (.if_icmp .ne 7, 3) := by decide +kernel
theorem dX0_isRest_11 : decode cX0_isRest 11 = .ok (.iconst 1, 1) := by decide +kernel
theorem dX0_isRest_12 : decode cX0_isRest 12 = .ok (.goto 4, 3) := by decide +kernel
theorem dX0_isRest_15 : decode cX0_isRest 15 = .ok (.iconst 0, 1) := by decide +kernel
theorem dX0_isRest_16 : decode cX0_isRest 16 = .ok (.ireturn, 1) := by decide +kernel
set_option maxHeartbeats 4000000 in
set_option maxRecDepth 100000 in
theorem m_X0_isRest (l : Launch) (D : va_G) (cy : Nat → ClassId) (g : Nat → Nat) (σ : ST) (d0 : Nat) (p1 : Int32) (p2 : Int32) (sz : Nat) (hJ : J8 σ) (hd0 : 0 ≤ d0 ∧ d0 < 5) (h0 : (0 : Int) ≤ p2.toInt ∧ p2.toInt ≤ 15) : Met l yX0_isRest (ww yX0_isRest cX0_isRest 3 (some .boolean)) ({ frames := 3, cells := 0, slots := 0, locals := 192 }) (va_Pc [.ref (gO g d0), .int p1, .int p2] (pr8 D cy g σ sz)) (qi8 D cy g sz (fun r τ => τ = σ ∧ ((0 : Int) ≤ r.toInt ∧ r.toInt ≤ 1) ∧ True)) 0 0 (A8 cy g sz) := by
  refine Met.ofW (cc := cX0_isRest) (maxL := 3) (ret := (some .boolean)) (by decide) rfl ?_
  intro p e s m args below meth c s₁ B hml hv
  obtain ⟨rfl, hsz, hP, hK, hD0, hC⟩ := hv
  have hx := B.exec
  have hb := B.bytes
  have hr := B.returns
  have hts := hts_g (atoms_spec (ws := ww yX0_isRest cX0_isRest 3 (some .boolean)) B.pre)
  have hown : s.vm.findClass RX0 = some m.cls := findClass_of_methodNamed B.named
  have hlocks := B.notSynchronized
  clear B
  subst hsz
  have hD := fun τ => A8_D (sz := s.heap.size) hD0 τ
  clear hD0
  have hS : va_S (A8 cy g s.heap.size) s.heap s.heap [] := va_S.rf
  have hl := lv_entry ([.ref (gO g d0), .int p1, .int p2]) (n := 3) (Nat.le_of_ble_eq_true rfl)
  rw [lg_entry_eq]
  generalize (lg_sl ([.ref (gO g d0), .int p1, .int p2]) ++ List.replicate (3 - (lg_sl ([.ref (gO g d0), .int p1, .int p2])).length) Slot.unset).toArray = ls at hl ⊢
  have hl : lv_has ls 3 [(0, .ref (gO g d0)), (1, .int p1), (2, .int p2)] := hl
  refine lv_aload_n hx hb dX0_isRest_0 rfl (lv_at hl 0 rfl) ?_
  refine lv_iload_n hx hb dX0_isRest_1 rfl (lv_at hl 1 rfl) ?_
  refine lv_iload_n hx hb dX0_isRest_2 rfl (lv_at hl 2 rfl) ?_
  refine lv_iconst (v := 0) hx hb dX0_isRest_3 (by decide) ?_
  refine va_calli (va_runV (As := [.int p1, .int p2, .int 0]) (rest := []) ⟨hx, hb, hml, hown, hts⟩ (m_X0_toneField l D cy g σ  d0 p1 p2 (0) _ hJ (show 0 ≤ d0 ∧ d0 < 5 from hd0)) (cwV 3 hts (gd_V q660 q661 q662 q127 q663) rfl rfl rfl (by decide +kernel) ⟨(Nat.le_of_ble_eq_true rfl), (Nat.le_of_ble_eq_true rfl)⟩) (pv8 hP hK hD hC hS (rv8_0 hK hP hd0)) rfl rfl hl.1 rfl (lv_room (Nat.le_of_ble_eq_true rfl)) dX0_isRest_4 ⟨Nat.le_of_ble_eq_true rfl, Nat.le_of_ble_eq_true rfl⟩) hS (fun q _ h => up8 hS q h) (up8 hS) (fun r1 σ2 tS H1 locs ht hvm hw3 hB hz1 hk1 hS => ?_)
  have hP : va_P D clz (WD8 cy g σ2) H1 := by rw [← ht]; exact hB
  clear hB hz1 hk1 hvm ht
  generalize H1 = H at hP hS ⊢
  have hw3E : σ = σ2 := (hw3.1).symm
  subst hw3E
  refine lv_iconst (v := (-1)) hx hb dX0_isRest_7 (by decide) ?_
  refine lv_icmp_ne (tgt := 15) hx hb dX0_isRest_8 (by decide) (fun c4 => ?_) (fun c4 => ?_)
  ·
    have k5 := neq32 c4
    refine lv_iconst (v := 0) hx hb dX0_isRest_15 (by decide) ?_
    exact W.zret (v := 0) hx hb hr rfl (fun tS ht hW => ⟨⟨0, σ, rfl, ⟨rfl, (show (0 : Int) ≤ (0 : Int32).toInt ∧ (0 : Int32).toInt ≤ 1 from (by have z0 : (0 : Int32).toInt = 0 := (by decide); omega)), trivial⟩, (show va_P D clz (WD8 cy g σ) tS.heap by rw [ht]; exact hP)⟩, hS.F ht⟩) hS.2.2 dX0_isRest_16
  ·
    have k6 := peq32 c4
    refine lv_iconst (v := 1) hx hb dX0_isRest_11 (by decide) ?_
    refine lv_goto (tgt := 16) hx hb dX0_isRest_12 (by decide) ?_
    exact W.zret (v := 1) hx hb hr rfl (fun tS ht hW => ⟨⟨1, σ, rfl, ⟨rfl, (show (0 : Int) ≤ (1 : Int32).toInt ∧ (1 : Int32).toInt ≤ 1 from (by have z1 : (1 : Int32).toInt = 1 := (by decide); omega)), trivial⟩, (show va_P D clz (WD8 cy g σ) tS.heap by rw [ht]; exact hP)⟩, hS.F ht⟩) hS.2.2 dX0_isRest_16

theorem q748 : Cond.code yX8_phrase cX8_phrase 8 (some .int) ∈ lw_g := lw_gm (List.mem_of_getElem? (i := 748) (by decide +kernel)) rfl
theorem q749 : Cond.methodLink RX8 153 yX0_isRest ∈ lw_g := lw_gm (List.mem_of_getElem? (i := 749) (by decide +kernel)) rfl
theorem q750 : Cond.instanceMethod yX0_isRest ∈ lw_g := lw_gm (List.mem_of_getElem? (i := 750) (by decide +kernel)) rfl
theorem q751 : Cond.selects RX0 yX0_isRest yX0_isRest ∈ lw_g := lw_gm (List.mem_of_getElem? (i := 751) (by decide +kernel)) rfl
theorem dX8_phrase_0 : decode cX8_phrase 0 = .ok (.aload_n 0, 1) := by decide +kernel
theorem dX8_phrase_1 : decode cX8_phrase 1 = .ok (.getfield 19, 3) := by decide +kernel
theorem dX8_phrase_4 : decode cX8_phrase 4 = .ok (.iload_n 1, 1) := by decide +kernel
theorem dX8_phrase_5 : decode cX8_phrase 5 = .ok (.invokevirtual 142, 3) := by decide +kernel
theorem dX8_phrase_8 : decode cX8_phrase 8 = .ok (.ifCond .eq 12, 3) := by decide +kernel
theorem dX8_phrase_11 : decode cX8_phrase 11 = .ok (.iload_n 2, 1) := by decide +kernel
theorem dX8_phrase_12 : decode cX8_phrase 12 = .ok (.ifCond .lt 8, 3) := by decide +kernel
theorem dX8_phrase_15 : decode cX8_phrase 15 = .ok (.iload_n 2, 1) := by decide +kernel
theorem dX8_phrase_16 : decode cX8_phrase 16 = .ok (.iconst 1, 1) := by decide +kernel
theorem dX8_phrase_17 : decode cX8_phrase 17 = .ok (.if_icmp .le 6, 3) := by decide +kernel
theorem dX8_phrase_20 : decode cX8_phrase 20 = .ok (.bipush (-2), 2) := by decide +kernel
theorem dX8_phrase_22 : decode cX8_phrase 22 = .ok (.ireturn, 1) := by decide +kernel
theorem dX8_phrase_23 : decode cX8_phrase 23 = .ok (.iconst 0, 1) := by decide +kernel
theorem dX8_phrase_24 : decode cX8_phrase 24 = .ok (.istore_n 3, 1) := by decide +kernel
theorem dX8_phrase_25 : decode cX8_phrase 25 = .ok (.iconst (-1), 1) := by decide +kernel
theorem dX8_phrase_26 : decode cX8_phrase 26 = .ok (.istore 4, 2) := by decide +kernel
theorem dX8_phrase_28 : decode cX8_phrase 28 = .ok (.iconst 0, 1) := by decide +kernel
theorem dX8_phrase_29 : decode cX8_phrase 29 = .ok (.istore 5, 2) := by decide +kernel
theorem dX8_phrase_31 : decode cX8_phrase 31 = .ok (.iconst 0, 1) := by decide +kernel
theorem dX8_phrase_32 : decode cX8_phrase 32 = .ok (.istore 6, 2) := by decide +kernel
theorem dX8_phrase_34 : decode cX8_phrase 34 = .ok (.iconst 0, 1) := by decide +kernel
theorem dX8_phrase_35 : decode cX8_phrase 35 = .ok (.istore 7, 2) := by decide +kernel
theorem dX8_phrase_37 : decode cX8_phrase 37 = .ok (.iload 7, 2) := by decide +kernel
theorem dX8_phrase_39 : decode cX8_phrase 39 = .ok (.aload_n 0, 1) := by decide +kernel
theorem dX8_phrase_40 : decode cX8_phrase 40 = .ok (.getfield 19, 3) := by decide +kernel
theorem dX8_phrase_43 : decode cX8_phrase 43 = .ok (.iload_n 1, 1) := by decide +kernel
theorem dX8_phrase_44 : decode cX8_phrase 44 = .ok (.invokevirtual 146, 3) := by decide +kernel
theorem dX8_phrase_47 : decode cX8_phrase 47 = .ok (.if_icmp .ge 63, 3) := by decide +kernel
theorem dX8_phrase_50 : decode cX8_phrase 50 = .ok (.aload_n 0, 1) := by decide +kernel
theorem dX8_phrase_51 : decode cX8_phrase 51 = .ok (.getfield 19, 3) := by decide +kernel
theorem dX8_phrase_54 : decode cX8_phrase 54 = .ok (.iload_n 1, 1) := by decide +kernel
theorem dX8_phrase_55 : decode cX8_phrase 55 = .ok (.iload 7, 2) := by decide +kernel
theorem dX8_phrase_57 : decode cX8_phrase 57 = .ok (.invokevirtual 153, 3) := by decide +kernel
theorem dX8_phrase_60 : decode cX8_phrase 60 = .ok (.ifCond .eq 15, 3) := by decide +kernel
theorem dX8_phrase_63 : decode cX8_phrase 63 = .ok (.iconst 0, 1) := by decide +kernel
theorem dX8_phrase_64 : decode cX8_phrase 64 = .ok (.istore 5, 2) := by decide +kernel
theorem dX8_phrase_66 : decode cX8_phrase 66 = .ok (.iload 7, 2) := by decide +kernel
theorem dX8_phrase_68 : decode cX8_phrase 68 = .ok (.iconst 1, 1) := by decide +kernel
theorem dX8_phrase_69 : decode cX8_phrase 69 = .ok (.iadd, 1) := by decide +kernel
theorem dX8_phrase_70 : decode cX8_phrase 70 = .ok (.istore 6, 2) := by decide +kernel
theorem dX8_phrase_72 : decode cX8_phrase 72 = .ok (.goto 32, 3) := by decide +kernel
theorem dX8_phrase_75 : decode cX8_phrase 75 = .ok (.iload 5, 2) := by decide +kernel
theorem dX8_phrase_77 : decode cX8_phrase 77 = .ok (.aload_n 0, 1) := by decide +kernel
theorem dX8_phrase_78 : decode cX8_phrase 78 = .ok (.getfield 19, 3) := by decide +kernel
theorem dX8_phrase_81 : decode cX8_phrase 81 = .ok (.iload_n 1, 1) := by decide +kernel
theorem dX8_phrase_82 : decode cX8_phrase 82 = .ok (.iload 7, 2) := by decide +kernel
theorem dX8_phrase_84 : decode cX8_phrase 84 = .ok (.iconst 1, 1) := by decide +kernel
theorem dX8_phrase_85 : decode cX8_phrase 85 = .ok (.invokevirtual 138, 3) := by decide +kernel
theorem dX8_phrase_88 : decode cX8_phrase 88 = .ok (.iadd, 1) := by decide +kernel
theorem dX8_phrase_89 : decode cX8_phrase 89 = .ok (.istore 5, 2) := by decide +kernel
theorem dX8_phrase_91 : decode cX8_phrase 91 = .ok (.iload 5, 2) := by decide +kernel
theorem dX8_phrase_93 : decode cX8_phrase 93 = .ok (.iload_n 3, 1) := by decide +kernel
theorem dX8_phrase_94 : decode cX8_phrase 94 = .ok (.if_icmp .le 10, 3) := by decide +kernel
theorem dX8_phrase_97 : decode cX8_phrase 97 = .ok (.iload 5, 2) := by decide +kernel
theorem dX8_phrase_99 : decode cX8_phrase 99 = .ok (.istore_n 3, 1) := by decide +kernel
theorem dX8_phrase_100 : decode cX8_phrase 100 = .ok (.iload 6, 2) := by decide +kernel
theorem dX8_phrase_102 : decode cX8_phrase 102 = .ok (.istore 4, 2) := by decide +kernel
theorem dX8_phrase_104 : decode cX8_phrase 104 = .ok (.iinc 7 1, 3) := by decide +kernel
theorem dX8_phrase_107 : decode cX8_phrase 107 = .ok (.goto (-70), 3) := by decide +kernel
theorem dX8_phrase_110 : decode cX8_phrase 110 = .ok (.iload_n 2, 1) := by decide +kernel
theorem dX8_phrase_111 : decode cX8_phrase 111 = .ok (.ifCond .ne 7, 3) := by decide +kernel
theorem dX8_phrase_114 : decode cX8_phrase 114 = .ok (.iload_n 3, 1) := by decide +kernel
theorem dX8_phrase_115 : decode cX8_phrase 115 = .ok (.goto 5, 3) := by decide +kernel
theorem dX8_phrase_118 : decode cX8_phrase 118 = .ok (.iload 4, 2) := by decide +kernel
theorem dX8_phrase_120 : decode cX8_phrase 120 = .ok (.ireturn, 1) := by decide +kernel
set_option maxHeartbeats 4000000 in
set_option maxRecDepth 100000 in
theorem m_X8_phrase (l : Launch) (D : va_G) (cy : Nat → ClassId) (g : Nat → Nat) (σ : ST) (p1 : Int32) (p2 : Int32) (sz : Nat) (hJ : J8 σ)  : Met l yX8_phrase (ww yX8_phrase cX8_phrase 8 (some .int)) ({ frames := 4, cells := 0, slots := 0, locals := 256 }) (va_Pc [.ref (gO g 17), .int p1, .int p2] (pr8 D cy g σ sz)) (qi8 D cy g sz (fun r τ => τ = σ ∧ ((-2 : Int) ≤ r.toInt ∧ r.toInt ≤ 2147483647) ∧ True)) 0 0 (A8 cy g sz) := by
  refine Met.ofW (cc := cX8_phrase) (maxL := 8) (ret := (some .int)) (by decide) rfl ?_
  intro p e s m args below meth c s₁ B hml hv
  obtain ⟨rfl, hsz, hP, hK, hD0, hC⟩ := hv
  have hx := B.exec
  have hb := B.bytes
  have hr := B.returns
  have hts := hts_g (atoms_spec (ws := ww yX8_phrase cX8_phrase 8 (some .int)) B.pre)
  have hown : s.vm.findClass RX8 = some m.cls := findClass_of_methodNamed B.named
  have hlocks := B.notSynchronized
  clear B
  subst hsz
  have hD := fun τ => A8_D (sz := s.heap.size) hD0 τ
  clear hD0
  have hS : va_S (A8 cy g s.heap.size) s.heap s.heap [] := va_S.rf
  have hl := lv_entry ([.ref (gO g 17), .int p1, .int p2]) (n := 8) (Nat.le_of_ble_eq_true rfl)
  rw [lg_entry_eq]
  generalize (lg_sl ([.ref (gO g 17), .int p1, .int p2]) ++ List.replicate (8 - (lg_sl ([.ref (gO g 17), .int p1, .int p2])).length) Slot.unset).toArray = ls at hl ⊢
  have hl : lv_has ls 8 [(0, .ref (gO g 17)), (1, .int p1), (2, .int p2)] := hl
  refine lv_aload_n hx hb dX8_phrase_0 rfl (lv_at hl 0 rfl) ?_
  obtain ⟨dx1, edx1⟩ : ∃ z : Nat, ((σ 17).1 1).toInt.toNat = z := ⟨_, rfl⟩
  have hdx1 : 0 ≤ dx1 ∧ dx1 < 5 := mnow (by have f0 := j8_8_1 hJ rfl; omega) edx1
  refine g8_8_1 (o := dx1) hx hb hts hown hK hP edx1 (hts _ q435) dX8_phrase_1 ?_
  refine lv_iload_n hx hb dX8_phrase_4 rfl (lv_at hl 1 rfl) ?_
  refine va_calli (va_runV (As := [.int p1]) (rest := []) ⟨hx, hb, hml, hown, hts⟩ (m_X0_hasPart l D cy g σ  dx1 p1 _ hJ (show 0 ≤ dx1 ∧ dx1 < 5 from hdx1)) (cwV 1 hts (gd_V q738 q649 q650 q127 q651) rfl rfl rfl (by decide +kernel) ⟨(Nat.le_of_ble_eq_true rfl), (Nat.le_of_ble_eq_true rfl)⟩) (pv8 hP hK hD hC hS (rv8_0 hK hP hdx1)) rfl rfl hl.1 rfl (lv_room (Nat.le_of_ble_eq_true rfl)) dX8_phrase_5 ⟨Nat.le_of_ble_eq_true rfl, Nat.le_of_ble_eq_true rfl⟩) hS (fun q _ h => up8 hS q h) (up8 hS) (fun r2 σ3 tS H1 locs ht hvm hw4 hB hz1 hk1 hS => ?_)
  have hP : va_P D clz (WD8 cy g σ3) H1 := by rw [← ht]; exact hB
  clear hB hz1 hk1 hvm ht
  generalize H1 = H at hP hS ⊢
  have hw4E : σ = σ3 := (hw4.1).symm
  subst hw4E
  have b5 : (0 : Int) ≤ r2.toInt ∧ r2.toInt ≤ 1 := hw4.2.1
  have b6 : (r2.toInt = 0) ∨ ((0 : Int) ≤ p1.toInt ∧ p1.toInt ≤ 2) := hw4.2.2.1
  refine lv_if_eq (tgt := 20) hx hb dX8_phrase_8 (by decide) (fun c7 => ?_) (fun c7 => ?_)
  ·
    have k8 := peq32 c7
    refine lv_bipush (v := (-2)) hx hb dX8_phrase_20 (by decide) ?_
    exact W.iret (v := (-2)) hx hb hr (fun tS ht hW => ⟨⟨(-2), σ, rfl, ⟨rfl, (show (-2 : Int) ≤ ((-2) : Int32).toInt ∧ ((-2) : Int32).toInt ≤ 2147483647 from (by have zm2 : ((-2) : Int32).toInt = (-2) := (by decide); omega)), trivial⟩, (show va_P D clz (WD8 cy g σ) tS.heap by rw [ht]; exact hP)⟩, hS.F ht⟩) hS.2.2 dX8_phrase_22
  ·
    have k9 := neq32 c7
    refine lv_iload_n hx hb dX8_phrase_11 rfl (lv_at hl 2 rfl) ?_
    refine lv_if_lt (tgt := 20) hx hb dX8_phrase_12 (by decide) (fun c10 => ?_) (fun c10 => ?_)
    ·
      have k11 := plt32 c10
      refine lv_bipush (v := (-2)) hx hb dX8_phrase_20 (by decide) ?_
      exact W.iret (v := (-2)) hx hb hr (fun tS ht hW => ⟨⟨(-2), σ, rfl, ⟨rfl, (show (-2 : Int) ≤ ((-2) : Int32).toInt ∧ ((-2) : Int32).toInt ≤ 2147483647 from (by have zm2 : ((-2) : Int32).toInt = (-2) := (by decide); omega)), trivial⟩, (show va_P D clz (WD8 cy g σ) tS.heap by rw [ht]; exact hP)⟩, hS.F ht⟩) hS.2.2 dX8_phrase_22
    ·
      have k12 := nlt32 c10
      refine lv_iload_n hx hb dX8_phrase_15 rfl (lv_at hl 2 rfl) ?_
      refine lv_iconst (v := 1) hx hb dX8_phrase_16 (by decide) ?_
      refine lv_icmp_le (tgt := 23) hx hb dX8_phrase_17 (by decide) (fun c13 => ?_) (fun c13 => ?_)
      ·
        have k14 := ple32 c13
        refine lv_iconst (v := 0) hx hb dX8_phrase_23 (by decide) ?_
        refine lv_istore_n (lv' := [(3, .int 0), (0, .ref (gO g 17)), (1, .int p1), (2, .int p2)]) hx hb dX8_phrase_24 rfl hl (by decide) rfl (fun ls hl => ?_)
        refine lv_iconst (v := (-1)) hx hb dX8_phrase_25 (by decide) ?_
        refine lv_istore (lv' := [(4, .int (-1)), (3, .int 0), (0, .ref (gO g 17)), (1, .int p1), (2, .int p2)]) hx hb dX8_phrase_26 hl (by decide) rfl (fun ls hl => ?_)
        refine lv_iconst (v := 0) hx hb dX8_phrase_28 (by decide) ?_
        refine lv_istore (lv' := [(5, .int 0), (4, .int (-1)), (3, .int 0), (0, .ref (gO g 17)), (1, .int p1), (2, .int p2)]) hx hb dX8_phrase_29 hl (by decide) rfl (fun ls hl => ?_)
        refine lv_iconst (v := 0) hx hb dX8_phrase_31 (by decide) ?_
        refine lv_istore (lv' := [(6, .int 0), (5, .int 0), (4, .int (-1)), (3, .int 0), (0, .ref (gO g 17)), (1, .int p1), (2, .int p2)]) hx hb dX8_phrase_32 hl (by decide) rfl (fun ls hl => ?_)
        refine lv_iconst (v := 0) hx hb dX8_phrase_34 (by decide) ?_
        refine lv_istore (lv' := [(7, .int 0), (6, .int 0), (5, .int 0), (4, .int (-1)), (3, .int 0), (0, .ref (gO g 17)), (1, .int p1), (2, .int p2)]) hx hb dX8_phrase_35 hl (by decide) rfl (fun ls hl => ?_)
        refine loop8 8 37 (fun x : LZ => [(7, .int (x.2.1 0)), (6, .int (x.2.1 1)), (5, .int (x.2.1 2)), (4, .int (x.2.1 3)), (3, .int (x.2.1 4)), (0, .ref (gO g 17)), (1, .int p1), (2, .int p2)]) (fun x : LZ => (x.1 = σ) ∧ ((0 : Int) ≤ (x.2.1 0).toInt ∧ (x.2.1 0).toInt ≤ 16) ∧ ((0 : Int) ≤ (x.2.1 1).toInt ∧ (x.2.1 1).toInt ≤ 16) ∧ ((-1 : Int) ≤ (x.2.1 3).toInt ∧ (x.2.1 3).toInt ≤ 16) ∧ ((0 : Int) ≤ (x.2.1 4).toInt ∧ (x.2.1 4).toInt ≤ 2147483647) ∧ True) (fun x : LZ => ((17 : Int) - (x.2.1 0).toInt).toNat) ?_ (σ, lf [0, 0, 0, (-1), 0], lg []) ⟨rfl, (show (0 : Int) ≤ (0 : Int32).toInt ∧ (0 : Int32).toInt ≤ 16 from (by have z0 : (0 : Int32).toInt = 0 := (by decide); omega)), (show (0 : Int) ≤ (0 : Int32).toInt ∧ (0 : Int32).toInt ≤ 16 from (by have z0 : (0 : Int32).toInt = 0 := (by decide); omega)), (show (-1 : Int) ≤ ((-1) : Int32).toInt ∧ ((-1) : Int32).toInt ≤ 16 from (by have zm1 : ((-1) : Int32).toInt = (-1) := (by decide); omega)), (show (0 : Int) ≤ (0 : Int32).toInt ∧ (0 : Int32).toInt ≤ 2147483647 from (by have z0 : (0 : Int32).toInt = 0 := (by decide); omega)), trivial⟩ _ _ _ hP hS (lv_sub hl [0, 1, 2, 3, 4, 5, 6, 7] rfl)
        intro y17 hI16 nl15 H locs ls hP hS hl
        rw [show y17.1 = σ from hI16.1] at hP
        have b18 : (0 : Int) ≤ (y17.2.1 0).toInt ∧ (y17.2.1 0).toInt ≤ 16 := hI16.2.1
        have b19 : (0 : Int) ≤ (y17.2.1 1).toInt ∧ (y17.2.1 1).toInt ≤ 16 := hI16.2.2.1
        have b20 : (-1 : Int) ≤ (y17.2.1 3).toInt ∧ (y17.2.1 3).toInt ≤ 16 := hI16.2.2.2.1
        have b21 : (0 : Int) ≤ (y17.2.1 4).toInt ∧ (y17.2.1 4).toInt ≤ 2147483647 := hI16.2.2.2.2.1
        have hl : lv_has ls 8 [(7, .int (y17.2.1 0)), (6, .int (y17.2.1 1)), (5, .int (y17.2.1 2)), (4, .int (y17.2.1 3)), (3, .int (y17.2.1 4)), (0, .ref (gO g 17)), (1, .int p1), (2, .int p2)] := hl
        refine lv_iload hx hb dX8_phrase_37 (lv_at hl 0 rfl) ?_
        refine lv_aload_n hx hb dX8_phrase_39 rfl (lv_at hl 5 rfl) ?_
        refine g8_8_1 (o := dx1) hx hb hts hown hK hP edx1 (hts _ q435) dX8_phrase_40 ?_
        refine lv_iload_n hx hb dX8_phrase_43 rfl (lv_at hl 6 rfl) ?_
        refine va_calli (va_runV (As := [.int p1]) (rest := [.int (y17.2.1 0)]) ⟨hx, hb, hml, hown, hts⟩ (m_X0_tonesOf l D cy g σ  dx1 p1 _ hJ (show 0 ≤ dx1 ∧ dx1 < 5 from hdx1)) (cwV 1 hts (gd_V q739 q657 q658 q127 q659) rfl rfl rfl (by decide +kernel) ⟨(Nat.le_of_ble_eq_true rfl), (Nat.le_of_ble_eq_true rfl)⟩) (pv8 hP hK hD hC hS (rv8_0 hK hP hdx1)) rfl rfl hl.1 rfl (lv_room (Nat.le_of_ble_eq_true rfl)) dX8_phrase_44 ⟨Nat.le_of_ble_eq_true rfl, Nat.le_of_ble_eq_true rfl⟩) hS (fun q _ h => up8 hS q h) (up8 hS) (fun r22 σ23 tS H1 locs ht hvm hw24 hB hz1 hk1 hS => ?_)
        have hP : va_P D clz (WD8 cy g σ23) H1 := by rw [← ht]; exact hB
        clear hB hz1 hk1 hvm ht
        generalize H1 = H at hP hS ⊢
        have hw24E : σ = σ23 := (hw24.1).symm
        subst hw24E
        have b25 : (0 : Int) ≤ r22.toInt ∧ r22.toInt ≤ 16 := hw24.2.1
        refine lv_icmp_ge (tgt := 110) hx hb dX8_phrase_47 (by decide) (fun c26 => ?_) (fun c26 => ?_)
        ·
          have k27 := ple32 c26
          refine lv_iload_n hx hb dX8_phrase_110 rfl (lv_at hl 7 rfl) ?_
          refine lv_if_ne (tgt := 118) hx hb dX8_phrase_111 (by decide) (fun c28 => ?_) (fun c28 => ?_)
          ·
            have k29 := neq32 c28
            refine lv_iload hx hb dX8_phrase_118 (lv_at hl 3 rfl) ?_
            exact W.iret (v := (y17.2.1 3)) hx hb hr (fun tS ht hW => ⟨⟨(y17.2.1 3), σ, rfl, ⟨rfl, (show (-2 : Int) ≤ (y17.2.1 3).toInt ∧ (y17.2.1 3).toInt ≤ 2147483647 from (by have f0 := b20; have g0 := rg32 (y17.2.1 3); omega)), trivial⟩, (show va_P D clz (WD8 cy g σ) tS.heap by rw [ht]; exact hP)⟩, hS.F ht⟩) hS.2.2 dX8_phrase_120
          ·
            have k30 := peq32 c28
            refine lv_iload_n hx hb dX8_phrase_114 rfl (lv_at hl 4 rfl) ?_
            refine lv_goto (tgt := 120) hx hb dX8_phrase_115 (by decide) ?_
            exact W.iret (v := (y17.2.1 4)) hx hb hr (fun tS ht hW => ⟨⟨(y17.2.1 4), σ, rfl, ⟨rfl, (show (-2 : Int) ≤ (y17.2.1 4).toInt ∧ (y17.2.1 4).toInt ≤ 2147483647 from (by have f0 := b21; have g0 := rg32 (y17.2.1 4); omega)), trivial⟩, (show va_P D clz (WD8 cy g σ) tS.heap by rw [ht]; exact hP)⟩, hS.F ht⟩) hS.2.2 dX8_phrase_120
        ·
          have k31 := nle32 c26
          refine lv_aload_n hx hb dX8_phrase_50 rfl (lv_at hl 5 rfl) ?_
          refine g8_8_1 (o := dx1) hx hb hts hown hK hP edx1 (hts _ q435) dX8_phrase_51 ?_
          refine lv_iload_n hx hb dX8_phrase_54 rfl (lv_at hl 6 rfl) ?_
          refine lv_iload hx hb dX8_phrase_55 (lv_at hl 0 rfl) ?_
          refine va_calli (va_runV (As := [.int p1, .int (y17.2.1 0)]) (rest := []) ⟨hx, hb, hml, hown, hts⟩ (m_X0_isRest l D cy g σ  dx1 p1 (y17.2.1 0) _ hJ (show 0 ≤ dx1 ∧ dx1 < 5 from hdx1) (show (0 : Int) ≤ (y17.2.1 0).toInt ∧ (y17.2.1 0).toInt ≤ 15 from (by have f0 := b18; have f1 := k31; have f2 := b25; have g0 := rg32 (y17.2.1 0); omega))) (cwV 2 hts (gd_V q749 q750 q751 q127 q752) rfl rfl rfl (by decide +kernel) ⟨(Nat.le_of_ble_eq_true rfl), (Nat.le_of_ble_eq_true rfl)⟩) (pv8 hP hK hD hC hS (rv8_0 hK hP hdx1)) rfl rfl hl.1 rfl (lv_room (Nat.le_of_ble_eq_true rfl)) dX8_phrase_57 ⟨Nat.le_of_ble_eq_true rfl, Nat.le_of_ble_eq_true rfl⟩) hS (fun q _ h => up8 hS q h) (up8 hS) (fun r32 σ33 tS H1 locs ht hvm hw34 hB hz1 hk1 hS => ?_)
          have hP : va_P D clz (WD8 cy g σ33) H1 := by rw [← ht]; exact hB
          clear hB hz1 hk1 hvm ht
          generalize H1 = H at hP hS ⊢
          have hw34E : σ = σ33 := (hw34.1).symm
          subst hw34E
          have b35 : (0 : Int) ≤ r32.toInt ∧ r32.toInt ≤ 1 := hw34.2.1
          refine cut8 (D := D) (cy := cy) (g := g) (A := A8 cy g s.heap.size) (H0 := s.heap) 8 104 (fun x : LZ => [(7, .int (y17.2.1 0)), (6, .int (x.2.1 0)), (5, .int (x.2.1 1)), (4, .int (x.2.1 2)), (3, .int (x.2.1 3)), (0, .ref (gO g 17)), (1, .int p1), (2, .int p2)]) (fun x : LZ => []) (fun x : LZ => (x.1 = σ) ∧ ((0 : Int) ≤ (x.2.1 0).toInt ∧ (x.2.1 0).toInt ≤ 16) ∧ ((-1 : Int) ≤ (x.2.1 2).toInt ∧ (x.2.1 2).toInt ≤ 16) ∧ ((0 : Int) ≤ (x.2.1 3).toInt ∧ (x.2.1 3).toInt ≤ 2147483647) ∧ True) ?_ ?_
          ·
            intro y38 hI37 H locs ls hP hS hl
            rw [show y38.1 = σ from hI37.1] at hP
            have b39 : (0 : Int) ≤ (y38.2.1 0).toInt ∧ (y38.2.1 0).toInt ≤ 16 := hI37.2.1
            have b40 : (-1 : Int) ≤ (y38.2.1 2).toInt ∧ (y38.2.1 2).toInt ≤ 16 := hI37.2.2.1
            have b41 : (0 : Int) ≤ (y38.2.1 3).toInt ∧ (y38.2.1 3).toInt ≤ 2147483647 := hI37.2.2.2.1
            have hl : lv_has ls 8 [(7, .int (y17.2.1 0)), (6, .int (y38.2.1 0)), (5, .int (y38.2.1 1)), (4, .int (y38.2.1 2)), (3, .int (y38.2.1 3)), (0, .ref (gO g 17)), (1, .int p1), (2, .int p2)] := hl
            obtain ⟨x42, ex42⟩ : ∃ y : Int32, y = (y17.2.1 0) + 1 := ⟨_, rfl⟩
            have t43 := addO ex42 (by have f0 := b18; have f1 := k31; have f2 := b25; have g0 := rg32 (y17.2.1 0); have z1 : (1 : Int32).toInt = 1 := (by decide); omega)
            refine lv_iinc (v := x42) (lv' := [(7, .int x42), (6, .int (y38.2.1 0)), (5, .int (y38.2.1 1)), (4, .int (y38.2.1 2)), (3, .int (y38.2.1 3)), (0, .ref (gO g 17)), (1, .int p1), (2, .int p2)]) hx hb dX8_phrase_104 hl (k := 0) rfl (by rw [ex42]; rfl) (by decide) rfl (fun ls hl => ?_)
            refine lv_goto (tgt := 37) hx hb dX8_phrase_107 (by decide) ?_
            have t44 : ((17 : Int) - x42.toInt).toNat < ((17 : Int) - (y17.2.1 0).toInt).toNat := (by have f0 := b18; have f1 := k31; have f2 := t43; have f3 := b25; have g0 := rg32 (y17.2.1 0); have g1 := rg32 x42; have z1 : (1 : Int32).toInt = 1 := (by decide); omega)
            exact nl15 (σ, lf [x42, (y38.2.1 0), (y38.2.1 1), (y38.2.1 2), (y38.2.1 3)], lg []) ⟨rfl, (show (0 : Int) ≤ (x42 : Int32).toInt ∧ (x42 : Int32).toInt ≤ 16 from (by have f0 := t43; have f1 := b18; have f2 := k31; have f3 := b25; have g0 := rg32 x42; have z1 : (1 : Int32).toInt = 1 := (by decide); omega)), (show (0 : Int) ≤ ((y38.2.1 0) : Int32).toInt ∧ ((y38.2.1 0) : Int32).toInt ≤ 16 from (by have f0 := b39; have g0 := rg32 (y38.2.1 0); omega)), (show (-1 : Int) ≤ ((y38.2.1 2) : Int32).toInt ∧ ((y38.2.1 2) : Int32).toInt ≤ 16 from (by have f0 := b40; have g0 := rg32 (y38.2.1 2); omega)), (show (0 : Int) ≤ ((y38.2.1 3) : Int32).toInt ∧ ((y38.2.1 3) : Int32).toInt ≤ 2147483647 from (by have f0 := b41; have g0 := rg32 (y38.2.1 3); omega)), trivial⟩ (show ((17 : Int) - x42.toInt).toNat < _ from t44) _ _ _ hP hS (lv_sub hl [0, 1, 2, 3, 4, 5, 6, 7] rfl)
          ·
            intro nj36
            refine lv_if_eq (tgt := 75) hx hb dX8_phrase_60 (by decide) (fun c45 => ?_) (fun c45 => ?_)
            ·
              have k46 := peq32 c45
              refine lv_iload hx hb dX8_phrase_75 (lv_at hl 2 rfl) ?_
              refine lv_aload_n hx hb dX8_phrase_77 rfl (lv_at hl 5 rfl) ?_
              refine g8_8_1 (o := dx1) hx hb hts hown hK hP edx1 (hts _ q435) dX8_phrase_78 ?_
              refine lv_iload_n hx hb dX8_phrase_81 rfl (lv_at hl 6 rfl) ?_
              refine lv_iload hx hb dX8_phrase_82 (lv_at hl 0 rfl) ?_
              refine lv_iconst (v := 1) hx hb dX8_phrase_84 (by decide) ?_
              refine va_calli (va_runV (As := [.int p1, .int (y17.2.1 0), .int 1]) (rest := [.int (y17.2.1 2)]) ⟨hx, hb, hml, hown, hts⟩ (m_X0_toneField l D cy g σ  dx1 p1 (y17.2.1 0) (1) _ hJ (show 0 ≤ dx1 ∧ dx1 < 5 from hdx1)) (cwV 3 hts (gd_V q733 q661 q662 q127 q663) rfl rfl rfl (by decide +kernel) ⟨(Nat.le_of_ble_eq_true rfl), (Nat.le_of_ble_eq_true rfl)⟩) (pv8 hP hK hD hC hS (rv8_0 hK hP hdx1)) rfl rfl hl.1 rfl (lv_room (Nat.le_of_ble_eq_true rfl)) dX8_phrase_85 ⟨Nat.le_of_ble_eq_true rfl, Nat.le_of_ble_eq_true rfl⟩) hS (fun q _ h => up8 hS q h) (up8 hS) (fun r47 σ48 tS H1 locs ht hvm hw49 hB hz1 hk1 hS => ?_)
              have hP : va_P D clz (WD8 cy g σ48) H1 := by rw [← ht]; exact hB
              clear hB hz1 hk1 hvm ht
              generalize H1 = H at hP hS ⊢
              have hw49E : σ = σ48 := (hw49.1).symm
              subst hw49E
              refine lv_iadd hx hb dX8_phrase_88 ?_
              refine lv_topi (fun x50 ex50 => ?_)
              refine lv_istore (lv' := [(5, .int x50), (7, .int (y17.2.1 0)), (6, .int (y17.2.1 1)), (4, .int (y17.2.1 3)), (3, .int (y17.2.1 4)), (0, .ref (gO g 17)), (1, .int p1), (2, .int p2)]) hx hb dX8_phrase_89 hl (by decide) rfl (fun ls hl => ?_)
              refine lv_iload hx hb dX8_phrase_91 (lv_at hl 0 rfl) ?_
              refine lv_iload_n hx hb dX8_phrase_93 rfl (lv_at hl 4 rfl) ?_
              refine lv_icmp_le (tgt := 104) hx hb dX8_phrase_94 (by decide) (fun c51 => ?_) (fun c51 => ?_)
              ·
                have k52 := ple32 c51
                exact nj36 (σ, lf [(y17.2.1 1), x50, (y17.2.1 3), (y17.2.1 4)], lg []) ⟨rfl, (show (0 : Int) ≤ ((y17.2.1 1) : Int32).toInt ∧ ((y17.2.1 1) : Int32).toInt ≤ 16 from (by have f0 := b19; have g0 := rg32 (y17.2.1 1); omega)), (show (-1 : Int) ≤ ((y17.2.1 3) : Int32).toInt ∧ ((y17.2.1 3) : Int32).toInt ≤ 16 from (by have f0 := b20; have g0 := rg32 (y17.2.1 3); omega)), (show (0 : Int) ≤ ((y17.2.1 4) : Int32).toInt ∧ ((y17.2.1 4) : Int32).toInt ≤ 2147483647 from (by have f0 := b21; have f1 := k52; have g0 := rg32 (y17.2.1 4); have g1 := rg32 x50; omega)), trivial⟩ _ _ _ hP hS (lv_sub hl [1, 2, 0, 3, 4, 5, 6, 7] rfl)
              ·
                have k53 := nle32 c51
                refine lv_iload hx hb dX8_phrase_97 (lv_at hl 0 rfl) ?_
                refine lv_istore_n (lv' := [(3, .int x50), (5, .int x50), (7, .int (y17.2.1 0)), (6, .int (y17.2.1 1)), (4, .int (y17.2.1 3)), (0, .ref (gO g 17)), (1, .int p1), (2, .int p2)]) hx hb dX8_phrase_99 rfl hl (by decide) rfl (fun ls hl => ?_)
                refine lv_iload hx hb dX8_phrase_100 (lv_at hl 3 rfl) ?_
                refine lv_istore (lv' := [(4, .int (y17.2.1 1)), (3, .int x50), (5, .int x50), (7, .int (y17.2.1 0)), (6, .int (y17.2.1 1)), (0, .ref (gO g 17)), (1, .int p1), (2, .int p2)]) hx hb dX8_phrase_102 hl (by decide) rfl (fun ls hl => ?_)
                exact nj36 (σ, lf [(y17.2.1 1), x50, (y17.2.1 1), x50], lg []) ⟨rfl, (show (0 : Int) ≤ ((y17.2.1 1) : Int32).toInt ∧ ((y17.2.1 1) : Int32).toInt ≤ 16 from (by have f0 := b19; have g0 := rg32 (y17.2.1 1); omega)), (show (-1 : Int) ≤ ((y17.2.1 1) : Int32).toInt ∧ ((y17.2.1 1) : Int32).toInt ≤ 16 from (by have f0 := b19; have g0 := rg32 (y17.2.1 1); omega)), (show (0 : Int) ≤ (x50 : Int32).toInt ∧ (x50 : Int32).toInt ≤ 2147483647 from (by have f0 := k53; have f1 := b21; have g0 := rg32 (y17.2.1 4); have g1 := rg32 x50; omega)), trivial⟩ _ _ _ hP hS (lv_sub hl [3, 4, 2, 0, 1, 5, 6, 7] rfl)
            ·
              have k54 := neq32 c45
              refine lv_iconst (v := 0) hx hb dX8_phrase_63 (by decide) ?_
              refine lv_istore (lv' := [(5, .int 0), (7, .int (y17.2.1 0)), (6, .int (y17.2.1 1)), (4, .int (y17.2.1 3)), (3, .int (y17.2.1 4)), (0, .ref (gO g 17)), (1, .int p1), (2, .int p2)]) hx hb dX8_phrase_64 hl (by decide) rfl (fun ls hl => ?_)
              refine lv_iload hx hb dX8_phrase_66 (lv_at hl 1 rfl) ?_
              refine lv_iconst (v := 1) hx hb dX8_phrase_68 (by decide) ?_
              refine lv_iadd hx hb dX8_phrase_69 ?_
              refine lv_topi (fun x55 ex55 => ?_)
              have t56 := addO ex55 (by have f0 := b18; have f1 := k31; have f2 := b25; have g0 := rg32 (y17.2.1 0); have z1 : (1 : Int32).toInt = 1 := (by decide); omega)
              refine lv_istore (lv' := [(6, .int x55), (5, .int 0), (7, .int (y17.2.1 0)), (4, .int (y17.2.1 3)), (3, .int (y17.2.1 4)), (0, .ref (gO g 17)), (1, .int p1), (2, .int p2)]) hx hb dX8_phrase_70 hl (by decide) rfl (fun ls hl => ?_)
              refine lv_goto (tgt := 104) hx hb dX8_phrase_72 (by decide) ?_
              exact nj36 (σ, lf [x55, 0, (y17.2.1 3), (y17.2.1 4)], lg []) ⟨rfl, (show (0 : Int) ≤ (x55 : Int32).toInt ∧ (x55 : Int32).toInt ≤ 16 from (by have f0 := t56; have f1 := b18; have f2 := k31; have f3 := b25; have g0 := rg32 x55; have z1 : (1 : Int32).toInt = 1 := (by decide); omega)), (show (-1 : Int) ≤ ((y17.2.1 3) : Int32).toInt ∧ ((y17.2.1 3) : Int32).toInt ≤ 16 from (by have f0 := b20; have g0 := rg32 (y17.2.1 3); omega)), (show (0 : Int) ≤ ((y17.2.1 4) : Int32).toInt ∧ ((y17.2.1 4) : Int32).toInt ≤ 2147483647 from (by have f0 := b21; have g0 := rg32 (y17.2.1 4); omega)), trivial⟩ _ _ _ hP hS (lv_sub hl [2, 0, 1, 3, 4, 5, 6, 7] rfl)
      ·
        have k57 := nle32 c13
        refine lv_bipush (v := (-2)) hx hb dX8_phrase_20 (by decide) ?_
        exact W.iret (v := (-2)) hx hb hr (fun tS ht hW => ⟨⟨(-2), σ, rfl, ⟨rfl, (show (-2 : Int) ≤ ((-2) : Int32).toInt ∧ ((-2) : Int32).toInt ≤ 2147483647 from (by have zm2 : ((-2) : Int32).toInt = (-2) := (by decide); omega)), trivial⟩, (show va_P D clz (WD8 cy g σ) tS.heap by rw [ht]; exact hP)⟩, hS.F ht⟩) hS.2.2 dX8_phrase_22

theorem q756 : Cond.code yX8_pitches cX8_pitches 5 (some .int) ∈ lw_g := lw_gm (List.mem_of_getElem? (i := 756) (by decide +kernel)) rfl
theorem q757 : Cond.methodLink RX8 157 yJ13_bitCount_95d88 ∈ lw_g := lw_gm (List.mem_of_getElem? (i := 757) (by decide +kernel)) rfl
theorem q758 : Cond.static yJ13_bitCount_95d88 ∈ lw_g := lw_gm (List.mem_of_getElem? (i := 758) (by decide +kernel)) rfl
theorem q142 : Cond.initialized "java/lang/Long" ∈ lw_g := lw_gm (List.mem_of_getElem? (i := 142) (by decide +kernel)) rfl
theorem dX8_pitches_0 : decode cX8_pitches 0 = .ok (.aload_n 0, 1) := by decide +kernel
theorem dX8_pitches_1 : decode cX8_pitches 1 = .ok (.getfield 19, 3) := by decide +kernel
theorem dX8_pitches_4 : decode cX8_pitches 4 = .ok (.iload_n 1, 1) := by decide +kernel
theorem dX8_pitches_5 : decode cX8_pitches 5 = .ok (.invokevirtual 142, 3) := by decide +kernel
theorem dX8_pitches_8 : decode cX8_pitches 8 = .ok (.ifCond .ne 6, 3) := by decide +kernel
theorem dX8_pitches_11 : decode cX8_pitches 11 = .ok (.bipush (-2), 2) := by decide +kernel
theorem dX8_pitches_13 : decode cX8_pitches 13 = .ok (.ireturn, 1) := by decide +kernel
theorem dX8_pitches_14 : decode cX8_pitches 14 = .ok (.lconst 0, 1) := by decide +kernel
theorem dX8_pitches_15 : decode cX8_pitches 15 = .ok (.lstore_n 2, 1) := by decide +kernel
theorem dX8_pitches_16 : decode cX8_pitches 16 = .ok (.iconst 0, 1) := by decide +kernel
theorem dX8_pitches_17 : decode cX8_pitches 17 = .ok (.istore 4, 2) := by decide +kernel
theorem dX8_pitches_19 : decode cX8_pitches 19 = .ok (.iload 4, 2) := by decide +kernel
theorem dX8_pitches_21 : decode cX8_pitches 21 = .ok (.aload_n 0, 1) := by decide +kernel
theorem dX8_pitches_22 : decode cX8_pitches 22 = .ok (.getfield 19, 3) := by decide +kernel
theorem dX8_pitches_25 : decode cX8_pitches 25 = .ok (.iload_n 1, 1) := by decide +kernel
theorem dX8_pitches_26 : decode cX8_pitches 26 = .ok (.invokevirtual 146, 3) := by decide +kernel
theorem dX8_pitches_29 : decode cX8_pitches 29 = .ok (.if_icmp .ge 38, 3) := by decide +kernel
theorem dX8_pitches_32 : decode cX8_pitches 32 = .ok (.aload_n 0, 1) := by decide +kernel
theorem dX8_pitches_33 : decode cX8_pitches 33 = .ok (.getfield 19, 3) := by decide +kernel
theorem dX8_pitches_36 : decode cX8_pitches 36 = .ok (.iload_n 1, 1) := by decide +kernel
theorem dX8_pitches_37 : decode cX8_pitches 37 = .ok (.iload 4, 2) := by decide +kernel
theorem dX8_pitches_39 : decode cX8_pitches 39 = .ok (.invokevirtual 153, 3) := by decide +kernel
theorem dX8_pitches_42 : decode cX8_pitches 42 = .ok (.ifCond .ne 19, 3) := by decide +kernel
theorem dX8_pitches_45 : decode cX8_pitches 45 = .ok (.lload_n 2, 1) := by decide +kernel
theorem dX8_pitches_46 : decode cX8_pitches 46 = .ok (.lconst 1, 1) := by decide +kernel
theorem dX8_pitches_47 : decode cX8_pitches 47 = .ok (.aload_n 0, 1) := by decide +kernel
theorem dX8_pitches_48 : decode cX8_pitches 48 = .ok (.getfield 19, 3) := by decide +kernel
theorem dX8_pitches_51 : decode cX8_pitches 51 = .ok (.iload_n 1, 1) := by decide +kernel
theorem dX8_pitches_52 : decode cX8_pitches 52 = .ok (.iload 4, 2) := by decide +kernel
theorem dX8_pitches_54 : decode cX8_pitches 54 = .ok (.iconst 0, 1) := by decide +kernel
theorem dX8_pitches_55 : decode cX8_pitches 55 = .ok (.invokevirtual 138, 3) := by decide +kernel
theorem dX8_pitches_58 : decode cX8_pitches 58 = .ok (.lshl, 1) := by decide +kernel
theorem dX8_pitches_59 : decode cX8_pitches 59 = .ok (.lor, 1) := by decide +kernel
theorem dX8_pitches_60 : decode cX8_pitches 60 = .ok (.lstore_n 2, 1) := by decide +kernel
theorem dX8_pitches_61 : decode cX8_pitches 61 = .ok (.iinc 4 1, 3) := by decide +kernel
theorem dX8_pitches_64 : decode cX8_pitches 64 = .ok (.goto (-45), 3) := by decide +kernel
theorem dX8_pitches_67 : decode cX8_pitches 67 = .ok (.lload_n 2, 1) := by decide +kernel
theorem dX8_pitches_68 : decode cX8_pitches 68 = .ok (.invokestatic 157, 3) := by decide +kernel
theorem dX8_pitches_71 : decode cX8_pitches 71 = .ok (.ireturn, 1) := by decide +kernel
set_option maxHeartbeats 4000000 in
set_option maxRecDepth 100000 in
theorem m_X8_pitches (l : Launch) (D : va_G) (cy : Nat → ClassId) (g : Nat → Nat) (σ : ST) (p1 : Int32) (sz : Nat) (hJ : J8 σ)  : Met l yX8_pitches (ww yX8_pitches cX8_pitches 5 (some .int)) ({ frames := 4, cells := 0, slots := 0, locals := 256 }) (va_Pc [.ref (gO g 17), .int p1] (pr8 D cy g σ sz)) (qi8 D cy g sz (fun r τ => τ = σ ∧ True)) 0 0 (A8 cy g sz) := by
  refine Met.ofW (cc := cX8_pitches) (maxL := 5) (ret := (some .int)) (by decide) rfl ?_
  intro p e s m args below meth c s₁ B hml hv
  obtain ⟨rfl, hsz, hP, hK, hD0, hC⟩ := hv
  have hx := B.exec
  have hb := B.bytes
  have hr := B.returns
  have hts := hts_g (atoms_spec (ws := ww yX8_pitches cX8_pitches 5 (some .int)) B.pre)
  have hown : s.vm.findClass RX8 = some m.cls := findClass_of_methodNamed B.named
  have hlocks := B.notSynchronized
  clear B
  subst hsz
  have hD := fun τ => A8_D (sz := s.heap.size) hD0 τ
  clear hD0
  have hS : va_S (A8 cy g s.heap.size) s.heap s.heap [] := va_S.rf
  have hl := lv_entry ([.ref (gO g 17), .int p1]) (n := 5) (Nat.le_of_ble_eq_true rfl)
  rw [lg_entry_eq]
  generalize (lg_sl ([.ref (gO g 17), .int p1]) ++ List.replicate (5 - (lg_sl ([.ref (gO g 17), .int p1])).length) Slot.unset).toArray = ls at hl ⊢
  have hl : lv_has ls 5 [(0, .ref (gO g 17)), (1, .int p1)] := hl
  refine lv_aload_n hx hb dX8_pitches_0 rfl (lv_at hl 0 rfl) ?_
  obtain ⟨dx1, edx1⟩ : ∃ z : Nat, ((σ 17).1 1).toInt.toNat = z := ⟨_, rfl⟩
  have hdx1 : 0 ≤ dx1 ∧ dx1 < 5 := mnow (by have f0 := j8_8_1 hJ rfl; omega) edx1
  refine g8_8_1 (o := dx1) hx hb hts hown hK hP edx1 (hts _ q435) dX8_pitches_1 ?_
  refine lv_iload_n hx hb dX8_pitches_4 rfl (lv_at hl 1 rfl) ?_
  refine va_calli (va_runV (As := [.int p1]) (rest := []) ⟨hx, hb, hml, hown, hts⟩ (m_X0_hasPart l D cy g σ  dx1 p1 _ hJ (show 0 ≤ dx1 ∧ dx1 < 5 from hdx1)) (cwV 1 hts (gd_V q738 q649 q650 q127 q651) rfl rfl rfl (by decide +kernel) ⟨(Nat.le_of_ble_eq_true rfl), (Nat.le_of_ble_eq_true rfl)⟩) (pv8 hP hK hD hC hS (rv8_0 hK hP hdx1)) rfl rfl hl.1 rfl (lv_room (Nat.le_of_ble_eq_true rfl)) dX8_pitches_5 ⟨Nat.le_of_ble_eq_true rfl, Nat.le_of_ble_eq_true rfl⟩) hS (fun q _ h => up8 hS q h) (up8 hS) (fun r2 σ3 tS H1 locs ht hvm hw4 hB hz1 hk1 hS => ?_)
  have hP : va_P D clz (WD8 cy g σ3) H1 := by rw [← ht]; exact hB
  clear hB hz1 hk1 hvm ht
  generalize H1 = H at hP hS ⊢
  have hw4E : σ = σ3 := (hw4.1).symm
  subst hw4E
  have b5 : (0 : Int) ≤ r2.toInt ∧ r2.toInt ≤ 1 := hw4.2.1
  have b6 : (r2.toInt = 0) ∨ ((0 : Int) ≤ p1.toInt ∧ p1.toInt ≤ 2) := hw4.2.2.1
  refine lv_if_ne (tgt := 14) hx hb dX8_pitches_8 (by decide) (fun c7 => ?_) (fun c7 => ?_)
  ·
    have k8 := neq32 c7
    refine lv_lconst (v := 0) hx hb dX8_pitches_14 (by decide) ?_
    refine lv_lstore_n (lv' := [(2, .long 0), (0, .ref (gO g 17)), (1, .int p1)]) hx hb dX8_pitches_15 rfl hl (by decide) rfl (fun ls hl => ?_)
    refine lv_iconst (v := 0) hx hb dX8_pitches_16 (by decide) ?_
    refine lv_istore (lv' := [(4, .int 0), (2, .long 0), (0, .ref (gO g 17)), (1, .int p1)]) hx hb dX8_pitches_17 hl (by decide) rfl (fun ls hl => ?_)
    refine loop8 5 19 (fun x : LZ => [(4, .int (x.2.1 0)), (2, .long (x.2.2 0)), (0, .ref (gO g 17)), (1, .int p1)]) (fun x : LZ => (x.1 = σ) ∧ ((0 : Int) ≤ (x.2.1 0).toInt ∧ (x.2.1 0).toInt ≤ 16) ∧ True) (fun x : LZ => ((17 : Int) - (x.2.1 0).toInt).toNat) ?_ (σ, lf [0], lg [0]) ⟨rfl, (show (0 : Int) ≤ (0 : Int32).toInt ∧ (0 : Int32).toInt ≤ 16 from (by have z0 : (0 : Int32).toInt = 0 := (by decide); omega)), trivial⟩ _ _ _ hP hS (lv_sub hl [0, 1, 2, 3] rfl)
    intro y11 hI10 nl9 H locs ls hP hS hl
    rw [show y11.1 = σ from hI10.1] at hP
    have b12 : (0 : Int) ≤ (y11.2.1 0).toInt ∧ (y11.2.1 0).toInt ≤ 16 := hI10.2.1
    have hl : lv_has ls 5 [(4, .int (y11.2.1 0)), (2, .long (y11.2.2 0)), (0, .ref (gO g 17)), (1, .int p1)] := hl
    refine lv_iload hx hb dX8_pitches_19 (lv_at hl 0 rfl) ?_
    refine lv_aload_n hx hb dX8_pitches_21 rfl (lv_at hl 2 rfl) ?_
    refine g8_8_1 (o := dx1) hx hb hts hown hK hP edx1 (hts _ q435) dX8_pitches_22 ?_
    refine lv_iload_n hx hb dX8_pitches_25 rfl (lv_at hl 3 rfl) ?_
    refine va_calli (va_runV (As := [.int p1]) (rest := [.int (y11.2.1 0)]) ⟨hx, hb, hml, hown, hts⟩ (m_X0_tonesOf l D cy g σ  dx1 p1 _ hJ (show 0 ≤ dx1 ∧ dx1 < 5 from hdx1)) (cwV 1 hts (gd_V q739 q657 q658 q127 q659) rfl rfl rfl (by decide +kernel) ⟨(Nat.le_of_ble_eq_true rfl), (Nat.le_of_ble_eq_true rfl)⟩) (pv8 hP hK hD hC hS (rv8_0 hK hP hdx1)) rfl rfl hl.1 rfl (lv_room (Nat.le_of_ble_eq_true rfl)) dX8_pitches_26 ⟨Nat.le_of_ble_eq_true rfl, Nat.le_of_ble_eq_true rfl⟩) hS (fun q _ h => up8 hS q h) (up8 hS) (fun r13 σ14 tS H1 locs ht hvm hw15 hB hz1 hk1 hS => ?_)
    have hP : va_P D clz (WD8 cy g σ14) H1 := by rw [← ht]; exact hB
    clear hB hz1 hk1 hvm ht
    generalize H1 = H at hP hS ⊢
    have hw15E : σ = σ14 := (hw15.1).symm
    subst hw15E
    have b16 : (0 : Int) ≤ r13.toInt ∧ r13.toInt ≤ 16 := hw15.2.1
    refine lv_icmp_ge (tgt := 67) hx hb dX8_pitches_29 (by decide) (fun c17 => ?_) (fun c17 => ?_)
    ·
      have k18 := ple32 c17
      refine lv_lload_n hx hb dX8_pitches_67 rfl (lv_at hl 1 rfl) ?_
      refine va_calli (va_runS (As := [.long (y11.2.2 0)]) (rest := []) ⟨hx, hb, hml, hown, hts⟩ (m_J13_bitCount_95d88 l D cy g σ  (y11.2.2 0) _ hJ ) (va_cwS 1 hts (gd_S q757 q758 q142 q759) rfl rfl rfl (by decide +kernel) ⟨(Nat.le_of_ble_eq_true rfl), (Nat.le_of_ble_eq_true rfl)⟩) (ps8 hP hK hD hC hS) rfl rfl hl.1 rfl (lv_room (Nat.le_of_ble_eq_true rfl)) dX8_pitches_68 ⟨Nat.le_of_ble_eq_true rfl, Nat.le_of_ble_eq_true rfl⟩) hS (fun q _ h => up8 hS q h) (up8 hS) (fun r19 σ20 tS H1 locs ht hvm hw21 hB hz1 hk1 hS => ?_)
      have hP : va_P D clz (WD8 cy g σ20) H1 := by rw [← ht]; exact hB
      clear hB hz1 hk1 hvm ht
      generalize H1 = H at hP hS ⊢
      have hw21E : σ = σ20 := (hw21.1).symm
      subst hw21E
      have b22 : (0 : Int) ≤ r19.toInt ∧ r19.toInt ≤ 127 := hw21.2.1
      exact W.iret (v := r19) hx hb hr (fun tS ht hW => ⟨⟨r19, σ, rfl, ⟨rfl, trivial⟩, (show va_P D clz (WD8 cy g σ) tS.heap by rw [ht]; exact hP)⟩, hS.F ht⟩) hS.2.2 dX8_pitches_71
    ·
      have k23 := nle32 c17
      refine lv_aload_n hx hb dX8_pitches_32 rfl (lv_at hl 2 rfl) ?_
      refine g8_8_1 (o := dx1) hx hb hts hown hK hP edx1 (hts _ q435) dX8_pitches_33 ?_
      refine lv_iload_n hx hb dX8_pitches_36 rfl (lv_at hl 3 rfl) ?_
      refine lv_iload hx hb dX8_pitches_37 (lv_at hl 0 rfl) ?_
      refine va_calli (va_runV (As := [.int p1, .int (y11.2.1 0)]) (rest := []) ⟨hx, hb, hml, hown, hts⟩ (m_X0_isRest l D cy g σ  dx1 p1 (y11.2.1 0) _ hJ (show 0 ≤ dx1 ∧ dx1 < 5 from hdx1) (show (0 : Int) ≤ (y11.2.1 0).toInt ∧ (y11.2.1 0).toInt ≤ 15 from (by have f0 := b12; have f1 := k23; have f2 := b16; have g0 := rg32 (y11.2.1 0); omega))) (cwV 2 hts (gd_V q749 q750 q751 q127 q752) rfl rfl rfl (by decide +kernel) ⟨(Nat.le_of_ble_eq_true rfl), (Nat.le_of_ble_eq_true rfl)⟩) (pv8 hP hK hD hC hS (rv8_0 hK hP hdx1)) rfl rfl hl.1 rfl (lv_room (Nat.le_of_ble_eq_true rfl)) dX8_pitches_39 ⟨Nat.le_of_ble_eq_true rfl, Nat.le_of_ble_eq_true rfl⟩) hS (fun q _ h => up8 hS q h) (up8 hS) (fun r24 σ25 tS H1 locs ht hvm hw26 hB hz1 hk1 hS => ?_)
      have hP : va_P D clz (WD8 cy g σ25) H1 := by rw [← ht]; exact hB
      clear hB hz1 hk1 hvm ht
      generalize H1 = H at hP hS ⊢
      have hw26E : σ = σ25 := (hw26.1).symm
      subst hw26E
      have b27 : (0 : Int) ≤ r24.toInt ∧ r24.toInt ≤ 1 := hw26.2.1
      refine cut8 (D := D) (cy := cy) (g := g) (A := A8 cy g s.heap.size) (H0 := s.heap) 5 61 (fun x : LZ => [(4, .int (y11.2.1 0)), (2, .long (x.2.2 0)), (0, .ref (gO g 17)), (1, .int p1)]) (fun x : LZ => []) (fun x : LZ => (x.1 = σ) ∧ True) ?_ ?_
      ·
        intro y30 hI29 H locs ls hP hS hl
        rw [show y30.1 = σ from hI29.1] at hP
        have hl : lv_has ls 5 [(4, .int (y11.2.1 0)), (2, .long (y30.2.2 0)), (0, .ref (gO g 17)), (1, .int p1)] := hl
        obtain ⟨x31, ex31⟩ : ∃ y : Int32, y = (y11.2.1 0) + 1 := ⟨_, rfl⟩
        have t32 := addO ex31 (by have f0 := b12; have f1 := k23; have f2 := b16; have g0 := rg32 (y11.2.1 0); have z1 : (1 : Int32).toInt = 1 := (by decide); omega)
        refine lv_iinc (v := x31) (lv' := [(4, .int x31), (2, .long (y30.2.2 0)), (0, .ref (gO g 17)), (1, .int p1)]) hx hb dX8_pitches_61 hl (k := 0) rfl (by rw [ex31]; rfl) (by decide) rfl (fun ls hl => ?_)
        refine lv_goto (tgt := 19) hx hb dX8_pitches_64 (by decide) ?_
        have t33 : ((17 : Int) - x31.toInt).toNat < ((17 : Int) - (y11.2.1 0).toInt).toNat := (by have f0 := b12; have f1 := k23; have f2 := t32; have f3 := b16; have g0 := rg32 (y11.2.1 0); have g1 := rg32 x31; have z1 : (1 : Int32).toInt = 1 := (by decide); omega)
        exact nl9 (σ, lf [x31], lg [(y30.2.2 0)]) ⟨rfl, (show (0 : Int) ≤ (x31 : Int32).toInt ∧ (x31 : Int32).toInt ≤ 16 from (by have f0 := t32; have f1 := b12; have f2 := k23; have f3 := b16; have g0 := rg32 x31; have z1 : (1 : Int32).toInt = 1 := (by decide); omega)), trivial⟩ (show ((17 : Int) - x31.toInt).toNat < _ from t33) _ _ _ hP hS (lv_sub hl [0, 1, 2, 3] rfl)
      ·
        intro nj28
        refine lv_if_ne (tgt := 61) hx hb dX8_pitches_42 (by decide) (fun c34 => ?_) (fun c34 => ?_)
        ·
          have k35 := neq32 c34
          exact nj28 (σ, lf [], lg [(y11.2.2 0)]) ⟨rfl, trivial⟩ _ _ _ hP hS (lv_sub hl [0, 1, 2, 3] rfl)
        ·
          have k36 := peq32 c34
          refine lv_lload_n hx hb dX8_pitches_45 rfl (lv_at hl 1 rfl) ?_
          refine lv_lconst (v := 1) hx hb dX8_pitches_46 (by decide) ?_
          refine lv_aload_n hx hb dX8_pitches_47 rfl (lv_at hl 2 rfl) ?_
          refine g8_8_1 (o := dx1) hx hb hts hown hK hP edx1 (hts _ q435) dX8_pitches_48 ?_
          refine lv_iload_n hx hb dX8_pitches_51 rfl (lv_at hl 3 rfl) ?_
          refine lv_iload hx hb dX8_pitches_52 (lv_at hl 0 rfl) ?_
          refine lv_iconst (v := 0) hx hb dX8_pitches_54 (by decide) ?_
          refine va_calli (va_runV (As := [.int p1, .int (y11.2.1 0), .int 0]) (rest := [.long 1, .long (y11.2.2 0)]) ⟨hx, hb, hml, hown, hts⟩ (m_X0_toneField l D cy g σ  dx1 p1 (y11.2.1 0) (0) _ hJ (show 0 ≤ dx1 ∧ dx1 < 5 from hdx1)) (cwV 3 hts (gd_V q733 q661 q662 q127 q663) rfl rfl rfl (by decide +kernel) ⟨(Nat.le_of_ble_eq_true rfl), (Nat.le_of_ble_eq_true rfl)⟩) (pv8 hP hK hD hC hS (rv8_0 hK hP hdx1)) rfl rfl hl.1 rfl (lv_room (Nat.le_of_ble_eq_true rfl)) dX8_pitches_55 ⟨Nat.le_of_ble_eq_true rfl, Nat.le_of_ble_eq_true rfl⟩) hS (fun q _ h => up8 hS q h) (up8 hS) (fun r37 σ38 tS H1 locs ht hvm hw39 hB hz1 hk1 hS => ?_)
          have hP : va_P D clz (WD8 cy g σ38) H1 := by rw [← ht]; exact hB
          clear hB hz1 hk1 hvm ht
          generalize H1 = H at hP hS ⊢
          have hw39E : σ = σ38 := (hw39.1).symm
          subst hw39E
          refine lv_lshl hx hb dX8_pitches_58 rfl ?_
          refine lv_topl (fun x40 ex40 => ?_)
          refine lv_lor hx hb dX8_pitches_59 ?_
          refine lv_topl (fun x41 ex41 => ?_)
          refine lv_lstore_n (lv' := [(2, .long x41), (4, .int (y11.2.1 0)), (0, .ref (gO g 17)), (1, .int p1)]) hx hb dX8_pitches_60 rfl hl (by decide) rfl (fun ls hl => ?_)
          exact nj28 (σ, lf [], lg [x41]) ⟨rfl, trivial⟩ _ _ _ hP hS (lv_sub hl [1, 0, 2, 3] rfl)
  ·
    have k42 := peq32 c7
    refine lv_bipush (v := (-2)) hx hb dX8_pitches_11 (by decide) ?_
    exact W.iret (v := (-2)) hx hb hr (fun tS ht hW => ⟨⟨(-2), σ, rfl, ⟨rfl, trivial⟩, (show va_P D clz (WD8 cy g σ) tS.heap by rw [ht]; exact hP)⟩, hS.F ht⟩) hS.2.2 dX8_pitches_13

theorem q770 : Cond.code yX8_mayBeTrained cX8_mayBeTrained 2 (some .boolean) ∈ lw_g := lw_gm (List.mem_of_getElem? (i := 770) (by decide +kernel)) rfl
theorem dX8_mayBeTrained_0 : decode cX8_mayBeTrained 0 = .ok (.iload_n 0, 1) := by decide +kernel
theorem dX8_mayBeTrained_1 : decode cX8_mayBeTrained 1 = .ok (.tableswitch 77 1 3 #[27, 43, 60], 27) := by decide +kernel
theorem dX8_mayBeTrained_28 : decode cX8_mayBeTrained 28 = .ok (.iload_n 1, 1) := by decide +kernel
theorem dX8_mayBeTrained_29 : decode cX8_mayBeTrained 29 = .ok (.ifCond .lt 13, 3) := by decide +kernel
theorem dX8_mayBeTrained_32 : decode cX8_mayBeTrained 32 = .ok (.iload_n 1, 1) := by decide +kernel
theorem dX8_mayBeTrained_33 : decode cX8_mayBeTrained 33 = .ok (.bipush 9, 2) := by decide +kernel
theorem dX8_mayBeTrained_35 : decode cX8_mayBeTrained 35 = .ok (.if_icmp .gt 7, 3) := by decide +kernel
theorem dX8_mayBeTrained_38 : decode cX8_mayBeTrained 38 = .ok (.iconst 1, 1) := by decide +kernel
theorem dX8_mayBeTrained_39 : decode cX8_mayBeTrained 39 = .ok (.goto 4, 3) := by decide +kernel
theorem dX8_mayBeTrained_42 : decode cX8_mayBeTrained 42 = .ok (.iconst 0, 1) := by decide +kernel
theorem dX8_mayBeTrained_43 : decode cX8_mayBeTrained 43 = .ok (.ireturn, 1) := by decide +kernel
theorem dX8_mayBeTrained_44 : decode cX8_mayBeTrained 44 = .ok (.iload_n 1, 1) := by decide +kernel
theorem dX8_mayBeTrained_45 : decode cX8_mayBeTrained 45 = .ok (.iconst 1, 1) := by decide +kernel
theorem dX8_mayBeTrained_46 : decode cX8_mayBeTrained 46 = .ok (.if_icmp .lt 13, 3) := by decide +kernel
theorem dX8_mayBeTrained_49 : decode cX8_mayBeTrained 49 = .ok (.iload_n 1, 1) := by decide +kernel
theorem dX8_mayBeTrained_50 : decode cX8_mayBeTrained 50 = .ok (.bipush 30, 2) := by decide +kernel
theorem dX8_mayBeTrained_52 : decode cX8_mayBeTrained 52 = .ok (.if_icmp .gt 7, 3) := by decide +kernel
theorem dX8_mayBeTrained_55 : decode cX8_mayBeTrained 55 = .ok (.iconst 1, 1) := by decide +kernel
theorem dX8_mayBeTrained_56 : decode cX8_mayBeTrained 56 = .ok (.goto 4, 3) := by decide +kernel
theorem dX8_mayBeTrained_59 : decode cX8_mayBeTrained 59 = .ok (.iconst 0, 1) := by decide +kernel
theorem dX8_mayBeTrained_60 : decode cX8_mayBeTrained 60 = .ok (.ireturn, 1) := by decide +kernel
theorem dX8_mayBeTrained_61 : decode cX8_mayBeTrained 61 = .ok (.iload_n 1, 1) := by decide +kernel
theorem dX8_mayBeTrained_62 : decode cX8_mayBeTrained 62 = .ok (.ifCond .lt 14, 3) := by decide +kernel
theorem dX8_mayBeTrained_65 : decode cX8_mayBeTrained 65 = .ok (.iload_n 1, 1) := by decide +kernel
theorem dX8_mayBeTrained_66 : decode cX8_mayBeTrained 66 = .ok (.sipush 999, 3) := by decide +kernel
theorem dX8_mayBeTrained_69 : decode cX8_mayBeTrained 69 = .ok (.if_icmp .gt 7, 3) := by decide +kernel
theorem dX8_mayBeTrained_72 : decode cX8_mayBeTrained 72 = .ok (.iconst 1, 1) := by decide +kernel
theorem dX8_mayBeTrained_73 : decode cX8_mayBeTrained 73 = .ok (.goto 4, 3) := by decide +kernel
theorem dX8_mayBeTrained_76 : decode cX8_mayBeTrained 76 = .ok (.iconst 0, 1) := by decide +kernel
theorem dX8_mayBeTrained_77 : decode cX8_mayBeTrained 77 = .ok (.ireturn, 1) := by decide +kernel
theorem dX8_mayBeTrained_78 : decode cX8_mayBeTrained 78 = .ok (.iconst 0, 1) := by decide +kernel
theorem dX8_mayBeTrained_79 : decode cX8_mayBeTrained 79 = .ok (.ireturn, 1) := by decide +kernel
set_option maxHeartbeats 4000000 in
set_option maxRecDepth 100000 in
theorem m_X8_mayBeTrained (l : Launch) (D : va_G) (cy : Nat → ClassId) (g : Nat → Nat) (σ : ST) (p0 : Int32) (p1 : Int32) (sz : Nat) (hJ : J8 σ)  : Met l yX8_mayBeTrained (ww yX8_mayBeTrained cX8_mayBeTrained 2 (some .boolean)) ({ frames := 1, cells := 0, slots := 0, locals := 64 }) (va_Pc [.int p0, .int p1] (pr8 D cy g σ sz)) (qi8 D cy g sz (fun r τ => τ = σ ∧ ((0 : Int) ≤ r.toInt ∧ r.toInt ≤ 1) ∧ ((r.toInt = 0) ∨ ((0 : Int) ≤ p1.toInt ∧ p1.toInt ≤ 999)) ∧ True)) 0 0 (A8 cy g sz) := by
  refine Met.ofW (cc := cX8_mayBeTrained) (maxL := 2) (ret := (some .boolean)) (by decide) rfl ?_
  intro p e s m args below meth c s₁ B hml hv
  obtain ⟨rfl, hsz, hP, hK, hD0, hC⟩ := hv
  have hx := B.exec
  have hb := B.bytes
  have hr := B.returns
  have hts := hts_g (atoms_spec (ws := ww yX8_mayBeTrained cX8_mayBeTrained 2 (some .boolean)) B.pre)
  have hown : s.vm.findClass RX8 = some m.cls := findClass_of_methodNamed B.named
  have hlocks := B.notSynchronized
  clear B
  subst hsz
  have hD := fun τ => A8_D (sz := s.heap.size) hD0 τ
  clear hD0
  have hS : va_S (A8 cy g s.heap.size) s.heap s.heap [] := va_S.rf
  have hl := lv_entry ([.int p0, .int p1]) (n := 2) (Nat.le_of_ble_eq_true rfl)
  rw [lg_entry_eq]
  generalize (lg_sl ([.int p0, .int p1]) ++ List.replicate (2 - (lg_sl ([.int p0, .int p1])).length) Slot.unset).toArray = ls at hl ⊢
  have hl : lv_has ls 2 [(0, .int p0), (1, .int p1)] := hl
  refine lv_iload_n hx hb dX8_mayBeTrained_0 rfl (lv_at hl 0 rfl) ?_
  by_cases hk1 : p0 = 1
  ·
    refine lv_tableIn (off := 27) (tgt := 28) hx hb dX8_mayBeTrained_1 (by rw [hk1]; decide) (by rw [hk1]; decide) (by rw [hk1]; decide) (by decide) ?_
    refine lv_iload_n hx hb dX8_mayBeTrained_28 rfl (lv_at hl 1 rfl) ?_
    refine lv_if_lt (tgt := 42) hx hb dX8_mayBeTrained_29 (by decide) (fun c2 => ?_) (fun c2 => ?_)
    ·
      have k3 := plt32 c2
      refine lv_iconst (v := 0) hx hb dX8_mayBeTrained_42 (by decide) ?_
      exact W.zret (v := 0) hx hb hr rfl (fun tS ht hW => ⟨⟨0, σ, rfl, ⟨rfl, (show (0 : Int) ≤ (0 : Int32).toInt ∧ (0 : Int32).toInt ≤ 1 from (by have z0 : (0 : Int32).toInt = 0 := (by decide); omega)), (show ((0 : Int32).toInt = 0) ∨ ((0 : Int) ≤ p1.toInt ∧ p1.toInt ≤ 999) from (by have f0 := k3; have g0 := rg32 p1; have z0 : (0 : Int32).toInt = 0 := (by decide); omega)), trivial⟩, (show va_P D clz (WD8 cy g σ) tS.heap by rw [ht]; exact hP)⟩, hS.F ht⟩) hS.2.2 dX8_mayBeTrained_43
    ·
      have k4 := nlt32 c2
      refine lv_iload_n hx hb dX8_mayBeTrained_32 rfl (lv_at hl 1 rfl) ?_
      refine lv_bipush (v := 9) hx hb dX8_mayBeTrained_33 (by decide) ?_
      refine lv_icmp_gt (tgt := 42) hx hb dX8_mayBeTrained_35 (by decide) (fun c5 => ?_) (fun c5 => ?_)
      ·
        have k6 := plt32 c5
        refine lv_iconst (v := 0) hx hb dX8_mayBeTrained_42 (by decide) ?_
        exact W.zret (v := 0) hx hb hr rfl (fun tS ht hW => ⟨⟨0, σ, rfl, ⟨rfl, (show (0 : Int) ≤ (0 : Int32).toInt ∧ (0 : Int32).toInt ≤ 1 from (by have z0 : (0 : Int32).toInt = 0 := (by decide); omega)), (show ((0 : Int32).toInt = 0) ∨ ((0 : Int) ≤ p1.toInt ∧ p1.toInt ≤ 999) from (by have f0 := k4; have f1 := k6; have g0 := rg32 p1; have z0 : (0 : Int32).toInt = 0 := (by decide); have z9 : (9 : Int32).toInt = 9 := (by decide); omega)), trivial⟩, (show va_P D clz (WD8 cy g σ) tS.heap by rw [ht]; exact hP)⟩, hS.F ht⟩) hS.2.2 dX8_mayBeTrained_43
      ·
        have k7 := nlt32 c5
        refine lv_iconst (v := 1) hx hb dX8_mayBeTrained_38 (by decide) ?_
        refine lv_goto (tgt := 43) hx hb dX8_mayBeTrained_39 (by decide) ?_
        exact W.zret (v := 1) hx hb hr rfl (fun tS ht hW => ⟨⟨1, σ, rfl, ⟨rfl, (show (0 : Int) ≤ (1 : Int32).toInt ∧ (1 : Int32).toInt ≤ 1 from (by have z1 : (1 : Int32).toInt = 1 := (by decide); omega)), (show ((1 : Int32).toInt = 0) ∨ ((0 : Int) ≤ p1.toInt ∧ p1.toInt ≤ 999) from (by have f0 := k4; have f1 := k7; have g0 := rg32 p1; have z0 : (0 : Int32).toInt = 0 := (by decide); have z1 : (1 : Int32).toInt = 1 := (by decide); have z9 : (9 : Int32).toInt = 9 := (by decide); omega)), trivial⟩, (show va_P D clz (WD8 cy g σ) tS.heap by rw [ht]; exact hP)⟩, hS.F ht⟩) hS.2.2 dX8_mayBeTrained_43
  by_cases hk8 : p0 = 2
  ·
    refine lv_tableIn (off := 43) (tgt := 44) hx hb dX8_mayBeTrained_1 (by rw [hk8]; decide) (by rw [hk8]; decide) (by rw [hk8]; decide) (by decide) ?_
    refine lv_iload_n hx hb dX8_mayBeTrained_44 rfl (lv_at hl 1 rfl) ?_
    refine lv_iconst (v := 1) hx hb dX8_mayBeTrained_45 (by decide) ?_
    refine lv_icmp_lt (tgt := 59) hx hb dX8_mayBeTrained_46 (by decide) (fun c9 => ?_) (fun c9 => ?_)
    ·
      have k10 := plt32 c9
      refine lv_iconst (v := 0) hx hb dX8_mayBeTrained_59 (by decide) ?_
      exact W.zret (v := 0) hx hb hr rfl (fun tS ht hW => ⟨⟨0, σ, rfl, ⟨rfl, (show (0 : Int) ≤ (0 : Int32).toInt ∧ (0 : Int32).toInt ≤ 1 from (by have z0 : (0 : Int32).toInt = 0 := (by decide); omega)), (show ((0 : Int32).toInt = 0) ∨ ((0 : Int) ≤ p1.toInt ∧ p1.toInt ≤ 999) from (by have f0 := k10; have g0 := rg32 p1; have z0 : (0 : Int32).toInt = 0 := (by decide); have z1 : (1 : Int32).toInt = 1 := (by decide); omega)), trivial⟩, (show va_P D clz (WD8 cy g σ) tS.heap by rw [ht]; exact hP)⟩, hS.F ht⟩) hS.2.2 dX8_mayBeTrained_60
    ·
      have k11 := nlt32 c9
      refine lv_iload_n hx hb dX8_mayBeTrained_49 rfl (lv_at hl 1 rfl) ?_
      refine lv_bipush (v := 30) hx hb dX8_mayBeTrained_50 (by decide) ?_
      refine lv_icmp_gt (tgt := 59) hx hb dX8_mayBeTrained_52 (by decide) (fun c12 => ?_) (fun c12 => ?_)
      ·
        have k13 := plt32 c12
        refine lv_iconst (v := 0) hx hb dX8_mayBeTrained_59 (by decide) ?_
        exact W.zret (v := 0) hx hb hr rfl (fun tS ht hW => ⟨⟨0, σ, rfl, ⟨rfl, (show (0 : Int) ≤ (0 : Int32).toInt ∧ (0 : Int32).toInt ≤ 1 from (by have z0 : (0 : Int32).toInt = 0 := (by decide); omega)), (show ((0 : Int32).toInt = 0) ∨ ((0 : Int) ≤ p1.toInt ∧ p1.toInt ≤ 999) from (by have f0 := k11; have f1 := k13; have g0 := rg32 p1; have z0 : (0 : Int32).toInt = 0 := (by decide); have z1 : (1 : Int32).toInt = 1 := (by decide); have z30 : (30 : Int32).toInt = 30 := (by decide); omega)), trivial⟩, (show va_P D clz (WD8 cy g σ) tS.heap by rw [ht]; exact hP)⟩, hS.F ht⟩) hS.2.2 dX8_mayBeTrained_60
      ·
        have k14 := nlt32 c12
        refine lv_iconst (v := 1) hx hb dX8_mayBeTrained_55 (by decide) ?_
        refine lv_goto (tgt := 60) hx hb dX8_mayBeTrained_56 (by decide) ?_
        exact W.zret (v := 1) hx hb hr rfl (fun tS ht hW => ⟨⟨1, σ, rfl, ⟨rfl, (show (0 : Int) ≤ (1 : Int32).toInt ∧ (1 : Int32).toInt ≤ 1 from (by have z1 : (1 : Int32).toInt = 1 := (by decide); omega)), (show ((1 : Int32).toInt = 0) ∨ ((0 : Int) ≤ p1.toInt ∧ p1.toInt ≤ 999) from (by have f0 := k11; have f1 := k14; have g0 := rg32 p1; have z1 : (1 : Int32).toInt = 1 := (by decide); have z30 : (30 : Int32).toInt = 30 := (by decide); omega)), trivial⟩, (show va_P D clz (WD8 cy g σ) tS.heap by rw [ht]; exact hP)⟩, hS.F ht⟩) hS.2.2 dX8_mayBeTrained_60
  by_cases hk15 : p0 = 3
  ·
    refine lv_tableIn (off := 60) (tgt := 61) hx hb dX8_mayBeTrained_1 (by rw [hk15]; decide) (by rw [hk15]; decide) (by rw [hk15]; decide) (by decide) ?_
    refine lv_iload_n hx hb dX8_mayBeTrained_61 rfl (lv_at hl 1 rfl) ?_
    refine lv_if_lt (tgt := 76) hx hb dX8_mayBeTrained_62 (by decide) (fun c16 => ?_) (fun c16 => ?_)
    ·
      have k17 := plt32 c16
      refine lv_iconst (v := 0) hx hb dX8_mayBeTrained_76 (by decide) ?_
      exact W.zret (v := 0) hx hb hr rfl (fun tS ht hW => ⟨⟨0, σ, rfl, ⟨rfl, (show (0 : Int) ≤ (0 : Int32).toInt ∧ (0 : Int32).toInt ≤ 1 from (by have z0 : (0 : Int32).toInt = 0 := (by decide); omega)), (show ((0 : Int32).toInt = 0) ∨ ((0 : Int) ≤ p1.toInt ∧ p1.toInt ≤ 999) from (by have f0 := k17; have g0 := rg32 p1; have z0 : (0 : Int32).toInt = 0 := (by decide); omega)), trivial⟩, (show va_P D clz (WD8 cy g σ) tS.heap by rw [ht]; exact hP)⟩, hS.F ht⟩) hS.2.2 dX8_mayBeTrained_77
    ·
      have k18 := nlt32 c16
      refine lv_iload_n hx hb dX8_mayBeTrained_65 rfl (lv_at hl 1 rfl) ?_
      refine lv_sipush (v := 999) hx hb dX8_mayBeTrained_66 (by decide) ?_
      refine lv_icmp_gt (tgt := 76) hx hb dX8_mayBeTrained_69 (by decide) (fun c19 => ?_) (fun c19 => ?_)
      ·
        have k20 := plt32 c19
        refine lv_iconst (v := 0) hx hb dX8_mayBeTrained_76 (by decide) ?_
        exact W.zret (v := 0) hx hb hr rfl (fun tS ht hW => ⟨⟨0, σ, rfl, ⟨rfl, (show (0 : Int) ≤ (0 : Int32).toInt ∧ (0 : Int32).toInt ≤ 1 from (by have z0 : (0 : Int32).toInt = 0 := (by decide); omega)), (show ((0 : Int32).toInt = 0) ∨ ((0 : Int) ≤ p1.toInt ∧ p1.toInt ≤ 999) from (by have f0 := k18; have f1 := k20; have g0 := rg32 p1; have z0 : (0 : Int32).toInt = 0 := (by decide); have z999 : (999 : Int32).toInt = 999 := (by decide); omega)), trivial⟩, (show va_P D clz (WD8 cy g σ) tS.heap by rw [ht]; exact hP)⟩, hS.F ht⟩) hS.2.2 dX8_mayBeTrained_77
      ·
        have k21 := nlt32 c19
        refine lv_iconst (v := 1) hx hb dX8_mayBeTrained_72 (by decide) ?_
        refine lv_goto (tgt := 77) hx hb dX8_mayBeTrained_73 (by decide) ?_
        exact W.zret (v := 1) hx hb hr rfl (fun tS ht hW => ⟨⟨1, σ, rfl, ⟨rfl, (show (0 : Int) ≤ (1 : Int32).toInt ∧ (1 : Int32).toInt ≤ 1 from (by have z1 : (1 : Int32).toInt = 1 := (by decide); omega)), (show ((1 : Int32).toInt = 0) ∨ ((0 : Int) ≤ p1.toInt ∧ p1.toInt ≤ 999) from (by have f0 := k18; have f1 := k21; have g0 := rg32 p1; have z0 : (0 : Int32).toInt = 0 := (by decide); have z1 : (1 : Int32).toInt = 1 := (by decide); have z999 : (999 : Int32).toInt = 999 := (by decide); omega)), trivial⟩, (show va_P D clz (WD8 cy g σ) tS.heap by rw [ht]; exact hP)⟩, hS.F ht⟩) hS.2.2 dX8_mayBeTrained_77
  refine lv_tableOut (tgt := 78) hx hb dX8_mayBeTrained_1 (by have f0 := neq32 hk1; have f1 := neq32 hk8; have f2 := neq32 hk15; have g0 := rg32 p0; have z1 : (1 : Int32).toInt = 1 := (by decide); have z2 : (2 : Int32).toInt = 2 := (by decide); have z3 : (3 : Int32).toInt = 3 := (by decide); omega) (by decide) ?_
  refine lv_iconst (v := 0) hx hb dX8_mayBeTrained_78 (by decide) ?_
  exact W.zret (v := 0) hx hb hr rfl (fun tS ht hW => ⟨⟨0, σ, rfl, ⟨rfl, (show (0 : Int) ≤ (0 : Int32).toInt ∧ (0 : Int32).toInt ≤ 1 from (by have z0 : (0 : Int32).toInt = 0 := (by decide); omega)), (show ((0 : Int32).toInt = 0) ∨ ((0 : Int) ≤ p1.toInt ∧ p1.toInt ≤ 999) from (by have g0 := rg32 p1; have z0 : (0 : Int32).toInt = 0 := (by decide); omega)), trivial⟩, (show va_P D clz (WD8 cy g σ) tS.heap by rw [ht]; exact hP)⟩, hS.F ht⟩) hS.2.2 dX8_mayBeTrained_79

theorem q766 : Cond.code yX8_train cX8_train 5 (some .int) ∈ lw_g := lw_gm (List.mem_of_getElem? (i := 766) (by decide +kernel)) rfl
theorem q767 : Cond.methodLink RX8 163 yX0_hasPlayer ∈ lw_g := lw_gm (List.mem_of_getElem? (i := 767) (by decide +kernel)) rfl
theorem q768 : Cond.methodLink RX8 166 yX8_mayBeTrained ∈ lw_g := lw_gm (List.mem_of_getElem? (i := 768) (by decide +kernel)) rfl
theorem q769 : Cond.static yX8_mayBeTrained ∈ lw_g := lw_gm (List.mem_of_getElem? (i := 769) (by decide +kernel)) rfl
theorem q771 : Cond.methodLink RX8 169 yX0_setPlayer ∈ lw_g := lw_gm (List.mem_of_getElem? (i := 771) (by decide +kernel)) rfl
theorem dX8_train_0 : decode cX8_train 0 = .ok (.aload_n 0, 1) := by decide +kernel
theorem dX8_train_1 : decode cX8_train 1 = .ok (.getfield 19, 3) := by decide +kernel
theorem dX8_train_4 : decode cX8_train 4 = .ok (.iload_n 1, 1) := by decide +kernel
theorem dX8_train_5 : decode cX8_train 5 = .ok (.invokevirtual 163, 3) := by decide +kernel
theorem dX8_train_8 : decode cX8_train 8 = .ok (.ifCond .eq 11, 3) := by decide +kernel
theorem dX8_train_11 : decode cX8_train 11 = .ok (.iload_n 2, 1) := by decide +kernel
theorem dX8_train_12 : decode cX8_train 12 = .ok (.iload_n 3, 1) := by decide +kernel
theorem dX8_train_13 : decode cX8_train 13 = .ok (.invokestatic 166, 3) := by decide +kernel
theorem dX8_train_16 : decode cX8_train 16 = .ok (.ifCond .ne 6, 3) := by decide +kernel
theorem dX8_train_19 : decode cX8_train 19 = .ok (.bipush (-2), 2) := by decide +kernel
theorem dX8_train_21 : decode cX8_train 21 = .ok (.ireturn, 1) := by decide +kernel
theorem dX8_train_22 : decode cX8_train 22 = .ok (.aload_n 0, 1) := by decide +kernel
theorem dX8_train_23 : decode cX8_train 23 = .ok (.getfield 19, 3) := by decide +kernel
theorem dX8_train_26 : decode cX8_train 26 = .ok (.iload_n 1, 1) := by decide +kernel
theorem dX8_train_27 : decode cX8_train 27 = .ok (.iload_n 2, 1) := by decide +kernel
theorem dX8_train_28 : decode cX8_train 28 = .ok (.invokevirtual 135, 3) := by decide +kernel
theorem dX8_train_31 : decode cX8_train 31 = .ok (.istore 4, 2) := by decide +kernel
theorem dX8_train_33 : decode cX8_train 33 = .ok (.aload_n 0, 1) := by decide +kernel
theorem dX8_train_34 : decode cX8_train 34 = .ok (.getfield 19, 3) := by decide +kernel
theorem dX8_train_37 : decode cX8_train 37 = .ok (.iload_n 1, 1) := by decide +kernel
theorem dX8_train_38 : decode cX8_train 38 = .ok (.iload_n 2, 1) := by decide +kernel
theorem dX8_train_39 : decode cX8_train 39 = .ok (.iload_n 3, 1) := by decide +kernel
theorem dX8_train_40 : decode cX8_train 40 = .ok (.invokevirtual 169, 3) := by decide +kernel
theorem dX8_train_43 : decode cX8_train 43 = .ok (.iload 4, 2) := by decide +kernel
theorem dX8_train_45 : decode cX8_train 45 = .ok (.ireturn, 1) := by decide +kernel
set_option maxHeartbeats 4000000 in
set_option maxRecDepth 100000 in
theorem m_X8_train (l : Launch) (D : va_G) (cy : Nat → ClassId) (g : Nat → Nat) (σ : ST) (p1 : Int32) (p2 : Int32) (p3 : Int32) (sz : Nat) (hJ : J8 σ)  : Met l yX8_train (ww yX8_train cX8_train 5 (some .int)) ({ frames := 3, cells := 0, slots := 0, locals := 192 }) (va_Pc [.ref (gO g 17), .int p1, .int p2, .int p3] (pr8 D cy g σ sz)) (qi8 D cy g sz (fun r τ => Fr (fO [0, 1, 2, 3, 4]) σ τ ∧ J8 τ ∧ True)) 0 0 (A8 cy g sz) := by
  refine Met.ofW (cc := cX8_train) (maxL := 5) (ret := (some .int)) (by decide) rfl ?_
  intro p e s m args below meth c s₁ B hml hv
  obtain ⟨rfl, hsz, hP, hK, hD0, hC⟩ := hv
  have hx := B.exec
  have hb := B.bytes
  have hr := B.returns
  have hts := hts_g (atoms_spec (ws := ww yX8_train cX8_train 5 (some .int)) B.pre)
  have hown : s.vm.findClass RX8 = some m.cls := findClass_of_methodNamed B.named
  have hlocks := B.notSynchronized
  clear B
  subst hsz
  have hD := fun τ => A8_D (sz := s.heap.size) hD0 τ
  clear hD0
  have hS : va_S (A8 cy g s.heap.size) s.heap s.heap [] := va_S.rf
  have hl := lv_entry ([.ref (gO g 17), .int p1, .int p2, .int p3]) (n := 5) (Nat.le_of_ble_eq_true rfl)
  rw [lg_entry_eq]
  generalize (lg_sl ([.ref (gO g 17), .int p1, .int p2, .int p3]) ++ List.replicate (5 - (lg_sl ([.ref (gO g 17), .int p1, .int p2, .int p3])).length) Slot.unset).toArray = ls at hl ⊢
  have hl : lv_has ls 5 [(0, .ref (gO g 17)), (1, .int p1), (2, .int p2), (3, .int p3)] := hl
  refine lv_aload_n hx hb dX8_train_0 rfl (lv_at hl 0 rfl) ?_
  obtain ⟨dx1, edx1⟩ : ∃ z : Nat, ((σ 17).1 1).toInt.toNat = z := ⟨_, rfl⟩
  have hdx1 : 0 ≤ dx1 ∧ dx1 < 5 := mnow (by have f0 := j8_8_1 hJ rfl; omega) edx1
  refine g8_8_1 (o := dx1) hx hb hts hown hK hP edx1 (hts _ q435) dX8_train_1 ?_
  refine lv_iload_n hx hb dX8_train_4 rfl (lv_at hl 1 rfl) ?_
  refine va_calli (va_runV (As := [.int p1]) (rest := []) ⟨hx, hb, hml, hown, hts⟩ (m_X0_hasPlayer l D cy g σ  dx1 p1 _ hJ (show 0 ≤ dx1 ∧ dx1 < 5 from hdx1)) (cwV 1 hts (gd_V q767 q628 q629 q127 q630) rfl rfl rfl (by decide +kernel) ⟨(Nat.le_of_ble_eq_true rfl), (Nat.le_of_ble_eq_true rfl)⟩) (pv8 hP hK hD hC hS (rv8_0 hK hP hdx1)) rfl rfl hl.1 rfl (lv_room (Nat.le_of_ble_eq_true rfl)) dX8_train_5 ⟨Nat.le_of_ble_eq_true rfl, Nat.le_of_ble_eq_true rfl⟩) hS (fun q _ h => up8 hS q h) (up8 hS) (fun r2 σ3 tS H1 locs ht hvm hw4 hB hz1 hk1 hS => ?_)
  have hP : va_P D clz (WD8 cy g σ3) H1 := by rw [← ht]; exact hB
  clear hB hz1 hk1 hvm ht
  generalize H1 = H at hP hS ⊢
  have hw4E : σ = σ3 := (hw4.1).symm
  subst hw4E
  have b5 : (0 : Int) ≤ r2.toInt ∧ r2.toInt ≤ 1 := hw4.2.1
  have b6 : (r2.toInt = 0) ∨ ((0 : Int) ≤ p1.toInt ∧ p1.toInt ≤ 8) := hw4.2.2.1
  refine lv_if_eq (tgt := 19) hx hb dX8_train_8 (by decide) (fun c7 => ?_) (fun c7 => ?_)
  ·
    have k8 := peq32 c7
    refine lv_bipush (v := (-2)) hx hb dX8_train_19 (by decide) ?_
    exact W.iret (v := (-2)) hx hb hr (fun tS ht hW => ⟨⟨(-2), σ, rfl, ⟨Fr.rf, hJ, trivial⟩, (show va_P D clz (WD8 cy g σ) tS.heap by rw [ht]; exact hP)⟩, hS.F ht⟩) hS.2.2 dX8_train_21
  ·
    have k9 := neq32 c7
    refine lv_iload_n hx hb dX8_train_11 rfl (lv_at hl 2 rfl) ?_
    refine lv_iload_n hx hb dX8_train_12 rfl (lv_at hl 3 rfl) ?_
    refine va_calli (va_runS (As := [.int p2, .int p3]) (rest := []) ⟨hx, hb, hml, hown, hts⟩ (m_X8_mayBeTrained l D cy g σ  p2 p3 _ hJ ) (va_cwS 2 hts (gd_S q768 q769 q125 q770) rfl rfl rfl (by decide +kernel) ⟨(Nat.le_of_ble_eq_true rfl), (Nat.le_of_ble_eq_true rfl)⟩) (ps8 hP hK hD hC hS) rfl rfl hl.1 rfl (lv_room (Nat.le_of_ble_eq_true rfl)) dX8_train_13 ⟨Nat.le_of_ble_eq_true rfl, Nat.le_of_ble_eq_true rfl⟩) hS (fun q _ h => up8 hS q h) (up8 hS) (fun r10 σ11 tS H1 locs ht hvm hw12 hB hz1 hk1 hS => ?_)
    have hP : va_P D clz (WD8 cy g σ11) H1 := by rw [← ht]; exact hB
    clear hB hz1 hk1 hvm ht
    generalize H1 = H at hP hS ⊢
    have hw12E : σ = σ11 := (hw12.1).symm
    subst hw12E
    have b13 : (0 : Int) ≤ r10.toInt ∧ r10.toInt ≤ 1 := hw12.2.1
    have b14 : (r10.toInt = 0) ∨ ((0 : Int) ≤ p3.toInt ∧ p3.toInt ≤ 999) := hw12.2.2.1
    refine lv_if_ne (tgt := 22) hx hb dX8_train_16 (by decide) (fun c15 => ?_) (fun c15 => ?_)
    ·
      have k16 := neq32 c15
      refine lv_aload_n hx hb dX8_train_22 rfl (lv_at hl 0 rfl) ?_
      refine g8_8_1 (o := dx1) hx hb hts hown hK hP edx1 (hts _ q435) dX8_train_23 ?_
      refine lv_iload_n hx hb dX8_train_26 rfl (lv_at hl 1 rfl) ?_
      refine lv_iload_n hx hb dX8_train_27 rfl (lv_at hl 2 rfl) ?_
      refine va_calli (va_runV (As := [.int p1, .int p2]) (rest := []) ⟨hx, hb, hml, hown, hts⟩ (m_X0_playerField l D cy g σ  dx1 p1 p2 _ hJ (show 0 ≤ dx1 ∧ dx1 < 5 from hdx1)) (cwV 2 hts (gd_V q725 q726 q727 q127 q728) rfl rfl rfl (by decide +kernel) ⟨(Nat.le_of_ble_eq_true rfl), (Nat.le_of_ble_eq_true rfl)⟩) (pv8 hP hK hD hC hS (rv8_0 hK hP hdx1)) rfl rfl hl.1 rfl (lv_room (Nat.le_of_ble_eq_true rfl)) dX8_train_28 ⟨Nat.le_of_ble_eq_true rfl, Nat.le_of_ble_eq_true rfl⟩) hS (fun q _ h => up8 hS q h) (up8 hS) (fun r17 σ18 tS H1 locs ht hvm hw19 hB hz1 hk1 hS => ?_)
      have hP : va_P D clz (WD8 cy g σ18) H1 := by rw [← ht]; exact hB
      clear hB hz1 hk1 hvm ht
      generalize H1 = H at hP hS ⊢
      have hw19E : σ = σ18 := (hw19.1).symm
      subst hw19E
      refine lv_istore (lv' := [(4, .int r17), (0, .ref (gO g 17)), (1, .int p1), (2, .int p2), (3, .int p3)]) hx hb dX8_train_31 hl (by decide) rfl (fun ls hl => ?_)
      refine lv_aload_n hx hb dX8_train_33 rfl (lv_at hl 1 rfl) ?_
      refine g8_8_1 (o := dx1) hx hb hts hown hK hP edx1 (hts _ q435) dX8_train_34 ?_
      refine lv_iload_n hx hb dX8_train_37 rfl (lv_at hl 2 rfl) ?_
      refine lv_iload_n hx hb dX8_train_38 rfl (lv_at hl 3 rfl) ?_
      refine lv_iload_n hx hb dX8_train_39 rfl (lv_at hl 4 rfl) ?_
      refine va_callv (va_runV (As := [.int p1, .int p2, .int p3]) (rest := []) ⟨hx, hb, hml, hown, hts⟩ (m_X0_setPlayer l D cy g σ  dx1 p1 p2 p3 _ hJ (show 0 ≤ dx1 ∧ dx1 < 5 from hdx1) (show (-1 : Int) ≤ p1.toInt ∧ p1.toInt ≤ 8 from (by have f0 := b6; have f1 := b5; have f2 := k9; have g0 := rg32 p1; have z0 : (0 : Int32).toInt = 0 := (by decide); omega)) (show (-2147483648 : Int) ≤ p3.toInt ∧ p3.toInt ≤ 1000000 from (by have f0 := b6; have f1 := b14; have f2 := b5; have f3 := k9; have f4 := b13; have f5 := k16; have g0 := rg32 p1; have g1 := rg32 p3; have z0 : (0 : Int32).toInt = 0 := (by decide); omega))) (cwV 3 hts (gd_V q771 q624 q625 q127 q626) rfl rfl rfl (by decide +kernel) ⟨(Nat.le_of_ble_eq_true rfl), (Nat.le_of_ble_eq_true rfl)⟩) (pv8 hP hK hD hC hS (rv8_0 hK hP hdx1)) rfl rfl hl.1 rfl (lv_room (Nat.le_of_ble_eq_true rfl)) dX8_train_40 ⟨Nat.le_of_ble_eq_true rfl, Nat.le_of_ble_eq_true rfl⟩) hS (fun q _ h => up8 hS q h) (up8 hS) (fun σ21 tS H1 locs ht hvm hw22 hB hz1 hk1 hS => ?_)
      have hP : va_P D clz (WD8 cy g σ21) H1 := by rw [← ht]; exact hB
      clear hB hz1 hk1 hvm ht
      generalize H1 = H at hP hS ⊢
      have hF23 : Fr (fO [dx1]) σ σ21 := hw22.1
      have hJ24 : J8 σ21 := hw22.2.1
      refine lv_iload hx hb dX8_train_43 (lv_at hl 0 rfl) ?_
      exact W.iret (v := r17) hx hb hr (fun tS ht hW => ⟨⟨r17, σ21, rfl, ⟨Fr.tr (Fr.rf) hF23 (fO_sub (by have q0 := hdx1; intro x hx; simp at hx ⊢; omega)), hJ24, trivial⟩, (show va_P D clz (WD8 cy g σ21) tS.heap by rw [ht]; exact hP)⟩, hS.F ht⟩) hS.2.2 dX8_train_45
    ·
      have k25 := peq32 c15
      refine lv_bipush (v := (-2)) hx hb dX8_train_19 (by decide) ?_
      exact W.iret (v := (-2)) hx hb hr (fun tS ht hW => ⟨⟨(-2), σ, rfl, ⟨Fr.rf, hJ, trivial⟩, (show va_P D clz (WD8 cy g σ) tS.heap by rw [ht]; exact hP)⟩, hS.F ht⟩) hS.2.2 dX8_train_21

theorem q775 : Cond.code yX8_tune cX8_tune 4 (some .int) ∈ lw_g := lw_gm (List.mem_of_getElem? (i := 775) (by decide +kernel)) rfl
theorem q776 : Cond.methodLink RX8 173 yX0_hasBrass ∈ lw_g := lw_gm (List.mem_of_getElem? (i := 776) (by decide +kernel)) rfl
theorem q777 : Cond.methodLink RX8 176 yX0_setBrass ∈ lw_g := lw_gm (List.mem_of_getElem? (i := 777) (by decide +kernel)) rfl
theorem dX8_tune_0 : decode cX8_tune 0 = .ok (.aload_n 0, 1) := by decide +kernel
theorem dX8_tune_1 : decode cX8_tune 1 = .ok (.getfield 19, 3) := by decide +kernel
theorem dX8_tune_4 : decode cX8_tune 4 = .ok (.iload_n 1, 1) := by decide +kernel
theorem dX8_tune_5 : decode cX8_tune 5 = .ok (.invokevirtual 173, 3) := by decide +kernel
theorem dX8_tune_8 : decode cX8_tune 8 = .ok (.ifCond .eq 16, 3) := by decide +kernel
theorem dX8_tune_11 : decode cX8_tune 11 = .ok (.iload_n 2, 1) := by decide +kernel
theorem dX8_tune_12 : decode cX8_tune 12 = .ok (.bipush 100, 2) := by decide +kernel
theorem dX8_tune_14 : decode cX8_tune 14 = .ok (.if_icmp .lt 10, 3) := by decide +kernel
theorem dX8_tune_17 : decode cX8_tune 17 = .ok (.iload_n 2, 1) := by decide +kernel
theorem dX8_tune_18 : decode cX8_tune 18 = .ok (.sipush 999, 3) := by decide +kernel
theorem dX8_tune_21 : decode cX8_tune 21 = .ok (.if_icmp .le 6, 3) := by decide +kernel
theorem dX8_tune_24 : decode cX8_tune 24 = .ok (.bipush (-2), 2) := by decide +kernel
theorem dX8_tune_26 : decode cX8_tune 26 = .ok (.ireturn, 1) := by decide +kernel
theorem dX8_tune_27 : decode cX8_tune 27 = .ok (.aload_n 0, 1) := by decide +kernel
theorem dX8_tune_28 : decode cX8_tune 28 = .ok (.getfield 19, 3) := by decide +kernel
theorem dX8_tune_31 : decode cX8_tune 31 = .ok (.iload_n 1, 1) := by decide +kernel
theorem dX8_tune_32 : decode cX8_tune 32 = .ok (.iconst 2, 1) := by decide +kernel
theorem dX8_tune_33 : decode cX8_tune 33 = .ok (.invokevirtual 131, 3) := by decide +kernel
theorem dX8_tune_36 : decode cX8_tune 36 = .ok (.istore_n 3, 1) := by decide +kernel
theorem dX8_tune_37 : decode cX8_tune 37 = .ok (.aload_n 0, 1) := by decide +kernel
theorem dX8_tune_38 : decode cX8_tune 38 = .ok (.getfield 19, 3) := by decide +kernel
theorem dX8_tune_41 : decode cX8_tune 41 = .ok (.iload_n 1, 1) := by decide +kernel
theorem dX8_tune_42 : decode cX8_tune 42 = .ok (.iconst 2, 1) := by decide +kernel
theorem dX8_tune_43 : decode cX8_tune 43 = .ok (.iload_n 2, 1) := by decide +kernel
theorem dX8_tune_44 : decode cX8_tune 44 = .ok (.invokevirtual 176, 3) := by decide +kernel
theorem dX8_tune_47 : decode cX8_tune 47 = .ok (.iload_n 3, 1) := by decide +kernel
theorem dX8_tune_48 : decode cX8_tune 48 = .ok (.ireturn, 1) := by decide +kernel
set_option maxHeartbeats 4000000 in
set_option maxRecDepth 100000 in
theorem m_X8_tune (l : Launch) (D : va_G) (cy : Nat → ClassId) (g : Nat → Nat) (σ : ST) (p1 : Int32) (p2 : Int32) (sz : Nat) (hJ : J8 σ)  : Met l yX8_tune (ww yX8_tune cX8_tune 4 (some .int)) ({ frames := 3, cells := 0, slots := 0, locals := 192 }) (va_Pc [.ref (gO g 17), .int p1, .int p2] (pr8 D cy g σ sz)) (qi8 D cy g sz (fun r τ => Fr (fO [0, 1, 2, 3, 4]) σ τ ∧ J8 τ ∧ ((-2147483648 : Int) ≤ r.toInt ∧ r.toInt ≤ 1000000) ∧ True)) 0 0 (A8 cy g sz) := by
  refine Met.ofW (cc := cX8_tune) (maxL := 4) (ret := (some .int)) (by decide) rfl ?_
  intro p e s m args below meth c s₁ B hml hv
  obtain ⟨rfl, hsz, hP, hK, hD0, hC⟩ := hv
  have hx := B.exec
  have hb := B.bytes
  have hr := B.returns
  have hts := hts_g (atoms_spec (ws := ww yX8_tune cX8_tune 4 (some .int)) B.pre)
  have hown : s.vm.findClass RX8 = some m.cls := findClass_of_methodNamed B.named
  have hlocks := B.notSynchronized
  clear B
  subst hsz
  have hD := fun τ => A8_D (sz := s.heap.size) hD0 τ
  clear hD0
  have hS : va_S (A8 cy g s.heap.size) s.heap s.heap [] := va_S.rf
  have hl := lv_entry ([.ref (gO g 17), .int p1, .int p2]) (n := 4) (Nat.le_of_ble_eq_true rfl)
  rw [lg_entry_eq]
  generalize (lg_sl ([.ref (gO g 17), .int p1, .int p2]) ++ List.replicate (4 - (lg_sl ([.ref (gO g 17), .int p1, .int p2])).length) Slot.unset).toArray = ls at hl ⊢
  have hl : lv_has ls 4 [(0, .ref (gO g 17)), (1, .int p1), (2, .int p2)] := hl
  refine lv_aload_n hx hb dX8_tune_0 rfl (lv_at hl 0 rfl) ?_
  obtain ⟨dx1, edx1⟩ : ∃ z : Nat, ((σ 17).1 1).toInt.toNat = z := ⟨_, rfl⟩
  have hdx1 : 0 ≤ dx1 ∧ dx1 < 5 := mnow (by have f0 := j8_8_1 hJ rfl; omega) edx1
  refine g8_8_1 (o := dx1) hx hb hts hown hK hP edx1 (hts _ q435) dX8_tune_1 ?_
  refine lv_iload_n hx hb dX8_tune_4 rfl (lv_at hl 1 rfl) ?_
  refine va_calli (va_runV (As := [.int p1]) (rest := []) ⟨hx, hb, hml, hown, hts⟩ (m_X0_hasBrass l D cy g σ  dx1 p1 _ hJ (show 0 ≤ dx1 ∧ dx1 < 5 from hdx1)) (cwV 1 hts (gd_V q776 q599 q600 q127 q601) rfl rfl rfl (by decide +kernel) ⟨(Nat.le_of_ble_eq_true rfl), (Nat.le_of_ble_eq_true rfl)⟩) (pv8 hP hK hD hC hS (rv8_0 hK hP hdx1)) rfl rfl hl.1 rfl (lv_room (Nat.le_of_ble_eq_true rfl)) dX8_tune_5 ⟨Nat.le_of_ble_eq_true rfl, Nat.le_of_ble_eq_true rfl⟩) hS (fun q _ h => up8 hS q h) (up8 hS) (fun r2 σ3 tS H1 locs ht hvm hw4 hB hz1 hk1 hS => ?_)
  have hP : va_P D clz (WD8 cy g σ3) H1 := by rw [← ht]; exact hB
  clear hB hz1 hk1 hvm ht
  generalize H1 = H at hP hS ⊢
  have hw4E : σ = σ3 := (hw4.1).symm
  subst hw4E
  have b5 : (0 : Int) ≤ r2.toInt ∧ r2.toInt ≤ 1 := hw4.2.1
  have b6 : (r2.toInt = 0) ∨ ((0 : Int) ≤ p1.toInt ∧ p1.toInt ≤ 3) := hw4.2.2.1
  refine lv_if_eq (tgt := 24) hx hb dX8_tune_8 (by decide) (fun c7 => ?_) (fun c7 => ?_)
  ·
    have k8 := peq32 c7
    refine lv_bipush (v := (-2)) hx hb dX8_tune_24 (by decide) ?_
    exact W.iret (v := (-2)) hx hb hr (fun tS ht hW => ⟨⟨(-2), σ, rfl, ⟨Fr.rf, hJ, (show (-2147483648 : Int) ≤ ((-2) : Int32).toInt ∧ ((-2) : Int32).toInt ≤ 1000000 from (by have zm2 : ((-2) : Int32).toInt = (-2) := (by decide); omega)), trivial⟩, (show va_P D clz (WD8 cy g σ) tS.heap by rw [ht]; exact hP)⟩, hS.F ht⟩) hS.2.2 dX8_tune_26
  ·
    have k9 := neq32 c7
    refine lv_iload_n hx hb dX8_tune_11 rfl (lv_at hl 2 rfl) ?_
    refine lv_bipush (v := 100) hx hb dX8_tune_12 (by decide) ?_
    refine lv_icmp_lt (tgt := 24) hx hb dX8_tune_14 (by decide) (fun c10 => ?_) (fun c10 => ?_)
    ·
      have k11 := plt32 c10
      refine lv_bipush (v := (-2)) hx hb dX8_tune_24 (by decide) ?_
      exact W.iret (v := (-2)) hx hb hr (fun tS ht hW => ⟨⟨(-2), σ, rfl, ⟨Fr.rf, hJ, (show (-2147483648 : Int) ≤ ((-2) : Int32).toInt ∧ ((-2) : Int32).toInt ≤ 1000000 from (by have zm2 : ((-2) : Int32).toInt = (-2) := (by decide); omega)), trivial⟩, (show va_P D clz (WD8 cy g σ) tS.heap by rw [ht]; exact hP)⟩, hS.F ht⟩) hS.2.2 dX8_tune_26
    ·
      have k12 := nlt32 c10
      refine lv_iload_n hx hb dX8_tune_17 rfl (lv_at hl 2 rfl) ?_
      refine lv_sipush (v := 999) hx hb dX8_tune_18 (by decide) ?_
      refine lv_icmp_le (tgt := 27) hx hb dX8_tune_21 (by decide) (fun c13 => ?_) (fun c13 => ?_)
      ·
        have k14 := ple32 c13
        refine lv_aload_n hx hb dX8_tune_27 rfl (lv_at hl 0 rfl) ?_
        refine g8_8_1 (o := dx1) hx hb hts hown hK hP edx1 (hts _ q435) dX8_tune_28 ?_
        refine lv_iload_n hx hb dX8_tune_31 rfl (lv_at hl 1 rfl) ?_
        refine lv_iconst (v := 2) hx hb dX8_tune_32 (by decide) ?_
        refine va_calli (va_runV (As := [.int p1, .int 2]) (rest := []) ⟨hx, hb, hml, hown, hts⟩ (m_X0_brassField l D cy g σ  dx1 p1 (2) _ hJ (show 0 ≤ dx1 ∧ dx1 < 5 from hdx1)) (cwV 2 hts (gd_V q717 q718 q719 q127 q720) rfl rfl rfl (by decide +kernel) ⟨(Nat.le_of_ble_eq_true rfl), (Nat.le_of_ble_eq_true rfl)⟩) (pv8 hP hK hD hC hS (rv8_0 hK hP hdx1)) rfl rfl hl.1 rfl (lv_room (Nat.le_of_ble_eq_true rfl)) dX8_tune_33 ⟨Nat.le_of_ble_eq_true rfl, Nat.le_of_ble_eq_true rfl⟩) hS (fun q _ h => up8 hS q h) (up8 hS) (fun r15 σ16 tS H1 locs ht hvm hw17 hB hz1 hk1 hS => ?_)
        have hP : va_P D clz (WD8 cy g σ16) H1 := by rw [← ht]; exact hB
        clear hB hz1 hk1 hvm ht
        generalize H1 = H at hP hS ⊢
        have hw17E : σ = σ16 := (hw17.1).symm
        subst hw17E
        have b18 : (-2147483648 : Int) ≤ r15.toInt ∧ r15.toInt ≤ 1000000 := hw17.2.1
        refine lv_istore_n (lv' := [(3, .int r15), (0, .ref (gO g 17)), (1, .int p1), (2, .int p2)]) hx hb dX8_tune_36 rfl hl (by decide) rfl (fun ls hl => ?_)
        refine lv_aload_n hx hb dX8_tune_37 rfl (lv_at hl 1 rfl) ?_
        refine g8_8_1 (o := dx1) hx hb hts hown hK hP edx1 (hts _ q435) dX8_tune_38 ?_
        refine lv_iload_n hx hb dX8_tune_41 rfl (lv_at hl 2 rfl) ?_
        refine lv_iconst (v := 2) hx hb dX8_tune_42 (by decide) ?_
        refine lv_iload_n hx hb dX8_tune_43 rfl (lv_at hl 3 rfl) ?_
        refine va_callv (va_runV (As := [.int p1, .int 2, .int p2]) (rest := []) ⟨hx, hb, hml, hown, hts⟩ (m_X0_setBrass l D cy g σ  dx1 p1 (2) p2 _ hJ (show 0 ≤ dx1 ∧ dx1 < 5 from hdx1) (show (-1 : Int) ≤ p1.toInt ∧ p1.toInt ≤ 3 from (by have f0 := b6; have f1 := b5; have f2 := k9; have g0 := rg32 p1; have z0 : (0 : Int32).toInt = 0 := (by decide); omega)) (show (0 : Int) ≤ (2 : Int32).toInt ∧ (2 : Int32).toInt ≤ 6 from (by have f0 := b6; have f1 := b5; have f2 := k9; have g0 := rg32 p1; have z0 : (0 : Int32).toInt = 0 := (by decide); have z2 : (2 : Int32).toInt = 2 := (by decide); omega)) (show (-2147483648 : Int) ≤ p2.toInt ∧ p2.toInt ≤ 1000000 from (by have f0 := b6; have f1 := k12; have f2 := k14; have f3 := b5; have f4 := k9; have g0 := rg32 p1; have g1 := rg32 p2; have z0 : (0 : Int32).toInt = 0 := (by decide); have z2 : (2 : Int32).toInt = 2 := (by decide); have z100 : (100 : Int32).toInt = 100 := (by decide); have z999 : (999 : Int32).toInt = 999 := (by decide); omega))) (cwV 3 hts (gd_V q777 q595 q596 q127 q597) rfl rfl rfl (by decide +kernel) ⟨(Nat.le_of_ble_eq_true rfl), (Nat.le_of_ble_eq_true rfl)⟩) (pv8 hP hK hD hC hS (rv8_0 hK hP hdx1)) rfl rfl hl.1 rfl (lv_room (Nat.le_of_ble_eq_true rfl)) dX8_tune_44 ⟨Nat.le_of_ble_eq_true rfl, Nat.le_of_ble_eq_true rfl⟩) hS (fun q _ h => up8 hS q h) (up8 hS) (fun σ20 tS H1 locs ht hvm hw21 hB hz1 hk1 hS => ?_)
        have hP : va_P D clz (WD8 cy g σ20) H1 := by rw [← ht]; exact hB
        clear hB hz1 hk1 hvm ht
        generalize H1 = H at hP hS ⊢
        have hF22 : Fr (fO [dx1]) σ σ20 := hw21.1
        have hJ23 : J8 σ20 := hw21.2.1
        refine lv_iload_n hx hb dX8_tune_47 rfl (lv_at hl 0 rfl) ?_
        exact W.iret (v := r15) hx hb hr (fun tS ht hW => ⟨⟨r15, σ20, rfl, ⟨Fr.tr (Fr.rf) hF22 (fO_sub (by have q0 := hdx1; intro x hx; simp at hx ⊢; omega)), hJ23, (show (-2147483648 : Int) ≤ r15.toInt ∧ r15.toInt ≤ 1000000 from (by have f0 := b18; have g0 := rg32 r15; omega)), trivial⟩, (show va_P D clz (WD8 cy g σ20) tS.heap by rw [ht]; exact hP)⟩, hS.F ht⟩) hS.2.2 dX8_tune_48
      ·
        have k24 := nle32 c13
        refine lv_bipush (v := (-2)) hx hb dX8_tune_24 (by decide) ?_
        exact W.iret (v := (-2)) hx hb hr (fun tS ht hW => ⟨⟨(-2), σ, rfl, ⟨Fr.rf, hJ, (show (-2147483648 : Int) ≤ ((-2) : Int32).toInt ∧ ((-2) : Int32).toInt ≤ 1000000 from (by have zm2 : ((-2) : Int32).toInt = (-2) := (by decide); omega)), trivial⟩, (show va_P D clz (WD8 cy g σ) tS.heap by rw [ht]; exact hP)⟩, hS.F ht⟩) hS.2.2 dX8_tune_26

theorem q785 : Cond.code yX0_isSounding cX0_isSounding 3 (some .boolean) ∈ lw_g := lw_gm (List.mem_of_getElem? (i := 785) (by decide +kernel)) rfl
theorem q786 : Cond.methodLink RX0 57 yX0_isRest ∈ lw_g := lw_gm (List.mem_of_getElem? (i := 786) (by decide +kernel)) rfl
theorem dX0_isSounding_0 : decode cX0_isSounding 0 = .ok (.aload_n 0, 1) := by decide +kernel
theorem dX0_isSounding_1 : decode cX0_isSounding 1 = .ok (.iload_n 1, 1) := by decide +kernel
theorem dX0_isSounding_2 : decode cX0_isSounding 2 = .ok (.iload_n 2, 1) := by decide +kernel
theorem dX0_isSounding_3 : decode cX0_isSounding 3 = .ok (.invokevirtual 53, 3) := by decide +kernel
theorem dX0_isSounding_6 : decode cX0_isSounding 6 = .ok (.ifCond .eq 16, 3) := by decide +kernel
theorem dX0_isSounding_9 : decode cX0_isSounding 9 = .ok (.aload_n 0, 1) := by decide +kernel
theorem dX0_isSounding_10 : decode cX0_isSounding 10 = .ok (.iload_n 1, 1) := by decide +kernel
theorem dX0_isSounding_11 : decode cX0_isSounding 11 = .ok (.iload_n 2, 1) := by decide +kernel
theorem dX0_isSounding_12 : decode cX0_isSounding 12 = .ok (.invokevirtual 57, 3) := by decide +kernel
theorem dX0_isSounding_15 : decode cX0_isSounding 15 = .ok (.ifCond .ne 7, 3) := by decide +kernel
theorem dX0_isSounding_18 : decode cX0_isSounding 18 = .ok (.iconst 1, 1) := by decide +kernel
theorem dX0_isSounding_19 : decode cX0_isSounding 19 = .ok (.goto 4, 3) := by decide +kernel
theorem dX0_isSounding_22 : decode cX0_isSounding 22 = .ok (.iconst 0, 1) := by decide +kernel
theorem dX0_isSounding_23 : decode cX0_isSounding 23 = .ok (.ireturn, 1) := by decide +kernel
set_option maxHeartbeats 4000000 in
set_option maxRecDepth 100000 in
theorem m_X0_isSounding (l : Launch) (D : va_G) (cy : Nat → ClassId) (g : Nat → Nat) (σ : ST) (d0 : Nat) (p1 : Int32) (p2 : Int32) (sz : Nat) (hJ : J8 σ) (hd0 : 0 ≤ d0 ∧ d0 < 5) : Met l yX0_isSounding (ww yX0_isSounding cX0_isSounding 3 (some .boolean)) ({ frames := 4, cells := 0, slots := 0, locals := 256 }) (va_Pc [.ref (gO g d0), .int p1, .int p2] (pr8 D cy g σ sz)) (qi8 D cy g sz (fun r τ => τ = σ ∧ ((0 : Int) ≤ r.toInt ∧ r.toInt ≤ 1) ∧ ((r.toInt = 0) ∨ ((0 : Int) ≤ p1.toInt ∧ p1.toInt ≤ 2 ∧ (0 : Int) ≤ p2.toInt ∧ p2.toInt ≤ 15)) ∧ True)) 0 0 (A8 cy g sz) := by
  refine Met.ofW (cc := cX0_isSounding) (maxL := 3) (ret := (some .boolean)) (by decide) rfl ?_
  intro p e s m args below meth c s₁ B hml hv
  obtain ⟨rfl, hsz, hP, hK, hD0, hC⟩ := hv
  have hx := B.exec
  have hb := B.bytes
  have hr := B.returns
  have hts := hts_g (atoms_spec (ws := ww yX0_isSounding cX0_isSounding 3 (some .boolean)) B.pre)
  have hown : s.vm.findClass RX0 = some m.cls := findClass_of_methodNamed B.named
  have hlocks := B.notSynchronized
  clear B
  subst hsz
  have hD := fun τ => A8_D (sz := s.heap.size) hD0 τ
  clear hD0
  have hS : va_S (A8 cy g s.heap.size) s.heap s.heap [] := va_S.rf
  have hl := lv_entry ([.ref (gO g d0), .int p1, .int p2]) (n := 3) (Nat.le_of_ble_eq_true rfl)
  rw [lg_entry_eq]
  generalize (lg_sl ([.ref (gO g d0), .int p1, .int p2]) ++ List.replicate (3 - (lg_sl ([.ref (gO g d0), .int p1, .int p2])).length) Slot.unset).toArray = ls at hl ⊢
  have hl : lv_has ls 3 [(0, .ref (gO g d0)), (1, .int p1), (2, .int p2)] := hl
  refine lv_aload_n hx hb dX0_isSounding_0 rfl (lv_at hl 0 rfl) ?_
  refine lv_iload_n hx hb dX0_isSounding_1 rfl (lv_at hl 1 rfl) ?_
  refine lv_iload_n hx hb dX0_isSounding_2 rfl (lv_at hl 2 rfl) ?_
  refine va_calli (va_runV (As := [.int p1, .int p2]) (rest := []) ⟨hx, hb, hml, hown, hts⟩ (m_X0_hasTone l D cy g σ  d0 p1 p2 _ hJ (show 0 ≤ d0 ∧ d0 < 5 from hd0)) (cwV 2 hts (gd_V q664 q665 q666 q127 q667) rfl rfl rfl (by decide +kernel) ⟨(Nat.le_of_ble_eq_true rfl), (Nat.le_of_ble_eq_true rfl)⟩) (pv8 hP hK hD hC hS (rv8_0 hK hP hd0)) rfl rfl hl.1 rfl (lv_room (Nat.le_of_ble_eq_true rfl)) dX0_isSounding_3 ⟨Nat.le_of_ble_eq_true rfl, Nat.le_of_ble_eq_true rfl⟩) hS (fun q _ h => up8 hS q h) (up8 hS) (fun r1 σ2 tS H1 locs ht hvm hw3 hB hz1 hk1 hS => ?_)
  have hP : va_P D clz (WD8 cy g σ2) H1 := by rw [← ht]; exact hB
  clear hB hz1 hk1 hvm ht
  generalize H1 = H at hP hS ⊢
  have hw3E : σ = σ2 := (hw3.1).symm
  subst hw3E
  have b4 : (0 : Int) ≤ r1.toInt ∧ r1.toInt ≤ 1 := hw3.2.1
  have b5 : (r1.toInt = 0) ∨ ((0 : Int) ≤ p1.toInt ∧ p1.toInt ≤ 2 ∧ (0 : Int) ≤ p2.toInt ∧ p2.toInt ≤ 15) := hw3.2.2.1
  refine lv_if_eq (tgt := 22) hx hb dX0_isSounding_6 (by decide) (fun c6 => ?_) (fun c6 => ?_)
  ·
    have k7 := peq32 c6
    refine lv_iconst (v := 0) hx hb dX0_isSounding_22 (by decide) ?_
    exact W.zret (v := 0) hx hb hr rfl (fun tS ht hW => ⟨⟨0, σ, rfl, ⟨rfl, (show (0 : Int) ≤ (0 : Int32).toInt ∧ (0 : Int32).toInt ≤ 1 from (by have z0 : (0 : Int32).toInt = 0 := (by decide); omega)), (show ((0 : Int32).toInt = 0) ∨ ((0 : Int) ≤ p1.toInt ∧ p1.toInt ≤ 2 ∧ (0 : Int) ≤ p2.toInt ∧ p2.toInt ≤ 15) from (by have f0 := b5; have f1 := b4; have f2 := k7; have g0 := rg32 p1; have g1 := rg32 p2; have z0 : (0 : Int32).toInt = 0 := (by decide); omega)), trivial⟩, (show va_P D clz (WD8 cy g σ) tS.heap by rw [ht]; exact hP)⟩, hS.F ht⟩) hS.2.2 dX0_isSounding_23
  ·
    have k8 := neq32 c6
    refine lv_aload_n hx hb dX0_isSounding_9 rfl (lv_at hl 0 rfl) ?_
    refine lv_iload_n hx hb dX0_isSounding_10 rfl (lv_at hl 1 rfl) ?_
    refine lv_iload_n hx hb dX0_isSounding_11 rfl (lv_at hl 2 rfl) ?_
    refine va_calli (va_runV (As := [.int p1, .int p2]) (rest := []) ⟨hx, hb, hml, hown, hts⟩ (m_X0_isRest l D cy g σ  d0 p1 p2 _ hJ (show 0 ≤ d0 ∧ d0 < 5 from hd0) (show (0 : Int) ≤ p2.toInt ∧ p2.toInt ≤ 15 from (by have f0 := b5; have f1 := b4; have f2 := k8; have g0 := rg32 p2; have z0 : (0 : Int32).toInt = 0 := (by decide); omega))) (cwV 2 hts (gd_V q786 q750 q751 q127 q752) rfl rfl rfl (by decide +kernel) ⟨(Nat.le_of_ble_eq_true rfl), (Nat.le_of_ble_eq_true rfl)⟩) (pv8 hP hK hD hC hS (rv8_0 hK hP hd0)) rfl rfl hl.1 rfl (lv_room (Nat.le_of_ble_eq_true rfl)) dX0_isSounding_12 ⟨Nat.le_of_ble_eq_true rfl, Nat.le_of_ble_eq_true rfl⟩) hS (fun q _ h => up8 hS q h) (up8 hS) (fun r9 σ10 tS H1 locs ht hvm hw11 hB hz1 hk1 hS => ?_)
    have hP : va_P D clz (WD8 cy g σ10) H1 := by rw [← ht]; exact hB
    clear hB hz1 hk1 hvm ht
    generalize H1 = H at hP hS ⊢
    have hw11E : σ = σ10 := (hw11.1).symm
    subst hw11E
    have b12 : (0 : Int) ≤ r9.toInt ∧ r9.toInt ≤ 1 := hw11.2.1
    refine lv_if_ne (tgt := 22) hx hb dX0_isSounding_15 (by decide) (fun c13 => ?_) (fun c13 => ?_)
    ·
      have k14 := neq32 c13
      refine lv_iconst (v := 0) hx hb dX0_isSounding_22 (by decide) ?_
      exact W.zret (v := 0) hx hb hr rfl (fun tS ht hW => ⟨⟨0, σ, rfl, ⟨rfl, (show (0 : Int) ≤ (0 : Int32).toInt ∧ (0 : Int32).toInt ≤ 1 from (by have z0 : (0 : Int32).toInt = 0 := (by decide); omega)), (show ((0 : Int32).toInt = 0) ∨ ((0 : Int) ≤ p1.toInt ∧ p1.toInt ≤ 2 ∧ (0 : Int) ≤ p2.toInt ∧ p2.toInt ≤ 15) from (by have f0 := b5; have f1 := b4; have f2 := k8; have g0 := rg32 p1; have g1 := rg32 p2; have z0 : (0 : Int32).toInt = 0 := (by decide); omega)), trivial⟩, (show va_P D clz (WD8 cy g σ) tS.heap by rw [ht]; exact hP)⟩, hS.F ht⟩) hS.2.2 dX0_isSounding_23
    ·
      have k15 := peq32 c13
      refine lv_iconst (v := 1) hx hb dX0_isSounding_18 (by decide) ?_
      refine lv_goto (tgt := 23) hx hb dX0_isSounding_19 (by decide) ?_
      exact W.zret (v := 1) hx hb hr rfl (fun tS ht hW => ⟨⟨1, σ, rfl, ⟨rfl, (show (0 : Int) ≤ (1 : Int32).toInt ∧ (1 : Int32).toInt ≤ 1 from (by have z1 : (1 : Int32).toInt = 1 := (by decide); omega)), (show ((1 : Int32).toInt = 0) ∨ ((0 : Int) ≤ p1.toInt ∧ p1.toInt ≤ 2 ∧ (0 : Int) ≤ p2.toInt ∧ p2.toInt ≤ 15) from (by have f0 := b5; have f1 := b4; have f2 := k8; have g0 := rg32 p1; have g1 := rg32 p2; have z0 : (0 : Int32).toInt = 0 := (by decide); have z1 : (1 : Int32).toInt = 1 := (by decide); omega)), trivial⟩, (show va_P D clz (WD8 cy g σ) tS.heap by rw [ht]; exact hP)⟩, hS.F ht⟩) hS.2.2 dX0_isSounding_23

theorem q781 : Cond.code yX8_pitch cX8_pitch 5 (some .int) ∈ lw_g := lw_gm (List.mem_of_getElem? (i := 781) (by decide +kernel)) rfl
theorem q782 : Cond.methodLink RX8 179 yX0_isSounding ∈ lw_g := lw_gm (List.mem_of_getElem? (i := 782) (by decide +kernel)) rfl
theorem q783 : Cond.instanceMethod yX0_isSounding ∈ lw_g := lw_gm (List.mem_of_getElem? (i := 783) (by decide +kernel)) rfl
theorem q784 : Cond.selects RX0 yX0_isSounding yX0_isSounding ∈ lw_g := lw_gm (List.mem_of_getElem? (i := 784) (by decide +kernel)) rfl
theorem q787 : Cond.methodLink RX8 182 yX0_setTone ∈ lw_g := lw_gm (List.mem_of_getElem? (i := 787) (by decide +kernel)) rfl
theorem dX8_pitch_0 : decode cX8_pitch 0 = .ok (.aload_n 0, 1) := by decide +kernel
theorem dX8_pitch_1 : decode cX8_pitch 1 = .ok (.getfield 19, 3) := by decide +kernel
theorem dX8_pitch_4 : decode cX8_pitch 4 = .ok (.iload_n 1, 1) := by decide +kernel
theorem dX8_pitch_5 : decode cX8_pitch 5 = .ok (.iload_n 2, 1) := by decide +kernel
theorem dX8_pitch_6 : decode cX8_pitch 6 = .ok (.invokevirtual 179, 3) := by decide +kernel
theorem dX8_pitch_9 : decode cX8_pitch 9 = .ok (.ifCond .eq 13, 3) := by decide +kernel
theorem dX8_pitch_12 : decode cX8_pitch 12 = .ok (.iload_n 3, 1) := by decide +kernel
theorem dX8_pitch_13 : decode cX8_pitch 13 = .ok (.ifCond .lt 9, 3) := by decide +kernel
theorem dX8_pitch_16 : decode cX8_pitch 16 = .ok (.iload_n 3, 1) := by decide +kernel
theorem dX8_pitch_17 : decode cX8_pitch 17 = .ok (.bipush 60, 2) := by decide +kernel
theorem dX8_pitch_19 : decode cX8_pitch 19 = .ok (.if_icmp .le 6, 3) := by decide +kernel
theorem dX8_pitch_22 : decode cX8_pitch 22 = .ok (.bipush (-2), 2) := by decide +kernel
theorem dX8_pitch_24 : decode cX8_pitch 24 = .ok (.ireturn, 1) := by decide +kernel
theorem dX8_pitch_25 : decode cX8_pitch 25 = .ok (.aload_n 0, 1) := by decide +kernel
theorem dX8_pitch_26 : decode cX8_pitch 26 = .ok (.getfield 19, 3) := by decide +kernel
theorem dX8_pitch_29 : decode cX8_pitch 29 = .ok (.iload_n 1, 1) := by decide +kernel
theorem dX8_pitch_30 : decode cX8_pitch 30 = .ok (.iload_n 2, 1) := by decide +kernel
theorem dX8_pitch_31 : decode cX8_pitch 31 = .ok (.iconst 0, 1) := by decide +kernel
theorem dX8_pitch_32 : decode cX8_pitch 32 = .ok (.invokevirtual 138, 3) := by decide +kernel
theorem dX8_pitch_35 : decode cX8_pitch 35 = .ok (.istore 4, 2) := by decide +kernel
theorem dX8_pitch_37 : decode cX8_pitch 37 = .ok (.aload_n 0, 1) := by decide +kernel
theorem dX8_pitch_38 : decode cX8_pitch 38 = .ok (.getfield 19, 3) := by decide +kernel
theorem dX8_pitch_41 : decode cX8_pitch 41 = .ok (.iload_n 1, 1) := by decide +kernel
theorem dX8_pitch_42 : decode cX8_pitch 42 = .ok (.iload_n 2, 1) := by decide +kernel
theorem dX8_pitch_43 : decode cX8_pitch 43 = .ok (.iconst 0, 1) := by decide +kernel
theorem dX8_pitch_44 : decode cX8_pitch 44 = .ok (.iload_n 3, 1) := by decide +kernel
theorem dX8_pitch_45 : decode cX8_pitch 45 = .ok (.invokevirtual 182, 3) := by decide +kernel
theorem dX8_pitch_48 : decode cX8_pitch 48 = .ok (.iload 4, 2) := by decide +kernel
theorem dX8_pitch_50 : decode cX8_pitch 50 = .ok (.ireturn, 1) := by decide +kernel
set_option maxHeartbeats 4000000 in
set_option maxRecDepth 100000 in
theorem m_X8_pitch (l : Launch) (D : va_G) (cy : Nat → ClassId) (g : Nat → Nat) (σ : ST) (p1 : Int32) (p2 : Int32) (p3 : Int32) (sz : Nat) (hJ : J8 σ)  : Met l yX8_pitch (ww yX8_pitch cX8_pitch 5 (some .int)) ({ frames := 5, cells := 0, slots := 0, locals := 320 }) (va_Pc [.ref (gO g 17), .int p1, .int p2, .int p3] (pr8 D cy g σ sz)) (qi8 D cy g sz (fun r τ => Fr (fO [0, 1, 2, 3, 4]) σ τ ∧ J8 τ ∧ True)) 0 0 (A8 cy g sz) := by
  refine Met.ofW (cc := cX8_pitch) (maxL := 5) (ret := (some .int)) (by decide) rfl ?_
  intro p e s m args below meth c s₁ B hml hv
  obtain ⟨rfl, hsz, hP, hK, hD0, hC⟩ := hv
  have hx := B.exec
  have hb := B.bytes
  have hr := B.returns
  have hts := hts_g (atoms_spec (ws := ww yX8_pitch cX8_pitch 5 (some .int)) B.pre)
  have hown : s.vm.findClass RX8 = some m.cls := findClass_of_methodNamed B.named
  have hlocks := B.notSynchronized
  clear B
  subst hsz
  have hD := fun τ => A8_D (sz := s.heap.size) hD0 τ
  clear hD0
  have hS : va_S (A8 cy g s.heap.size) s.heap s.heap [] := va_S.rf
  have hl := lv_entry ([.ref (gO g 17), .int p1, .int p2, .int p3]) (n := 5) (Nat.le_of_ble_eq_true rfl)
  rw [lg_entry_eq]
  generalize (lg_sl ([.ref (gO g 17), .int p1, .int p2, .int p3]) ++ List.replicate (5 - (lg_sl ([.ref (gO g 17), .int p1, .int p2, .int p3])).length) Slot.unset).toArray = ls at hl ⊢
  have hl : lv_has ls 5 [(0, .ref (gO g 17)), (1, .int p1), (2, .int p2), (3, .int p3)] := hl
  refine lv_aload_n hx hb dX8_pitch_0 rfl (lv_at hl 0 rfl) ?_
  obtain ⟨dx1, edx1⟩ : ∃ z : Nat, ((σ 17).1 1).toInt.toNat = z := ⟨_, rfl⟩
  have hdx1 : 0 ≤ dx1 ∧ dx1 < 5 := mnow (by have f0 := j8_8_1 hJ rfl; omega) edx1
  refine g8_8_1 (o := dx1) hx hb hts hown hK hP edx1 (hts _ q435) dX8_pitch_1 ?_
  refine lv_iload_n hx hb dX8_pitch_4 rfl (lv_at hl 1 rfl) ?_
  refine lv_iload_n hx hb dX8_pitch_5 rfl (lv_at hl 2 rfl) ?_
  refine va_calli (va_runV (As := [.int p1, .int p2]) (rest := []) ⟨hx, hb, hml, hown, hts⟩ (m_X0_isSounding l D cy g σ  dx1 p1 p2 _ hJ (show 0 ≤ dx1 ∧ dx1 < 5 from hdx1)) (cwV 2 hts (gd_V q782 q783 q784 q127 q785) rfl rfl rfl (by decide +kernel) ⟨(Nat.le_of_ble_eq_true rfl), (Nat.le_of_ble_eq_true rfl)⟩) (pv8 hP hK hD hC hS (rv8_0 hK hP hdx1)) rfl rfl hl.1 rfl (lv_room (Nat.le_of_ble_eq_true rfl)) dX8_pitch_6 ⟨Nat.le_of_ble_eq_true rfl, Nat.le_of_ble_eq_true rfl⟩) hS (fun q _ h => up8 hS q h) (up8 hS) (fun r2 σ3 tS H1 locs ht hvm hw4 hB hz1 hk1 hS => ?_)
  have hP : va_P D clz (WD8 cy g σ3) H1 := by rw [← ht]; exact hB
  clear hB hz1 hk1 hvm ht
  generalize H1 = H at hP hS ⊢
  have hw4E : σ = σ3 := (hw4.1).symm
  subst hw4E
  have b5 : (0 : Int) ≤ r2.toInt ∧ r2.toInt ≤ 1 := hw4.2.1
  have b6 : (r2.toInt = 0) ∨ ((0 : Int) ≤ p1.toInt ∧ p1.toInt ≤ 2 ∧ (0 : Int) ≤ p2.toInt ∧ p2.toInt ≤ 15) := hw4.2.2.1
  refine lv_if_eq (tgt := 22) hx hb dX8_pitch_9 (by decide) (fun c7 => ?_) (fun c7 => ?_)
  ·
    have k8 := peq32 c7
    refine lv_bipush (v := (-2)) hx hb dX8_pitch_22 (by decide) ?_
    exact W.iret (v := (-2)) hx hb hr (fun tS ht hW => ⟨⟨(-2), σ, rfl, ⟨Fr.rf, hJ, trivial⟩, (show va_P D clz (WD8 cy g σ) tS.heap by rw [ht]; exact hP)⟩, hS.F ht⟩) hS.2.2 dX8_pitch_24
  ·
    have k9 := neq32 c7
    refine lv_iload_n hx hb dX8_pitch_12 rfl (lv_at hl 3 rfl) ?_
    refine lv_if_lt (tgt := 22) hx hb dX8_pitch_13 (by decide) (fun c10 => ?_) (fun c10 => ?_)
    ·
      have k11 := plt32 c10
      refine lv_bipush (v := (-2)) hx hb dX8_pitch_22 (by decide) ?_
      exact W.iret (v := (-2)) hx hb hr (fun tS ht hW => ⟨⟨(-2), σ, rfl, ⟨Fr.rf, hJ, trivial⟩, (show va_P D clz (WD8 cy g σ) tS.heap by rw [ht]; exact hP)⟩, hS.F ht⟩) hS.2.2 dX8_pitch_24
    ·
      have k12 := nlt32 c10
      refine lv_iload_n hx hb dX8_pitch_16 rfl (lv_at hl 3 rfl) ?_
      refine lv_bipush (v := 60) hx hb dX8_pitch_17 (by decide) ?_
      refine lv_icmp_le (tgt := 25) hx hb dX8_pitch_19 (by decide) (fun c13 => ?_) (fun c13 => ?_)
      ·
        have k14 := ple32 c13
        refine lv_aload_n hx hb dX8_pitch_25 rfl (lv_at hl 0 rfl) ?_
        refine g8_8_1 (o := dx1) hx hb hts hown hK hP edx1 (hts _ q435) dX8_pitch_26 ?_
        refine lv_iload_n hx hb dX8_pitch_29 rfl (lv_at hl 1 rfl) ?_
        refine lv_iload_n hx hb dX8_pitch_30 rfl (lv_at hl 2 rfl) ?_
        refine lv_iconst (v := 0) hx hb dX8_pitch_31 (by decide) ?_
        refine va_calli (va_runV (As := [.int p1, .int p2, .int 0]) (rest := []) ⟨hx, hb, hml, hown, hts⟩ (m_X0_toneField l D cy g σ  dx1 p1 p2 (0) _ hJ (show 0 ≤ dx1 ∧ dx1 < 5 from hdx1)) (cwV 3 hts (gd_V q733 q661 q662 q127 q663) rfl rfl rfl (by decide +kernel) ⟨(Nat.le_of_ble_eq_true rfl), (Nat.le_of_ble_eq_true rfl)⟩) (pv8 hP hK hD hC hS (rv8_0 hK hP hdx1)) rfl rfl hl.1 rfl (lv_room (Nat.le_of_ble_eq_true rfl)) dX8_pitch_32 ⟨Nat.le_of_ble_eq_true rfl, Nat.le_of_ble_eq_true rfl⟩) hS (fun q _ h => up8 hS q h) (up8 hS) (fun r15 σ16 tS H1 locs ht hvm hw17 hB hz1 hk1 hS => ?_)
        have hP : va_P D clz (WD8 cy g σ16) H1 := by rw [← ht]; exact hB
        clear hB hz1 hk1 hvm ht
        generalize H1 = H at hP hS ⊢
        have hw17E : σ = σ16 := (hw17.1).symm
        subst hw17E
        refine lv_istore (lv' := [(4, .int r15), (0, .ref (gO g 17)), (1, .int p1), (2, .int p2), (3, .int p3)]) hx hb dX8_pitch_35 hl (by decide) rfl (fun ls hl => ?_)
        refine lv_aload_n hx hb dX8_pitch_37 rfl (lv_at hl 1 rfl) ?_
        refine g8_8_1 (o := dx1) hx hb hts hown hK hP edx1 (hts _ q435) dX8_pitch_38 ?_
        refine lv_iload_n hx hb dX8_pitch_41 rfl (lv_at hl 2 rfl) ?_
        refine lv_iload_n hx hb dX8_pitch_42 rfl (lv_at hl 3 rfl) ?_
        refine lv_iconst (v := 0) hx hb dX8_pitch_43 (by decide) ?_
        refine lv_iload_n hx hb dX8_pitch_44 rfl (lv_at hl 4 rfl) ?_
        refine va_callv (va_runV (As := [.int p1, .int p2, .int 0, .int p3]) (rest := []) ⟨hx, hb, hml, hown, hts⟩ (m_X0_setTone l D cy g σ  dx1 p1 p2 (0) p3 _ hJ (show 0 ≤ dx1 ∧ dx1 < 5 from hdx1) (show (-1 : Int) ≤ p1.toInt ∧ p1.toInt ≤ 2 from (by have f0 := b6; have f1 := b5; have f2 := k9; have g0 := rg32 p1; have z0 : (0 : Int32).toInt = 0 := (by decide); omega)) (show (-1 : Int) ≤ p2.toInt ∧ p2.toInt ≤ 15 from (by have f0 := b6; have f1 := b5; have f2 := k9; have g0 := rg32 p1; have g1 := rg32 p2; have z0 : (0 : Int32).toInt = 0 := (by decide); omega)) (show (0 : Int) ≤ (0 : Int32).toInt ∧ (0 : Int32).toInt ≤ 4 from (by have f0 := b6; have f1 := b5; have f2 := k9; have g0 := rg32 p1; have g1 := rg32 p2; have z0 : (0 : Int32).toInt = 0 := (by decide); omega))) (cwV 4 hts (gd_V q787 q669 q670 q127 q671) rfl rfl rfl (by decide +kernel) ⟨(Nat.le_of_ble_eq_true rfl), (Nat.le_of_ble_eq_true rfl)⟩) (pv8 hP hK hD hC hS (rv8_0 hK hP hdx1)) rfl rfl hl.1 rfl (lv_room (Nat.le_of_ble_eq_true rfl)) dX8_pitch_45 ⟨Nat.le_of_ble_eq_true rfl, Nat.le_of_ble_eq_true rfl⟩) hS (fun q _ h => up8 hS q h) (up8 hS) (fun σ19 tS H1 locs ht hvm hw20 hB hz1 hk1 hS => ?_)
        have hP : va_P D clz (WD8 cy g σ19) H1 := by rw [← ht]; exact hB
        clear hB hz1 hk1 hvm ht
        generalize H1 = H at hP hS ⊢
        have hF21 : Fr (fO [dx1]) σ σ19 := hw20.1
        have hJ22 : J8 σ19 := hw20.2.1
        refine lv_iload hx hb dX8_pitch_48 (lv_at hl 0 rfl) ?_
        exact W.iret (v := r15) hx hb hr (fun tS ht hW => ⟨⟨r15, σ19, rfl, ⟨Fr.tr (Fr.rf) hF21 (fO_sub (by have q0 := hdx1; intro x hx; simp at hx ⊢; omega)), hJ22, trivial⟩, (show va_P D clz (WD8 cy g σ19) tS.heap by rw [ht]; exact hP)⟩, hS.F ht⟩) hS.2.2 dX8_pitch_50
      ·
        have k23 := nle32 c13
        refine lv_bipush (v := (-2)) hx hb dX8_pitch_22 (by decide) ?_
        exact W.iret (v := (-2)) hx hb hr (fun tS ht hW => ⟨⟨(-2), σ, rfl, ⟨Fr.rf, hJ, trivial⟩, (show va_P D clz (WD8 cy g σ) tS.heap by rw [ht]; exact hP)⟩, hS.F ht⟩) hS.2.2 dX8_pitch_24

theorem q791 : Cond.code yX8_slur cX8_slur 5 (some .int) ∈ lw_g := lw_gm (List.mem_of_getElem? (i := 791) (by decide +kernel)) rfl
theorem dX8_slur_0 : decode cX8_slur 0 = .ok (.aload_n 0, 1) := by decide +kernel
theorem dX8_slur_1 : decode cX8_slur 1 = .ok (.getfield 19, 3) := by decide +kernel
theorem dX8_slur_4 : decode cX8_slur 4 = .ok (.iload_n 1, 1) := by decide +kernel
theorem dX8_slur_5 : decode cX8_slur 5 = .ok (.iload_n 2, 1) := by decide +kernel
theorem dX8_slur_6 : decode cX8_slur 6 = .ok (.invokevirtual 179, 3) := by decide +kernel
theorem dX8_slur_9 : decode cX8_slur 9 = .ok (.ifCond .eq 12, 3) := by decide +kernel
theorem dX8_slur_12 : decode cX8_slur 12 = .ok (.iload_n 3, 1) := by decide +kernel
theorem dX8_slur_13 : decode cX8_slur 13 = .ok (.ifCond .lt 8, 3) := by decide +kernel
theorem dX8_slur_16 : decode cX8_slur 16 = .ok (.iload_n 3, 1) := by decide +kernel
theorem dX8_slur_17 : decode cX8_slur 17 = .ok (.iconst 1, 1) := by decide +kernel
theorem dX8_slur_18 : decode cX8_slur 18 = .ok (.if_icmp .le 6, 3) := by decide +kernel
theorem dX8_slur_21 : decode cX8_slur 21 = .ok (.bipush (-2), 2) := by decide +kernel
theorem dX8_slur_23 : decode cX8_slur 23 = .ok (.ireturn, 1) := by decide +kernel
theorem dX8_slur_24 : decode cX8_slur 24 = .ok (.aload_n 0, 1) := by decide +kernel
theorem dX8_slur_25 : decode cX8_slur 25 = .ok (.getfield 19, 3) := by decide +kernel
theorem dX8_slur_28 : decode cX8_slur 28 = .ok (.iload_n 1, 1) := by decide +kernel
theorem dX8_slur_29 : decode cX8_slur 29 = .ok (.iload_n 2, 1) := by decide +kernel
theorem dX8_slur_30 : decode cX8_slur 30 = .ok (.iconst 2, 1) := by decide +kernel
theorem dX8_slur_31 : decode cX8_slur 31 = .ok (.invokevirtual 138, 3) := by decide +kernel
theorem dX8_slur_34 : decode cX8_slur 34 = .ok (.istore 4, 2) := by decide +kernel
theorem dX8_slur_36 : decode cX8_slur 36 = .ok (.aload_n 0, 1) := by decide +kernel
theorem dX8_slur_37 : decode cX8_slur 37 = .ok (.getfield 19, 3) := by decide +kernel
theorem dX8_slur_40 : decode cX8_slur 40 = .ok (.iload_n 1, 1) := by decide +kernel
theorem dX8_slur_41 : decode cX8_slur 41 = .ok (.iload_n 2, 1) := by decide +kernel
theorem dX8_slur_42 : decode cX8_slur 42 = .ok (.iconst 2, 1) := by decide +kernel
theorem dX8_slur_43 : decode cX8_slur 43 = .ok (.iload_n 3, 1) := by decide +kernel
theorem dX8_slur_44 : decode cX8_slur 44 = .ok (.invokevirtual 182, 3) := by decide +kernel
theorem dX8_slur_47 : decode cX8_slur 47 = .ok (.iload 4, 2) := by decide +kernel
theorem dX8_slur_49 : decode cX8_slur 49 = .ok (.ireturn, 1) := by decide +kernel
set_option maxHeartbeats 4000000 in
set_option maxRecDepth 100000 in
theorem m_X8_slur (l : Launch) (D : va_G) (cy : Nat → ClassId) (g : Nat → Nat) (σ : ST) (p1 : Int32) (p2 : Int32) (p3 : Int32) (sz : Nat) (hJ : J8 σ)  : Met l yX8_slur (ww yX8_slur cX8_slur 5 (some .int)) ({ frames := 5, cells := 0, slots := 0, locals := 320 }) (va_Pc [.ref (gO g 17), .int p1, .int p2, .int p3] (pr8 D cy g σ sz)) (qi8 D cy g sz (fun r τ => Fr (fO [0, 1, 2, 3, 4]) σ τ ∧ J8 τ ∧ True)) 0 0 (A8 cy g sz) := by
  refine Met.ofW (cc := cX8_slur) (maxL := 5) (ret := (some .int)) (by decide) rfl ?_
  intro p e s m args below meth c s₁ B hml hv
  obtain ⟨rfl, hsz, hP, hK, hD0, hC⟩ := hv
  have hx := B.exec
  have hb := B.bytes
  have hr := B.returns
  have hts := hts_g (atoms_spec (ws := ww yX8_slur cX8_slur 5 (some .int)) B.pre)
  have hown : s.vm.findClass RX8 = some m.cls := findClass_of_methodNamed B.named
  have hlocks := B.notSynchronized
  clear B
  subst hsz
  have hD := fun τ => A8_D (sz := s.heap.size) hD0 τ
  clear hD0
  have hS : va_S (A8 cy g s.heap.size) s.heap s.heap [] := va_S.rf
  have hl := lv_entry ([.ref (gO g 17), .int p1, .int p2, .int p3]) (n := 5) (Nat.le_of_ble_eq_true rfl)
  rw [lg_entry_eq]
  generalize (lg_sl ([.ref (gO g 17), .int p1, .int p2, .int p3]) ++ List.replicate (5 - (lg_sl ([.ref (gO g 17), .int p1, .int p2, .int p3])).length) Slot.unset).toArray = ls at hl ⊢
  have hl : lv_has ls 5 [(0, .ref (gO g 17)), (1, .int p1), (2, .int p2), (3, .int p3)] := hl
  refine lv_aload_n hx hb dX8_slur_0 rfl (lv_at hl 0 rfl) ?_
  obtain ⟨dx1, edx1⟩ : ∃ z : Nat, ((σ 17).1 1).toInt.toNat = z := ⟨_, rfl⟩
  have hdx1 : 0 ≤ dx1 ∧ dx1 < 5 := mnow (by have f0 := j8_8_1 hJ rfl; omega) edx1
  refine g8_8_1 (o := dx1) hx hb hts hown hK hP edx1 (hts _ q435) dX8_slur_1 ?_
  refine lv_iload_n hx hb dX8_slur_4 rfl (lv_at hl 1 rfl) ?_
  refine lv_iload_n hx hb dX8_slur_5 rfl (lv_at hl 2 rfl) ?_
  refine va_calli (va_runV (As := [.int p1, .int p2]) (rest := []) ⟨hx, hb, hml, hown, hts⟩ (m_X0_isSounding l D cy g σ  dx1 p1 p2 _ hJ (show 0 ≤ dx1 ∧ dx1 < 5 from hdx1)) (cwV 2 hts (gd_V q782 q783 q784 q127 q785) rfl rfl rfl (by decide +kernel) ⟨(Nat.le_of_ble_eq_true rfl), (Nat.le_of_ble_eq_true rfl)⟩) (pv8 hP hK hD hC hS (rv8_0 hK hP hdx1)) rfl rfl hl.1 rfl (lv_room (Nat.le_of_ble_eq_true rfl)) dX8_slur_6 ⟨Nat.le_of_ble_eq_true rfl, Nat.le_of_ble_eq_true rfl⟩) hS (fun q _ h => up8 hS q h) (up8 hS) (fun r2 σ3 tS H1 locs ht hvm hw4 hB hz1 hk1 hS => ?_)
  have hP : va_P D clz (WD8 cy g σ3) H1 := by rw [← ht]; exact hB
  clear hB hz1 hk1 hvm ht
  generalize H1 = H at hP hS ⊢
  have hw4E : σ = σ3 := (hw4.1).symm
  subst hw4E
  have b5 : (0 : Int) ≤ r2.toInt ∧ r2.toInt ≤ 1 := hw4.2.1
  have b6 : (r2.toInt = 0) ∨ ((0 : Int) ≤ p1.toInt ∧ p1.toInt ≤ 2 ∧ (0 : Int) ≤ p2.toInt ∧ p2.toInt ≤ 15) := hw4.2.2.1
  refine lv_if_eq (tgt := 21) hx hb dX8_slur_9 (by decide) (fun c7 => ?_) (fun c7 => ?_)
  ·
    have k8 := peq32 c7
    refine lv_bipush (v := (-2)) hx hb dX8_slur_21 (by decide) ?_
    exact W.iret (v := (-2)) hx hb hr (fun tS ht hW => ⟨⟨(-2), σ, rfl, ⟨Fr.rf, hJ, trivial⟩, (show va_P D clz (WD8 cy g σ) tS.heap by rw [ht]; exact hP)⟩, hS.F ht⟩) hS.2.2 dX8_slur_23
  ·
    have k9 := neq32 c7
    refine lv_iload_n hx hb dX8_slur_12 rfl (lv_at hl 3 rfl) ?_
    refine lv_if_lt (tgt := 21) hx hb dX8_slur_13 (by decide) (fun c10 => ?_) (fun c10 => ?_)
    ·
      have k11 := plt32 c10
      refine lv_bipush (v := (-2)) hx hb dX8_slur_21 (by decide) ?_
      exact W.iret (v := (-2)) hx hb hr (fun tS ht hW => ⟨⟨(-2), σ, rfl, ⟨Fr.rf, hJ, trivial⟩, (show va_P D clz (WD8 cy g σ) tS.heap by rw [ht]; exact hP)⟩, hS.F ht⟩) hS.2.2 dX8_slur_23
    ·
      have k12 := nlt32 c10
      refine lv_iload_n hx hb dX8_slur_16 rfl (lv_at hl 3 rfl) ?_
      refine lv_iconst (v := 1) hx hb dX8_slur_17 (by decide) ?_
      refine lv_icmp_le (tgt := 24) hx hb dX8_slur_18 (by decide) (fun c13 => ?_) (fun c13 => ?_)
      ·
        have k14 := ple32 c13
        refine lv_aload_n hx hb dX8_slur_24 rfl (lv_at hl 0 rfl) ?_
        refine g8_8_1 (o := dx1) hx hb hts hown hK hP edx1 (hts _ q435) dX8_slur_25 ?_
        refine lv_iload_n hx hb dX8_slur_28 rfl (lv_at hl 1 rfl) ?_
        refine lv_iload_n hx hb dX8_slur_29 rfl (lv_at hl 2 rfl) ?_
        refine lv_iconst (v := 2) hx hb dX8_slur_30 (by decide) ?_
        refine va_calli (va_runV (As := [.int p1, .int p2, .int 2]) (rest := []) ⟨hx, hb, hml, hown, hts⟩ (m_X0_toneField l D cy g σ  dx1 p1 p2 (2) _ hJ (show 0 ≤ dx1 ∧ dx1 < 5 from hdx1)) (cwV 3 hts (gd_V q733 q661 q662 q127 q663) rfl rfl rfl (by decide +kernel) ⟨(Nat.le_of_ble_eq_true rfl), (Nat.le_of_ble_eq_true rfl)⟩) (pv8 hP hK hD hC hS (rv8_0 hK hP hdx1)) rfl rfl hl.1 rfl (lv_room (Nat.le_of_ble_eq_true rfl)) dX8_slur_31 ⟨Nat.le_of_ble_eq_true rfl, Nat.le_of_ble_eq_true rfl⟩) hS (fun q _ h => up8 hS q h) (up8 hS) (fun r15 σ16 tS H1 locs ht hvm hw17 hB hz1 hk1 hS => ?_)
        have hP : va_P D clz (WD8 cy g σ16) H1 := by rw [← ht]; exact hB
        clear hB hz1 hk1 hvm ht
        generalize H1 = H at hP hS ⊢
        have hw17E : σ = σ16 := (hw17.1).symm
        subst hw17E
        refine lv_istore (lv' := [(4, .int r15), (0, .ref (gO g 17)), (1, .int p1), (2, .int p2), (3, .int p3)]) hx hb dX8_slur_34 hl (by decide) rfl (fun ls hl => ?_)
        refine lv_aload_n hx hb dX8_slur_36 rfl (lv_at hl 1 rfl) ?_
        refine g8_8_1 (o := dx1) hx hb hts hown hK hP edx1 (hts _ q435) dX8_slur_37 ?_
        refine lv_iload_n hx hb dX8_slur_40 rfl (lv_at hl 2 rfl) ?_
        refine lv_iload_n hx hb dX8_slur_41 rfl (lv_at hl 3 rfl) ?_
        refine lv_iconst (v := 2) hx hb dX8_slur_42 (by decide) ?_
        refine lv_iload_n hx hb dX8_slur_43 rfl (lv_at hl 4 rfl) ?_
        refine va_callv (va_runV (As := [.int p1, .int p2, .int 2, .int p3]) (rest := []) ⟨hx, hb, hml, hown, hts⟩ (m_X0_setTone l D cy g σ  dx1 p1 p2 (2) p3 _ hJ (show 0 ≤ dx1 ∧ dx1 < 5 from hdx1) (show (-1 : Int) ≤ p1.toInt ∧ p1.toInt ≤ 2 from (by have f0 := b6; have f1 := b5; have f2 := k9; have g0 := rg32 p1; have z0 : (0 : Int32).toInt = 0 := (by decide); omega)) (show (-1 : Int) ≤ p2.toInt ∧ p2.toInt ≤ 15 from (by have f0 := b6; have f1 := b5; have f2 := k9; have g0 := rg32 p1; have g1 := rg32 p2; have z0 : (0 : Int32).toInt = 0 := (by decide); omega)) (show (0 : Int) ≤ (2 : Int32).toInt ∧ (2 : Int32).toInt ≤ 4 from (by have f0 := b6; have f1 := b5; have f2 := k9; have g0 := rg32 p1; have g1 := rg32 p2; have z0 : (0 : Int32).toInt = 0 := (by decide); have z2 : (2 : Int32).toInt = 2 := (by decide); omega))) (cwV 4 hts (gd_V q787 q669 q670 q127 q671) rfl rfl rfl (by decide +kernel) ⟨(Nat.le_of_ble_eq_true rfl), (Nat.le_of_ble_eq_true rfl)⟩) (pv8 hP hK hD hC hS (rv8_0 hK hP hdx1)) rfl rfl hl.1 rfl (lv_room (Nat.le_of_ble_eq_true rfl)) dX8_slur_44 ⟨Nat.le_of_ble_eq_true rfl, Nat.le_of_ble_eq_true rfl⟩) hS (fun q _ h => up8 hS q h) (up8 hS) (fun σ19 tS H1 locs ht hvm hw20 hB hz1 hk1 hS => ?_)
        have hP : va_P D clz (WD8 cy g σ19) H1 := by rw [← ht]; exact hB
        clear hB hz1 hk1 hvm ht
        generalize H1 = H at hP hS ⊢
        have hF21 : Fr (fO [dx1]) σ σ19 := hw20.1
        have hJ22 : J8 σ19 := hw20.2.1
        refine lv_iload hx hb dX8_slur_47 (lv_at hl 0 rfl) ?_
        exact W.iret (v := r15) hx hb hr (fun tS ht hW => ⟨⟨r15, σ19, rfl, ⟨Fr.tr (Fr.rf) hF21 (fO_sub (by have q0 := hdx1; intro x hx; simp at hx ⊢; omega)), hJ22, trivial⟩, (show va_P D clz (WD8 cy g σ19) tS.heap by rw [ht]; exact hP)⟩, hS.F ht⟩) hS.2.2 dX8_slur_49
      ·
        have k23 := nle32 c13
        refine lv_bipush (v := (-2)) hx hb dX8_slur_21 (by decide) ?_
        exact W.iret (v := (-2)) hx hb hr (fun tS ht hW => ⟨⟨(-2), σ, rfl, ⟨Fr.rf, hJ, trivial⟩, (show va_P D clz (WD8 cy g σ) tS.heap by rw [ht]; exact hP)⟩, hS.F ht⟩) hS.2.2 dX8_slur_23

