theorem q490 : Cond.code yX8_desk cX8_desk 2 (some .int) ∈ lw_g := lw_gm (List.mem_of_getElem? (i := 490) (by decide +kernel)) rfl
theorem q436 : Cond.fieldLink RX8 23 "LipsAndSlides" "spare" "LLipsAndSlides$Desk;" ∈ lw_g := lw_gm (List.mem_of_getElem? (i := 436) (by decide +kernel)) rfl
theorem q491 : Cond.methodLink RX8 91 yX4_readInto ∈ lw_g := lw_gm (List.mem_of_getElem? (i := 491) (by decide +kernel)) rfl
theorem q492 : Cond.instanceMethod yX4_readInto ∈ lw_g := lw_gm (List.mem_of_getElem? (i := 492) (by decide +kernel)) rfl
theorem q493 : Cond.selects RX4 yX4_readInto yX4_readInto ∈ lw_g := lw_gm (List.mem_of_getElem? (i := 493) (by decide +kernel)) rfl
theorem q435 : Cond.fieldLink RX8 19 "LipsAndSlides" "now" "LLipsAndSlides$Desk;" ∈ lw_g := lw_gm (List.mem_of_getElem? (i := 435) (by decide +kernel)) rfl
theorem q200 : Cond.fieldLink RX8 95 "LipsAndSlides$Desk" "lines" "I" ∈ lw_g := lw_gm (List.mem_of_getElem? (i := 200) (by decide +kernel)) rfl
theorem dX8_desk_0 : decode cX8_desk 0 = .ok (.aload_n 0, 1) := by decide +kernel
theorem dX8_desk_1 : decode cX8_desk 1 = .ok (.getfield 10, 3) := by decide +kernel
theorem dX8_desk_4 : decode cX8_desk 4 = .ok (.aload_n 0, 1) := by decide +kernel
theorem dX8_desk_5 : decode cX8_desk 5 = .ok (.getfield 23, 3) := by decide +kernel
theorem dX8_desk_8 : decode cX8_desk 8 = .ok (.invokevirtual 91, 3) := by decide +kernel
theorem dX8_desk_11 : decode cX8_desk 11 = .ok (.ifCond .ne 6, 3) := by decide +kernel
theorem dX8_desk_14 : decode cX8_desk 14 = .ok (.bipush (-4), 2) := by decide +kernel
theorem dX8_desk_16 : decode cX8_desk 16 = .ok (.ireturn, 1) := by decide +kernel
theorem dX8_desk_17 : decode cX8_desk 17 = .ok (.aload_n 0, 1) := by decide +kernel
theorem dX8_desk_18 : decode cX8_desk 18 = .ok (.getfield 19, 3) := by decide +kernel
theorem dX8_desk_21 : decode cX8_desk 21 = .ok (.astore_n 1, 1) := by decide +kernel
theorem dX8_desk_22 : decode cX8_desk 22 = .ok (.aload_n 0, 1) := by decide +kernel
theorem dX8_desk_23 : decode cX8_desk 23 = .ok (.aload_n 0, 1) := by decide +kernel
theorem dX8_desk_24 : decode cX8_desk 24 = .ok (.getfield 23, 3) := by decide +kernel
theorem dX8_desk_27 : decode cX8_desk 27 = .ok (.putfield 19, 3) := by decide +kernel
theorem dX8_desk_30 : decode cX8_desk 30 = .ok (.aload_n 0, 1) := by decide +kernel
theorem dX8_desk_31 : decode cX8_desk 31 = .ok (.aload_n 1, 1) := by decide +kernel
theorem dX8_desk_32 : decode cX8_desk 32 = .ok (.putfield 23, 3) := by decide +kernel
theorem dX8_desk_35 : decode cX8_desk 35 = .ok (.aload_n 0, 1) := by decide +kernel
theorem dX8_desk_36 : decode cX8_desk 36 = .ok (.getfield 10, 3) := by decide +kernel
theorem dX8_desk_39 : decode cX8_desk 39 = .ok (.iconst 0, 1) := by decide +kernel
theorem dX8_desk_40 : decode cX8_desk 40 = .ok (.putfield 87, 3) := by decide +kernel
theorem dX8_desk_43 : decode cX8_desk 43 = .ok (.aload_n 0, 1) := by decide +kernel
theorem dX8_desk_44 : decode cX8_desk 44 = .ok (.getfield 19, 3) := by decide +kernel
theorem dX8_desk_47 : decode cX8_desk 47 = .ok (.getfield 95, 3) := by decide +kernel
theorem dX8_desk_50 : decode cX8_desk 50 = .ok (.ireturn, 1) := by decide +kernel
set_option maxHeartbeats 4000000 in
set_option maxRecDepth 100000 in
theorem m_X8_desk (l : Launch) (D : va_G) (cy : Nat → ClassId) (g : Nat → Nat) (σ : ST)  (sz : Nat) (hJ : J8 σ)  : Met l yX8_desk (ww yX8_desk cX8_desk 2 (some .int)) ({ frames := 10, cells := 0, slots := 0, locals := 640 }) (va_Pc [.ref (gO g 17)] (pr8 D cy g σ sz)) (qi8 D cy g sz (fun r τ => Fr (fO [0, 1, 12, 17, 2, 3, 4]) σ τ ∧ J8 τ ∧ ((τ 17).2.2.1 4 = (σ 17).2.2.1 4) ∧ True)) 0 0 (A8 cy g sz) := by
  refine Met.ofW (cc := cX8_desk) (maxL := 2) (ret := (some .int)) (by decide) rfl ?_
  intro p e s m args below meth c s₁ B hml hv
  obtain ⟨rfl, hsz, hP, hK, hD0, hC⟩ := hv
  have hx := B.exec
  have hb := B.bytes
  have hr := B.returns
  have hts := hts_g (atoms_spec (ws := ww yX8_desk cX8_desk 2 (some .int)) B.pre)
  have hown : s.vm.findClass RX8 = some m.cls := findClass_of_methodNamed B.named
  have hlocks := B.notSynchronized
  clear B
  subst hsz
  have hD := fun τ => A8_D (sz := s.heap.size) hD0 τ
  clear hD0
  have hS : va_S (A8 cy g s.heap.size) s.heap s.heap [] := va_S.rf
  have hl := lv_entry ([.ref (gO g 17)]) (n := 2) (Nat.le_of_ble_eq_true rfl)
  rw [lg_entry_eq]
  generalize (lg_sl ([.ref (gO g 17)]) ++ List.replicate (2 - (lg_sl ([.ref (gO g 17)])).length) Slot.unset).toArray = ls at hl ⊢
  have hl : lv_has ls 2 [(0, .ref (gO g 17))] := hl
  refine lv_aload_n hx hb dX8_desk_0 rfl (lv_at hl 0 rfl) ?_
  refine g8_8_0 hx hb hts hown hK hP (hts _ q434) dX8_desk_1 ?_
  refine lv_aload_n hx hb dX8_desk_4 rfl (lv_at hl 0 rfl) ?_
  obtain ⟨dx1, edx1⟩ : ∃ z : Nat, ((σ 17).1 2).toInt.toNat = z := ⟨_, rfl⟩
  have hdx1 : 0 ≤ dx1 ∧ dx1 < 5 := mnow (by have f0 := j8_8_2 hJ rfl; omega) edx1
  refine g8_8_2 (o := dx1) hx hb hts hown hK hP edx1 (hts _ q436) dX8_desk_5 ?_
  refine va_calli (va_runV (As := [.ref (gO g dx1)]) (rest := []) ⟨hx, hb, hml, hown, hts⟩ (m_X4_readInto l D cy g σ  dx1 _ hJ (show 0 ≤ dx1 ∧ dx1 < 5 from hdx1)) (cwV 1 hts (gd_V q491 q492 q493 q126 q494) rfl rfl rfl (by decide +kernel) ⟨(Nat.le_of_ble_eq_true rfl), (Nat.le_of_ble_eq_true rfl)⟩) (pv8 hP hK hD hC hS (rv8_4 hK hP)) rfl rfl hl.1 rfl (lv_room (Nat.le_of_ble_eq_true rfl)) dX8_desk_8 ⟨Nat.le_of_ble_eq_true rfl, Nat.le_of_ble_eq_true rfl⟩) hS (fun q _ h => up8 hS q h) (up8 hS) (fun r2 σ3 tS H1 locs ht hvm hw4 hB hz1 hk1 hS => ?_)
  have hP : va_P D clz (WD8 cy g σ3) H1 := by rw [← ht]; exact hB
  clear hB hz1 hk1 hvm ht
  generalize H1 = H at hP hS ⊢
  have hF5 : Fr (fO [12, dx1]) σ σ3 := hw4.1
  have hJ6 : J8 σ3 := hw4.2.1
  have b7 : (0 : Int) ≤ r2.toInt ∧ r2.toInt ≤ 1 := hw4.2.2.1
  refine lv_if_ne (tgt := 17) hx hb dX8_desk_11 (by decide) (fun c8 => ?_) (fun c8 => ?_)
  ·
    have k9 := neq32 c8
    refine lv_aload_n hx hb dX8_desk_17 rfl (lv_at hl 0 rfl) ?_
    obtain ⟨dx10, edx10⟩ : ∃ z : Nat, ((σ 17).1 1).toInt.toNat = z := ⟨_, rfl⟩
    have hdx10 : 0 ≤ dx10 ∧ dx10 < 5 := mnow (by have f0 := j8_8_1 hJ rfl; omega) edx10
    refine g8_8_1 (o := dx10) hx hb hts hown hK hP ((congrArg (fun z : Int32 => z.toInt.toNat) ((hF5 17 1 (fO_n (nmc (by decide) (nmc (ner hdx1 (by decide)) nm0)))).1)).trans edx10) (hts _ q435) dX8_desk_18 ?_
    refine lv_astore_n (lv' := [(1, .ref (gO g dx10)), (0, .ref (gO g 17))]) hx hb dX8_desk_21 rfl hl (by decide) rfl (fun ls hl => ?_)
    refine lv_aload_n hx hb dX8_desk_22 rfl (lv_at hl 1 rfl) ?_
    refine lv_aload_n hx hb dX8_desk_23 rfl (lv_at hl 1 rfl) ?_
    refine g8_8_2 (o := dx1) hx hb hts hown hK hP ((congrArg (fun z : Int32 => z.toInt.toNat) ((hF5 17 2 (fO_n (nmc (by decide) (nmc (ner hdx1 (by decide)) nm0)))).1)).trans edx1) (hts _ q436) dX8_desk_24 ?_
    rw [← edx1]
    refine p8_8_1 (v := ((σ 17).1 2)) hx hb hts hown hK hP hD hS (hts _ q435) dX8_desk_27 (fun H locs σ11 eσ11 hP hS => ?_)
    have hJ12 : J8 σ11 := hJ6.I eσ11 rfl (show JI8 8 1 ((σ 17).1 2) from (by have f0 := j8_8_2 hJ rfl; exact ⟨by omega, by omega⟩))
    refine lv_aload_n hx hb dX8_desk_30 rfl (lv_at hl 1 rfl) ?_
    refine lv_aload_n hx hb dX8_desk_31 rfl (lv_at hl 0 rfl) ?_
    rw [← edx10]
    refine p8_8_2 (v := ((σ 17).1 1)) hx hb hts hown hK hP hD hS (hts _ q436) dX8_desk_32 (fun H locs σ13 eσ13 hP hS => ?_)
    have hJ14 : J8 σ13 := hJ12.I eσ13 rfl (show JI8 8 2 ((σ 17).1 1) from (by have f0 := j8_8_1 hJ rfl; exact ⟨by omega, by omega⟩))
    refine lv_aload_n hx hb dX8_desk_35 rfl (lv_at hl 1 rfl) ?_
    refine g8_8_0 hx hb hts hown hK hP (hts _ q434) dX8_desk_36 ?_
    refine lv_iconst (v := 0) hx hb dX8_desk_39 (by decide) ?_
    refine p8_4_1 hx hb hts hown hK hP hD hS (hts _ q159) dX8_desk_40 (fun H locs σ15 eσ15 hP hS => ?_)
    have hJ16 : J8 σ15 := hJ14.I eσ15 rfl (show JI8 4 1 (0 : Int32) from (by constructor <;> decide))
    refine lv_aload_n hx hb dX8_desk_43 rfl (lv_at hl 1 rfl) ?_
    refine g8_8_1 (o := dx1) hx hb hts hown hK hP ((congrArg (fun z : Int32 => z.toInt.toNat) (((((sI_f eσ15) 17 1 (fN_o (by decide))).1).trans (((sI_f eσ13) 17 1 (fN_k rfl)).1)).trans (sI_s eσ11))).trans edx1) (hts _ q435) dX8_desk_44 ?_
    refine g8_0_2 (x := ((σ3 dx1).1 2)) hx hb hts hown hK hP hdx1 ((((sI_f eσ15) dx1 2 (fN_o (nel hdx1 (by decide)))).1).trans ((((sI_f eσ13) dx1 2 (fN_o (nel hdx1 (by decide)))).1).trans (((sI_f eσ11) dx1 2 (fN_o (nel hdx1 (by decide)))).1))) (hts _ q200) dX8_desk_47 ?_
    exact W.iret (v := ((σ3 dx1).1 2)) hx hb hr (fun tS ht hW => ⟨⟨((σ3 dx1).1 2), σ15, rfl, ⟨Fr.tr (Fr.tr (Fr.tr (Fr.tr (Fr.rf) hF5 (fO_sub (by have q0 := hdx1; intro x hx; simp at hx ⊢; omega))) (sI_f eσ11) (fN_O (mne (mne (mne mem0))))) (sI_f eσ13) (fN_O (mne (mne (mne mem0))))) (sI_f eσ15) (fN_O (mne (mne mem0))), hJ16, (show (σ15 17).2.2.1 4 = (σ 17).2.2.1 4 from (((sI_f eσ15) 17 4 (fN_o (by decide))).2.2.1).trans ((((sI_f eσ13) 17 4 (fN_k rfl)).2.2.1).trans ((((sI_f eσ11) 17 4 (fN_k rfl)).2.2.1).trans ((hF5 17 4 (fO_n (nmc (by decide) (nmc (ner hdx1 (by decide)) nm0)))).2.2.1)))), trivial⟩, (show va_P D clz (WD8 cy g σ15) tS.heap by rw [ht]; exact hP)⟩, hS.F ht⟩) hS.2.2 dX8_desk_50
  ·
    have k17 := peq32 c8
    refine lv_bipush (v := (-4)) hx hb dX8_desk_14 (by decide) ?_
    exact W.iret (v := (-4)) hx hb hr (fun tS ht hW => ⟨⟨(-4), σ3, rfl, ⟨Fr.tr (Fr.rf) hF5 (fO_sub (by have q0 := hdx1; intro x hx; simp at hx ⊢; omega)), hJ6, (show (σ3 17).2.2.1 4 = (σ 17).2.2.1 4 from (hF5 17 4 (fO_n (nmc (by decide) (nmc (ner hdx1 (by decide)) nm0)))).2.2.1), trivial⟩, (show va_P D clz (WD8 cy g σ3) tS.heap by rw [ht]; exact hP)⟩, hS.F ht⟩) hS.2.2 dX8_desk_16

theorem q689 : Cond.code yX8_fault cX8_fault 2 (some .int) ∈ lw_g := lw_gm (List.mem_of_getElem? (i := 689) (by decide +kernel)) rfl
theorem q163 : Cond.fieldLink RX8 101 "LipsAndSlides$Reader" "faultPlace" "I" ∈ lw_g := lw_gm (List.mem_of_getElem? (i := 163) (by decide +kernel)) rfl
theorem q161 : Cond.fieldLink RX8 98 "LipsAndSlides$Reader" "faultKind" "I" ∈ lw_g := lw_gm (List.mem_of_getElem? (i := 161) (by decide +kernel)) rfl
theorem dX8_fault_0 : decode cX8_fault 0 = .ok (.iload_n 1, 1) := by decide +kernel
theorem dX8_fault_1 : decode cX8_fault 1 = .ok (.ifCond .ne 11, 3) := by decide +kernel
theorem dX8_fault_4 : decode cX8_fault 4 = .ok (.aload_n 0, 1) := by decide +kernel
theorem dX8_fault_5 : decode cX8_fault 5 = .ok (.getfield 10, 3) := by decide +kernel
theorem dX8_fault_8 : decode cX8_fault 8 = .ok (.getfield 98, 3) := by decide +kernel
theorem dX8_fault_11 : decode cX8_fault 11 = .ok (.ireturn, 1) := by decide +kernel
theorem dX8_fault_12 : decode cX8_fault 12 = .ok (.iload_n 1, 1) := by decide +kernel
theorem dX8_fault_13 : decode cX8_fault 13 = .ok (.iconst 1, 1) := by decide +kernel
theorem dX8_fault_14 : decode cX8_fault 14 = .ok (.if_icmp .ne 13, 3) := by decide +kernel
theorem dX8_fault_17 : decode cX8_fault 17 = .ok (.aload_n 0, 1) := by decide +kernel
theorem dX8_fault_18 : decode cX8_fault 18 = .ok (.getfield 10, 3) := by decide +kernel
theorem dX8_fault_21 : decode cX8_fault 21 = .ok (.getfield 101, 3) := by decide +kernel
theorem dX8_fault_24 : decode cX8_fault 24 = .ok (.goto 4, 3) := by decide +kernel
theorem dX8_fault_27 : decode cX8_fault 27 = .ok (.iconst (-1), 1) := by decide +kernel
theorem dX8_fault_28 : decode cX8_fault 28 = .ok (.ireturn, 1) := by decide +kernel
set_option maxHeartbeats 4000000 in
set_option maxRecDepth 100000 in
theorem m_X8_fault (l : Launch) (D : va_G) (cy : Nat → ClassId) (g : Nat → Nat) (σ : ST) (p1 : Int32) (sz : Nat) (hJ : J8 σ)  : Met l yX8_fault (ww yX8_fault cX8_fault 2 (some .int)) ({ frames := 1, cells := 0, slots := 0, locals := 64 }) (va_Pc [.ref (gO g 17), .int p1] (pr8 D cy g σ sz)) (qi8 D cy g sz (fun r τ => τ = σ ∧ True)) 0 0 (A8 cy g sz) := by
  refine Met.ofW (cc := cX8_fault) (maxL := 2) (ret := (some .int)) (by decide) rfl ?_
  intro p e s m args below meth c s₁ B hml hv
  obtain ⟨rfl, hsz, hP, hK, hD0, hC⟩ := hv
  have hx := B.exec
  have hb := B.bytes
  have hr := B.returns
  have hts := hts_g (atoms_spec (ws := ww yX8_fault cX8_fault 2 (some .int)) B.pre)
  have hown : s.vm.findClass RX8 = some m.cls := findClass_of_methodNamed B.named
  have hlocks := B.notSynchronized
  clear B
  subst hsz
  have hD := fun τ => A8_D (sz := s.heap.size) hD0 τ
  clear hD0
  have hS : va_S (A8 cy g s.heap.size) s.heap s.heap [] := va_S.rf
  have hl := lv_entry ([.ref (gO g 17), .int p1]) (n := 2) (Nat.le_of_ble_eq_true rfl)
  rw [lg_entry_eq]
  generalize (lg_sl ([.ref (gO g 17), .int p1]) ++ List.replicate (2 - (lg_sl ([.ref (gO g 17), .int p1])).length) Slot.unset).toArray = ls at hl ⊢
  have hl : lv_has ls 2 [(0, .ref (gO g 17)), (1, .int p1)] := hl
  refine lv_iload_n hx hb dX8_fault_0 rfl (lv_at hl 1 rfl) ?_
  refine lv_if_ne (tgt := 12) hx hb dX8_fault_1 (by decide) (fun c1 => ?_) (fun c1 => ?_)
  ·
    have k2 := neq32 c1
    refine lv_iload_n hx hb dX8_fault_12 rfl (lv_at hl 1 rfl) ?_
    refine lv_iconst (v := 1) hx hb dX8_fault_13 (by decide) ?_
    refine lv_icmp_ne (tgt := 27) hx hb dX8_fault_14 (by decide) (fun c3 => ?_) (fun c3 => ?_)
    ·
      have k4 := neq32 c3
      refine lv_iconst (v := (-1)) hx hb dX8_fault_27 (by decide) ?_
      exact W.iret (v := (-1)) hx hb hr (fun tS ht hW => ⟨⟨(-1), σ, rfl, ⟨rfl, trivial⟩, (show va_P D clz (WD8 cy g σ) tS.heap by rw [ht]; exact hP)⟩, hS.F ht⟩) hS.2.2 dX8_fault_28
    ·
      have k5 := peq32 c3
      refine lv_aload_n hx hb dX8_fault_17 rfl (lv_at hl 0 rfl) ?_
      refine g8_8_0 hx hb hts hown hK hP (hts _ q434) dX8_fault_18 ?_
      refine g8_4_3 (x := ((σ 12).1 3)) hx hb hts hown hK hP (rfl) (hts _ q163) dX8_fault_21 ?_
      refine lv_goto (tgt := 28) hx hb dX8_fault_24 (by decide) ?_
      exact W.iret (v := ((σ 12).1 3)) hx hb hr (fun tS ht hW => ⟨⟨((σ 12).1 3), σ, rfl, ⟨rfl, trivial⟩, (show va_P D clz (WD8 cy g σ) tS.heap by rw [ht]; exact hP)⟩, hS.F ht⟩) hS.2.2 dX8_fault_28
  ·
    have k6 := peq32 c1
    refine lv_aload_n hx hb dX8_fault_4 rfl (lv_at hl 0 rfl) ?_
    refine g8_8_0 hx hb hts hown hK hP (hts _ q434) dX8_fault_5 ?_
    refine g8_4_2 (x := ((σ 12).1 2)) hx hb hts hown hK hP (rfl) (hts _ q161) dX8_fault_8 ?_
    exact W.iret (v := ((σ 12).1 2)) hx hb hr (fun tS ht hW => ⟨⟨((σ 12).1 2), σ, rfl, ⟨rfl, trivial⟩, (show va_P D clz (WD8 cy g σ) tS.heap by rw [ht]; exact hP)⟩, hS.F ht⟩) hS.2.2 dX8_fault_11

theorem q697 : Cond.code yX8_rowsThere cX8_rowsThere 3 (some .int) ∈ lw_g := lw_gm (List.mem_of_getElem? (i := 697) (by decide +kernel)) rfl
theorem q439 : Cond.fieldLink RX8 36 "LipsAndSlides" "slots" "[LLipsAndSlides$Row;" ∈ lw_g := lw_gm (List.mem_of_getElem? (i := 439) (by decide +kernel)) rfl
theorem q417 : Cond.fieldLink RX8 123 "LipsAndSlides$Row" "there" "Z" ∈ lw_g := lw_gm (List.mem_of_getElem? (i := 417) (by decide +kernel)) rfl
theorem dX8_rowsThere_0 : decode cX8_rowsThere 0 = .ok (.iconst 0, 1) := by decide +kernel
theorem dX8_rowsThere_1 : decode cX8_rowsThere 1 = .ok (.istore_n 1, 1) := by decide +kernel
theorem dX8_rowsThere_2 : decode cX8_rowsThere 2 = .ok (.iconst 0, 1) := by decide +kernel
theorem dX8_rowsThere_3 : decode cX8_rowsThere 3 = .ok (.istore_n 2, 1) := by decide +kernel
theorem dX8_rowsThere_4 : decode cX8_rowsThere 4 = .ok (.iload_n 2, 1) := by decide +kernel
theorem dX8_rowsThere_5 : decode cX8_rowsThere 5 = .ok (.iconst 4, 1) := by decide +kernel
theorem dX8_rowsThere_6 : decode cX8_rowsThere 6 = .ok (.if_icmp .ge 24, 3) := by decide +kernel
theorem dX8_rowsThere_9 : decode cX8_rowsThere 9 = .ok (.aload_n 0, 1) := by decide +kernel
theorem dX8_rowsThere_10 : decode cX8_rowsThere 10 = .ok (.getfield 36, 3) := by decide +kernel
theorem dX8_rowsThere_13 : decode cX8_rowsThere 13 = .ok (.iload_n 2, 1) := by decide +kernel
theorem dX8_rowsThere_14 : decode cX8_rowsThere 14 = .ok (.aaload, 1) := by decide +kernel
theorem dX8_rowsThere_15 : decode cX8_rowsThere 15 = .ok (.getfield 123, 3) := by decide +kernel
theorem dX8_rowsThere_18 : decode cX8_rowsThere 18 = .ok (.ifCond .eq 6, 3) := by decide +kernel
theorem dX8_rowsThere_21 : decode cX8_rowsThere 21 = .ok (.iinc 1 1, 3) := by decide +kernel
theorem dX8_rowsThere_24 : decode cX8_rowsThere 24 = .ok (.iinc 2 1, 3) := by decide +kernel
theorem dX8_rowsThere_27 : decode cX8_rowsThere 27 = .ok (.goto (-23), 3) := by decide +kernel
theorem dX8_rowsThere_30 : decode cX8_rowsThere 30 = .ok (.iload_n 1, 1) := by decide +kernel
theorem dX8_rowsThere_31 : decode cX8_rowsThere 31 = .ok (.ireturn, 1) := by decide +kernel
set_option maxHeartbeats 4000000 in
set_option maxRecDepth 100000 in
theorem m_X8_rowsThere (l : Launch) (D : va_G) (cy : Nat → ClassId) (g : Nat → Nat) (σ : ST)  (sz : Nat) (hJ : J8 σ)  : Met l yX8_rowsThere (ww yX8_rowsThere cX8_rowsThere 3 (some .int)) ({ frames := 1, cells := 0, slots := 0, locals := 64 }) (va_Pc [.ref (gO g 17)] (pr8 D cy g σ sz)) (qi8 D cy g sz (fun r τ => τ = σ ∧ True)) 0 0 (A8 cy g sz) := by
  refine Met.ofW (cc := cX8_rowsThere) (maxL := 3) (ret := (some .int)) (by decide) rfl ?_
  intro p e s m args below meth c s₁ B hml hv
  obtain ⟨rfl, hsz, hP, hK, hD0, hC⟩ := hv
  have hx := B.exec
  have hb := B.bytes
  have hr := B.returns
  have hts := hts_g (atoms_spec (ws := ww yX8_rowsThere cX8_rowsThere 3 (some .int)) B.pre)
  have hown : s.vm.findClass RX8 = some m.cls := findClass_of_methodNamed B.named
  have hlocks := B.notSynchronized
  clear B
  subst hsz
  have hD := fun τ => A8_D (sz := s.heap.size) hD0 τ
  clear hD0
  have hS : va_S (A8 cy g s.heap.size) s.heap s.heap [] := va_S.rf
  have hl := lv_entry ([.ref (gO g 17)]) (n := 3) (Nat.le_of_ble_eq_true rfl)
  rw [lg_entry_eq]
  generalize (lg_sl ([.ref (gO g 17)]) ++ List.replicate (3 - (lg_sl ([.ref (gO g 17)])).length) Slot.unset).toArray = ls at hl ⊢
  have hl : lv_has ls 3 [(0, .ref (gO g 17))] := hl
  refine lv_iconst (v := 0) hx hb dX8_rowsThere_0 (by decide) ?_
  refine lv_istore_n (lv' := [(1, .int 0), (0, .ref (gO g 17))]) hx hb dX8_rowsThere_1 rfl hl (by decide) rfl (fun ls hl => ?_)
  refine lv_iconst (v := 0) hx hb dX8_rowsThere_2 (by decide) ?_
  refine lv_istore_n (lv' := [(2, .int 0), (1, .int 0), (0, .ref (gO g 17))]) hx hb dX8_rowsThere_3 rfl hl (by decide) rfl (fun ls hl => ?_)
  refine loop8 3 4 (fun x : LZ => [(2, .int (x.2.1 0)), (1, .int (x.2.1 1)), (0, .ref (gO g 17))]) (fun x : LZ => (x.1 = σ) ∧ ((0 : Int) ≤ (x.2.1 0).toInt ∧ (x.2.1 0).toInt ≤ 4) ∧ True) (fun x : LZ => ((5 : Int) - (x.2.1 0).toInt).toNat) ?_ (σ, lf [0, 0], lg []) ⟨rfl, (show (0 : Int) ≤ (0 : Int32).toInt ∧ (0 : Int32).toInt ≤ 4 from (by have z0 : (0 : Int32).toInt = 0 := (by decide); omega)), trivial⟩ _ _ _ hP hS (lv_sub hl [0, 1, 2] rfl)
  intro y3 hI2 nl1 H locs ls hP hS hl
  rw [show y3.1 = σ from hI2.1] at hP
  have b4 : (0 : Int) ≤ (y3.2.1 0).toInt ∧ (y3.2.1 0).toInt ≤ 4 := hI2.2.1
  have hl : lv_has ls 3 [(2, .int (y3.2.1 0)), (1, .int (y3.2.1 1)), (0, .ref (gO g 17))] := hl
  refine lv_iload_n hx hb dX8_rowsThere_4 rfl (lv_at hl 0 rfl) ?_
  refine lv_iconst (v := 4) hx hb dX8_rowsThere_5 (by decide) ?_
  refine lv_icmp_ge (tgt := 30) hx hb dX8_rowsThere_6 (by decide) (fun c5 => ?_) (fun c5 => ?_)
  ·
    have k6 := ple32 c5
    refine lv_iload_n hx hb dX8_rowsThere_30 rfl (lv_at hl 1 rfl) ?_
    exact W.iret (v := (y3.2.1 1)) hx hb hr (fun tS ht hW => ⟨⟨(y3.2.1 1), σ, rfl, ⟨rfl, trivial⟩, (show va_P D clz (WD8 cy g σ) tS.heap by rw [ht]; exact hP)⟩, hS.F ht⟩) hS.2.2 dX8_rowsThere_31
  ·
    have k7 := nle32 c5
    refine lv_aload_n hx hb dX8_rowsThere_9 rfl (lv_at hl 2 rfl) ?_
    refine g8_8_5 hx hb hts hown hK hP (hts _ q439) dX8_rowsThere_10 ?_
    refine lv_iload_n hx hb dX8_rowsThere_13 rfl (lv_at hl 0 rfl) ?_
    obtain ⟨dx8, edx8⟩ : ∃ z : Nat, 5 + (y3.2.1 0).toInt.toNat = z := ⟨_, rfl⟩
    have hdx8 : 5 ≤ dx8 ∧ dx8 < 9 := mrow (n := 4) (by have f0 := b4; have f1 := k7; have g0 := rg32 (y3.2.1 0); have z4 : (4 : Int32).toInt = 4 := (by decide); omega) edx8 rfl
    refine l8_8_5 hx hb hK hP (vpo (by have f0 := b4; have f1 := k7; have g0 := rg32 (y3.2.1 0); have z4 : (4 : Int32).toInt = 4 := (by decide); omega)) edx8 dX8_rowsThere_14 ?_
    refine g8_5_0 (x := ((σ dx8).1 0)) hx hb hts hown hK hP hdx8 (rfl) (hts _ q417) dX8_rowsThere_15 ?_
    refine cut8 (D := D) (cy := cy) (g := g) (A := A8 cy g s.heap.size) (H0 := s.heap) 3 24 (fun x : LZ => [(2, .int (y3.2.1 0)), (1, .int (x.2.1 0)), (0, .ref (gO g 17))]) (fun x : LZ => []) (fun x : LZ => (x.1 = σ) ∧ True) ?_ ?_
    ·
      intro y11 hI10 H locs ls hP hS hl
      rw [show y11.1 = σ from hI10.1] at hP
      have hl : lv_has ls 3 [(2, .int (y3.2.1 0)), (1, .int (y11.2.1 0)), (0, .ref (gO g 17))] := hl
      obtain ⟨x12, ex12⟩ : ∃ y : Int32, y = (y3.2.1 0) + 1 := ⟨_, rfl⟩
      have t13 := addO ex12 (by have f0 := b4; have f1 := k7; have g0 := rg32 (y3.2.1 0); have z1 : (1 : Int32).toInt = 1 := (by decide); have z4 : (4 : Int32).toInt = 4 := (by decide); omega)
      refine lv_iinc (v := x12) (lv' := [(2, .int x12), (1, .int (y11.2.1 0)), (0, .ref (gO g 17))]) hx hb dX8_rowsThere_24 hl (k := 0) rfl (by rw [ex12]; rfl) (by decide) rfl (fun ls hl => ?_)
      refine lv_goto (tgt := 4) hx hb dX8_rowsThere_27 (by decide) ?_
      have t14 : ((5 : Int) - x12.toInt).toNat < ((5 : Int) - (y3.2.1 0).toInt).toNat := (by have f0 := b4; have f1 := k7; have f2 := t13; have g0 := rg32 (y3.2.1 0); have g1 := rg32 x12; have z1 : (1 : Int32).toInt = 1 := (by decide); have z4 : (4 : Int32).toInt = 4 := (by decide); omega)
      exact nl1 (σ, lf [x12, (y11.2.1 0)], lg []) ⟨rfl, (show (0 : Int) ≤ (x12 : Int32).toInt ∧ (x12 : Int32).toInt ≤ 4 from (by have f0 := t13; have f1 := b4; have f2 := k7; have g0 := rg32 x12; have z1 : (1 : Int32).toInt = 1 := (by decide); have z4 : (4 : Int32).toInt = 4 := (by decide); omega)), trivial⟩ (show ((5 : Int) - x12.toInt).toNat < _ from t14) _ _ _ hP hS (lv_sub hl [0, 1, 2] rfl)
    ·
      intro nj9
      refine lv_if_eq (tgt := 24) hx hb dX8_rowsThere_18 (by decide) (fun c15 => ?_) (fun c15 => ?_)
      ·
        have k16 := peq32 c15
        exact nj9 (σ, lf [(y3.2.1 1)], lg []) ⟨rfl, trivial⟩ _ _ _ hP hS (lv_sub hl [0, 1, 2] rfl)
      ·
        have k17 := neq32 c15
        obtain ⟨x18, ex18⟩ : ∃ y : Int32, y = (y3.2.1 1) + 1 := ⟨_, rfl⟩
        refine lv_iinc (v := x18) (lv' := [(1, .int x18), (2, .int (y3.2.1 0)), (0, .ref (gO g 17))]) hx hb dX8_rowsThere_21 hl (k := 1) rfl (by rw [ex18]; rfl) (by decide) rfl (fun ls hl => ?_)
        exact nj9 (σ, lf [x18], lg []) ⟨rfl, trivial⟩ _ _ _ hP hS (lv_sub hl [1, 0, 2] rfl)

theorem q693 : Cond.code yX8_count cX8_count 2 (some .int) ∈ lw_g := lw_gm (List.mem_of_getElem? (i := 693) (by decide +kernel)) rfl
theorem q194 : Cond.fieldLink RX8 104 "LipsAndSlides$Desk" "cents" "I" ∈ lw_g := lw_gm (List.mem_of_getElem? (i := 194) (by decide +kernel)) rfl
theorem q198 : Cond.fieldLink RX8 107 "LipsAndSlides$Desk" "highest" "I" ∈ lw_g := lw_gm (List.mem_of_getElem? (i := 198) (by decide +kernel)) rfl
theorem q204 : Cond.fieldLink RX8 110 "LipsAndSlides$Desk" "brasses" "I" ∈ lw_g := lw_gm (List.mem_of_getElem? (i := 204) (by decide +kernel)) rfl
theorem q207 : Cond.fieldLink RX8 113 "LipsAndSlides$Desk" "players" "I" ∈ lw_g := lw_gm (List.mem_of_getElem? (i := 207) (by decide +kernel)) rfl
theorem q211 : Cond.fieldLink RX8 116 "LipsAndSlides$Desk" "parts" "I" ∈ lw_g := lw_gm (List.mem_of_getElem? (i := 211) (by decide +kernel)) rfl
theorem q694 : Cond.methodLink RX8 119 yX8_rowsThere ∈ lw_g := lw_gm (List.mem_of_getElem? (i := 694) (by decide +kernel)) rfl
theorem q696 : Cond.instanceMethod yX8_rowsThere ∈ lw_g := lw_gm (List.mem_of_getElem? (i := 696) (by decide +kernel)) rfl
theorem q13 : Cond.selects RX8 yX8_rowsThere yX8_rowsThere ∈ lw_g := lw_gm (List.mem_of_getElem? (i := 13) (by decide +kernel)) rfl
theorem q125 : Cond.initialized RX8 ∈ lw_g := lw_gm (List.mem_of_getElem? (i := 125) (by decide +kernel)) rfl
theorem dX8_count_0 : decode cX8_count 0 = .ok (.iload_n 1, 1) := by decide +kernel
theorem dX8_count_1 : decode cX8_count 1 = .ok (.tableswitch 108 0 7 #[47, 55, 63, 71, 79, 87, 95, 103], 47) := by decide +kernel
theorem dX8_count_48 : decode cX8_count 48 = .ok (.aload_n 0, 1) := by decide +kernel
theorem dX8_count_49 : decode cX8_count 49 = .ok (.getfield 19, 3) := by decide +kernel
theorem dX8_count_52 : decode cX8_count 52 = .ok (.getfield 104, 3) := by decide +kernel
theorem dX8_count_55 : decode cX8_count 55 = .ok (.ireturn, 1) := by decide +kernel
theorem dX8_count_56 : decode cX8_count 56 = .ok (.aload_n 0, 1) := by decide +kernel
theorem dX8_count_57 : decode cX8_count 57 = .ok (.getfield 19, 3) := by decide +kernel
theorem dX8_count_60 : decode cX8_count 60 = .ok (.getfield 107, 3) := by decide +kernel
theorem dX8_count_63 : decode cX8_count 63 = .ok (.ireturn, 1) := by decide +kernel
theorem dX8_count_64 : decode cX8_count 64 = .ok (.aload_n 0, 1) := by decide +kernel
theorem dX8_count_65 : decode cX8_count 65 = .ok (.getfield 19, 3) := by decide +kernel
theorem dX8_count_68 : decode cX8_count 68 = .ok (.getfield 110, 3) := by decide +kernel
theorem dX8_count_71 : decode cX8_count 71 = .ok (.ireturn, 1) := by decide +kernel
theorem dX8_count_72 : decode cX8_count 72 = .ok (.aload_n 0, 1) := by decide +kernel
theorem dX8_count_73 : decode cX8_count 73 = .ok (.getfield 19, 3) := by decide +kernel
theorem dX8_count_76 : decode cX8_count 76 = .ok (.getfield 113, 3) := by decide +kernel
theorem dX8_count_79 : decode cX8_count 79 = .ok (.ireturn, 1) := by decide +kernel
theorem dX8_count_80 : decode cX8_count 80 = .ok (.aload_n 0, 1) := by decide +kernel
theorem dX8_count_81 : decode cX8_count 81 = .ok (.getfield 19, 3) := by decide +kernel
theorem dX8_count_84 : decode cX8_count 84 = .ok (.getfield 116, 3) := by decide +kernel
theorem dX8_count_87 : decode cX8_count 87 = .ok (.ireturn, 1) := by decide +kernel
theorem dX8_count_88 : decode cX8_count 88 = .ok (.aload_n 0, 1) := by decide +kernel
theorem dX8_count_89 : decode cX8_count 89 = .ok (.getfield 19, 3) := by decide +kernel
theorem dX8_count_92 : decode cX8_count 92 = .ok (.getfield 95, 3) := by decide +kernel
theorem dX8_count_95 : decode cX8_count 95 = .ok (.ireturn, 1) := by decide +kernel
theorem dX8_count_96 : decode cX8_count 96 = .ok (.aload_n 0, 1) := by decide +kernel
theorem dX8_count_97 : decode cX8_count 97 = .ok (.getfield 10, 3) := by decide +kernel
theorem dX8_count_100 : decode cX8_count 100 = .ok (.getfield 87, 3) := by decide +kernel
theorem dX8_count_103 : decode cX8_count 103 = .ok (.ireturn, 1) := by decide +kernel
theorem dX8_count_104 : decode cX8_count 104 = .ok (.aload_n 0, 1) := by decide +kernel
theorem dX8_count_105 : decode cX8_count 105 = .ok (.invokevirtual 119, 3) := by decide +kernel
theorem dX8_count_108 : decode cX8_count 108 = .ok (.ireturn, 1) := by decide +kernel
theorem dX8_count_109 : decode cX8_count 109 = .ok (.iconst (-1), 1) := by decide +kernel
theorem dX8_count_110 : decode cX8_count 110 = .ok (.ireturn, 1) := by decide +kernel
set_option maxHeartbeats 4000000 in
set_option maxRecDepth 100000 in
theorem m_X8_count (l : Launch) (D : va_G) (cy : Nat → ClassId) (g : Nat → Nat) (σ : ST) (p1 : Int32) (sz : Nat) (hJ : J8 σ)  : Met l yX8_count (ww yX8_count cX8_count 2 (some .int)) ({ frames := 2, cells := 0, slots := 0, locals := 128 }) (va_Pc [.ref (gO g 17), .int p1] (pr8 D cy g σ sz)) (qi8 D cy g sz (fun r τ => τ = σ ∧ True)) 0 0 (A8 cy g sz) := by
  refine Met.ofW (cc := cX8_count) (maxL := 2) (ret := (some .int)) (by decide) rfl ?_
  intro p e s m args below meth c s₁ B hml hv
  obtain ⟨rfl, hsz, hP, hK, hD0, hC⟩ := hv
  have hx := B.exec
  have hb := B.bytes
  have hr := B.returns
  have hts := hts_g (atoms_spec (ws := ww yX8_count cX8_count 2 (some .int)) B.pre)
  have hown : s.vm.findClass RX8 = some m.cls := findClass_of_methodNamed B.named
  have hlocks := B.notSynchronized
  clear B
  subst hsz
  have hD := fun τ => A8_D (sz := s.heap.size) hD0 τ
  clear hD0
  have hS : va_S (A8 cy g s.heap.size) s.heap s.heap [] := va_S.rf
  have hl := lv_entry ([.ref (gO g 17), .int p1]) (n := 2) (Nat.le_of_ble_eq_true rfl)
  rw [lg_entry_eq]
  generalize (lg_sl ([.ref (gO g 17), .int p1]) ++ List.replicate (2 - (lg_sl ([.ref (gO g 17), .int p1])).length) Slot.unset).toArray = ls at hl ⊢
  have hl : lv_has ls 2 [(0, .ref (gO g 17)), (1, .int p1)] := hl
  refine lv_iload_n hx hb dX8_count_0 rfl (lv_at hl 1 rfl) ?_
  by_cases hk1 : p1 = 0
  ·
    refine lv_tableIn (off := 47) (tgt := 48) hx hb dX8_count_1 (by rw [hk1]; decide) (by rw [hk1]; decide) (by rw [hk1]; decide) (by decide) ?_
    refine lv_aload_n hx hb dX8_count_48 rfl (lv_at hl 0 rfl) ?_
    obtain ⟨dx2, edx2⟩ : ∃ z : Nat, ((σ 17).1 1).toInt.toNat = z := ⟨_, rfl⟩
    have hdx2 : 0 ≤ dx2 ∧ dx2 < 5 := mnow (by have f0 := j8_8_1 hJ rfl; omega) edx2
    refine g8_8_1 (o := dx2) hx hb hts hown hK hP edx2 (hts _ q435) dX8_count_49 ?_
    refine g8_0_0 (x := ((σ dx2).1 0)) hx hb hts hown hK hP hdx2 (rfl) (hts _ q194) dX8_count_52 ?_
    exact W.iret (v := ((σ dx2).1 0)) hx hb hr (fun tS ht hW => ⟨⟨((σ dx2).1 0), σ, rfl, ⟨rfl, trivial⟩, (show va_P D clz (WD8 cy g σ) tS.heap by rw [ht]; exact hP)⟩, hS.F ht⟩) hS.2.2 dX8_count_55
  by_cases hk3 : p1 = 1
  ·
    refine lv_tableIn (off := 55) (tgt := 56) hx hb dX8_count_1 (by rw [hk3]; decide) (by rw [hk3]; decide) (by rw [hk3]; decide) (by decide) ?_
    refine lv_aload_n hx hb dX8_count_56 rfl (lv_at hl 0 rfl) ?_
    obtain ⟨dx4, edx4⟩ : ∃ z : Nat, ((σ 17).1 1).toInt.toNat = z := ⟨_, rfl⟩
    have hdx4 : 0 ≤ dx4 ∧ dx4 < 5 := mnow (by have f0 := j8_8_1 hJ rfl; omega) edx4
    refine g8_8_1 (o := dx4) hx hb hts hown hK hP edx4 (hts _ q435) dX8_count_57 ?_
    refine g8_0_1 (x := ((σ dx4).1 1)) hx hb hts hown hK hP hdx4 (rfl) (hts _ q198) dX8_count_60 ?_
    exact W.iret (v := ((σ dx4).1 1)) hx hb hr (fun tS ht hW => ⟨⟨((σ dx4).1 1), σ, rfl, ⟨rfl, trivial⟩, (show va_P D clz (WD8 cy g σ) tS.heap by rw [ht]; exact hP)⟩, hS.F ht⟩) hS.2.2 dX8_count_63
  by_cases hk5 : p1 = 2
  ·
    refine lv_tableIn (off := 63) (tgt := 64) hx hb dX8_count_1 (by rw [hk5]; decide) (by rw [hk5]; decide) (by rw [hk5]; decide) (by decide) ?_
    refine lv_aload_n hx hb dX8_count_64 rfl (lv_at hl 0 rfl) ?_
    obtain ⟨dx6, edx6⟩ : ∃ z : Nat, ((σ 17).1 1).toInt.toNat = z := ⟨_, rfl⟩
    have hdx6 : 0 ≤ dx6 ∧ dx6 < 5 := mnow (by have f0 := j8_8_1 hJ rfl; omega) edx6
    refine g8_8_1 (o := dx6) hx hb hts hown hK hP edx6 (hts _ q435) dX8_count_65 ?_
    refine g8_0_3 (x := ((σ dx6).1 3)) hx hb hts hown hK hP hdx6 (rfl) (hts _ q204) dX8_count_68 ?_
    exact W.iret (v := ((σ dx6).1 3)) hx hb hr (fun tS ht hW => ⟨⟨((σ dx6).1 3), σ, rfl, ⟨rfl, trivial⟩, (show va_P D clz (WD8 cy g σ) tS.heap by rw [ht]; exact hP)⟩, hS.F ht⟩) hS.2.2 dX8_count_71
  by_cases hk7 : p1 = 3
  ·
    refine lv_tableIn (off := 71) (tgt := 72) hx hb dX8_count_1 (by rw [hk7]; decide) (by rw [hk7]; decide) (by rw [hk7]; decide) (by decide) ?_
    refine lv_aload_n hx hb dX8_count_72 rfl (lv_at hl 0 rfl) ?_
    obtain ⟨dx8, edx8⟩ : ∃ z : Nat, ((σ 17).1 1).toInt.toNat = z := ⟨_, rfl⟩
    have hdx8 : 0 ≤ dx8 ∧ dx8 < 5 := mnow (by have f0 := j8_8_1 hJ rfl; omega) edx8
    refine g8_8_1 (o := dx8) hx hb hts hown hK hP edx8 (hts _ q435) dX8_count_73 ?_
    refine g8_0_4 (x := ((σ dx8).1 4)) hx hb hts hown hK hP hdx8 (rfl) (hts _ q207) dX8_count_76 ?_
    exact W.iret (v := ((σ dx8).1 4)) hx hb hr (fun tS ht hW => ⟨⟨((σ dx8).1 4), σ, rfl, ⟨rfl, trivial⟩, (show va_P D clz (WD8 cy g σ) tS.heap by rw [ht]; exact hP)⟩, hS.F ht⟩) hS.2.2 dX8_count_79
  by_cases hk9 : p1 = 4
  ·
    refine lv_tableIn (off := 79) (tgt := 80) hx hb dX8_count_1 (by rw [hk9]; decide) (by rw [hk9]; decide) (by rw [hk9]; decide) (by decide) ?_
    refine lv_aload_n hx hb dX8_count_80 rfl (lv_at hl 0 rfl) ?_
    obtain ⟨dx10, edx10⟩ : ∃ z : Nat, ((σ 17).1 1).toInt.toNat = z := ⟨_, rfl⟩
    have hdx10 : 0 ≤ dx10 ∧ dx10 < 5 := mnow (by have f0 := j8_8_1 hJ rfl; omega) edx10
    refine g8_8_1 (o := dx10) hx hb hts hown hK hP edx10 (hts _ q435) dX8_count_81 ?_
    refine g8_0_5 (x := ((σ dx10).1 5)) hx hb hts hown hK hP hdx10 (rfl) (hts _ q211) dX8_count_84 ?_
    exact W.iret (v := ((σ dx10).1 5)) hx hb hr (fun tS ht hW => ⟨⟨((σ dx10).1 5), σ, rfl, ⟨rfl, trivial⟩, (show va_P D clz (WD8 cy g σ) tS.heap by rw [ht]; exact hP)⟩, hS.F ht⟩) hS.2.2 dX8_count_87
  by_cases hk11 : p1 = 5
  ·
    refine lv_tableIn (off := 87) (tgt := 88) hx hb dX8_count_1 (by rw [hk11]; decide) (by rw [hk11]; decide) (by rw [hk11]; decide) (by decide) ?_
    refine lv_aload_n hx hb dX8_count_88 rfl (lv_at hl 0 rfl) ?_
    obtain ⟨dx12, edx12⟩ : ∃ z : Nat, ((σ 17).1 1).toInt.toNat = z := ⟨_, rfl⟩
    have hdx12 : 0 ≤ dx12 ∧ dx12 < 5 := mnow (by have f0 := j8_8_1 hJ rfl; omega) edx12
    refine g8_8_1 (o := dx12) hx hb hts hown hK hP edx12 (hts _ q435) dX8_count_89 ?_
    refine g8_0_2 (x := ((σ dx12).1 2)) hx hb hts hown hK hP hdx12 (rfl) (hts _ q200) dX8_count_92 ?_
    exact W.iret (v := ((σ dx12).1 2)) hx hb hr (fun tS ht hW => ⟨⟨((σ dx12).1 2), σ, rfl, ⟨rfl, trivial⟩, (show va_P D clz (WD8 cy g σ) tS.heap by rw [ht]; exact hP)⟩, hS.F ht⟩) hS.2.2 dX8_count_95
  by_cases hk13 : p1 = 6
  ·
    refine lv_tableIn (off := 95) (tgt := 96) hx hb dX8_count_1 (by rw [hk13]; decide) (by rw [hk13]; decide) (by rw [hk13]; decide) (by decide) ?_
    refine lv_aload_n hx hb dX8_count_96 rfl (lv_at hl 0 rfl) ?_
    refine g8_8_0 hx hb hts hown hK hP (hts _ q434) dX8_count_97 ?_
    refine g8_4_1 (x := ((σ 12).1 1)) hx hb hts hown hK hP (rfl) (hts _ q159) dX8_count_100 ?_
    exact W.iret (v := ((σ 12).1 1)) hx hb hr (fun tS ht hW => ⟨⟨((σ 12).1 1), σ, rfl, ⟨rfl, trivial⟩, (show va_P D clz (WD8 cy g σ) tS.heap by rw [ht]; exact hP)⟩, hS.F ht⟩) hS.2.2 dX8_count_103
  by_cases hk14 : p1 = 7
  ·
    refine lv_tableIn (off := 103) (tgt := 104) hx hb dX8_count_1 (by rw [hk14]; decide) (by rw [hk14]; decide) (by rw [hk14]; decide) (by decide) ?_
    refine lv_aload_n hx hb dX8_count_104 rfl (lv_at hl 0 rfl) ?_
    refine va_calli (va_runV (As := []) (rest := []) ⟨hx, hb, hml, hown, hts⟩ (m_X8_rowsThere l D cy g σ   _ hJ ) (cwV 0 hts (gd_V q694 q696 q13 q125 q697) rfl rfl rfl (by decide +kernel) ⟨(Nat.le_of_ble_eq_true rfl), (Nat.le_of_ble_eq_true rfl)⟩) (pv8 hP hK hD hC hS (rv8_8 hK hP)) rfl rfl hl.1 rfl (lv_room (Nat.le_of_ble_eq_true rfl)) dX8_count_105 ⟨Nat.le_of_ble_eq_true rfl, Nat.le_of_ble_eq_true rfl⟩) hS (fun q _ h => up8 hS q h) (up8 hS) (fun r15 σ16 tS H1 locs ht hvm hw17 hB hz1 hk1 hS => ?_)
    have hP : va_P D clz (WD8 cy g σ16) H1 := by rw [← ht]; exact hB
    clear hB hz1 hk1 hvm ht
    generalize H1 = H at hP hS ⊢
    have hw17E : σ = σ16 := (hw17.1).symm
    subst hw17E
    exact W.iret (v := r15) hx hb hr (fun tS ht hW => ⟨⟨r15, σ, rfl, ⟨rfl, trivial⟩, (show va_P D clz (WD8 cy g σ) tS.heap by rw [ht]; exact hP)⟩, hS.F ht⟩) hS.2.2 dX8_count_108
  refine lv_tableOut (tgt := 109) hx hb dX8_count_1 (by have f0 := neq32 hk1; have f1 := neq32 hk3; have f2 := neq32 hk5; have f3 := neq32 hk7; have f4 := neq32 hk9; have f5 := neq32 hk11; have f6 := neq32 hk13; have f7 := neq32 hk14; have g0 := rg32 p1; have z0 : (0 : Int32).toInt = 0 := (by decide); have z1 : (1 : Int32).toInt = 1 := (by decide); have z2 : (2 : Int32).toInt = 2 := (by decide); have z3 : (3 : Int32).toInt = 3 := (by decide); have z4 : (4 : Int32).toInt = 4 := (by decide); have z5 : (5 : Int32).toInt = 5 := (by decide); have z6 : (6 : Int32).toInt = 6 := (by decide); have z7 : (7 : Int32).toInt = 7 := (by decide); omega) (by decide) ?_
  refine lv_iconst (v := (-1)) hx hb dX8_count_109 (by decide) ?_
  exact W.iret (v := (-1)) hx hb hr (fun tS ht hW => ⟨⟨(-1), σ, rfl, ⟨rfl, trivial⟩, (show va_P D clz (WD8 cy g σ) tS.heap by rw [ht]; exact hP)⟩, hS.F ht⟩) hS.2.2 dX8_count_110

theorem q705 : Cond.code yX0_copyFrom cX0_copyFrom 2 none ∈ lw_g := lw_gm (List.mem_of_getElem? (i := 705) (by decide +kernel)) rfl
theorem q706 : Cond.methodLink RX0 43 arraycopyName ∈ lw_g := lw_gm (List.mem_of_getElem? (i := 706) (by decide +kernel)) rfl
theorem q708 : Cond.native arraycopyName ∈ lw_g := lw_gm (List.mem_of_getElem? (i := 708) (by decide +kernel)) rfl
theorem q707 : Cond.static arraycopyName ∈ lw_g := lw_gm (List.mem_of_getElem? (i := 707) (by decide +kernel)) rfl
theorem q141 : Cond.initialized "java/lang/System" ∈ lw_g := lw_gm (List.mem_of_getElem? (i := 141) (by decide +kernel)) rfl
theorem dX0_copyFrom_0 : decode cX0_copyFrom 0 = .ok (.aload_n 0, 1) := by decide +kernel
theorem dX0_copyFrom_1 : decode cX0_copyFrom 1 = .ok (.aload_n 1, 1) := by decide +kernel
theorem dX0_copyFrom_2 : decode cX0_copyFrom 2 = .ok (.getfield 24, 3) := by decide +kernel
theorem dX0_copyFrom_5 : decode cX0_copyFrom 5 = .ok (.putfield 24, 3) := by decide +kernel
theorem dX0_copyFrom_8 : decode cX0_copyFrom 8 = .ok (.aload_n 0, 1) := by decide +kernel
theorem dX0_copyFrom_9 : decode cX0_copyFrom 9 = .ok (.aload_n 1, 1) := by decide +kernel
theorem dX0_copyFrom_10 : decode cX0_copyFrom 10 = .ok (.getfield 28, 3) := by decide +kernel
theorem dX0_copyFrom_13 : decode cX0_copyFrom 13 = .ok (.putfield 28, 3) := by decide +kernel
theorem dX0_copyFrom_16 : decode cX0_copyFrom 16 = .ok (.aload_n 0, 1) := by decide +kernel
theorem dX0_copyFrom_17 : decode cX0_copyFrom 17 = .ok (.aload_n 1, 1) := by decide +kernel
theorem dX0_copyFrom_18 : decode cX0_copyFrom 18 = .ok (.getfield 31, 3) := by decide +kernel
theorem dX0_copyFrom_21 : decode cX0_copyFrom 21 = .ok (.putfield 31, 3) := by decide +kernel
theorem dX0_copyFrom_24 : decode cX0_copyFrom 24 = .ok (.aload_n 0, 1) := by decide +kernel
theorem dX0_copyFrom_25 : decode cX0_copyFrom 25 = .ok (.aload_n 1, 1) := by decide +kernel
theorem dX0_copyFrom_26 : decode cX0_copyFrom 26 = .ok (.getfield 34, 3) := by decide +kernel
theorem dX0_copyFrom_29 : decode cX0_copyFrom 29 = .ok (.putfield 34, 3) := by decide +kernel
theorem dX0_copyFrom_32 : decode cX0_copyFrom 32 = .ok (.aload_n 0, 1) := by decide +kernel
theorem dX0_copyFrom_33 : decode cX0_copyFrom 33 = .ok (.aload_n 1, 1) := by decide +kernel
theorem dX0_copyFrom_34 : decode cX0_copyFrom 34 = .ok (.getfield 37, 3) := by decide +kernel
theorem dX0_copyFrom_37 : decode cX0_copyFrom 37 = .ok (.putfield 37, 3) := by decide +kernel
theorem dX0_copyFrom_40 : decode cX0_copyFrom 40 = .ok (.aload_n 0, 1) := by decide +kernel
theorem dX0_copyFrom_41 : decode cX0_copyFrom 41 = .ok (.aload_n 1, 1) := by decide +kernel
theorem dX0_copyFrom_42 : decode cX0_copyFrom 42 = .ok (.getfield 40, 3) := by decide +kernel
theorem dX0_copyFrom_45 : decode cX0_copyFrom 45 = .ok (.putfield 40, 3) := by decide +kernel
theorem dX0_copyFrom_48 : decode cX0_copyFrom 48 = .ok (.aload_n 1, 1) := by decide +kernel
theorem dX0_copyFrom_49 : decode cX0_copyFrom 49 = .ok (.getfield 9, 3) := by decide +kernel
theorem dX0_copyFrom_52 : decode cX0_copyFrom 52 = .ok (.iconst 0, 1) := by decide +kernel
theorem dX0_copyFrom_53 : decode cX0_copyFrom 53 = .ok (.aload_n 0, 1) := by decide +kernel
theorem dX0_copyFrom_54 : decode cX0_copyFrom 54 = .ok (.getfield 9, 3) := by decide +kernel
theorem dX0_copyFrom_57 : decode cX0_copyFrom 57 = .ok (.iconst 0, 1) := by decide +kernel
theorem dX0_copyFrom_58 : decode cX0_copyFrom 58 = .ok (.aload_n 0, 1) := by decide +kernel
theorem dX0_copyFrom_59 : decode cX0_copyFrom 59 = .ok (.getfield 9, 3) := by decide +kernel
theorem dX0_copyFrom_62 : decode cX0_copyFrom 62 = .ok (.arraylength, 1) := by decide +kernel
theorem dX0_copyFrom_63 : decode cX0_copyFrom 63 = .ok (.invokestatic 43, 3) := by decide +kernel
theorem dX0_copyFrom_66 : decode cX0_copyFrom 66 = .ok (.aload_n 1, 1) := by decide +kernel
theorem dX0_copyFrom_67 : decode cX0_copyFrom 67 = .ok (.getfield 15, 3) := by decide +kernel
theorem dX0_copyFrom_70 : decode cX0_copyFrom 70 = .ok (.iconst 0, 1) := by decide +kernel
theorem dX0_copyFrom_71 : decode cX0_copyFrom 71 = .ok (.aload_n 0, 1) := by decide +kernel
theorem dX0_copyFrom_72 : decode cX0_copyFrom 72 = .ok (.getfield 15, 3) := by decide +kernel
theorem dX0_copyFrom_75 : decode cX0_copyFrom 75 = .ok (.iconst 0, 1) := by decide +kernel
theorem dX0_copyFrom_76 : decode cX0_copyFrom 76 = .ok (.aload_n 0, 1) := by decide +kernel
theorem dX0_copyFrom_77 : decode cX0_copyFrom 77 = .ok (.getfield 15, 3) := by decide +kernel
theorem dX0_copyFrom_80 : decode cX0_copyFrom 80 = .ok (.arraylength, 1) := by decide +kernel
theorem dX0_copyFrom_81 : decode cX0_copyFrom 81 = .ok (.invokestatic 43, 3) := by decide +kernel
theorem dX0_copyFrom_84 : decode cX0_copyFrom 84 = .ok (.aload_n 1, 1) := by decide +kernel
theorem dX0_copyFrom_85 : decode cX0_copyFrom 85 = .ok (.getfield 18, 3) := by decide +kernel
theorem dX0_copyFrom_88 : decode cX0_copyFrom 88 = .ok (.iconst 0, 1) := by decide +kernel
theorem dX0_copyFrom_89 : decode cX0_copyFrom 89 = .ok (.aload_n 0, 1) := by decide +kernel
theorem dX0_copyFrom_90 : decode cX0_copyFrom 90 = .ok (.getfield 18, 3) := by decide +kernel
theorem dX0_copyFrom_93 : decode cX0_copyFrom 93 = .ok (.iconst 0, 1) := by decide +kernel
theorem dX0_copyFrom_94 : decode cX0_copyFrom 94 = .ok (.aload_n 0, 1) := by decide +kernel
theorem dX0_copyFrom_95 : decode cX0_copyFrom 95 = .ok (.getfield 18, 3) := by decide +kernel
theorem dX0_copyFrom_98 : decode cX0_copyFrom 98 = .ok (.arraylength, 1) := by decide +kernel
theorem dX0_copyFrom_99 : decode cX0_copyFrom 99 = .ok (.invokestatic 43, 3) := by decide +kernel
theorem dX0_copyFrom_102 : decode cX0_copyFrom 102 = .ok (.aload_n 1, 1) := by decide +kernel
theorem dX0_copyFrom_103 : decode cX0_copyFrom 103 = .ok (.getfield 21, 3) := by decide +kernel
theorem dX0_copyFrom_106 : decode cX0_copyFrom 106 = .ok (.iconst 0, 1) := by decide +kernel
theorem dX0_copyFrom_107 : decode cX0_copyFrom 107 = .ok (.aload_n 0, 1) := by decide +kernel
theorem dX0_copyFrom_108 : decode cX0_copyFrom 108 = .ok (.getfield 21, 3) := by decide +kernel
theorem dX0_copyFrom_111 : decode cX0_copyFrom 111 = .ok (.iconst 0, 1) := by decide +kernel
theorem dX0_copyFrom_112 : decode cX0_copyFrom 112 = .ok (.aload_n 0, 1) := by decide +kernel
theorem dX0_copyFrom_113 : decode cX0_copyFrom 113 = .ok (.getfield 21, 3) := by decide +kernel
theorem dX0_copyFrom_116 : decode cX0_copyFrom 116 = .ok (.arraylength, 1) := by decide +kernel
theorem dX0_copyFrom_117 : decode cX0_copyFrom 117 = .ok (.invokestatic 43, 3) := by decide +kernel
theorem dX0_copyFrom_120 : decode cX0_copyFrom 120 = .ok (.return_, 1) := by decide +kernel
set_option maxHeartbeats 4000000 in
set_option maxRecDepth 100000 in
theorem m_X0_copyFrom (l : Launch) (D : va_G) (cy : Nat → ClassId) (g : Nat → Nat) (σ : ST) (d0 : Nat) (d1 : Nat) (sz : Nat) (hJ : J8 σ) (hd0 : 0 ≤ d0 ∧ d0 < 5) (hd1 : 0 ≤ d1 ∧ d1 < 5) : Met l yX0_copyFrom (ww yX0_copyFrom cX0_copyFrom 2 none) ({ frames := 2, cells := 0, slots := 0, locals := 128 }) (va_Pc [.ref (gO g d0), .ref (gO g d1)] (pr8 D cy g σ sz)) (qv8 D cy g sz (fun τ => Fr (fO [d0]) σ τ ∧ J8 τ ∧ True)) 0 0 (A8 cy g sz) := by
  refine Met.ofW (cc := cX0_copyFrom) (maxL := 2) (ret := none) (by decide) rfl ?_
  intro p e s m args below meth c s₁ B hml hv
  obtain ⟨rfl, hsz, hP, hK, hD0, hC⟩ := hv
  have hx := B.exec
  have hb := B.bytes
  have hr := B.returns
  have hts := hts_g (atoms_spec (ws := ww yX0_copyFrom cX0_copyFrom 2 none) B.pre)
  have hown : s.vm.findClass RX0 = some m.cls := findClass_of_methodNamed B.named
  have hlocks := B.notSynchronized
  clear B
  subst hsz
  have hD := fun τ => A8_D (sz := s.heap.size) hD0 τ
  clear hD0
  have hS : va_S (A8 cy g s.heap.size) s.heap s.heap [] := va_S.rf
  have hl := lv_entry ([.ref (gO g d0), .ref (gO g d1)]) (n := 2) (Nat.le_of_ble_eq_true rfl)
  rw [lg_entry_eq]
  generalize (lg_sl ([.ref (gO g d0), .ref (gO g d1)]) ++ List.replicate (2 - (lg_sl ([.ref (gO g d0), .ref (gO g d1)])).length) Slot.unset).toArray = ls at hl ⊢
  have hl : lv_has ls 2 [(0, .ref (gO g d0)), (1, .ref (gO g d1))] := hl
  refine lv_aload_n hx hb dX0_copyFrom_0 rfl (lv_at hl 0 rfl) ?_
  refine lv_aload_n hx hb dX0_copyFrom_1 rfl (lv_at hl 1 rfl) ?_
  refine g8_0_0 (x := ((σ d1).1 0)) hx hb hts hown hK hP hd1 (rfl) (hts _ q192) dX0_copyFrom_2 ?_
  refine p8_0_0 hx hb hts hown hK hP hd0 hD hS (hts _ q192) dX0_copyFrom_5 (fun H locs σ1 eσ1 hP hS => ?_)
  have hJ2 : J8 σ1 := hJ.I eσ1 (clO_0 hd0) (show JI8 0 0 ((σ d1).1 0) from trivial)
  refine lv_aload_n hx hb dX0_copyFrom_8 rfl (lv_at hl 0 rfl) ?_
  refine lv_aload_n hx hb dX0_copyFrom_9 rfl (lv_at hl 1 rfl) ?_
  refine g8_0_1 (x := ((σ1 d1).1 1)) hx hb hts hown hK hP hd1 (rfl) (hts _ q195) dX0_copyFrom_10 ?_
  refine p8_0_1 hx hb hts hown hK hP hd0 hD hS (hts _ q195) dX0_copyFrom_13 (fun H locs σ3 eσ3 hP hS => ?_)
  have hJ4 : J8 σ3 := hJ2.I eσ3 (clO_0 hd0) (show JI8 0 1 ((σ1 d1).1 1) from (by have f0 := j8_0_1 hJ2 hd1 rfl; exact ⟨by omega, by omega⟩))
  refine lv_aload_n hx hb dX0_copyFrom_16 rfl (lv_at hl 0 rfl) ?_
  refine lv_aload_n hx hb dX0_copyFrom_17 rfl (lv_at hl 1 rfl) ?_
  refine g8_0_2 (x := ((σ3 d1).1 2)) hx hb hts hown hK hP hd1 (rfl) (hts _ q199) dX0_copyFrom_18 ?_
  refine p8_0_2 hx hb hts hown hK hP hd0 hD hS (hts _ q199) dX0_copyFrom_21 (fun H locs σ5 eσ5 hP hS => ?_)
  have hJ6 : J8 σ5 := hJ4.I eσ5 (clO_0 hd0) (show JI8 0 2 ((σ3 d1).1 2) from trivial)
  refine lv_aload_n hx hb dX0_copyFrom_24 rfl (lv_at hl 0 rfl) ?_
  refine lv_aload_n hx hb dX0_copyFrom_25 rfl (lv_at hl 1 rfl) ?_
  refine g8_0_3 (x := ((σ5 d1).1 3)) hx hb hts hown hK hP hd1 (rfl) (hts _ q202) dX0_copyFrom_26 ?_
  refine p8_0_3 hx hb hts hown hK hP hd0 hD hS (hts _ q202) dX0_copyFrom_29 (fun H locs σ7 eσ7 hP hS => ?_)
  have hJ8 : J8 σ7 := hJ6.I eσ7 (clO_0 hd0) (show JI8 0 3 ((σ5 d1).1 3) from (by have f0 := j8_0_3 hJ6 hd1 rfl; exact ⟨by omega, by omega⟩))
  refine lv_aload_n hx hb dX0_copyFrom_32 rfl (lv_at hl 0 rfl) ?_
  refine lv_aload_n hx hb dX0_copyFrom_33 rfl (lv_at hl 1 rfl) ?_
  refine g8_0_4 (x := ((σ7 d1).1 4)) hx hb hts hown hK hP hd1 (rfl) (hts _ q206) dX0_copyFrom_34 ?_
  refine p8_0_4 hx hb hts hown hK hP hd0 hD hS (hts _ q206) dX0_copyFrom_37 (fun H locs σ9 eσ9 hP hS => ?_)
  have hJ10 : J8 σ9 := hJ8.I eσ9 (clO_0 hd0) (show JI8 0 4 ((σ7 d1).1 4) from (by have f0 := j8_0_4 hJ8 hd1 rfl; exact ⟨by omega, by omega⟩))
  refine lv_aload_n hx hb dX0_copyFrom_40 rfl (lv_at hl 0 rfl) ?_
  refine lv_aload_n hx hb dX0_copyFrom_41 rfl (lv_at hl 1 rfl) ?_
  refine g8_0_5 (x := ((σ9 d1).1 5)) hx hb hts hown hK hP hd1 (rfl) (hts _ q209) dX0_copyFrom_42 ?_
  refine p8_0_5 hx hb hts hown hK hP hd0 hD hS (hts _ q209) dX0_copyFrom_45 (fun H locs σ11 eσ11 hP hS => ?_)
  have hJ12 : J8 σ11 := hJ10.I eσ11 (clO_0 hd0) (show JI8 0 5 ((σ9 d1).1 5) from (by have f0 := j8_0_5 hJ10 hd1 rfl; exact ⟨by omega, by omega⟩))
  refine lv_aload_n hx hb dX0_copyFrom_48 rfl (lv_at hl 1 rfl) ?_
  refine g8_0_6 hx hb hts hown hK hP hd1 (hts _ q212) dX0_copyFrom_49 ?_
  refine lv_iconst (v := 0) hx hb dX0_copyFrom_52 (by decide) ?_
  refine lv_aload_n hx hb dX0_copyFrom_53 rfl (lv_at hl 0 rfl) ?_
  refine g8_0_6 hx hb hts hown hK hP hd0 (hts _ q212) dX0_copyFrom_54 ?_
  refine lv_iconst (v := 0) hx hb dX0_copyFrom_57 (by decide) ?_
  refine lv_aload_n hx hb dX0_copyFrom_58 rfl (lv_at hl 0 rfl) ?_
  refine g8_0_6 hx hb hts hown hK hP hd0 (hts _ q212) dX0_copyFrom_59 ?_
  refine n8_0_6 hx hb hK hP hd0 dX0_copyFrom_62 ?_
  refine va_copyi (ty := .int) hx hb (hml.trans hl.1.symm) hown (hts _ q706) (hts _ q708) (hts _ q707) (hts _ q141) hK hP (hD σ11) hS (5 * d1 + 1) (5 * d0 + 1) 0 0 (at8_0_6 hd1) (at8_0_6 hd0) rfl rfl rfl (by decide) (by decide) (by decide) (by decide) (by decide) (fun _ _ => rfl) (Nat.le_of_ble_eq_true rfl) (Nat.le_of_ble_eq_true rfl) dX0_copyFrom_63 (fun H locs hP hDx hS => ?_)
  clear hDx
  have hP := vpe (set8_0_6 hd0 (cy := cy) (g := g) (σ := σ11) (f := va_cpy ((σ11 d1).2.2.1 6) ((σ11 d0).2.2.1 6) (0 : Int32).toNatClampNeg (0 : Int32).toNatClampNeg (28 : Int32).toNatClampNeg)) hP
  obtain ⟨σ13, eσ13⟩ : ∃ z, z = sA σ11 d0 6 (va_cpy ((σ11 d1).2.2.1 6) ((σ11 d0).2.2.1 6) (0 : Int32).toNatClampNeg (0 : Int32).toNatClampNeg (28 : Int32).toNatClampNeg) := ⟨_, rfl⟩
  rw [← eσ13] at hP
  have hJ14 : J8 σ13 := hJ12.C eσ13 (clO_0 hd0) (show ∀ j : Nat, PA8 0 6 _ from (fun _ => a8_0_6 hJ12 hd1 rfl))
  refine lv_aload_n hx hb dX0_copyFrom_66 rfl (lv_at hl 1 rfl) ?_
  refine g8_0_7 hx hb hts hown hK hP hd1 (hts _ q213) dX0_copyFrom_67 ?_
  refine lv_iconst (v := 0) hx hb dX0_copyFrom_70 (by decide) ?_
  refine lv_aload_n hx hb dX0_copyFrom_71 rfl (lv_at hl 0 rfl) ?_
  refine g8_0_7 hx hb hts hown hK hP hd0 (hts _ q213) dX0_copyFrom_72 ?_
  refine lv_iconst (v := 0) hx hb dX0_copyFrom_75 (by decide) ?_
  refine lv_aload_n hx hb dX0_copyFrom_76 rfl (lv_at hl 0 rfl) ?_
  refine g8_0_7 hx hb hts hown hK hP hd0 (hts _ q213) dX0_copyFrom_77 ?_
  refine n8_0_7 hx hb hK hP hd0 dX0_copyFrom_80 ?_
  refine va_copyi (ty := .int) hx hb (hml.trans hl.1.symm) hown (hts _ q706) (hts _ q708) (hts _ q707) (hts _ q141) hK hP (hD σ13) hS (5 * d1 + 2) (5 * d0 + 2) 0 0 (at8_0_7 hd1) (at8_0_7 hd0) rfl rfl rfl (by decide) (by decide) (by decide) (by decide) (by decide) (fun _ _ => rfl) (Nat.le_of_ble_eq_true rfl) (Nat.le_of_ble_eq_true rfl) dX0_copyFrom_81 (fun H locs hP hDx hS => ?_)
  clear hDx
  have hP := vpe (set8_0_7 hd0 (cy := cy) (g := g) (σ := σ13) (f := va_cpy ((σ13 d1).2.2.1 7) ((σ13 d0).2.2.1 7) (0 : Int32).toNatClampNeg (0 : Int32).toNatClampNeg (36 : Int32).toNatClampNeg)) hP
  obtain ⟨σ15, eσ15⟩ : ∃ z, z = sA σ13 d0 7 (va_cpy ((σ13 d1).2.2.1 7) ((σ13 d0).2.2.1 7) (0 : Int32).toNatClampNeg (0 : Int32).toNatClampNeg (36 : Int32).toNatClampNeg) := ⟨_, rfl⟩
  rw [← eσ15] at hP
  have hJ16 : J8 σ15 := hJ14.C eσ15 (clO_0 hd0) (show ∀ j : Nat, PA8 0 7 _ from (fun _ => trivial))
  refine lv_aload_n hx hb dX0_copyFrom_84 rfl (lv_at hl 1 rfl) ?_
  refine g8_0_8 hx hb hts hown hK hP hd1 (hts _ q214) dX0_copyFrom_85 ?_
  refine lv_iconst (v := 0) hx hb dX0_copyFrom_88 (by decide) ?_
  refine lv_aload_n hx hb dX0_copyFrom_89 rfl (lv_at hl 0 rfl) ?_
  refine g8_0_8 hx hb hts hown hK hP hd0 (hts _ q214) dX0_copyFrom_90 ?_
  refine lv_iconst (v := 0) hx hb dX0_copyFrom_93 (by decide) ?_
  refine lv_aload_n hx hb dX0_copyFrom_94 rfl (lv_at hl 0 rfl) ?_
  refine g8_0_8 hx hb hts hown hK hP hd0 (hts _ q214) dX0_copyFrom_95 ?_
  refine n8_0_8 hx hb hK hP hd0 dX0_copyFrom_98 ?_
  refine va_copyi (ty := .int) hx hb (hml.trans hl.1.symm) hown (hts _ q706) (hts _ q708) (hts _ q707) (hts _ q141) hK hP (hD σ15) hS (5 * d1 + 3) (5 * d0 + 3) 0 0 (at8_0_8 hd1) (at8_0_8 hd0) rfl rfl rfl (by decide) (by decide) (by decide) (by decide) (by decide) (fun _ _ => rfl) (Nat.le_of_ble_eq_true rfl) (Nat.le_of_ble_eq_true rfl) dX0_copyFrom_99 (fun H locs hP hDx hS => ?_)
  clear hDx
  have hP := vpe (set8_0_8 hd0 (cy := cy) (g := g) (σ := σ15) (f := va_cpy ((σ15 d1).2.2.1 8) ((σ15 d0).2.2.1 8) (0 : Int32).toNatClampNeg (0 : Int32).toNatClampNeg (240 : Int32).toNatClampNeg)) hP
  obtain ⟨σ17, eσ17⟩ : ∃ z, z = sA σ15 d0 8 (va_cpy ((σ15 d1).2.2.1 8) ((σ15 d0).2.2.1 8) (0 : Int32).toNatClampNeg (0 : Int32).toNatClampNeg (240 : Int32).toNatClampNeg) := ⟨_, rfl⟩
  rw [← eσ17] at hP
  have hJ18 : J8 σ17 := hJ16.C eσ17 (clO_0 hd0) (show ∀ j : Nat, PA8 0 8 _ from (fun _ => trivial))
  refine lv_aload_n hx hb dX0_copyFrom_102 rfl (lv_at hl 1 rfl) ?_
  refine g8_0_9 hx hb hts hown hK hP hd1 (hts _ q215) dX0_copyFrom_103 ?_
  refine lv_iconst (v := 0) hx hb dX0_copyFrom_106 (by decide) ?_
  refine lv_aload_n hx hb dX0_copyFrom_107 rfl (lv_at hl 0 rfl) ?_
  refine g8_0_9 hx hb hts hown hK hP hd0 (hts _ q215) dX0_copyFrom_108 ?_
  refine lv_iconst (v := 0) hx hb dX0_copyFrom_111 (by decide) ?_
  refine lv_aload_n hx hb dX0_copyFrom_112 rfl (lv_at hl 0 rfl) ?_
  refine g8_0_9 hx hb hts hown hK hP hd0 (hts _ q215) dX0_copyFrom_113 ?_
  refine n8_0_9 hx hb hK hP hd0 dX0_copyFrom_116 ?_
  refine va_copyi (ty := .int) hx hb (hml.trans hl.1.symm) hown (hts _ q706) (hts _ q708) (hts _ q707) (hts _ q141) hK hP (hD σ17) hS (5 * d1 + 4) (5 * d0 + 4) 0 0 (at8_0_9 hd1) (at8_0_9 hd0) rfl rfl rfl (by decide) (by decide) (by decide) (by decide) (by decide) (fun _ _ => rfl) (Nat.le_of_ble_eq_true rfl) (Nat.le_of_ble_eq_true rfl) dX0_copyFrom_117 (fun H locs hP hDx hS => ?_)
  clear hDx
  have hP := vpe (set8_0_9 hd0 (cy := cy) (g := g) (σ := σ17) (f := va_cpy ((σ17 d1).2.2.1 9) ((σ17 d0).2.2.1 9) (0 : Int32).toNatClampNeg (0 : Int32).toNatClampNeg (3 : Int32).toNatClampNeg)) hP
  obtain ⟨σ19, eσ19⟩ : ∃ z, z = sA σ17 d0 9 (va_cpy ((σ17 d1).2.2.1 9) ((σ17 d0).2.2.1 9) (0 : Int32).toNatClampNeg (0 : Int32).toNatClampNeg (3 : Int32).toNatClampNeg) := ⟨_, rfl⟩
  rw [← eσ19] at hP
  have hJ20 : J8 σ19 := hJ18.C eσ19 (clO_0 hd0) (show ∀ j : Nat, PA8 0 9 _ from (fun _ => a8_0_9 hJ18 hd1 rfl))
  exact W.vret hx hb hr (fun tS ht hW => ⟨⟨σ19, rfl, ⟨Fr.tr (Fr.tr (Fr.tr (Fr.tr (Fr.tr (Fr.tr (Fr.tr (Fr.tr (Fr.tr (Fr.tr (Fr.rf) (sI_f eσ1) (fN_O mem0)) (sI_f eσ3) (fN_O mem0)) (sI_f eσ5) (fN_O mem0)) (sI_f eσ7) (fN_O mem0)) (sI_f eσ9) (fN_O mem0)) (sI_f eσ11) (fN_O mem0)) (sA_f eσ13) (fN_O mem0)) (sA_f eσ15) (fN_O mem0)) (sA_f eσ17) (fN_O mem0)) (sA_f eσ19) (fN_O mem0), hJ20, trivial⟩, (show va_P D clz (WD8 cy g σ19) tS.heap by rw [ht]; exact hP)⟩, hS.F ht⟩) hS.2.2 dX0_copyFrom_120

theorem q701 : Cond.code yX8_keep cX8_keep 2 (some .int) ∈ lw_g := lw_gm (List.mem_of_getElem? (i := 701) (by decide +kernel)) rfl
theorem q437 : Cond.fieldLink RX8 26 "LipsAndSlides" "images" "[LLipsAndSlides$Desk;" ∈ lw_g := lw_gm (List.mem_of_getElem? (i := 437) (by decide +kernel)) rfl
theorem q702 : Cond.methodLink RX8 127 yX0_copyFrom ∈ lw_g := lw_gm (List.mem_of_getElem? (i := 702) (by decide +kernel)) rfl
theorem q703 : Cond.instanceMethod yX0_copyFrom ∈ lw_g := lw_gm (List.mem_of_getElem? (i := 703) (by decide +kernel)) rfl
theorem q704 : Cond.selects RX0 yX0_copyFrom yX0_copyFrom ∈ lw_g := lw_gm (List.mem_of_getElem? (i := 704) (by decide +kernel)) rfl
theorem q438 : Cond.fieldLink RX8 30 "LipsAndSlides" "kept" "[I" ∈ lw_g := lw_gm (List.mem_of_getElem? (i := 438) (by decide +kernel)) rfl
theorem dX8_keep_0 : decode cX8_keep 0 = .ok (.iload_n 1, 1) := by decide +kernel
theorem dX8_keep_1 : decode cX8_keep 1 = .ok (.ifCond .lt 8, 3) := by decide +kernel
theorem dX8_keep_4 : decode cX8_keep 4 = .ok (.iload_n 1, 1) := by decide +kernel
theorem dX8_keep_5 : decode cX8_keep 5 = .ok (.iconst 3, 1) := by decide +kernel
theorem dX8_keep_6 : decode cX8_keep 6 = .ok (.if_icmp .lt 6, 3) := by decide +kernel
theorem dX8_keep_9 : decode cX8_keep 9 = .ok (.bipush (-2), 2) := by decide +kernel
theorem dX8_keep_11 : decode cX8_keep 11 = .ok (.ireturn, 1) := by decide +kernel
theorem dX8_keep_12 : decode cX8_keep 12 = .ok (.aload_n 0, 1) := by decide +kernel
theorem dX8_keep_13 : decode cX8_keep 13 = .ok (.getfield 26, 3) := by decide +kernel
theorem dX8_keep_16 : decode cX8_keep 16 = .ok (.iload_n 1, 1) := by decide +kernel
theorem dX8_keep_17 : decode cX8_keep 17 = .ok (.aaload, 1) := by decide +kernel
theorem dX8_keep_18 : decode cX8_keep 18 = .ok (.aload_n 0, 1) := by decide +kernel
theorem dX8_keep_19 : decode cX8_keep 19 = .ok (.getfield 19, 3) := by decide +kernel
theorem dX8_keep_22 : decode cX8_keep 22 = .ok (.invokevirtual 127, 3) := by decide +kernel
theorem dX8_keep_25 : decode cX8_keep 25 = .ok (.aload_n 0, 1) := by decide +kernel
theorem dX8_keep_26 : decode cX8_keep 26 = .ok (.getfield 30, 3) := by decide +kernel
theorem dX8_keep_29 : decode cX8_keep 29 = .ok (.iload_n 1, 1) := by decide +kernel
theorem dX8_keep_30 : decode cX8_keep 30 = .ok (.iconst 1, 1) := by decide +kernel
theorem dX8_keep_31 : decode cX8_keep 31 = .ok (.iastore, 1) := by decide +kernel
theorem dX8_keep_32 : decode cX8_keep 32 = .ok (.iconst 0, 1) := by decide +kernel
theorem dX8_keep_33 : decode cX8_keep 33 = .ok (.ireturn, 1) := by decide +kernel
set_option maxHeartbeats 4000000 in
set_option maxRecDepth 100000 in
theorem m_X8_keep (l : Launch) (D : va_G) (cy : Nat → ClassId) (g : Nat → Nat) (σ : ST) (p1 : Int32) (sz : Nat) (hJ : J8 σ)  : Met l yX8_keep (ww yX8_keep cX8_keep 2 (some .int)) ({ frames := 3, cells := 0, slots := 0, locals := 192 }) (va_Pc [.ref (gO g 17), .int p1] (pr8 D cy g σ sz)) (qi8 D cy g sz (fun r τ => Fr (fO [0, 1, 17, 2, 3, 4]) σ τ ∧ J8 τ ∧ ((-2 : Int) ≤ r.toInt ∧ r.toInt ≤ 0) ∧ (((p1.toInt < 0 ∨ 2 < p1.toInt) ∧ r.toInt = -2) ∨ (0 ≤ p1.toInt ∧ p1.toInt ≤ 2 ∧ r.toInt = 0)) ∧ ((r.toInt = 0 ∧ (τ 17).2.2.1 4 = upd ((σ 17).2.2.1 4) p1.toInt.toNat 1) ∨ (¬ r.toInt = 0 ∧ (τ 17).2.2.1 4 = (σ 17).2.2.1 4)) ∧ True)) 0 0 (A8 cy g sz) := by
  refine Met.ofW (cc := cX8_keep) (maxL := 2) (ret := (some .int)) (by decide) rfl ?_
  intro p e s m args below meth c s₁ B hml hv
  obtain ⟨rfl, hsz, hP, hK, hD0, hC⟩ := hv
  have hx := B.exec
  have hb := B.bytes
  have hr := B.returns
  have hts := hts_g (atoms_spec (ws := ww yX8_keep cX8_keep 2 (some .int)) B.pre)
  have hown : s.vm.findClass RX8 = some m.cls := findClass_of_methodNamed B.named
  have hlocks := B.notSynchronized
  clear B
  subst hsz
  have hD := fun τ => A8_D (sz := s.heap.size) hD0 τ
  clear hD0
  have hS : va_S (A8 cy g s.heap.size) s.heap s.heap [] := va_S.rf
  have hl := lv_entry ([.ref (gO g 17), .int p1]) (n := 2) (Nat.le_of_ble_eq_true rfl)
  rw [lg_entry_eq]
  generalize (lg_sl ([.ref (gO g 17), .int p1]) ++ List.replicate (2 - (lg_sl ([.ref (gO g 17), .int p1])).length) Slot.unset).toArray = ls at hl ⊢
  have hl : lv_has ls 2 [(0, .ref (gO g 17)), (1, .int p1)] := hl
  refine lv_iload_n hx hb dX8_keep_0 rfl (lv_at hl 1 rfl) ?_
  refine lv_if_lt (tgt := 9) hx hb dX8_keep_1 (by decide) (fun c1 => ?_) (fun c1 => ?_)
  ·
    have k2 := plt32 c1
    refine lv_bipush (v := (-2)) hx hb dX8_keep_9 (by decide) ?_
    exact W.iret (v := (-2)) hx hb hr (fun tS ht hW => ⟨⟨(-2), σ, rfl, ⟨Fr.rf, hJ, (show (-2 : Int) ≤ ((-2) : Int32).toInt ∧ ((-2) : Int32).toInt ≤ 0 from (by have zm2 : ((-2) : Int32).toInt = (-2) := (by decide); omega)), (show ((p1.toInt < 0 ∨ 2 < p1.toInt) ∧ ((-2) : Int32).toInt = -2) ∨ (0 ≤ p1.toInt ∧ p1.toInt ≤ 2 ∧ ((-2) : Int32).toInt = 0) from (by have f0 := k2; have g0 := rg32 p1; have zm2 : ((-2) : Int32).toInt = (-2) := (by decide); have z0 : (0 : Int32).toInt = 0 := (by decide); omega)), (show (((-2) : Int32).toInt = 0 ∧ (σ 17).2.2.1 4 = upd ((σ 17).2.2.1 4) p1.toInt.toNat 1) ∨ (¬ ((-2) : Int32).toInt = 0 ∧ (σ 17).2.2.1 4 = (σ 17).2.2.1 4) from (Or.inr ⟨(by have zm2 : ((-2) : Int32).toInt = (-2) := (by decide); omega), rfl⟩)), trivial⟩, (show va_P D clz (WD8 cy g σ) tS.heap by rw [ht]; exact hP)⟩, hS.F ht⟩) hS.2.2 dX8_keep_11
  ·
    have k3 := nlt32 c1
    refine lv_iload_n hx hb dX8_keep_4 rfl (lv_at hl 1 rfl) ?_
    refine lv_iconst (v := 3) hx hb dX8_keep_5 (by decide) ?_
    refine lv_icmp_lt (tgt := 12) hx hb dX8_keep_6 (by decide) (fun c4 => ?_) (fun c4 => ?_)
    ·
      have k5 := plt32 c4
      refine lv_aload_n hx hb dX8_keep_12 rfl (lv_at hl 0 rfl) ?_
      refine g8_8_3 hx hb hts hown hK hP (hts _ q437) dX8_keep_13 ?_
      refine lv_iload_n hx hb dX8_keep_16 rfl (lv_at hl 1 rfl) ?_
      obtain ⟨dx6, edx6⟩ : ∃ z : Nat, 2 + p1.toInt.toNat = z := ⟨_, rfl⟩
      have hdx6 : 2 ≤ dx6 ∧ dx6 < 5 := mrow (n := 3) (by have f0 := k3; have f1 := k5; have g0 := rg32 p1; have z0 : (0 : Int32).toInt = 0 := (by decide); have z3 : (3 : Int32).toInt = 3 := (by decide); omega) edx6 rfl
      have hdx6 : 0 ≤ dx6 ∧ dx6 < 5 := ⟨by omega, by omega⟩
      refine l8_8_3 hx hb hK hP (vpo (by have f0 := k3; have f1 := k5; have g0 := rg32 p1; have z0 : (0 : Int32).toInt = 0 := (by decide); have z3 : (3 : Int32).toInt = 3 := (by decide); omega)) edx6 dX8_keep_17 ?_
      refine lv_aload_n hx hb dX8_keep_18 rfl (lv_at hl 0 rfl) ?_
      obtain ⟨dx7, edx7⟩ : ∃ z : Nat, ((σ 17).1 1).toInt.toNat = z := ⟨_, rfl⟩
      have hdx7 : 0 ≤ dx7 ∧ dx7 < 5 := mnow (by have f0 := j8_8_1 hJ rfl; omega) edx7
      refine g8_8_1 (o := dx7) hx hb hts hown hK hP edx7 (hts _ q435) dX8_keep_19 ?_
      refine va_callv (va_runV (As := [.ref (gO g dx7)]) (rest := []) ⟨hx, hb, hml, hown, hts⟩ (m_X0_copyFrom l D cy g σ  dx6 dx7 _ hJ (show 0 ≤ dx6 ∧ dx6 < 5 from hdx6) (show 0 ≤ dx7 ∧ dx7 < 5 from hdx7)) (cwV 1 hts (gd_V q702 q703 q704 q127 q705) rfl rfl rfl (by decide +kernel) ⟨(Nat.le_of_ble_eq_true rfl), (Nat.le_of_ble_eq_true rfl)⟩) (pv8 hP hK hD hC hS (rv8_0 hK hP hdx6)) rfl rfl hl.1 rfl (lv_room (Nat.le_of_ble_eq_true rfl)) dX8_keep_22 ⟨Nat.le_of_ble_eq_true rfl, Nat.le_of_ble_eq_true rfl⟩) hS (fun q _ h => up8 hS q h) (up8 hS) (fun σ9 tS H1 locs ht hvm hw10 hB hz1 hk1 hS => ?_)
      have hP : va_P D clz (WD8 cy g σ9) H1 := by rw [← ht]; exact hB
      clear hB hz1 hk1 hvm ht
      generalize H1 = H at hP hS ⊢
      have hF11 : Fr (fO [dx6]) σ σ9 := hw10.1
      have hJ12 : J8 σ9 := hw10.2.1
      refine lv_aload_n hx hb dX8_keep_25 rfl (lv_at hl 0 rfl) ?_
      refine g8_8_4 hx hb hts hown hK hP (hts _ q438) dX8_keep_26 ?_
      refine lv_iload_n hx hb dX8_keep_29 rfl (lv_at hl 1 rfl) ?_
      refine lv_iconst (v := 1) hx hb dX8_keep_30 (by decide) ?_
      refine t8_8_4 hx hb hK hP hD hS (vpo (by have f0 := k3; have f1 := k5; have g0 := rg32 p1; have z0 : (0 : Int32).toInt = 0 := (by decide); have z3 : (3 : Int32).toInt = 3 := (by decide); omega)) dX8_keep_31 (fun H locs σ13 eσ13 hP hS => ?_)
      have hJ14 : J8 σ13 := hJ12.A eσ13 rfl (show PA8 8 4 (1 : Int32) from trivial)
      refine lv_iconst (v := 0) hx hb dX8_keep_32 (by decide) ?_
      exact W.iret (v := 0) hx hb hr (fun tS ht hW => ⟨⟨0, σ13, rfl, ⟨Fr.tr (Fr.tr (Fr.rf) hF11 (fO_sub (by have q0 := hdx6; intro x hx; simp at hx ⊢; omega))) (sA_f eσ13) (fN_O (mne (mne mem0))), hJ14, (show (-2 : Int) ≤ (0 : Int32).toInt ∧ (0 : Int32).toInt ≤ 0 from (by have z0 : (0 : Int32).toInt = 0 := (by decide); omega)), (show ((p1.toInt < 0 ∨ 2 < p1.toInt) ∧ (0 : Int32).toInt = -2) ∨ (0 ≤ p1.toInt ∧ p1.toInt ≤ 2 ∧ (0 : Int32).toInt = 0) from (by have f0 := k3; have f1 := k5; have g0 := rg32 p1; have z0 : (0 : Int32).toInt = 0 := (by decide); have z3 : (3 : Int32).toInt = 3 := (by decide); omega)), (show ((0 : Int32).toInt = 0 ∧ (σ13 17).2.2.1 4 = upd ((σ 17).2.2.1 4) p1.toInt.toNat 1) ∨ (¬ (0 : Int32).toInt = 0 ∧ (σ13 17).2.2.1 4 = (σ 17).2.2.1 4) from (Or.inl ⟨(by have z0 : (0 : Int32).toInt = 0 := (by decide); omega), by rw [sA_s eσ13, (hF11 17 4 (fO_n (nmc (ner hdx6 (by decide)) nm0))).2.2.1]⟩)), trivial⟩, (show va_P D clz (WD8 cy g σ13) tS.heap by rw [ht]; exact hP)⟩, hS.F ht⟩) hS.2.2 dX8_keep_33
    ·
      have k15 := nlt32 c4
      refine lv_bipush (v := (-2)) hx hb dX8_keep_9 (by decide) ?_
      exact W.iret (v := (-2)) hx hb hr (fun tS ht hW => ⟨⟨(-2), σ, rfl, ⟨Fr.rf, hJ, (show (-2 : Int) ≤ ((-2) : Int32).toInt ∧ ((-2) : Int32).toInt ≤ 0 from (by have zm2 : ((-2) : Int32).toInt = (-2) := (by decide); omega)), (show ((p1.toInt < 0 ∨ 2 < p1.toInt) ∧ ((-2) : Int32).toInt = -2) ∨ (0 ≤ p1.toInt ∧ p1.toInt ≤ 2 ∧ ((-2) : Int32).toInt = 0) from (by have f0 := k3; have f1 := k15; have g0 := rg32 p1; have zm2 : ((-2) : Int32).toInt = (-2) := (by decide); have z0 : (0 : Int32).toInt = 0 := (by decide); have z3 : (3 : Int32).toInt = 3 := (by decide); omega)), (show (((-2) : Int32).toInt = 0 ∧ (σ 17).2.2.1 4 = upd ((σ 17).2.2.1 4) p1.toInt.toNat 1) ∨ (¬ ((-2) : Int32).toInt = 0 ∧ (σ 17).2.2.1 4 = (σ 17).2.2.1 4) from (Or.inr ⟨(by have zm2 : ((-2) : Int32).toInt = (-2) := (by decide); omega), rfl⟩)), trivial⟩, (show va_P D clz (WD8 cy g σ) tS.heap by rw [ht]; exact hP)⟩, hS.F ht⟩) hS.2.2 dX8_keep_11

theorem q712 : Cond.code yX8_back cX8_back 2 (some .int) ∈ lw_g := lw_gm (List.mem_of_getElem? (i := 712) (by decide +kernel)) rfl
theorem dX8_back_0 : decode cX8_back 0 = .ok (.iload_n 1, 1) := by decide +kernel
theorem dX8_back_1 : decode cX8_back 1 = .ok (.ifCond .lt 8, 3) := by decide +kernel
theorem dX8_back_4 : decode cX8_back 4 = .ok (.iload_n 1, 1) := by decide +kernel
theorem dX8_back_5 : decode cX8_back 5 = .ok (.iconst 3, 1) := by decide +kernel
theorem dX8_back_6 : decode cX8_back 6 = .ok (.if_icmp .lt 6, 3) := by decide +kernel
theorem dX8_back_9 : decode cX8_back 9 = .ok (.bipush (-2), 2) := by decide +kernel
theorem dX8_back_11 : decode cX8_back 11 = .ok (.ireturn, 1) := by decide +kernel
theorem dX8_back_12 : decode cX8_back 12 = .ok (.aload_n 0, 1) := by decide +kernel
theorem dX8_back_13 : decode cX8_back 13 = .ok (.getfield 30, 3) := by decide +kernel
theorem dX8_back_16 : decode cX8_back 16 = .ok (.iload_n 1, 1) := by decide +kernel
theorem dX8_back_17 : decode cX8_back 17 = .ok (.iaload, 1) := by decide +kernel
theorem dX8_back_18 : decode cX8_back 18 = .ok (.ifCond .ne 6, 3) := by decide +kernel
theorem dX8_back_21 : decode cX8_back 21 = .ok (.bipush (-6), 2) := by decide +kernel
theorem dX8_back_23 : decode cX8_back 23 = .ok (.ireturn, 1) := by decide +kernel
theorem dX8_back_24 : decode cX8_back 24 = .ok (.aload_n 0, 1) := by decide +kernel
theorem dX8_back_25 : decode cX8_back 25 = .ok (.getfield 19, 3) := by decide +kernel
theorem dX8_back_28 : decode cX8_back 28 = .ok (.aload_n 0, 1) := by decide +kernel
theorem dX8_back_29 : decode cX8_back 29 = .ok (.getfield 26, 3) := by decide +kernel
theorem dX8_back_32 : decode cX8_back 32 = .ok (.iload_n 1, 1) := by decide +kernel
theorem dX8_back_33 : decode cX8_back 33 = .ok (.aaload, 1) := by decide +kernel
theorem dX8_back_34 : decode cX8_back 34 = .ok (.invokevirtual 127, 3) := by decide +kernel
theorem dX8_back_37 : decode cX8_back 37 = .ok (.iconst 0, 1) := by decide +kernel
theorem dX8_back_38 : decode cX8_back 38 = .ok (.ireturn, 1) := by decide +kernel
set_option maxHeartbeats 4000000 in
set_option maxRecDepth 100000 in
theorem m_X8_back (l : Launch) (D : va_G) (cy : Nat → ClassId) (g : Nat → Nat) (σ : ST) (p1 : Int32) (sz : Nat) (hJ : J8 σ)  : Met l yX8_back (ww yX8_back cX8_back 2 (some .int)) ({ frames := 3, cells := 0, slots := 0, locals := 192 }) (va_Pc [.ref (gO g 17), .int p1] (pr8 D cy g σ sz)) (qi8 D cy g sz (fun r τ => Fr (fO [0, 1, 2, 3, 4]) σ τ ∧ J8 τ ∧ ((-6 : Int) ≤ r.toInt ∧ r.toInt ≤ 0) ∧ ((¬ (0 ≤ p1.toInt ∧ p1.toInt ≤ 2) ∧ r.toInt = -2) ∨ (0 ≤ p1.toInt ∧ p1.toInt ≤ 2 ∧ ((σ 17).2.2.1 4 p1.toInt.toNat).toInt = 0 ∧ r.toInt = -6) ∨ (0 ≤ p1.toInt ∧ p1.toInt ≤ 2 ∧ ¬ ((σ 17).2.2.1 4 p1.toInt.toNat).toInt = 0 ∧ r.toInt = 0)) ∧ True)) 0 0 (A8 cy g sz) := by
  refine Met.ofW (cc := cX8_back) (maxL := 2) (ret := (some .int)) (by decide) rfl ?_
  intro p e s m args below meth c s₁ B hml hv
  obtain ⟨rfl, hsz, hP, hK, hD0, hC⟩ := hv
  have hx := B.exec
  have hb := B.bytes
  have hr := B.returns
  have hts := hts_g (atoms_spec (ws := ww yX8_back cX8_back 2 (some .int)) B.pre)
  have hown : s.vm.findClass RX8 = some m.cls := findClass_of_methodNamed B.named
  have hlocks := B.notSynchronized
  clear B
  subst hsz
  have hD := fun τ => A8_D (sz := s.heap.size) hD0 τ
  clear hD0
  have hS : va_S (A8 cy g s.heap.size) s.heap s.heap [] := va_S.rf
  have hl := lv_entry ([.ref (gO g 17), .int p1]) (n := 2) (Nat.le_of_ble_eq_true rfl)
  rw [lg_entry_eq]
  generalize (lg_sl ([.ref (gO g 17), .int p1]) ++ List.replicate (2 - (lg_sl ([.ref (gO g 17), .int p1])).length) Slot.unset).toArray = ls at hl ⊢
  have hl : lv_has ls 2 [(0, .ref (gO g 17)), (1, .int p1)] := hl
  refine lv_iload_n hx hb dX8_back_0 rfl (lv_at hl 1 rfl) ?_
  refine lv_if_lt (tgt := 9) hx hb dX8_back_1 (by decide) (fun c1 => ?_) (fun c1 => ?_)
  ·
    have k2 := plt32 c1
    refine lv_bipush (v := (-2)) hx hb dX8_back_9 (by decide) ?_
    exact W.iret (v := (-2)) hx hb hr (fun tS ht hW => ⟨⟨(-2), σ, rfl, ⟨Fr.rf, hJ, (show (-6 : Int) ≤ ((-2) : Int32).toInt ∧ ((-2) : Int32).toInt ≤ 0 from (by have zm2 : ((-2) : Int32).toInt = (-2) := (by decide); omega)), (show (¬ (0 ≤ p1.toInt ∧ p1.toInt ≤ 2) ∧ ((-2) : Int32).toInt = -2) ∨ (0 ≤ p1.toInt ∧ p1.toInt ≤ 2 ∧ ((σ 17).2.2.1 4 p1.toInt.toNat).toInt = 0 ∧ ((-2) : Int32).toInt = -6) ∨ (0 ≤ p1.toInt ∧ p1.toInt ≤ 2 ∧ ¬ ((σ 17).2.2.1 4 p1.toInt.toNat).toInt = 0 ∧ ((-2) : Int32).toInt = 0) from (by have f0 := k2; have g0 := rg32 p1; have zm2 : ((-2) : Int32).toInt = (-2) := (by decide); have z0 : (0 : Int32).toInt = 0 := (by decide); exact (Or.inl (by omega)))), trivial⟩, (show va_P D clz (WD8 cy g σ) tS.heap by rw [ht]; exact hP)⟩, hS.F ht⟩) hS.2.2 dX8_back_11
  ·
    have k3 := nlt32 c1
    refine lv_iload_n hx hb dX8_back_4 rfl (lv_at hl 1 rfl) ?_
    refine lv_iconst (v := 3) hx hb dX8_back_5 (by decide) ?_
    refine lv_icmp_lt (tgt := 12) hx hb dX8_back_6 (by decide) (fun c4 => ?_) (fun c4 => ?_)
    ·
      have k5 := plt32 c4
      refine lv_aload_n hx hb dX8_back_12 rfl (lv_at hl 0 rfl) ?_
      refine g8_8_4 hx hb hts hown hK hP (hts _ q438) dX8_back_13 ?_
      refine lv_iload_n hx hb dX8_back_16 rfl (lv_at hl 1 rfl) ?_
      obtain ⟨x6, ex6⟩ : ∃ z, (σ 17).2.2.1 4 p1.toInt.toNat = z := ⟨_, rfl⟩
      refine l8_8_4 (x := x6) hx hb hK hP (vpo (by have f0 := k3; have f1 := k5; have g0 := rg32 p1; have z0 : (0 : Int32).toInt = 0 := (by decide); have z3 : (3 : Int32).toInt = 3 := (by decide); omega)) ex6 dX8_back_17 ?_
      refine lv_if_ne (tgt := 24) hx hb dX8_back_18 (by decide) (fun c7 => ?_) (fun c7 => ?_)
      ·
        have k8 := neq32 c7
        refine lv_aload_n hx hb dX8_back_24 rfl (lv_at hl 0 rfl) ?_
        obtain ⟨dx9, edx9⟩ : ∃ z : Nat, ((σ 17).1 1).toInt.toNat = z := ⟨_, rfl⟩
        have hdx9 : 0 ≤ dx9 ∧ dx9 < 5 := mnow (by have f0 := j8_8_1 hJ rfl; omega) edx9
        refine g8_8_1 (o := dx9) hx hb hts hown hK hP edx9 (hts _ q435) dX8_back_25 ?_
        refine lv_aload_n hx hb dX8_back_28 rfl (lv_at hl 0 rfl) ?_
        refine g8_8_3 hx hb hts hown hK hP (hts _ q437) dX8_back_29 ?_
        refine lv_iload_n hx hb dX8_back_32 rfl (lv_at hl 1 rfl) ?_
        obtain ⟨dx10, edx10⟩ : ∃ z : Nat, 2 + p1.toInt.toNat = z := ⟨_, rfl⟩
        have hdx10 : 2 ≤ dx10 ∧ dx10 < 5 := mrow (n := 3) (by have f0 := k3; have f1 := k5; have g0 := rg32 p1; have z0 : (0 : Int32).toInt = 0 := (by decide); have z3 : (3 : Int32).toInt = 3 := (by decide); omega) edx10 rfl
        have hdx10 : 0 ≤ dx10 ∧ dx10 < 5 := ⟨by omega, by omega⟩
        refine l8_8_3 hx hb hK hP (vpo (by have f0 := k3; have f1 := k5; have g0 := rg32 p1; have z0 : (0 : Int32).toInt = 0 := (by decide); have z3 : (3 : Int32).toInt = 3 := (by decide); omega)) edx10 dX8_back_33 ?_
        refine va_callv (va_runV (As := [.ref (gO g dx10)]) (rest := []) ⟨hx, hb, hml, hown, hts⟩ (m_X0_copyFrom l D cy g σ  dx9 dx10 _ hJ (show 0 ≤ dx9 ∧ dx9 < 5 from hdx9) (show 0 ≤ dx10 ∧ dx10 < 5 from hdx10)) (cwV 1 hts (gd_V q702 q703 q704 q127 q705) rfl rfl rfl (by decide +kernel) ⟨(Nat.le_of_ble_eq_true rfl), (Nat.le_of_ble_eq_true rfl)⟩) (pv8 hP hK hD hC hS (rv8_0 hK hP hdx9)) rfl rfl hl.1 rfl (lv_room (Nat.le_of_ble_eq_true rfl)) dX8_back_34 ⟨Nat.le_of_ble_eq_true rfl, Nat.le_of_ble_eq_true rfl⟩) hS (fun q _ h => up8 hS q h) (up8 hS) (fun σ12 tS H1 locs ht hvm hw13 hB hz1 hk1 hS => ?_)
        have hP : va_P D clz (WD8 cy g σ12) H1 := by rw [← ht]; exact hB
        clear hB hz1 hk1 hvm ht
        generalize H1 = H at hP hS ⊢
        have hF14 : Fr (fO [dx9]) σ σ12 := hw13.1
        have hJ15 : J8 σ12 := hw13.2.1
        refine lv_iconst (v := 0) hx hb dX8_back_37 (by decide) ?_
        exact W.iret (v := 0) hx hb hr (fun tS ht hW => ⟨⟨0, σ12, rfl, ⟨Fr.tr (Fr.rf) hF14 (fO_sub (by have q0 := hdx9; intro x hx; simp at hx ⊢; omega)), hJ15, (show (-6 : Int) ≤ (0 : Int32).toInt ∧ (0 : Int32).toInt ≤ 0 from (by have z0 : (0 : Int32).toInt = 0 := (by decide); omega)), (show (¬ (0 ≤ p1.toInt ∧ p1.toInt ≤ 2) ∧ (0 : Int32).toInt = -2) ∨ (0 ≤ p1.toInt ∧ p1.toInt ≤ 2 ∧ ((σ 17).2.2.1 4 p1.toInt.toNat).toInt = 0 ∧ (0 : Int32).toInt = -6) ∨ (0 ≤ p1.toInt ∧ p1.toInt ≤ 2 ∧ ¬ ((σ 17).2.2.1 4 p1.toInt.toNat).toInt = 0 ∧ (0 : Int32).toInt = 0) from (by rw [ex6]; have f0 := k3; have f1 := k5; have f2 := k8; have g0 := rg32 p1; have g1 := rg32 x6; have z0 : (0 : Int32).toInt = 0 := (by decide); have z3 : (3 : Int32).toInt = 3 := (by decide); exact (Or.inr (Or.inr (by omega))))), trivial⟩, (show va_P D clz (WD8 cy g σ12) tS.heap by rw [ht]; exact hP)⟩, hS.F ht⟩) hS.2.2 dX8_back_38
      ·
        have k16 := peq32 c7
        refine lv_bipush (v := (-6)) hx hb dX8_back_21 (by decide) ?_
        exact W.iret (v := (-6)) hx hb hr (fun tS ht hW => ⟨⟨(-6), σ, rfl, ⟨Fr.rf, hJ, (show (-6 : Int) ≤ ((-6) : Int32).toInt ∧ ((-6) : Int32).toInt ≤ 0 from (by have zm6 : ((-6) : Int32).toInt = (-6) := (by decide); omega)), (show (¬ (0 ≤ p1.toInt ∧ p1.toInt ≤ 2) ∧ ((-6) : Int32).toInt = -2) ∨ (0 ≤ p1.toInt ∧ p1.toInt ≤ 2 ∧ ((σ 17).2.2.1 4 p1.toInt.toNat).toInt = 0 ∧ ((-6) : Int32).toInt = -6) ∨ (0 ≤ p1.toInt ∧ p1.toInt ≤ 2 ∧ ¬ ((σ 17).2.2.1 4 p1.toInt.toNat).toInt = 0 ∧ ((-6) : Int32).toInt = 0) from (by rw [ex6]; have f0 := k3; have f1 := k5; have f2 := k16; have g0 := rg32 p1; have g1 := rg32 x6; have zm6 : ((-6) : Int32).toInt = (-6) := (by decide); have z0 : (0 : Int32).toInt = 0 := (by decide); have z3 : (3 : Int32).toInt = 3 := (by decide); exact (Or.inr (Or.inl (by omega))))), trivial⟩, (show va_P D clz (WD8 cy g σ) tS.heap by rw [ht]; exact hP)⟩, hS.F ht⟩) hS.2.2 dX8_back_23
    ·
      have k17 := nlt32 c4
      refine lv_bipush (v := (-2)) hx hb dX8_back_9 (by decide) ?_
      exact W.iret (v := (-2)) hx hb hr (fun tS ht hW => ⟨⟨(-2), σ, rfl, ⟨Fr.rf, hJ, (show (-6 : Int) ≤ ((-2) : Int32).toInt ∧ ((-2) : Int32).toInt ≤ 0 from (by have zm2 : ((-2) : Int32).toInt = (-2) := (by decide); omega)), (show (¬ (0 ≤ p1.toInt ∧ p1.toInt ≤ 2) ∧ ((-2) : Int32).toInt = -2) ∨ (0 ≤ p1.toInt ∧ p1.toInt ≤ 2 ∧ ((σ 17).2.2.1 4 p1.toInt.toNat).toInt = 0 ∧ ((-2) : Int32).toInt = -6) ∨ (0 ≤ p1.toInt ∧ p1.toInt ≤ 2 ∧ ¬ ((σ 17).2.2.1 4 p1.toInt.toNat).toInt = 0 ∧ ((-2) : Int32).toInt = 0) from (by have f0 := k3; have f1 := k17; have g0 := rg32 p1; have zm2 : ((-2) : Int32).toInt = (-2) := (by decide); have z0 : (0 : Int32).toInt = 0 := (by decide); have z3 : (3 : Int32).toInt = 3 := (by decide); exact (Or.inl (by omega)))), trivial⟩, (show va_P D clz (WD8 cy g σ) tS.heap by rw [ht]; exact hP)⟩, hS.F ht⟩) hS.2.2 dX8_back_11

theorem q720 : Cond.code yX0_brassField cX0_brassField 3 (some .int) ∈ lw_g := lw_gm (List.mem_of_getElem? (i := 720) (by decide +kernel)) rfl
theorem dX0_brassField_0 : decode cX0_brassField 0 = .ok (.aload_n 0, 1) := by decide +kernel
theorem dX0_brassField_1 : decode cX0_brassField 1 = .ok (.iload_n 1, 1) := by decide +kernel
theorem dX0_brassField_2 : decode cX0_brassField 2 = .ok (.invokevirtual 64, 3) := by decide +kernel
theorem dX0_brassField_5 : decode cX0_brassField 5 = .ok (.ifCond .eq 13, 3) := by decide +kernel
theorem dX0_brassField_8 : decode cX0_brassField 8 = .ok (.iload_n 2, 1) := by decide +kernel
theorem dX0_brassField_9 : decode cX0_brassField 9 = .ok (.ifCond .lt 9, 3) := by decide +kernel
theorem dX0_brassField_12 : decode cX0_brassField 12 = .ok (.iload_n 2, 1) := by decide +kernel
theorem dX0_brassField_13 : decode cX0_brassField 13 = .ok (.bipush 7, 2) := by decide +kernel
theorem dX0_brassField_15 : decode cX0_brassField 15 = .ok (.if_icmp .lt 6, 3) := by decide +kernel
theorem dX0_brassField_18 : decode cX0_brassField 18 = .ok (.bipush (-2), 2) := by decide +kernel
theorem dX0_brassField_20 : decode cX0_brassField 20 = .ok (.ireturn, 1) := by decide +kernel
theorem dX0_brassField_21 : decode cX0_brassField 21 = .ok (.aload_n 0, 1) := by decide +kernel
theorem dX0_brassField_22 : decode cX0_brassField 22 = .ok (.getfield 9, 3) := by decide +kernel
theorem dX0_brassField_25 : decode cX0_brassField 25 = .ok (.iload_n 1, 1) := by decide +kernel
theorem dX0_brassField_26 : decode cX0_brassField 26 = .ok (.bipush 7, 2) := by decide +kernel
theorem dX0_brassField_28 : decode cX0_brassField 28 = .ok (.imul, 1) := by decide +kernel
theorem dX0_brassField_29 : decode cX0_brassField 29 = .ok (.iload_n 2, 1) := by decide +kernel
theorem dX0_brassField_30 : decode cX0_brassField 30 = .ok (.iadd, 1) := by decide +kernel
theorem dX0_brassField_31 : decode cX0_brassField 31 = .ok (.iaload, 1) := by decide +kernel
theorem dX0_brassField_32 : decode cX0_brassField 32 = .ok (.ireturn, 1) := by decide +kernel
set_option maxHeartbeats 4000000 in
set_option maxRecDepth 100000 in
theorem m_X0_brassField (l : Launch) (D : va_G) (cy : Nat → ClassId) (g : Nat → Nat) (σ : ST) (d0 : Nat) (p1 : Int32) (p2 : Int32) (sz : Nat) (hJ : J8 σ) (hd0 : 0 ≤ d0 ∧ d0 < 5) : Met l yX0_brassField (ww yX0_brassField cX0_brassField 3 (some .int)) ({ frames := 2, cells := 0, slots := 0, locals := 128 }) (va_Pc [.ref (gO g d0), .int p1, .int p2] (pr8 D cy g σ sz)) (qi8 D cy g sz (fun r τ => τ = σ ∧ ((-2147483648 : Int) ≤ r.toInt ∧ r.toInt ≤ 1000000) ∧ True)) 0 0 (A8 cy g sz) := by
  refine Met.ofW (cc := cX0_brassField) (maxL := 3) (ret := (some .int)) (by decide) rfl ?_
  intro p e s m args below meth c s₁ B hml hv
  obtain ⟨rfl, hsz, hP, hK, hD0, hC⟩ := hv
  have hx := B.exec
  have hb := B.bytes
  have hr := B.returns
  have hts := hts_g (atoms_spec (ws := ww yX0_brassField cX0_brassField 3 (some .int)) B.pre)
  have hown : s.vm.findClass RX0 = some m.cls := findClass_of_methodNamed B.named
  have hlocks := B.notSynchronized
  clear B
  subst hsz
  have hD := fun τ => A8_D (sz := s.heap.size) hD0 τ
  clear hD0
  have hS : va_S (A8 cy g s.heap.size) s.heap s.heap [] := va_S.rf
  have hl := lv_entry ([.ref (gO g d0), .int p1, .int p2]) (n := 3) (Nat.le_of_ble_eq_true rfl)
  rw [lg_entry_eq]
  generalize (lg_sl ([.ref (gO g d0), .int p1, .int p2]) ++ List.replicate (3 - (lg_sl ([.ref (gO g d0), .int p1, .int p2])).length) Slot.unset).toArray = ls at hl ⊢
  have hl : lv_has ls 3 [(0, .ref (gO g d0)), (1, .int p1), (2, .int p2)] := hl
  refine lv_aload_n hx hb dX0_brassField_0 rfl (lv_at hl 0 rfl) ?_
  refine lv_iload_n hx hb dX0_brassField_1 rfl (lv_at hl 1 rfl) ?_
  refine va_calli (va_runV (As := [.int p1]) (rest := []) ⟨hx, hb, hml, hown, hts⟩ (m_X0_hasBrass l D cy g σ  d0 p1 _ hJ (show 0 ≤ d0 ∧ d0 < 5 from hd0)) (cwV 1 hts (gd_V q598 q599 q600 q127 q601) rfl rfl rfl (by decide +kernel) ⟨(Nat.le_of_ble_eq_true rfl), (Nat.le_of_ble_eq_true rfl)⟩) (pv8 hP hK hD hC hS (rv8_0 hK hP hd0)) rfl rfl hl.1 rfl (lv_room (Nat.le_of_ble_eq_true rfl)) dX0_brassField_2 ⟨Nat.le_of_ble_eq_true rfl, Nat.le_of_ble_eq_true rfl⟩) hS (fun q _ h => up8 hS q h) (up8 hS) (fun r1 σ2 tS H1 locs ht hvm hw3 hB hz1 hk1 hS => ?_)
  have hP : va_P D clz (WD8 cy g σ2) H1 := by rw [← ht]; exact hB
  clear hB hz1 hk1 hvm ht
  generalize H1 = H at hP hS ⊢
  have hw3E : σ = σ2 := (hw3.1).symm
  subst hw3E
  have b4 : (0 : Int) ≤ r1.toInt ∧ r1.toInt ≤ 1 := hw3.2.1
  have b5 : (r1.toInt = 0) ∨ ((0 : Int) ≤ p1.toInt ∧ p1.toInt ≤ 3) := hw3.2.2.1
  refine lv_if_eq (tgt := 18) hx hb dX0_brassField_5 (by decide) (fun c6 => ?_) (fun c6 => ?_)
  ·
    have k7 := peq32 c6
    refine lv_bipush (v := (-2)) hx hb dX0_brassField_18 (by decide) ?_
    exact W.iret (v := (-2)) hx hb hr (fun tS ht hW => ⟨⟨(-2), σ, rfl, ⟨rfl, (show (-2147483648 : Int) ≤ ((-2) : Int32).toInt ∧ ((-2) : Int32).toInt ≤ 1000000 from (by have zm2 : ((-2) : Int32).toInt = (-2) := (by decide); omega)), trivial⟩, (show va_P D clz (WD8 cy g σ) tS.heap by rw [ht]; exact hP)⟩, hS.F ht⟩) hS.2.2 dX0_brassField_20
  ·
    have k8 := neq32 c6
    refine lv_iload_n hx hb dX0_brassField_8 rfl (lv_at hl 2 rfl) ?_
    refine lv_if_lt (tgt := 18) hx hb dX0_brassField_9 (by decide) (fun c9 => ?_) (fun c9 => ?_)
    ·
      have k10 := plt32 c9
      refine lv_bipush (v := (-2)) hx hb dX0_brassField_18 (by decide) ?_
      exact W.iret (v := (-2)) hx hb hr (fun tS ht hW => ⟨⟨(-2), σ, rfl, ⟨rfl, (show (-2147483648 : Int) ≤ ((-2) : Int32).toInt ∧ ((-2) : Int32).toInt ≤ 1000000 from (by have zm2 : ((-2) : Int32).toInt = (-2) := (by decide); omega)), trivial⟩, (show va_P D clz (WD8 cy g σ) tS.heap by rw [ht]; exact hP)⟩, hS.F ht⟩) hS.2.2 dX0_brassField_20
    ·
      have k11 := nlt32 c9
      refine lv_iload_n hx hb dX0_brassField_12 rfl (lv_at hl 2 rfl) ?_
      refine lv_bipush (v := 7) hx hb dX0_brassField_13 (by decide) ?_
      refine lv_icmp_lt (tgt := 21) hx hb dX0_brassField_15 (by decide) (fun c12 => ?_) (fun c12 => ?_)
      ·
        have k13 := plt32 c12
        refine lv_aload_n hx hb dX0_brassField_21 rfl (lv_at hl 0 rfl) ?_
        refine g8_0_6 hx hb hts hown hK hP hd0 (hts _ q212) dX0_brassField_22 ?_
        refine lv_iload_n hx hb dX0_brassField_25 rfl (lv_at hl 1 rfl) ?_
        refine lv_bipush (v := 7) hx hb dX0_brassField_26 (by decide) ?_
        refine lv_imul hx hb dX0_brassField_28 ?_
        refine lv_topi (fun x14 ex14 => ?_)
        have t15 := mulC (n := 7) ex14 (by decide) (by have f0 := b5; have f1 := b4; have f2 := k8; have g0 := rg32 p1; have z0 : (0 : Int32).toInt = 0 := (by decide); omega)
        refine lv_iload_n hx hb dX0_brassField_29 rfl (lv_at hl 2 rfl) ?_
        refine lv_iadd hx hb dX0_brassField_30 ?_
        refine lv_topi (fun x16 ex16 => ?_)
        have t17 := addO ex16 (by have f0 := k11; have f1 := k13; have f2 := t15; have f3 := b5; have f4 := b4; have f5 := k8; have g0 := rg32 p2; have g1 := rg32 x14; have z0 : (0 : Int32).toInt = 0 := (by decide); have z7 : (7 : Int32).toInt = 7 := (by decide); omega)
        obtain ⟨x18, ex18⟩ : ∃ z, (σ d0).2.2.1 6 x16.toInt.toNat = z := ⟨_, rfl⟩
        refine l8_0_6 (x := x18) hx hb hK hP hd0 (vpo (by have f0 := t17; have f1 := k11; have f2 := k13; have f3 := t15; have f4 := b5; have f5 := b4; have f6 := k8; have g0 := rg32 x16; have z0 : (0 : Int32).toInt = 0 := (by decide); have z7 : (7 : Int32).toInt = 7 := (by decide); omega)) ex18 dX0_brassField_31 ?_
        have t19 := a8_0_6 hJ hd0 ex18
        exact W.iret (v := x18) hx hb hr (fun tS ht hW => ⟨⟨x18, σ, rfl, ⟨rfl, (show (-2147483648 : Int) ≤ x18.toInt ∧ x18.toInt ≤ 1000000 from (by have f0 := t19; have g0 := rg32 x18; omega)), trivial⟩, (show va_P D clz (WD8 cy g σ) tS.heap by rw [ht]; exact hP)⟩, hS.F ht⟩) hS.2.2 dX0_brassField_32
      ·
        have k20 := nlt32 c12
        refine lv_bipush (v := (-2)) hx hb dX0_brassField_18 (by decide) ?_
        exact W.iret (v := (-2)) hx hb hr (fun tS ht hW => ⟨⟨(-2), σ, rfl, ⟨rfl, (show (-2147483648 : Int) ≤ ((-2) : Int32).toInt ∧ ((-2) : Int32).toInt ≤ 1000000 from (by have zm2 : ((-2) : Int32).toInt = (-2) := (by decide); omega)), trivial⟩, (show va_P D clz (WD8 cy g σ) tS.heap by rw [ht]; exact hP)⟩, hS.F ht⟩) hS.2.2 dX0_brassField_20

theorem q716 : Cond.code yX8_brass cX8_brass 3 (some .int) ∈ lw_g := lw_gm (List.mem_of_getElem? (i := 716) (by decide +kernel)) rfl
theorem q717 : Cond.methodLink RX8 131 yX0_brassField ∈ lw_g := lw_gm (List.mem_of_getElem? (i := 717) (by decide +kernel)) rfl
theorem q718 : Cond.instanceMethod yX0_brassField ∈ lw_g := lw_gm (List.mem_of_getElem? (i := 718) (by decide +kernel)) rfl
theorem q719 : Cond.selects RX0 yX0_brassField yX0_brassField ∈ lw_g := lw_gm (List.mem_of_getElem? (i := 719) (by decide +kernel)) rfl
theorem dX8_brass_0 : decode cX8_brass 0 = .ok (.aload_n 0, 1) := by decide +kernel
theorem dX8_brass_1 : decode cX8_brass 1 = .ok (.getfield 19, 3) := by decide +kernel
theorem dX8_brass_4 : decode cX8_brass 4 = .ok (.iload_n 1, 1) := by decide +kernel
theorem dX8_brass_5 : decode cX8_brass 5 = .ok (.iload_n 2, 1) := by decide +kernel
theorem dX8_brass_6 : decode cX8_brass 6 = .ok (.invokevirtual 131, 3) := by decide +kernel
theorem dX8_brass_9 : decode cX8_brass 9 = .ok (.ireturn, 1) := by decide +kernel
set_option maxHeartbeats 4000000 in
set_option maxRecDepth 100000 in
theorem m_X8_brass (l : Launch) (D : va_G) (cy : Nat → ClassId) (g : Nat → Nat) (σ : ST) (p1 : Int32) (p2 : Int32) (sz : Nat) (hJ : J8 σ)  : Met l yX8_brass (ww yX8_brass cX8_brass 3 (some .int)) ({ frames := 3, cells := 0, slots := 0, locals := 192 }) (va_Pc [.ref (gO g 17), .int p1, .int p2] (pr8 D cy g σ sz)) (qi8 D cy g sz (fun r τ => τ = σ ∧ ((-2147483648 : Int) ≤ r.toInt ∧ r.toInt ≤ 1000000) ∧ True)) 0 0 (A8 cy g sz) := by
  refine Met.ofW (cc := cX8_brass) (maxL := 3) (ret := (some .int)) (by decide) rfl ?_
  intro p e s m args below meth c s₁ B hml hv
  obtain ⟨rfl, hsz, hP, hK, hD0, hC⟩ := hv
  have hx := B.exec
  have hb := B.bytes
  have hr := B.returns
  have hts := hts_g (atoms_spec (ws := ww yX8_brass cX8_brass 3 (some .int)) B.pre)
  have hown : s.vm.findClass RX8 = some m.cls := findClass_of_methodNamed B.named
  have hlocks := B.notSynchronized
  clear B
  subst hsz
  have hD := fun τ => A8_D (sz := s.heap.size) hD0 τ
  clear hD0
  have hS : va_S (A8 cy g s.heap.size) s.heap s.heap [] := va_S.rf
  have hl := lv_entry ([.ref (gO g 17), .int p1, .int p2]) (n := 3) (Nat.le_of_ble_eq_true rfl)
  rw [lg_entry_eq]
  generalize (lg_sl ([.ref (gO g 17), .int p1, .int p2]) ++ List.replicate (3 - (lg_sl ([.ref (gO g 17), .int p1, .int p2])).length) Slot.unset).toArray = ls at hl ⊢
  have hl : lv_has ls 3 [(0, .ref (gO g 17)), (1, .int p1), (2, .int p2)] := hl
  refine lv_aload_n hx hb dX8_brass_0 rfl (lv_at hl 0 rfl) ?_
  obtain ⟨dx1, edx1⟩ : ∃ z : Nat, ((σ 17).1 1).toInt.toNat = z := ⟨_, rfl⟩
  have hdx1 : 0 ≤ dx1 ∧ dx1 < 5 := mnow (by have f0 := j8_8_1 hJ rfl; omega) edx1
  refine g8_8_1 (o := dx1) hx hb hts hown hK hP edx1 (hts _ q435) dX8_brass_1 ?_
  refine lv_iload_n hx hb dX8_brass_4 rfl (lv_at hl 1 rfl) ?_
  refine lv_iload_n hx hb dX8_brass_5 rfl (lv_at hl 2 rfl) ?_
  refine va_calli (va_runV (As := [.int p1, .int p2]) (rest := []) ⟨hx, hb, hml, hown, hts⟩ (m_X0_brassField l D cy g σ  dx1 p1 p2 _ hJ (show 0 ≤ dx1 ∧ dx1 < 5 from hdx1)) (cwV 2 hts (gd_V q717 q718 q719 q127 q720) rfl rfl rfl (by decide +kernel) ⟨(Nat.le_of_ble_eq_true rfl), (Nat.le_of_ble_eq_true rfl)⟩) (pv8 hP hK hD hC hS (rv8_0 hK hP hdx1)) rfl rfl hl.1 rfl (lv_room (Nat.le_of_ble_eq_true rfl)) dX8_brass_6 ⟨Nat.le_of_ble_eq_true rfl, Nat.le_of_ble_eq_true rfl⟩) hS (fun q _ h => up8 hS q h) (up8 hS) (fun r2 σ3 tS H1 locs ht hvm hw4 hB hz1 hk1 hS => ?_)
  have hP : va_P D clz (WD8 cy g σ3) H1 := by rw [← ht]; exact hB
  clear hB hz1 hk1 hvm ht
  generalize H1 = H at hP hS ⊢
  have hw4E : σ = σ3 := (hw4.1).symm
  subst hw4E
  have b5 : (-2147483648 : Int) ≤ r2.toInt ∧ r2.toInt ≤ 1000000 := hw4.2.1
  exact W.iret (v := r2) hx hb hr (fun tS ht hW => ⟨⟨r2, σ, rfl, ⟨rfl, (show (-2147483648 : Int) ≤ r2.toInt ∧ r2.toInt ≤ 1000000 from (by have f0 := b5; have g0 := rg32 r2; omega)), trivial⟩, (show va_P D clz (WD8 cy g σ) tS.heap by rw [ht]; exact hP)⟩, hS.F ht⟩) hS.2.2 dX8_brass_9

theorem q728 : Cond.code yX0_playerField cX0_playerField 3 (some .int) ∈ lw_g := lw_gm (List.mem_of_getElem? (i := 728) (by decide +kernel)) rfl
theorem dX0_playerField_0 : decode cX0_playerField 0 = .ok (.aload_n 0, 1) := by decide +kernel
theorem dX0_playerField_1 : decode cX0_playerField 1 = .ok (.iload_n 1, 1) := by decide +kernel
theorem dX0_playerField_2 : decode cX0_playerField 2 = .ok (.invokevirtual 67, 3) := by decide +kernel
theorem dX0_playerField_5 : decode cX0_playerField 5 = .ok (.ifCond .eq 12, 3) := by decide +kernel
theorem dX0_playerField_8 : decode cX0_playerField 8 = .ok (.iload_n 2, 1) := by decide +kernel
theorem dX0_playerField_9 : decode cX0_playerField 9 = .ok (.ifCond .lt 8, 3) := by decide +kernel
theorem dX0_playerField_12 : decode cX0_playerField 12 = .ok (.iload_n 2, 1) := by decide +kernel
theorem dX0_playerField_13 : decode cX0_playerField 13 = .ok (.iconst 4, 1) := by decide +kernel
theorem dX0_playerField_14 : decode cX0_playerField 14 = .ok (.if_icmp .lt 6, 3) := by decide +kernel
theorem dX0_playerField_17 : decode cX0_playerField 17 = .ok (.bipush (-2), 2) := by decide +kernel
theorem dX0_playerField_19 : decode cX0_playerField 19 = .ok (.ireturn, 1) := by decide +kernel
theorem dX0_playerField_20 : decode cX0_playerField 20 = .ok (.aload_n 0, 1) := by decide +kernel
theorem dX0_playerField_21 : decode cX0_playerField 21 = .ok (.getfield 15, 3) := by decide +kernel
theorem dX0_playerField_24 : decode cX0_playerField 24 = .ok (.iload_n 1, 1) := by decide +kernel
theorem dX0_playerField_25 : decode cX0_playerField 25 = .ok (.iconst 4, 1) := by decide +kernel
theorem dX0_playerField_26 : decode cX0_playerField 26 = .ok (.imul, 1) := by decide +kernel
theorem dX0_playerField_27 : decode cX0_playerField 27 = .ok (.iload_n 2, 1) := by decide +kernel
theorem dX0_playerField_28 : decode cX0_playerField 28 = .ok (.iadd, 1) := by decide +kernel
theorem dX0_playerField_29 : decode cX0_playerField 29 = .ok (.iaload, 1) := by decide +kernel
theorem dX0_playerField_30 : decode cX0_playerField 30 = .ok (.ireturn, 1) := by decide +kernel
set_option maxHeartbeats 4000000 in
set_option maxRecDepth 100000 in
theorem m_X0_playerField (l : Launch) (D : va_G) (cy : Nat → ClassId) (g : Nat → Nat) (σ : ST) (d0 : Nat) (p1 : Int32) (p2 : Int32) (sz : Nat) (hJ : J8 σ) (hd0 : 0 ≤ d0 ∧ d0 < 5) : Met l yX0_playerField (ww yX0_playerField cX0_playerField 3 (some .int)) ({ frames := 2, cells := 0, slots := 0, locals := 128 }) (va_Pc [.ref (gO g d0), .int p1, .int p2] (pr8 D cy g σ sz)) (qi8 D cy g sz (fun r τ => τ = σ ∧ True)) 0 0 (A8 cy g sz) := by
  refine Met.ofW (cc := cX0_playerField) (maxL := 3) (ret := (some .int)) (by decide) rfl ?_
  intro p e s m args below meth c s₁ B hml hv
  obtain ⟨rfl, hsz, hP, hK, hD0, hC⟩ := hv
  have hx := B.exec
  have hb := B.bytes
  have hr := B.returns
  have hts := hts_g (atoms_spec (ws := ww yX0_playerField cX0_playerField 3 (some .int)) B.pre)
  have hown : s.vm.findClass RX0 = some m.cls := findClass_of_methodNamed B.named
  have hlocks := B.notSynchronized
  clear B
  subst hsz
  have hD := fun τ => A8_D (sz := s.heap.size) hD0 τ
  clear hD0
  have hS : va_S (A8 cy g s.heap.size) s.heap s.heap [] := va_S.rf
  have hl := lv_entry ([.ref (gO g d0), .int p1, .int p2]) (n := 3) (Nat.le_of_ble_eq_true rfl)
  rw [lg_entry_eq]
  generalize (lg_sl ([.ref (gO g d0), .int p1, .int p2]) ++ List.replicate (3 - (lg_sl ([.ref (gO g d0), .int p1, .int p2])).length) Slot.unset).toArray = ls at hl ⊢
  have hl : lv_has ls 3 [(0, .ref (gO g d0)), (1, .int p1), (2, .int p2)] := hl
  refine lv_aload_n hx hb dX0_playerField_0 rfl (lv_at hl 0 rfl) ?_
  refine lv_iload_n hx hb dX0_playerField_1 rfl (lv_at hl 1 rfl) ?_
  refine va_calli (va_runV (As := [.int p1]) (rest := []) ⟨hx, hb, hml, hown, hts⟩ (m_X0_hasPlayer l D cy g σ  d0 p1 _ hJ (show 0 ≤ d0 ∧ d0 < 5 from hd0)) (cwV 1 hts (gd_V q627 q628 q629 q127 q630) rfl rfl rfl (by decide +kernel) ⟨(Nat.le_of_ble_eq_true rfl), (Nat.le_of_ble_eq_true rfl)⟩) (pv8 hP hK hD hC hS (rv8_0 hK hP hd0)) rfl rfl hl.1 rfl (lv_room (Nat.le_of_ble_eq_true rfl)) dX0_playerField_2 ⟨Nat.le_of_ble_eq_true rfl, Nat.le_of_ble_eq_true rfl⟩) hS (fun q _ h => up8 hS q h) (up8 hS) (fun r1 σ2 tS H1 locs ht hvm hw3 hB hz1 hk1 hS => ?_)
  have hP : va_P D clz (WD8 cy g σ2) H1 := by rw [← ht]; exact hB
  clear hB hz1 hk1 hvm ht
  generalize H1 = H at hP hS ⊢
  have hw3E : σ = σ2 := (hw3.1).symm
  subst hw3E
  have b4 : (0 : Int) ≤ r1.toInt ∧ r1.toInt ≤ 1 := hw3.2.1
  have b5 : (r1.toInt = 0) ∨ ((0 : Int) ≤ p1.toInt ∧ p1.toInt ≤ 8) := hw3.2.2.1
  refine lv_if_eq (tgt := 17) hx hb dX0_playerField_5 (by decide) (fun c6 => ?_) (fun c6 => ?_)
  ·
    have k7 := peq32 c6
    refine lv_bipush (v := (-2)) hx hb dX0_playerField_17 (by decide) ?_
    exact W.iret (v := (-2)) hx hb hr (fun tS ht hW => ⟨⟨(-2), σ, rfl, ⟨rfl, trivial⟩, (show va_P D clz (WD8 cy g σ) tS.heap by rw [ht]; exact hP)⟩, hS.F ht⟩) hS.2.2 dX0_playerField_19
  ·
    have k8 := neq32 c6
    refine lv_iload_n hx hb dX0_playerField_8 rfl (lv_at hl 2 rfl) ?_
    refine lv_if_lt (tgt := 17) hx hb dX0_playerField_9 (by decide) (fun c9 => ?_) (fun c9 => ?_)
    ·
      have k10 := plt32 c9
      refine lv_bipush (v := (-2)) hx hb dX0_playerField_17 (by decide) ?_
      exact W.iret (v := (-2)) hx hb hr (fun tS ht hW => ⟨⟨(-2), σ, rfl, ⟨rfl, trivial⟩, (show va_P D clz (WD8 cy g σ) tS.heap by rw [ht]; exact hP)⟩, hS.F ht⟩) hS.2.2 dX0_playerField_19
    ·
      have k11 := nlt32 c9
      refine lv_iload_n hx hb dX0_playerField_12 rfl (lv_at hl 2 rfl) ?_
      refine lv_iconst (v := 4) hx hb dX0_playerField_13 (by decide) ?_
      refine lv_icmp_lt (tgt := 20) hx hb dX0_playerField_14 (by decide) (fun c12 => ?_) (fun c12 => ?_)
      ·
        have k13 := plt32 c12
        refine lv_aload_n hx hb dX0_playerField_20 rfl (lv_at hl 0 rfl) ?_
        refine g8_0_7 hx hb hts hown hK hP hd0 (hts _ q213) dX0_playerField_21 ?_
        refine lv_iload_n hx hb dX0_playerField_24 rfl (lv_at hl 1 rfl) ?_
        refine lv_iconst (v := 4) hx hb dX0_playerField_25 (by decide) ?_
        refine lv_imul hx hb dX0_playerField_26 ?_
        refine lv_topi (fun x14 ex14 => ?_)
        have t15 := mulC (n := 4) ex14 (by decide) (by have f0 := b5; have f1 := b4; have f2 := k8; have g0 := rg32 p1; have z0 : (0 : Int32).toInt = 0 := (by decide); omega)
        refine lv_iload_n hx hb dX0_playerField_27 rfl (lv_at hl 2 rfl) ?_
        refine lv_iadd hx hb dX0_playerField_28 ?_
        refine lv_topi (fun x16 ex16 => ?_)
        have t17 := addO ex16 (by have f0 := k11; have f1 := k13; have f2 := t15; have f3 := b5; have f4 := b4; have f5 := k8; have g0 := rg32 p2; have g1 := rg32 x14; have z0 : (0 : Int32).toInt = 0 := (by decide); have z4 : (4 : Int32).toInt = 4 := (by decide); omega)
        obtain ⟨x18, ex18⟩ : ∃ z, (σ d0).2.2.1 7 x16.toInt.toNat = z := ⟨_, rfl⟩
        refine l8_0_7 (x := x18) hx hb hK hP hd0 (vpo (by have f0 := t17; have f1 := k11; have f2 := k13; have f3 := t15; have f4 := b5; have f5 := b4; have f6 := k8; have g0 := rg32 x16; have z0 : (0 : Int32).toInt = 0 := (by decide); have z4 : (4 : Int32).toInt = 4 := (by decide); omega)) ex18 dX0_playerField_29 ?_
        exact W.iret (v := x18) hx hb hr (fun tS ht hW => ⟨⟨x18, σ, rfl, ⟨rfl, trivial⟩, (show va_P D clz (WD8 cy g σ) tS.heap by rw [ht]; exact hP)⟩, hS.F ht⟩) hS.2.2 dX0_playerField_30
      ·
        have k19 := nlt32 c12
        refine lv_bipush (v := (-2)) hx hb dX0_playerField_17 (by decide) ?_
        exact W.iret (v := (-2)) hx hb hr (fun tS ht hW => ⟨⟨(-2), σ, rfl, ⟨rfl, trivial⟩, (show va_P D clz (WD8 cy g σ) tS.heap by rw [ht]; exact hP)⟩, hS.F ht⟩) hS.2.2 dX0_playerField_19

theorem q724 : Cond.code yX8_player cX8_player 3 (some .int) ∈ lw_g := lw_gm (List.mem_of_getElem? (i := 724) (by decide +kernel)) rfl
theorem q725 : Cond.methodLink RX8 135 yX0_playerField ∈ lw_g := lw_gm (List.mem_of_getElem? (i := 725) (by decide +kernel)) rfl
theorem q726 : Cond.instanceMethod yX0_playerField ∈ lw_g := lw_gm (List.mem_of_getElem? (i := 726) (by decide +kernel)) rfl
theorem q727 : Cond.selects RX0 yX0_playerField yX0_playerField ∈ lw_g := lw_gm (List.mem_of_getElem? (i := 727) (by decide +kernel)) rfl
theorem dX8_player_0 : decode cX8_player 0 = .ok (.aload_n 0, 1) := by decide +kernel
theorem dX8_player_1 : decode cX8_player 1 = .ok (.getfield 19, 3) := by decide +kernel
theorem dX8_player_4 : decode cX8_player 4 = .ok (.iload_n 1, 1) := by decide +kernel
theorem dX8_player_5 : decode cX8_player 5 = .ok (.iload_n 2, 1) := by decide +kernel
theorem dX8_player_6 : decode cX8_player 6 = .ok (.invokevirtual 135, 3) := by decide +kernel
theorem dX8_player_9 : decode cX8_player 9 = .ok (.ireturn, 1) := by decide +kernel
set_option maxHeartbeats 4000000 in
set_option maxRecDepth 100000 in
theorem m_X8_player (l : Launch) (D : va_G) (cy : Nat → ClassId) (g : Nat → Nat) (σ : ST) (p1 : Int32) (p2 : Int32) (sz : Nat) (hJ : J8 σ)  : Met l yX8_player (ww yX8_player cX8_player 3 (some .int)) ({ frames := 3, cells := 0, slots := 0, locals := 192 }) (va_Pc [.ref (gO g 17), .int p1, .int p2] (pr8 D cy g σ sz)) (qi8 D cy g sz (fun r τ => τ = σ ∧ True)) 0 0 (A8 cy g sz) := by
  refine Met.ofW (cc := cX8_player) (maxL := 3) (ret := (some .int)) (by decide) rfl ?_
  intro p e s m args below meth c s₁ B hml hv
  obtain ⟨rfl, hsz, hP, hK, hD0, hC⟩ := hv
  have hx := B.exec
  have hb := B.bytes
  have hr := B.returns
  have hts := hts_g (atoms_spec (ws := ww yX8_player cX8_player 3 (some .int)) B.pre)
  have hown : s.vm.findClass RX8 = some m.cls := findClass_of_methodNamed B.named
  have hlocks := B.notSynchronized
  clear B
  subst hsz
  have hD := fun τ => A8_D (sz := s.heap.size) hD0 τ
  clear hD0
  have hS : va_S (A8 cy g s.heap.size) s.heap s.heap [] := va_S.rf
  have hl := lv_entry ([.ref (gO g 17), .int p1, .int p2]) (n := 3) (Nat.le_of_ble_eq_true rfl)
  rw [lg_entry_eq]
  generalize (lg_sl ([.ref (gO g 17), .int p1, .int p2]) ++ List.replicate (3 - (lg_sl ([.ref (gO g 17), .int p1, .int p2])).length) Slot.unset).toArray = ls at hl ⊢
  have hl : lv_has ls 3 [(0, .ref (gO g 17)), (1, .int p1), (2, .int p2)] := hl
  refine lv_aload_n hx hb dX8_player_0 rfl (lv_at hl 0 rfl) ?_
  obtain ⟨dx1, edx1⟩ : ∃ z : Nat, ((σ 17).1 1).toInt.toNat = z := ⟨_, rfl⟩
  have hdx1 : 0 ≤ dx1 ∧ dx1 < 5 := mnow (by have f0 := j8_8_1 hJ rfl; omega) edx1
  refine g8_8_1 (o := dx1) hx hb hts hown hK hP edx1 (hts _ q435) dX8_player_1 ?_
  refine lv_iload_n hx hb dX8_player_4 rfl (lv_at hl 1 rfl) ?_
  refine lv_iload_n hx hb dX8_player_5 rfl (lv_at hl 2 rfl) ?_
  refine va_calli (va_runV (As := [.int p1, .int p2]) (rest := []) ⟨hx, hb, hml, hown, hts⟩ (m_X0_playerField l D cy g σ  dx1 p1 p2 _ hJ (show 0 ≤ dx1 ∧ dx1 < 5 from hdx1)) (cwV 2 hts (gd_V q725 q726 q727 q127 q728) rfl rfl rfl (by decide +kernel) ⟨(Nat.le_of_ble_eq_true rfl), (Nat.le_of_ble_eq_true rfl)⟩) (pv8 hP hK hD hC hS (rv8_0 hK hP hdx1)) rfl rfl hl.1 rfl (lv_room (Nat.le_of_ble_eq_true rfl)) dX8_player_6 ⟨Nat.le_of_ble_eq_true rfl, Nat.le_of_ble_eq_true rfl⟩) hS (fun q _ h => up8 hS q h) (up8 hS) (fun r2 σ3 tS H1 locs ht hvm hw4 hB hz1 hk1 hS => ?_)
  have hP : va_P D clz (WD8 cy g σ3) H1 := by rw [← ht]; exact hB
  clear hB hz1 hk1 hvm ht
  generalize H1 = H at hP hS ⊢
  have hw4E : σ = σ3 := (hw4.1).symm
  subst hw4E
  exact W.iret (v := r2) hx hb hr (fun tS ht hW => ⟨⟨r2, σ, rfl, ⟨rfl, trivial⟩, (show va_P D clz (WD8 cy g σ) tS.heap by rw [ht]; exact hP)⟩, hS.F ht⟩) hS.2.2 dX8_player_9

theorem q732 : Cond.code yX8_tone cX8_tone 4 (some .int) ∈ lw_g := lw_gm (List.mem_of_getElem? (i := 732) (by decide +kernel)) rfl
theorem q733 : Cond.methodLink RX8 138 yX0_toneField ∈ lw_g := lw_gm (List.mem_of_getElem? (i := 733) (by decide +kernel)) rfl
theorem dX8_tone_0 : decode cX8_tone 0 = .ok (.aload_n 0, 1) := by decide +kernel
theorem dX8_tone_1 : decode cX8_tone 1 = .ok (.getfield 19, 3) := by decide +kernel
theorem dX8_tone_4 : decode cX8_tone 4 = .ok (.iload_n 1, 1) := by decide +kernel
theorem dX8_tone_5 : decode cX8_tone 5 = .ok (.iload_n 2, 1) := by decide +kernel
theorem dX8_tone_6 : decode cX8_tone 6 = .ok (.iload_n 3, 1) := by decide +kernel
theorem dX8_tone_7 : decode cX8_tone 7 = .ok (.invokevirtual 138, 3) := by decide +kernel
theorem dX8_tone_10 : decode cX8_tone 10 = .ok (.ireturn, 1) := by decide +kernel
set_option maxHeartbeats 4000000 in
set_option maxRecDepth 100000 in
theorem m_X8_tone (l : Launch) (D : va_G) (cy : Nat → ClassId) (g : Nat → Nat) (σ : ST) (p1 : Int32) (p2 : Int32) (p3 : Int32) (sz : Nat) (hJ : J8 σ)  : Met l yX8_tone (ww yX8_tone cX8_tone 4 (some .int)) ({ frames := 3, cells := 0, slots := 0, locals := 192 }) (va_Pc [.ref (gO g 17), .int p1, .int p2, .int p3] (pr8 D cy g σ sz)) (qi8 D cy g sz (fun r τ => τ = σ ∧ True)) 0 0 (A8 cy g sz) := by
  refine Met.ofW (cc := cX8_tone) (maxL := 4) (ret := (some .int)) (by decide) rfl ?_
  intro p e s m args below meth c s₁ B hml hv
  obtain ⟨rfl, hsz, hP, hK, hD0, hC⟩ := hv
  have hx := B.exec
  have hb := B.bytes
  have hr := B.returns
  have hts := hts_g (atoms_spec (ws := ww yX8_tone cX8_tone 4 (some .int)) B.pre)
  have hown : s.vm.findClass RX8 = some m.cls := findClass_of_methodNamed B.named
  have hlocks := B.notSynchronized
  clear B
  subst hsz
  have hD := fun τ => A8_D (sz := s.heap.size) hD0 τ
  clear hD0
  have hS : va_S (A8 cy g s.heap.size) s.heap s.heap [] := va_S.rf
  have hl := lv_entry ([.ref (gO g 17), .int p1, .int p2, .int p3]) (n := 4) (Nat.le_of_ble_eq_true rfl)
  rw [lg_entry_eq]
  generalize (lg_sl ([.ref (gO g 17), .int p1, .int p2, .int p3]) ++ List.replicate (4 - (lg_sl ([.ref (gO g 17), .int p1, .int p2, .int p3])).length) Slot.unset).toArray = ls at hl ⊢
  have hl : lv_has ls 4 [(0, .ref (gO g 17)), (1, .int p1), (2, .int p2), (3, .int p3)] := hl
  refine lv_aload_n hx hb dX8_tone_0 rfl (lv_at hl 0 rfl) ?_
  obtain ⟨dx1, edx1⟩ : ∃ z : Nat, ((σ 17).1 1).toInt.toNat = z := ⟨_, rfl⟩
  have hdx1 : 0 ≤ dx1 ∧ dx1 < 5 := mnow (by have f0 := j8_8_1 hJ rfl; omega) edx1
  refine g8_8_1 (o := dx1) hx hb hts hown hK hP edx1 (hts _ q435) dX8_tone_1 ?_
  refine lv_iload_n hx hb dX8_tone_4 rfl (lv_at hl 1 rfl) ?_
  refine lv_iload_n hx hb dX8_tone_5 rfl (lv_at hl 2 rfl) ?_
  refine lv_iload_n hx hb dX8_tone_6 rfl (lv_at hl 3 rfl) ?_
  refine va_calli (va_runV (As := [.int p1, .int p2, .int p3]) (rest := []) ⟨hx, hb, hml, hown, hts⟩ (m_X0_toneField l D cy g σ  dx1 p1 p2 p3 _ hJ (show 0 ≤ dx1 ∧ dx1 < 5 from hdx1)) (cwV 3 hts (gd_V q733 q661 q662 q127 q663) rfl rfl rfl (by decide +kernel) ⟨(Nat.le_of_ble_eq_true rfl), (Nat.le_of_ble_eq_true rfl)⟩) (pv8 hP hK hD hC hS (rv8_0 hK hP hdx1)) rfl rfl hl.1 rfl (lv_room (Nat.le_of_ble_eq_true rfl)) dX8_tone_7 ⟨Nat.le_of_ble_eq_true rfl, Nat.le_of_ble_eq_true rfl⟩) hS (fun q _ h => up8 hS q h) (up8 hS) (fun r2 σ3 tS H1 locs ht hvm hw4 hB hz1 hk1 hS => ?_)
  have hP : va_P D clz (WD8 cy g σ3) H1 := by rw [← ht]; exact hB
  clear hB hz1 hk1 hvm ht
  generalize H1 = H at hP hS ⊢
  have hw4E : σ = σ3 := (hw4.1).symm
  subst hw4E
  exact W.iret (v := r2) hx hb hr (fun tS ht hW => ⟨⟨r2, σ, rfl, ⟨rfl, trivial⟩, (show va_P D clz (WD8 cy g σ) tS.heap by rw [ht]; exact hP)⟩, hS.F ht⟩) hS.2.2 dX8_tone_10

theorem q737 : Cond.code yX8_tones cX8_tones 2 (some .int) ∈ lw_g := lw_gm (List.mem_of_getElem? (i := 737) (by decide +kernel)) rfl
theorem q738 : Cond.methodLink RX8 142 yX0_hasPart ∈ lw_g := lw_gm (List.mem_of_getElem? (i := 738) (by decide +kernel)) rfl
theorem q739 : Cond.methodLink RX8 146 yX0_tonesOf ∈ lw_g := lw_gm (List.mem_of_getElem? (i := 739) (by decide +kernel)) rfl
theorem dX8_tones_0 : decode cX8_tones 0 = .ok (.aload_n 0, 1) := by decide +kernel
theorem dX8_tones_1 : decode cX8_tones 1 = .ok (.getfield 19, 3) := by decide +kernel
theorem dX8_tones_4 : decode cX8_tones 4 = .ok (.iload_n 1, 1) := by decide +kernel
theorem dX8_tones_5 : decode cX8_tones 5 = .ok (.invokevirtual 142, 3) := by decide +kernel
theorem dX8_tones_8 : decode cX8_tones 8 = .ok (.ifCond .eq 14, 3) := by decide +kernel
theorem dX8_tones_11 : decode cX8_tones 11 = .ok (.aload_n 0, 1) := by decide +kernel
theorem dX8_tones_12 : decode cX8_tones 12 = .ok (.getfield 19, 3) := by decide +kernel
theorem dX8_tones_15 : decode cX8_tones 15 = .ok (.iload_n 1, 1) := by decide +kernel
theorem dX8_tones_16 : decode cX8_tones 16 = .ok (.invokevirtual 146, 3) := by decide +kernel
theorem dX8_tones_19 : decode cX8_tones 19 = .ok (.goto 5, 3) := by decide +kernel
theorem dX8_tones_22 : decode cX8_tones 22 = .ok (.bipush (-2), 2) := by decide +kernel
theorem dX8_tones_24 : decode cX8_tones 24 = .ok (.ireturn, 1) := by decide +kernel
set_option maxHeartbeats 4000000 in
set_option maxRecDepth 100000 in
theorem m_X8_tones (l : Launch) (D : va_G) (cy : Nat → ClassId) (g : Nat → Nat) (σ : ST) (p1 : Int32) (sz : Nat) (hJ : J8 σ)  : Met l yX8_tones (ww yX8_tones cX8_tones 2 (some .int)) ({ frames := 3, cells := 0, slots := 0, locals := 192 }) (va_Pc [.ref (gO g 17), .int p1] (pr8 D cy g σ sz)) (qi8 D cy g sz (fun r τ => τ = σ ∧ ((-2 : Int) ≤ r.toInt ∧ r.toInt ≤ 16) ∧ True)) 0 0 (A8 cy g sz) := by
  refine Met.ofW (cc := cX8_tones) (maxL := 2) (ret := (some .int)) (by decide) rfl ?_
  intro p e s m args below meth c s₁ B hml hv
  obtain ⟨rfl, hsz, hP, hK, hD0, hC⟩ := hv
  have hx := B.exec
  have hb := B.bytes
  have hr := B.returns
  have hts := hts_g (atoms_spec (ws := ww yX8_tones cX8_tones 2 (some .int)) B.pre)
  have hown : s.vm.findClass RX8 = some m.cls := findClass_of_methodNamed B.named
  have hlocks := B.notSynchronized
  clear B
  subst hsz
  have hD := fun τ => A8_D (sz := s.heap.size) hD0 τ
  clear hD0
  have hS : va_S (A8 cy g s.heap.size) s.heap s.heap [] := va_S.rf
  have hl := lv_entry ([.ref (gO g 17), .int p1]) (n := 2) (Nat.le_of_ble_eq_true rfl)
  rw [lg_entry_eq]
  generalize (lg_sl ([.ref (gO g 17), .int p1]) ++ List.replicate (2 - (lg_sl ([.ref (gO g 17), .int p1])).length) Slot.unset).toArray = ls at hl ⊢
  have hl : lv_has ls 2 [(0, .ref (gO g 17)), (1, .int p1)] := hl
  refine lv_aload_n hx hb dX8_tones_0 rfl (lv_at hl 0 rfl) ?_
  obtain ⟨dx1, edx1⟩ : ∃ z : Nat, ((σ 17).1 1).toInt.toNat = z := ⟨_, rfl⟩
  have hdx1 : 0 ≤ dx1 ∧ dx1 < 5 := mnow (by have f0 := j8_8_1 hJ rfl; omega) edx1
  refine g8_8_1 (o := dx1) hx hb hts hown hK hP edx1 (hts _ q435) dX8_tones_1 ?_
  refine lv_iload_n hx hb dX8_tones_4 rfl (lv_at hl 1 rfl) ?_
  refine va_calli (va_runV (As := [.int p1]) (rest := []) ⟨hx, hb, hml, hown, hts⟩ (m_X0_hasPart l D cy g σ  dx1 p1 _ hJ (show 0 ≤ dx1 ∧ dx1 < 5 from hdx1)) (cwV 1 hts (gd_V q738 q649 q650 q127 q651) rfl rfl rfl (by decide +kernel) ⟨(Nat.le_of_ble_eq_true rfl), (Nat.le_of_ble_eq_true rfl)⟩) (pv8 hP hK hD hC hS (rv8_0 hK hP hdx1)) rfl rfl hl.1 rfl (lv_room (Nat.le_of_ble_eq_true rfl)) dX8_tones_5 ⟨Nat.le_of_ble_eq_true rfl, Nat.le_of_ble_eq_true rfl⟩) hS (fun q _ h => up8 hS q h) (up8 hS) (fun r2 σ3 tS H1 locs ht hvm hw4 hB hz1 hk1 hS => ?_)
  have hP : va_P D clz (WD8 cy g σ3) H1 := by rw [← ht]; exact hB
  clear hB hz1 hk1 hvm ht
  generalize H1 = H at hP hS ⊢
  have hw4E : σ = σ3 := (hw4.1).symm
  subst hw4E
  have b5 : (0 : Int) ≤ r2.toInt ∧ r2.toInt ≤ 1 := hw4.2.1
  have b6 : (r2.toInt = 0) ∨ ((0 : Int) ≤ p1.toInt ∧ p1.toInt ≤ 2) := hw4.2.2.1
  refine lv_if_eq (tgt := 22) hx hb dX8_tones_8 (by decide) (fun c7 => ?_) (fun c7 => ?_)
  ·
    have k8 := peq32 c7
    refine lv_bipush (v := (-2)) hx hb dX8_tones_22 (by decide) ?_
    exact W.iret (v := (-2)) hx hb hr (fun tS ht hW => ⟨⟨(-2), σ, rfl, ⟨rfl, (show (-2 : Int) ≤ ((-2) : Int32).toInt ∧ ((-2) : Int32).toInt ≤ 16 from (by have zm2 : ((-2) : Int32).toInt = (-2) := (by decide); omega)), trivial⟩, (show va_P D clz (WD8 cy g σ) tS.heap by rw [ht]; exact hP)⟩, hS.F ht⟩) hS.2.2 dX8_tones_24
  ·
    have k9 := neq32 c7
    refine lv_aload_n hx hb dX8_tones_11 rfl (lv_at hl 0 rfl) ?_
    refine g8_8_1 (o := dx1) hx hb hts hown hK hP edx1 (hts _ q435) dX8_tones_12 ?_
    refine lv_iload_n hx hb dX8_tones_15 rfl (lv_at hl 1 rfl) ?_
    refine va_calli (va_runV (As := [.int p1]) (rest := []) ⟨hx, hb, hml, hown, hts⟩ (m_X0_tonesOf l D cy g σ  dx1 p1 _ hJ (show 0 ≤ dx1 ∧ dx1 < 5 from hdx1)) (cwV 1 hts (gd_V q739 q657 q658 q127 q659) rfl rfl rfl (by decide +kernel) ⟨(Nat.le_of_ble_eq_true rfl), (Nat.le_of_ble_eq_true rfl)⟩) (pv8 hP hK hD hC hS (rv8_0 hK hP hdx1)) rfl rfl hl.1 rfl (lv_room (Nat.le_of_ble_eq_true rfl)) dX8_tones_16 ⟨Nat.le_of_ble_eq_true rfl, Nat.le_of_ble_eq_true rfl⟩) hS (fun q _ h => up8 hS q h) (up8 hS) (fun r10 σ11 tS H1 locs ht hvm hw12 hB hz1 hk1 hS => ?_)
    have hP : va_P D clz (WD8 cy g σ11) H1 := by rw [← ht]; exact hB
    clear hB hz1 hk1 hvm ht
    generalize H1 = H at hP hS ⊢
    have hw12E : σ = σ11 := (hw12.1).symm
    subst hw12E
    have b13 : (0 : Int) ≤ r10.toInt ∧ r10.toInt ≤ 16 := hw12.2.1
    refine lv_goto (tgt := 24) hx hb dX8_tones_19 (by decide) ?_
    exact W.iret (v := r10) hx hb hr (fun tS ht hW => ⟨⟨r10, σ, rfl, ⟨rfl, (show (-2 : Int) ≤ r10.toInt ∧ r10.toInt ≤ 16 from (by have f0 := b13; have g0 := rg32 r10; omega)), trivial⟩, (show va_P D clz (WD8 cy g σ) tS.heap by rw [ht]; exact hP)⟩, hS.F ht⟩) hS.2.2 dX8_tones_24

theorem q743 : Cond.code yX8_beats cX8_beats 2 (some .int) ∈ lw_g := lw_gm (List.mem_of_getElem? (i := 743) (by decide +kernel)) rfl
theorem q744 : Cond.methodLink RX8 150 yX0_beatsBefore ∈ lw_g := lw_gm (List.mem_of_getElem? (i := 744) (by decide +kernel)) rfl
theorem dX8_beats_0 : decode cX8_beats 0 = .ok (.aload_n 0, 1) := by decide +kernel
theorem dX8_beats_1 : decode cX8_beats 1 = .ok (.getfield 19, 3) := by decide +kernel
theorem dX8_beats_4 : decode cX8_beats 4 = .ok (.iload_n 1, 1) := by decide +kernel
theorem dX8_beats_5 : decode cX8_beats 5 = .ok (.invokevirtual 142, 3) := by decide +kernel
theorem dX8_beats_8 : decode cX8_beats 8 = .ok (.ifCond .eq 16, 3) := by decide +kernel
theorem dX8_beats_11 : decode cX8_beats 11 = .ok (.aload_n 0, 1) := by decide +kernel
theorem dX8_beats_12 : decode cX8_beats 12 = .ok (.getfield 19, 3) := by decide +kernel
theorem dX8_beats_15 : decode cX8_beats 15 = .ok (.iload_n 1, 1) := by decide +kernel
theorem dX8_beats_16 : decode cX8_beats 16 = .ok (.bipush 16, 2) := by decide +kernel
theorem dX8_beats_18 : decode cX8_beats 18 = .ok (.invokevirtual 150, 3) := by decide +kernel
theorem dX8_beats_21 : decode cX8_beats 21 = .ok (.goto 5, 3) := by decide +kernel
theorem dX8_beats_24 : decode cX8_beats 24 = .ok (.bipush (-2), 2) := by decide +kernel
theorem dX8_beats_26 : decode cX8_beats 26 = .ok (.ireturn, 1) := by decide +kernel
set_option maxHeartbeats 4000000 in
set_option maxRecDepth 100000 in
theorem m_X8_beats (l : Launch) (D : va_G) (cy : Nat → ClassId) (g : Nat → Nat) (σ : ST) (p1 : Int32) (sz : Nat) (hJ : J8 σ)  : Met l yX8_beats (ww yX8_beats cX8_beats 2 (some .int)) ({ frames := 4, cells := 0, slots := 0, locals := 256 }) (va_Pc [.ref (gO g 17), .int p1] (pr8 D cy g σ sz)) (qi8 D cy g sz (fun r τ => τ = σ ∧ True)) 0 0 (A8 cy g sz) := by
  refine Met.ofW (cc := cX8_beats) (maxL := 2) (ret := (some .int)) (by decide) rfl ?_
  intro p e s m args below meth c s₁ B hml hv
  obtain ⟨rfl, hsz, hP, hK, hD0, hC⟩ := hv
  have hx := B.exec
  have hb := B.bytes
  have hr := B.returns
  have hts := hts_g (atoms_spec (ws := ww yX8_beats cX8_beats 2 (some .int)) B.pre)
  have hown : s.vm.findClass RX8 = some m.cls := findClass_of_methodNamed B.named
  have hlocks := B.notSynchronized
  clear B
  subst hsz
  have hD := fun τ => A8_D (sz := s.heap.size) hD0 τ
  clear hD0
  have hS : va_S (A8 cy g s.heap.size) s.heap s.heap [] := va_S.rf
  have hl := lv_entry ([.ref (gO g 17), .int p1]) (n := 2) (Nat.le_of_ble_eq_true rfl)
  rw [lg_entry_eq]
  generalize (lg_sl ([.ref (gO g 17), .int p1]) ++ List.replicate (2 - (lg_sl ([.ref (gO g 17), .int p1])).length) Slot.unset).toArray = ls at hl ⊢
  have hl : lv_has ls 2 [(0, .ref (gO g 17)), (1, .int p1)] := hl
  refine lv_aload_n hx hb dX8_beats_0 rfl (lv_at hl 0 rfl) ?_
  obtain ⟨dx1, edx1⟩ : ∃ z : Nat, ((σ 17).1 1).toInt.toNat = z := ⟨_, rfl⟩
  have hdx1 : 0 ≤ dx1 ∧ dx1 < 5 := mnow (by have f0 := j8_8_1 hJ rfl; omega) edx1
  refine g8_8_1 (o := dx1) hx hb hts hown hK hP edx1 (hts _ q435) dX8_beats_1 ?_
  refine lv_iload_n hx hb dX8_beats_4 rfl (lv_at hl 1 rfl) ?_
  refine va_calli (va_runV (As := [.int p1]) (rest := []) ⟨hx, hb, hml, hown, hts⟩ (m_X0_hasPart l D cy g σ  dx1 p1 _ hJ (show 0 ≤ dx1 ∧ dx1 < 5 from hdx1)) (cwV 1 hts (gd_V q738 q649 q650 q127 q651) rfl rfl rfl (by decide +kernel) ⟨(Nat.le_of_ble_eq_true rfl), (Nat.le_of_ble_eq_true rfl)⟩) (pv8 hP hK hD hC hS (rv8_0 hK hP hdx1)) rfl rfl hl.1 rfl (lv_room (Nat.le_of_ble_eq_true rfl)) dX8_beats_5 ⟨Nat.le_of_ble_eq_true rfl, Nat.le_of_ble_eq_true rfl⟩) hS (fun q _ h => up8 hS q h) (up8 hS) (fun r2 σ3 tS H1 locs ht hvm hw4 hB hz1 hk1 hS => ?_)
  have hP : va_P D clz (WD8 cy g σ3) H1 := by rw [← ht]; exact hB
  clear hB hz1 hk1 hvm ht
  generalize H1 = H at hP hS ⊢
  have hw4E : σ = σ3 := (hw4.1).symm
  subst hw4E
  have b5 : (0 : Int) ≤ r2.toInt ∧ r2.toInt ≤ 1 := hw4.2.1
  have b6 : (r2.toInt = 0) ∨ ((0 : Int) ≤ p1.toInt ∧ p1.toInt ≤ 2) := hw4.2.2.1
  refine lv_if_eq (tgt := 24) hx hb dX8_beats_8 (by decide) (fun c7 => ?_) (fun c7 => ?_)
  ·
    have k8 := peq32 c7
    refine lv_bipush (v := (-2)) hx hb dX8_beats_24 (by decide) ?_
    exact W.iret (v := (-2)) hx hb hr (fun tS ht hW => ⟨⟨(-2), σ, rfl, ⟨rfl, trivial⟩, (show va_P D clz (WD8 cy g σ) tS.heap by rw [ht]; exact hP)⟩, hS.F ht⟩) hS.2.2 dX8_beats_26
  ·
    have k9 := neq32 c7
    refine lv_aload_n hx hb dX8_beats_11 rfl (lv_at hl 0 rfl) ?_
    refine g8_8_1 (o := dx1) hx hb hts hown hK hP edx1 (hts _ q435) dX8_beats_12 ?_
    refine lv_iload_n hx hb dX8_beats_15 rfl (lv_at hl 1 rfl) ?_
    refine lv_bipush (v := 16) hx hb dX8_beats_16 (by decide) ?_
    refine va_calli (va_runV (As := [.int p1, .int 16]) (rest := []) ⟨hx, hb, hml, hown, hts⟩ (m_X0_beatsBefore l D cy g σ  dx1 p1 (16) _ hJ (show 0 ≤ dx1 ∧ dx1 < 5 from hdx1) (show (0 : Int) ≤ p1.toInt ∧ p1.toInt ≤ 2 from (by have f0 := b6; have f1 := b5; have f2 := k9; have g0 := rg32 p1; have z0 : (0 : Int32).toInt = 0 := (by decide); omega)) (show (0 : Int) ≤ (16 : Int32).toInt ∧ (16 : Int32).toInt ≤ 16 from (by have f0 := b6; have f1 := b5; have f2 := k9; have g0 := rg32 p1; have z0 : (0 : Int32).toInt = 0 := (by decide); have z16 : (16 : Int32).toInt = 16 := (by decide); omega))) (cwV 2 hts (gd_V q744 q653 q654 q127 q655) rfl rfl rfl (by decide +kernel) ⟨(Nat.le_of_ble_eq_true rfl), (Nat.le_of_ble_eq_true rfl)⟩) (pv8 hP hK hD hC hS (rv8_0 hK hP hdx1)) rfl rfl hl.1 rfl (lv_room (Nat.le_of_ble_eq_true rfl)) dX8_beats_18 ⟨Nat.le_of_ble_eq_true rfl, Nat.le_of_ble_eq_true rfl⟩) hS (fun q _ h => up8 hS q h) (up8 hS) (fun r10 σ11 tS H1 locs ht hvm hw12 hB hz1 hk1 hS => ?_)
    have hP : va_P D clz (WD8 cy g σ11) H1 := by rw [← ht]; exact hB
    clear hB hz1 hk1 hvm ht
    generalize H1 = H at hP hS ⊢
    have hw12E : σ = σ11 := (hw12.1).symm
    subst hw12E
    refine lv_goto (tgt := 26) hx hb dX8_beats_21 (by decide) ?_
    exact W.iret (v := r10) hx hb hr (fun tS ht hW => ⟨⟨r10, σ, rfl, ⟨rfl, trivial⟩, (show va_P D clz (WD8 cy g σ) tS.heap by rw [ht]; exact hP)⟩, hS.F ht⟩) hS.2.2 dX8_beats_26

