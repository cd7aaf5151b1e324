theorem q1959 : Cond.code yX9_bits cX9_bits 3 (some .int) ∈ lw_g := lw_gm (List.mem_of_getElem? (i := 1959) (by decide +kernel)) rfl
theorem dX9_bits_0 : decode cX9_bits 0 = .ok (.iconst 0, 1) := by decide +kernel
theorem dX9_bits_1 : decode cX9_bits 1 = .ok (.istore_n 1, 1) := by decide +kernel
theorem dX9_bits_2 : decode cX9_bits 2 = .ok (.iload_n 0, 1) := by decide +kernel
theorem dX9_bits_3 : decode cX9_bits 3 = .ok (.istore_n 2, 1) := by decide +kernel
theorem dX9_bits_4 : decode cX9_bits 4 = .ok (.iload_n 2, 1) := by decide +kernel
theorem dX9_bits_5 : decode cX9_bits 5 = .ok (.ifCond .eq 15, 3) := by decide +kernel
theorem dX9_bits_8 : decode cX9_bits 8 = .ok (.iinc 1 1, 3) := by decide +kernel
theorem dX9_bits_11 : decode cX9_bits 11 = .ok (.iload_n 2, 1) := by decide +kernel
theorem dX9_bits_12 : decode cX9_bits 12 = .ok (.iload_n 2, 1) := by decide +kernel
theorem dX9_bits_13 : decode cX9_bits 13 = .ok (.iconst 1, 1) := by decide +kernel
theorem dX9_bits_14 : decode cX9_bits 14 = .ok (.isub, 1) := by decide +kernel
theorem dX9_bits_15 : decode cX9_bits 15 = .ok (.iand, 1) := by decide +kernel
theorem dX9_bits_16 : decode cX9_bits 16 = .ok (.istore_n 2, 1) := by decide +kernel
theorem dX9_bits_17 : decode cX9_bits 17 = .ok (.goto (-13), 3) := by decide +kernel
theorem dX9_bits_20 : decode cX9_bits 20 = .ok (.iload_n 1, 1) := by decide +kernel
theorem dX9_bits_21 : decode cX9_bits 21 = .ok (.ireturn, 1) := by decide +kernel
set_option maxHeartbeats 4000000 in
set_option maxRecDepth 100000 in
theorem m_X9_bits (l : Launch) (D : va_G) (cy : Nat → ClassId) (g : Nat → Nat) (σ : ST) (p0 : Int32) (sz : Nat) (hJ : J9 (σ 9))  : Met l yX9_bits (ww yX9_bits cX9_bits 3 (some .int)) ({ frames := 1, cells := 0, slots := 0, locals := 64 }) (va_Pc [.int p0] (pr9 D cy g σ sz)) (qi9 D cy g sz (fun r τ => τ = σ ∧ (r.toInt = (bitT p0).toInt) ∧ True)) 0 0 (A9 cy g sz) := by
  refine Met.ofW (cc := cX9_bits) (maxL := 3) (ret := (some .int)) (by decide) rfl ?_
  intro p e s m args below meth c s₁ B hml hv
  obtain ⟨rfl, hsz, hP, hK, hD0, hC⟩ := hv
  have hx := B.exec
  have hb := B.bytes
  have hr := B.returns
  have hts := hts_g (atoms_spec (ws := ww yX9_bits cX9_bits 3 (some .int)) B.pre)
  have hown : s.vm.findClass RX9 = some m.cls := findClass_of_methodNamed B.named
  have hlocks := B.notSynchronized
  clear B
  subst hsz
  have hD := fun τ => A9_D (sz := s.heap.size) hD0 τ
  clear hD0
  have hS : va_S (A9 cy g s.heap.size) s.heap s.heap [] := va_S.rf
  have hl := lv_entry ([.int p0]) (n := 3) (Nat.le_of_ble_eq_true rfl)
  rw [lg_entry_eq]
  generalize (lg_sl ([.int p0]) ++ List.replicate (3 - (lg_sl ([.int p0])).length) Slot.unset).toArray = ls at hl ⊢
  have hl : lv_has ls 3 [(0, .int p0)] := hl
  refine lv_iconst (v := 0) hx hb dX9_bits_0 (by decide) ?_
  refine lv_istore_n (lv' := [(1, .int 0), (0, .int p0)]) hx hb dX9_bits_1 rfl hl (by decide) rfl (fun ls hl => ?_)
  refine lv_iload_n hx hb dX9_bits_2 rfl (lv_at hl 1 rfl) ?_
  refine lv_istore_n (lv' := [(2, .int p0), (1, .int 0), (0, .int p0)]) hx hb dX9_bits_3 rfl hl (by decide) rfl (fun ls hl => ?_)
  refine loop9 3 4 (fun x : LZ => [(2, .int (x.2.1 0)), (1, .int (x.2.1 1)), (0, .int p0)]) (fun x : LZ => (x.1 = σ) ∧ (bitI (x.2.1 1) (x.2.1 0) (bitT p0)) ∧ True) (fun x : LZ => (x.2.1 0).toBitVec.toNat) ?_ (σ, lf [p0, 0], lg []) ⟨rfl, (show bitI (0 : Int32) p0 (bitT p0) from bitI.start), trivial⟩ _ _ _ hP hS (lv_sub hl [0, 1, 2] rfl)
  intro y3 hI2 nl1 H locs ls hP hS hl
  rw [show y3.1 = σ from hI2.1] at hP
  have b4 : bitI (y3.2.1 1) (y3.2.1 0) (bitT p0) := hI2.2.1
  have hl : lv_has ls 3 [(2, .int (y3.2.1 0)), (1, .int (y3.2.1 1)), (0, .int p0)] := hl
  refine lv_iload_n hx hb dX9_bits_4 rfl (lv_at hl 0 rfl) ?_
  refine lv_if_eq (tgt := 20) hx hb dX9_bits_5 (by decide) (fun c5 => ?_) (fun c5 => ?_)
  ·
    have k6 := peq32 c5
    refine lv_iload_n hx hb dX9_bits_20 rfl (lv_at hl 1 rfl) ?_
    exact W.iret (v := (y3.2.1 1)) hx hb hr (fun tS ht hW => ⟨⟨(y3.2.1 1), σ, rfl, ⟨rfl, (show (y3.2.1 1).toInt = (bitT p0).toInt from (congrArg Int32.toInt (by have h := b4; rw [c5] at h; exact bitI.stop h))), trivial⟩, (show va_P D clz (WD9 cy g σ) tS.heap by rw [ht]; exact hP)⟩, hS.F ht⟩) hS.2.2 dX9_bits_21
  ·
    have k7 := neq32 c5
    obtain ⟨x8, ex8⟩ : ∃ y : Int32, y = (y3.2.1 1) + 1 := ⟨_, rfl⟩
    refine lv_iinc (v := x8) (lv' := [(1, .int x8), (2, .int (y3.2.1 0)), (0, .int p0)]) hx hb dX9_bits_8 hl (k := 1) rfl (by rw [ex8]; rfl) (by decide) rfl (fun ls hl => ?_)
    refine lv_iload_n hx hb dX9_bits_11 rfl (lv_at hl 1 rfl) ?_
    refine lv_iload_n hx hb dX9_bits_12 rfl (lv_at hl 1 rfl) ?_
    refine lv_iconst (v := 1) hx hb dX9_bits_13 (by decide) ?_
    refine lv_isub hx hb dX9_bits_14 ?_
    refine lv_topi (fun x9 ex9 => ?_)
    refine lv_iand hx hb dX9_bits_15 ?_
    refine lv_topi (fun x10 ex10 => ?_)
    refine lv_istore_n (lv' := [(2, .int x10), (1, .int x8), (0, .int p0)]) hx hb dX9_bits_16 rfl hl (by decide) rfl (fun ls hl => ?_)
    refine lv_goto (tgt := 4) hx hb dX9_bits_17 (by decide) ?_
    have t11 : x10.toBitVec.toNat < (y3.2.1 0).toBitVec.toNat := bit_lt c5 ex9 ex10
    exact nl1 (σ, lf [x10, x8], lg []) ⟨rfl, (show bitI x8 x10 (bitT p0) from (bitI.step b4 c5 ex9 ex10 ex8)), trivial⟩ (show x10.toBitVec.toNat < _ from t11) _ _ _ hP hS (lv_sub hl [0, 1, 2] rfl)

theorem q1793 : Cond.code yX9_moveOf cX9_moveOf 6 (some .int) ∈ lw_g := lw_gm (List.mem_of_getElem? (i := 1793) (by decide +kernel)) rfl
theorem q1778 : Cond.methodLink RX9 348 yX9_size ∈ lw_g := lw_gm (List.mem_of_getElem? (i := 1778) (by decide +kernel)) rfl
theorem q1779 : Cond.static yX9_size ∈ lw_g := lw_gm (List.mem_of_getElem? (i := 1779) (by decide +kernel)) rfl
theorem dX9_moveOf_0 : decode cX9_moveOf 0 = .ok (.aload_n 0, 1) := by decide +kernel
theorem dX9_moveOf_1 : decode cX9_moveOf 1 = .ok (.getfield 37, 3) := by decide +kernel
theorem dX9_moveOf_4 : decode cX9_moveOf 4 = .ok (.bipush 7, 2) := by decide +kernel
theorem dX9_moveOf_6 : decode cX9_moveOf 6 = .ok (.iload_n 1, 1) := by decide +kernel
theorem dX9_moveOf_7 : decode cX9_moveOf 7 = .ok (.imul, 1) := by decide +kernel
theorem dX9_moveOf_8 : decode cX9_moveOf 8 = .ok (.iaload, 1) := by decide +kernel
theorem dX9_moveOf_9 : decode cX9_moveOf 9 = .ok (.iconst 2, 1) := by decide +kernel
theorem dX9_moveOf_10 : decode cX9_moveOf 10 = .ok (.if_icmp .ne 10, 3) := by decide +kernel
theorem dX9_moveOf_13 : decode cX9_moveOf 13 = .ok (.iload_n 2, 1) := by decide +kernel
theorem dX9_moveOf_14 : decode cX9_moveOf 14 = .ok (.iload_n 3, 1) := by decide +kernel
theorem dX9_moveOf_15 : decode cX9_moveOf 15 = .ok (.isub, 1) := by decide +kernel
theorem dX9_moveOf_16 : decode cX9_moveOf 16 = .ok (.invokestatic 348, 3) := by decide +kernel
theorem dX9_moveOf_19 : decode cX9_moveOf 19 = .ok (.ireturn, 1) := by decide +kernel
theorem dX9_moveOf_20 : decode cX9_moveOf 20 = .ok (.iconst 0, 1) := by decide +kernel
theorem dX9_moveOf_21 : decode cX9_moveOf 21 = .ok (.istore 4, 2) := by decide +kernel
theorem dX9_moveOf_23 : decode cX9_moveOf 23 = .ok (.iload_n 2, 1) := by decide +kernel
theorem dX9_moveOf_24 : decode cX9_moveOf 24 = .ok (.iload_n 3, 1) := by decide +kernel
theorem dX9_moveOf_25 : decode cX9_moveOf 25 = .ok (.ixor, 1) := by decide +kernel
theorem dX9_moveOf_26 : decode cX9_moveOf 26 = .ok (.istore 5, 2) := by decide +kernel
theorem dX9_moveOf_28 : decode cX9_moveOf 28 = .ok (.iload 5, 2) := by decide +kernel
theorem dX9_moveOf_30 : decode cX9_moveOf 30 = .ok (.ifCond .eq 18, 3) := by decide +kernel
theorem dX9_moveOf_33 : decode cX9_moveOf 33 = .ok (.iinc 4 1, 3) := by decide +kernel
theorem dX9_moveOf_36 : decode cX9_moveOf 36 = .ok (.iload 5, 2) := by decide +kernel
theorem dX9_moveOf_38 : decode cX9_moveOf 38 = .ok (.iload 5, 2) := by decide +kernel
theorem dX9_moveOf_40 : decode cX9_moveOf 40 = .ok (.iconst 1, 1) := by decide +kernel
theorem dX9_moveOf_41 : decode cX9_moveOf 41 = .ok (.isub, 1) := by decide +kernel
theorem dX9_moveOf_42 : decode cX9_moveOf 42 = .ok (.iand, 1) := by decide +kernel
theorem dX9_moveOf_43 : decode cX9_moveOf 43 = .ok (.istore 5, 2) := by decide +kernel
theorem dX9_moveOf_45 : decode cX9_moveOf 45 = .ok (.goto (-17), 3) := by decide +kernel
theorem dX9_moveOf_48 : decode cX9_moveOf 48 = .ok (.iload 4, 2) := by decide +kernel
theorem dX9_moveOf_50 : decode cX9_moveOf 50 = .ok (.ireturn, 1) := by decide +kernel
set_option maxHeartbeats 4000000 in
set_option maxRecDepth 100000 in
theorem m_X9_moveOf (l : Launch) (D : va_G) (cy : Nat → ClassId) (g : Nat → Nat) (σ : ST) (p1 : Int32) (p2 : Int32) (p3 : Int32) (sz : Nat) (hJ : J9 (σ 9)) (h0 : (0 : Int) ≤ p1.toInt ∧ p1.toInt ≤ 3) : Met l yX9_moveOf (ww yX9_moveOf cX9_moveOf 6 (some .int)) ({ frames := 2, cells := 0, slots := 0, locals := 128 }) (va_Pc [.ref (g 60), .int p1, .int p2, .int p3] (pr9 D cy g σ sz)) (qi9 D cy g sz (fun r τ => τ = σ ∧ (r = moveF (((σ 9)).2.2.1 18 (7 * p1.toInt.toNat)) p2 p3) ∧ True)) 0 0 (A9 cy g sz) := by
  refine Met.ofW (cc := cX9_moveOf) (maxL := 6) (ret := (some .int)) (by decide) rfl ?_
  intro p e s m args below meth c s₁ B hml hv
  obtain ⟨rfl, hsz, hP, hK, hD0, hC⟩ := hv
  have hx := B.exec
  have hb := B.bytes
  have hr := B.returns
  have hts := hts_g (atoms_spec (ws := ww yX9_moveOf cX9_moveOf 6 (some .int)) B.pre)
  have hown : s.vm.findClass RX9 = some m.cls := findClass_of_methodNamed B.named
  have hlocks := B.notSynchronized
  clear B
  subst hsz
  have hD := fun τ => A9_D (sz := s.heap.size) hD0 τ
  clear hD0
  have hS : va_S (A9 cy g s.heap.size) s.heap s.heap [] := va_S.rf
  have hl := lv_entry ([.ref (g 60), .int p1, .int p2, .int p3]) (n := 6) (Nat.le_of_ble_eq_true rfl)
  rw [lg_entry_eq]
  generalize (lg_sl ([.ref (g 60), .int p1, .int p2, .int p3]) ++ List.replicate (6 - (lg_sl ([.ref (g 60), .int p1, .int p2, .int p3])).length) Slot.unset).toArray = ls at hl ⊢
  have hl : lv_has ls 6 [(0, .ref (g 60)), (1, .int p1), (2, .int p2), (3, .int p3)] := hl
  refine lv_aload_n hx hb dX9_moveOf_0 rfl (lv_at hl 0 rfl) ?_
  refine g9_18 hx hb hts hown hK hP (hts _ q1378) dX9_moveOf_1 ?_
  refine lv_bipush (v := 7) hx hb dX9_moveOf_4 (by decide) ?_
  refine lv_iload_n hx hb dX9_moveOf_6 rfl (lv_at hl 1 rfl) ?_
  refine lv_imul hx hb dX9_moveOf_7 ?_
  refine lv_topi (fun x1 ex1 => ?_)
  have t2 := mulC' (n := 7) ex1 (by decide) (by have f0 := h0; have g0 := rg32 p1; omega)
  obtain ⟨x3, ex3⟩ : ∃ z, (σ 9).2.2.1 18 x1.toInt.toNat = z := ⟨_, rfl⟩
  refine l9_18 (x := x3) hx hb hK hP (vpo (by have f0 := t2; have f1 := h0; have g0 := rg32 x1; omega)) ex3 dX9_moveOf_8 ?_
  have t4 := a9_18 hJ ex3
  refine lv_iconst (v := 2) hx hb dX9_moveOf_9 (by decide) ?_
  refine lv_icmp_ne (tgt := 20) hx hb dX9_moveOf_10 (by decide) (fun c5 => ?_) (fun c5 => ?_)
  ·
    have k6 := neq32 c5
    refine lv_iconst (v := 0) hx hb dX9_moveOf_20 (by decide) ?_
    refine lv_istore (lv' := [(4, .int 0), (0, .ref (g 60)), (1, .int p1), (2, .int p2), (3, .int p3)]) hx hb dX9_moveOf_21 hl (by decide) rfl (fun ls hl => ?_)
    refine lv_iload_n hx hb dX9_moveOf_23 rfl (lv_at hl 3 rfl) ?_
    refine lv_iload_n hx hb dX9_moveOf_24 rfl (lv_at hl 4 rfl) ?_
    refine lv_ixor hx hb dX9_moveOf_25 ?_
    refine lv_topi (fun x7 ex7 => ?_)
    refine lv_istore (lv' := [(5, .int x7), (4, .int 0), (0, .ref (g 60)), (1, .int p1), (2, .int p2), (3, .int p3)]) hx hb dX9_moveOf_26 hl (by decide) rfl (fun ls hl => ?_)
    refine loop9 6 28 (fun x : LZ => [(5, .int (x.2.1 0)), (4, .int (x.2.1 1)), (0, .ref (g 60)), (1, .int p1), (2, .int p2), (3, .int p3)]) (fun x : LZ => (x.1 = σ) ∧ (bitI (x.2.1 1) (x.2.1 0) (bitT (p2 ^^^ p3))) ∧ True) (fun x : LZ => (x.2.1 0).toBitVec.toNat) ?_ (σ, lf [x7, 0], lg []) ⟨rfl, (show bitI (0 : Int32) x7 (bitT (p2 ^^^ p3)) from (by rw [ex7]; exact bitI.start)), trivial⟩ _ _ _ hP hS (lv_sub hl [0, 1, 2, 3, 4, 5] rfl)
    intro y10 hI9 nl8 H locs ls hP hS hl
    rw [show y10.1 = σ from hI9.1] at hP
    have b11 : bitI (y10.2.1 1) (y10.2.1 0) (bitT (p2 ^^^ p3)) := hI9.2.1
    have hl : lv_has ls 6 [(5, .int (y10.2.1 0)), (4, .int (y10.2.1 1)), (0, .ref (g 60)), (1, .int p1), (2, .int p2), (3, .int p3)] := hl
    refine lv_iload hx hb dX9_moveOf_28 (lv_at hl 0 rfl) ?_
    refine lv_if_eq (tgt := 48) hx hb dX9_moveOf_30 (by decide) (fun c12 => ?_) (fun c12 => ?_)
    ·
      have k13 := peq32 c12
      refine lv_iload hx hb dX9_moveOf_48 (lv_at hl 1 rfl) ?_
      exact W.iret (v := (y10.2.1 1)) hx hb hr (fun tS ht hW => ⟨⟨(y10.2.1 1), σ, rfl, ⟨rfl, (show (y10.2.1 1) = moveF (((σ 9)).2.2.1 18 (7 * p1.toInt.toNat)) p2 p3 from (by unfold moveF; rw [if_neg (fun q => c5 ((show ((σ 9).2.2.1 18 (7 * p1.toInt.toNat)) = x3 from by rw [show 7 * p1.toInt.toNat = x1.toInt.toNat from (by have f0 := h0; have f1 := t2; have f2 := t4; have f3 := k6; have g0 := rg32 p1; have g1 := rg32 x1; have z2 : (2 : Int32).toInt = 2 := (by decide); omega)]; exact ex3).symm.trans q))]; have h := b11; rw [c12] at h; exact bitI.stop h)), trivial⟩, (show va_P D clz (WD9 cy g σ) tS.heap by rw [ht]; exact hP)⟩, hS.F ht⟩) hS.2.2 dX9_moveOf_50
    ·
      have k14 := neq32 c12
      obtain ⟨x15, ex15⟩ : ∃ y : Int32, y = (y10.2.1 1) + 1 := ⟨_, rfl⟩
      refine lv_iinc (v := x15) (lv' := [(4, .int x15), (5, .int (y10.2.1 0)), (0, .ref (g 60)), (1, .int p1), (2, .int p2), (3, .int p3)]) hx hb dX9_moveOf_33 hl (k := 1) rfl (by rw [ex15]; rfl) (by decide) rfl (fun ls hl => ?_)
      refine lv_iload hx hb dX9_moveOf_36 (lv_at hl 1 rfl) ?_
      refine lv_iload hx hb dX9_moveOf_38 (lv_at hl 1 rfl) ?_
      refine lv_iconst (v := 1) hx hb dX9_moveOf_40 (by decide) ?_
      refine lv_isub hx hb dX9_moveOf_41 ?_
      refine lv_topi (fun x16 ex16 => ?_)
      refine lv_iand hx hb dX9_moveOf_42 ?_
      refine lv_topi (fun x17 ex17 => ?_)
      refine lv_istore (lv' := [(5, .int x17), (4, .int x15), (0, .ref (g 60)), (1, .int p1), (2, .int p2), (3, .int p3)]) hx hb dX9_moveOf_43 hl (by decide) rfl (fun ls hl => ?_)
      refine lv_goto (tgt := 28) hx hb dX9_moveOf_45 (by decide) ?_
      have t18 : x17.toBitVec.toNat < (y10.2.1 0).toBitVec.toNat := bit_lt c12 ex16 ex17
      exact nl8 (σ, lf [x17, x15], lg []) ⟨rfl, (show bitI x15 x17 (bitT (p2 ^^^ p3)) from (bitI.step b11 c12 ex16 ex17 ex15)), trivial⟩ (show x17.toBitVec.toNat < _ from t18) _ _ _ hP hS (lv_sub hl [0, 1, 2, 3, 4, 5] rfl)
  ·
    have k19 := peq32 c5
    refine lv_iload_n hx hb dX9_moveOf_13 rfl (lv_at hl 2 rfl) ?_
    refine lv_iload_n hx hb dX9_moveOf_14 rfl (lv_at hl 3 rfl) ?_
    refine lv_isub hx hb dX9_moveOf_15 ?_
    refine lv_topi (fun x20 ex20 => ?_)
    refine va_calli (va_runS (As := [.int x20]) (rest := []) ⟨hx, hb, hml, hown, hts⟩ (m_X9_size l D cy g σ x20 _ hJ ) (va_cwS 1 hts (gd_S q1778 q1779 q134 q1780) rfl rfl rfl (by decide +kernel) ⟨Nat.le_of_ble_eq_true rfl, Nat.le_of_ble_eq_true rfl⟩) (ps9 hP hK hD hC hS) rfl rfl hl.1 rfl (lv_room (Nat.le_of_ble_eq_true rfl)) dX9_moveOf_16 ⟨Nat.le_of_ble_eq_true rfl, Nat.le_of_ble_eq_true rfl⟩) hS (fun q _ h => up9 hS q h) (up9 hS) (fun r21 σ22 tS H1 locs ht hvm hw23 hB hz1 hk1 hS => ?_)
    have hP : va_P D clz (WD9 cy g σ22) H1 := by rw [← ht]; exact hB
    clear hB hz1 hk1 hvm ht
    generalize H1 = H at hP hS ⊢
    have hw23E : σ = σ22 := (hw23.1).symm
    subst hw23E
    have b24 : r21 = sizeF x20 := hw23.2.1
    exact W.iret (v := r21) hx hb hr (fun tS ht hW => ⟨⟨r21, σ, rfl, ⟨rfl, (show r21 = moveF (((σ 9)).2.2.1 18 (7 * p1.toInt.toNat)) p2 p3 from (by unfold moveF; rw [if_pos ((show ((σ 9).2.2.1 18 (7 * p1.toInt.toNat)) = x3 from by rw [show 7 * p1.toInt.toNat = x1.toInt.toNat from (by have f0 := h0; have f1 := t2; have f2 := t4; have f3 := k19; have g0 := rg32 p1; have g1 := rg32 x1; have z2 : (2 : Int32).toInt = 2 := (by decide); omega)]; exact ex3).trans c5), b24, ex20])), trivial⟩, (show va_P D clz (WD9 cy g σ) tS.heap by rw [ht]; exact hP)⟩, hS.F ht⟩) hS.2.2 dX9_moveOf_19

theorem q1861 : Cond.code yX9_mayGo cX9_mayGo 7 (some .boolean) ∈ lw_g := lw_gm (List.mem_of_getElem? (i := 1861) (by decide +kernel)) rfl
theorem q1388 : Cond.fieldLink RX9 378 "LipsAndSlidesModel" "horn" "I" ∈ lw_g := lw_gm (List.mem_of_getElem? (i := 1388) (by decide +kernel)) rfl
theorem q1790 : Cond.methodLink RX9 368 yX9_moveOf ∈ lw_g := lw_gm (List.mem_of_getElem? (i := 1790) (by decide +kernel)) rfl
theorem q1792 : Cond.instanceMethod yX9_moveOf ∈ lw_g := lw_gm (List.mem_of_getElem? (i := 1792) (by decide +kernel)) rfl
theorem q84 : Cond.selects RX9 yX9_moveOf yX9_moveOf ∈ lw_g := lw_gm (List.mem_of_getElem? (i := 84) (by decide +kernel)) rfl
theorem q1390 : Cond.fieldLink RX9 381 "LipsAndSlidesModel" "hand" "I" ∈ lw_g := lw_gm (List.mem_of_getElem? (i := 1390) (by decide +kernel)) rfl
theorem q1393 : Cond.fieldLink RX9 68 "LipsAndSlidesModel" "wait" "[I" ∈ lw_g := lw_gm (List.mem_of_getElem? (i := 1393) (by decide +kernel)) rfl
theorem q1394 : Cond.fieldLink RX9 71 "LipsAndSlidesModel" "isSlurred" "[Z" ∈ lw_g := lw_gm (List.mem_of_getElem? (i := 1394) (by decide +kernel)) rfl
theorem dX9_mayGo_0 : decode cX9_mayGo 0 = .ok (.aload_n 0, 1) := by decide +kernel
theorem dX9_mayGo_1 : decode cX9_mayGo 1 = .ok (.aload_n 0, 1) := by decide +kernel
theorem dX9_mayGo_2 : decode cX9_mayGo 2 = .ok (.getfield 378, 3) := by decide +kernel
theorem dX9_mayGo_5 : decode cX9_mayGo 5 = .ok (.iload_n 2, 1) := by decide +kernel
theorem dX9_mayGo_6 : decode cX9_mayGo 6 = .ok (.iload 4, 2) := by decide +kernel
theorem dX9_mayGo_8 : decode cX9_mayGo 8 = .ok (.invokevirtual 368, 3) := by decide +kernel
theorem dX9_mayGo_11 : decode cX9_mayGo 11 = .ok (.istore 6, 2) := by decide +kernel
theorem dX9_mayGo_13 : decode cX9_mayGo 13 = .ok (.iload 6, 2) := by decide +kernel
theorem dX9_mayGo_15 : decode cX9_mayGo 15 = .ok (.aload_n 0, 1) := by decide +kernel
theorem dX9_mayGo_16 : decode cX9_mayGo 16 = .ok (.getfield 381, 3) := by decide +kernel
theorem dX9_mayGo_19 : decode cX9_mayGo 19 = .ok (.aload_n 0, 1) := by decide +kernel
theorem dX9_mayGo_20 : decode cX9_mayGo 20 = .ok (.getfield 68, 3) := by decide +kernel
theorem dX9_mayGo_23 : decode cX9_mayGo 23 = .ok (.iload_n 1, 1) := by decide +kernel
theorem dX9_mayGo_24 : decode cX9_mayGo 24 = .ok (.iaload, 1) := by decide +kernel
theorem dX9_mayGo_25 : decode cX9_mayGo 25 = .ok (.imul, 1) := by decide +kernel
theorem dX9_mayGo_26 : decode cX9_mayGo 26 = .ok (.if_icmp .le 5, 3) := by decide +kernel
theorem dX9_mayGo_29 : decode cX9_mayGo 29 = .ok (.iconst 0, 1) := by decide +kernel
theorem dX9_mayGo_30 : decode cX9_mayGo 30 = .ok (.ireturn, 1) := by decide +kernel
theorem dX9_mayGo_31 : decode cX9_mayGo 31 = .ok (.aload_n 0, 1) := by decide +kernel
theorem dX9_mayGo_32 : decode cX9_mayGo 32 = .ok (.getfield 71, 3) := by decide +kernel
theorem dX9_mayGo_35 : decode cX9_mayGo 35 = .ok (.iload_n 1, 1) := by decide +kernel
theorem dX9_mayGo_36 : decode cX9_mayGo 36 = .ok (.baload, 1) := by decide +kernel
theorem dX9_mayGo_37 : decode cX9_mayGo 37 = .ok (.ifCond .ne 5, 3) := by decide +kernel
theorem dX9_mayGo_40 : decode cX9_mayGo 40 = .ok (.iconst 1, 1) := by decide +kernel
theorem dX9_mayGo_41 : decode cX9_mayGo 41 = .ok (.ireturn, 1) := by decide +kernel
theorem dX9_mayGo_42 : decode cX9_mayGo 42 = .ok (.iload_n 3, 1) := by decide +kernel
theorem dX9_mayGo_43 : decode cX9_mayGo 43 = .ok (.iload 5, 2) := by decide +kernel
theorem dX9_mayGo_45 : decode cX9_mayGo 45 = .ok (.isub, 1) := by decide +kernel
theorem dX9_mayGo_46 : decode cX9_mayGo 46 = .ok (.invokestatic 348, 3) := by decide +kernel
theorem dX9_mayGo_49 : decode cX9_mayGo 49 = .ok (.iconst 1, 1) := by decide +kernel
theorem dX9_mayGo_50 : decode cX9_mayGo 50 = .ok (.if_icmp .gt 35, 3) := by decide +kernel
theorem dX9_mayGo_53 : decode cX9_mayGo 53 = .ok (.aload_n 0, 1) := by decide +kernel
theorem dX9_mayGo_54 : decode cX9_mayGo 54 = .ok (.getfield 37, 3) := by decide +kernel
theorem dX9_mayGo_57 : decode cX9_mayGo 57 = .ok (.bipush 7, 2) := by decide +kernel
theorem dX9_mayGo_59 : decode cX9_mayGo 59 = .ok (.aload_n 0, 1) := by decide +kernel
theorem dX9_mayGo_60 : decode cX9_mayGo 60 = .ok (.getfield 378, 3) := by decide +kernel
theorem dX9_mayGo_63 : decode cX9_mayGo 63 = .ok (.imul, 1) := by decide +kernel
theorem dX9_mayGo_64 : decode cX9_mayGo 64 = .ok (.iaload, 1) := by decide +kernel
theorem dX9_mayGo_65 : decode cX9_mayGo 65 = .ok (.iconst 2, 1) := by decide +kernel
theorem dX9_mayGo_66 : decode cX9_mayGo 66 = .ok (.if_icmp .ne 15, 3) := by decide +kernel
theorem dX9_mayGo_69 : decode cX9_mayGo 69 = .ok (.iload_n 3, 1) := by decide +kernel
theorem dX9_mayGo_70 : decode cX9_mayGo 70 = .ok (.iload 5, 2) := by decide +kernel
theorem dX9_mayGo_72 : decode cX9_mayGo 72 = .ok (.if_icmp .eq 9, 3) := by decide +kernel
theorem dX9_mayGo_75 : decode cX9_mayGo 75 = .ok (.iload 6, 2) := by decide +kernel
theorem dX9_mayGo_77 : decode cX9_mayGo 77 = .ok (.iconst 1, 1) := by decide +kernel
theorem dX9_mayGo_78 : decode cX9_mayGo 78 = .ok (.if_icmp .gt 7, 3) := by decide +kernel
theorem dX9_mayGo_81 : decode cX9_mayGo 81 = .ok (.iconst 1, 1) := by decide +kernel
theorem dX9_mayGo_82 : decode cX9_mayGo 82 = .ok (.goto 4, 3) := by decide +kernel
theorem dX9_mayGo_85 : decode cX9_mayGo 85 = .ok (.iconst 0, 1) := by decide +kernel
theorem dX9_mayGo_86 : decode cX9_mayGo 86 = .ok (.ireturn, 1) := by decide +kernel
set_option maxHeartbeats 4000000 in
set_option maxRecDepth 100000 in
theorem m_X9_mayGo (l : Launch) (D : va_G) (cy : Nat → ClassId) (g : Nat → Nat) (σ : ST) (p1 : Int32) (p2 : Int32) (p3 : Int32) (p4 : Int32) (p5 : Int32) (sz : Nat) (hJ : J9 (σ 9)) (h0 : (0 : Int) ≤ p1.toInt ∧ p1.toInt ≤ 15) : Met l yX9_mayGo (ww yX9_mayGo cX9_mayGo 7 (some .boolean)) ({ frames := 3, cells := 0, slots := 0, locals := 192 }) (va_Pc [.ref (g 60), .int p1, .int p2, .int p3, .int p4, .int p5] (pr9 D cy g σ sz)) (qi9 D cy g sz (fun r τ => τ = σ ∧ ((0 : Int) ≤ r.toInt ∧ r.toInt ≤ 1) ∧ (r = goF (((σ 9)).2.2.1 18 (7 * (((σ 9)).1 28).toInt.toNat)) (((σ 9)).1 30) (((σ 9)).2.2.1 33 p1.toInt.toNat) (((σ 9)).2.2.1 34 p1.toInt.toNat) p2 p3 p4 p5) ∧ True)) 0 0 (A9 cy g sz) := by
  refine Met.ofW (cc := cX9_mayGo) (maxL := 7) (ret := (some .boolean)) (by decide) rfl ?_
  intro p e s m args below meth c s₁ B hml hv
  obtain ⟨rfl, hsz, hP, hK, hD0, hC⟩ := hv
  have hx := B.exec
  have hb := B.bytes
  have hr := B.returns
  have hts := hts_g (atoms_spec (ws := ww yX9_mayGo cX9_mayGo 7 (some .boolean)) B.pre)
  have hown : s.vm.findClass RX9 = some m.cls := findClass_of_methodNamed B.named
  have hlocks := B.notSynchronized
  clear B
  subst hsz
  have hD := fun τ => A9_D (sz := s.heap.size) hD0 τ
  clear hD0
  have hS : va_S (A9 cy g s.heap.size) s.heap s.heap [] := va_S.rf
  have hl := lv_entry ([.ref (g 60), .int p1, .int p2, .int p3, .int p4, .int p5]) (n := 7) (Nat.le_of_ble_eq_true rfl)
  rw [lg_entry_eq]
  generalize (lg_sl ([.ref (g 60), .int p1, .int p2, .int p3, .int p4, .int p5]) ++ List.replicate (7 - (lg_sl ([.ref (g 60), .int p1, .int p2, .int p3, .int p4, .int p5])).length) Slot.unset).toArray = ls at hl ⊢
  have hl : lv_has ls 7 [(0, .ref (g 60)), (1, .int p1), (2, .int p2), (3, .int p3), (4, .int p4), (5, .int p5)] := hl
  refine lv_aload_n hx hb dX9_mayGo_0 rfl (lv_at hl 0 rfl) ?_
  refine lv_aload_n hx hb dX9_mayGo_1 rfl (lv_at hl 0 rfl) ?_
  refine g9_28 (x := ((σ 9).1 28)) hx hb hts hown hK hP (rfl) (hts _ q1388) dX9_mayGo_2 ?_
  refine lv_iload_n hx hb dX9_mayGo_5 rfl (lv_at hl 2 rfl) ?_
  refine lv_iload hx hb dX9_mayGo_6 (lv_at hl 4 rfl) ?_
  refine va_calli (va_runV (As := [.int ((σ 9).1 28), .int p2, .int p4]) (rest := []) ⟨hx, hb, hml, hown, hts⟩ (m_X9_moveOf l D cy g σ ((σ 9).1 28) p2 p4 _ hJ (show (0 : Int) ≤ ((σ 9).1 28).toInt ∧ ((σ 9).1 28).toInt ≤ 3 from (by have f0 := j9_28 hJ rfl; omega))) (cwV 3 hts (gd_V q1790 q1792 q84 q134 q1793) rfl rfl rfl (by decide +kernel) ⟨Nat.le_of_ble_eq_true rfl, Nat.le_of_ble_eq_true rfl⟩) (pv9 hP hK hD hC hS (va_recv hK hP (ci := 9) (q0 := 0) rfl rfl)) rfl rfl hl.1 rfl (lv_room (Nat.le_of_ble_eq_true rfl)) dX9_mayGo_8 ⟨Nat.le_of_ble_eq_true rfl, Nat.le_of_ble_eq_true rfl⟩) hS (fun q _ h => up9 hS q h) (up9 hS) (fun r1 σ2 tS H1 locs ht hvm hw3 hB hz1 hk1 hS => ?_)
  have hP : va_P D clz (WD9 cy g σ2) H1 := by rw [← ht]; exact hB
  clear hB hz1 hk1 hvm ht
  generalize H1 = H at hP hS ⊢
  have hw3E : σ = σ2 := (hw3.1).symm
  subst hw3E
  have b4 : r1 = moveF (((σ 9)).2.2.1 18 (7 * ((σ 9).1 28).toInt.toNat)) p2 p4 := hw3.2.1
  refine lv_istore (lv' := [(6, .int r1), (0, .ref (g 60)), (1, .int p1), (2, .int p2), (3, .int p3), (4, .int p4), (5, .int p5)]) hx hb dX9_mayGo_11 hl (by decide) rfl (fun ls hl => ?_)
  refine lv_iload hx hb dX9_mayGo_13 (lv_at hl 0 rfl) ?_
  refine lv_aload_n hx hb dX9_mayGo_15 rfl (lv_at hl 1 rfl) ?_
  refine g9_30 (x := ((σ 9).1 30)) hx hb hts hown hK hP (rfl) (hts _ q1390) dX9_mayGo_16 ?_
  refine lv_aload_n hx hb dX9_mayGo_19 rfl (lv_at hl 1 rfl) ?_
  refine g9_33 hx hb hts hown hK hP (hts _ q1393) dX9_mayGo_20 ?_
  refine lv_iload_n hx hb dX9_mayGo_23 rfl (lv_at hl 2 rfl) ?_
  obtain ⟨x5, ex5⟩ : ∃ z, (σ 9).2.2.1 33 p1.toInt.toNat = z := ⟨_, rfl⟩
  refine l9_33 (x := x5) hx hb hK hP (vpo (by have f0 := h0; have g0 := rg32 p1; omega)) ex5 dX9_mayGo_24 ?_
  refine lv_imul hx hb dX9_mayGo_25 ?_
  refine lv_topi (fun x6 ex6 => ?_)
  refine lv_icmp_le (tgt := 31) hx hb dX9_mayGo_26 (by decide) (fun c7 => ?_) (fun c7 => ?_)
  ·
    have k8 := ple32 c7
    refine lv_aload_n hx hb dX9_mayGo_31 rfl (lv_at hl 1 rfl) ?_
    refine g9_34 hx hb hts hown hK hP (hts _ q1394) dX9_mayGo_32 ?_
    refine lv_iload_n hx hb dX9_mayGo_35 rfl (lv_at hl 2 rfl) ?_
    obtain ⟨x9, ex9⟩ : ∃ z, (σ 9).2.2.1 34 p1.toInt.toNat = z := ⟨_, rfl⟩
    refine l9_34 (x := x9) hx hb hK hP (vpo (by have f0 := h0; have g0 := rg32 p1; omega)) ex9 dX9_mayGo_36 ?_
    refine lv_if_ne (tgt := 42) hx hb dX9_mayGo_37 (by decide) (fun c10 => ?_) (fun c10 => ?_)
    ·
      have k11 := neq32 c10
      refine lv_iload_n hx hb dX9_mayGo_42 rfl (lv_at hl 4 rfl) ?_
      refine lv_iload hx hb dX9_mayGo_43 (lv_at hl 6 rfl) ?_
      refine lv_isub hx hb dX9_mayGo_45 ?_
      refine lv_topi (fun x12 ex12 => ?_)
      refine va_calli (va_runS (As := [.int x12]) (rest := []) ⟨hx, hb, hml, hown, hts⟩ (m_X9_size l D cy g σ x12 _ hJ ) (va_cwS 1 hts (gd_S q1778 q1779 q134 q1780) rfl rfl rfl (by decide +kernel) ⟨Nat.le_of_ble_eq_true rfl, Nat.le_of_ble_eq_true rfl⟩) (ps9 hP hK hD hC hS) rfl rfl hl.1 rfl (lv_room (Nat.le_of_ble_eq_true rfl)) dX9_mayGo_46 ⟨Nat.le_of_ble_eq_true rfl, Nat.le_of_ble_eq_true rfl⟩) hS (fun q _ h => up9 hS q h) (up9 hS) (fun r13 σ14 tS H1 locs ht hvm hw15 hB hz1 hk1 hS => ?_)
      have hP : va_P D clz (WD9 cy g σ14) H1 := by rw [← ht]; exact hB
      clear hB hz1 hk1 hvm ht
      generalize H1 = H at hP hS ⊢
      have hw15E : σ = σ14 := (hw15.1).symm
      subst hw15E
      have b16 : r13 = sizeF x12 := hw15.2.1
      refine lv_iconst (v := 1) hx hb dX9_mayGo_49 (by decide) ?_
      refine lv_icmp_gt (tgt := 85) hx hb dX9_mayGo_50 (by decide) (fun c17 => ?_) (fun c17 => ?_)
      ·
        have k18 := plt32 c17
        refine lv_iconst (v := 0) hx hb dX9_mayGo_85 (by decide) ?_
        exact W.zret (v := 0) hx hb hr rfl (fun tS ht hW => ⟨⟨0, σ, rfl, ⟨rfl, (show (0 : Int) ≤ (0 : Int32).toInt ∧ (0 : Int32).toInt ≤ 1 from (by have z0 : (0 : Int32).toInt = 0 := (by decide); omega)), (show (0 : Int32) = goF (((σ 9)).2.2.1 18 (7 * (((σ 9)).1 28).toInt.toNat)) (((σ 9)).1 30) (((σ 9)).2.2.1 33 p1.toInt.toNat) (((σ 9)).2.2.1 34 p1.toInt.toNat) p2 p3 p4 p5 from (by show (0 : Int32) = goF (((σ 9)).2.2.1 18 (7 * ((σ 9).1 28).toInt.toNat)) ((σ 9).1 30) ((σ 9).2.2.1 33 p1.toInt.toNat) ((σ 9).2.2.1 34 p1.toInt.toNat) p2 p3 p4 p5; unfold goF; rw [ex5, ← b4, ← ex6]; unfold goV; rw [if_neg (Int32.not_lt.mpr c7)]; rw [if_neg (fun q => c10 (ex9.symm.trans q))]; rw [← ex12, ← b16]; rw [if_pos c17])), trivial⟩, (show va_P D clz (WD9 cy g σ) tS.heap by rw [ht]; exact hP)⟩, hS.F ht⟩) hS.2.2 dX9_mayGo_86
      ·
        have k19 := nlt32 c17
        refine lv_aload_n hx hb dX9_mayGo_53 rfl (lv_at hl 1 rfl) ?_
        refine g9_18 hx hb hts hown hK hP (hts _ q1378) dX9_mayGo_54 ?_
        refine lv_bipush (v := 7) hx hb dX9_mayGo_57 (by decide) ?_
        refine lv_aload_n hx hb dX9_mayGo_59 rfl (lv_at hl 1 rfl) ?_
        refine g9_28 (x := ((σ 9).1 28)) hx hb hts hown hK hP (rfl) (hts _ q1388) dX9_mayGo_60 ?_
        refine lv_imul hx hb dX9_mayGo_63 ?_
        refine lv_topi (fun x20 ex20 => ?_)
        have t21 := mulC' (n := 7) ex20 (by decide) (by have f0 := j9_28 hJ rfl; omega)
        obtain ⟨x22, ex22⟩ : ∃ z, (σ 9).2.2.1 18 x20.toInt.toNat = z := ⟨_, rfl⟩
        refine l9_18 (x := x22) hx hb hK hP (vpo (by have f0 := t21; have f1 := j9_28 hJ rfl; have g1 := rg32 x20; omega)) ex22 dX9_mayGo_64 ?_
        have t23 := a9_18 hJ ex22
        refine lv_iconst (v := 2) hx hb dX9_mayGo_65 (by decide) ?_
        refine lv_icmp_ne (tgt := 81) hx hb dX9_mayGo_66 (by decide) (fun c24 => ?_) (fun c24 => ?_)
        ·
          have k25 := neq32 c24
          refine lv_iconst (v := 1) hx hb dX9_mayGo_81 (by decide) ?_
          refine lv_goto (tgt := 86) hx hb dX9_mayGo_82 (by decide) ?_
          exact W.zret (v := 1) hx hb hr rfl (fun tS ht hW => ⟨⟨1, σ, rfl, ⟨rfl, (show (0 : Int) ≤ (1 : Int32).toInt ∧ (1 : Int32).toInt ≤ 1 from (by have z1 : (1 : Int32).toInt = 1 := (by decide); omega)), (show (1 : Int32) = goF (((σ 9)).2.2.1 18 (7 * (((σ 9)).1 28).toInt.toNat)) (((σ 9)).1 30) (((σ 9)).2.2.1 33 p1.toInt.toNat) (((σ 9)).2.2.1 34 p1.toInt.toNat) p2 p3 p4 p5 from (by show (1 : Int32) = goF (((σ 9)).2.2.1 18 (7 * ((σ 9).1 28).toInt.toNat)) ((σ 9).1 30) ((σ 9).2.2.1 33 p1.toInt.toNat) ((σ 9).2.2.1 34 p1.toInt.toNat) p2 p3 p4 p5; unfold goF; rw [ex5, ← b4, ← ex6]; unfold goV; rw [if_neg (Int32.not_lt.mpr c7)]; rw [if_neg (fun q => c10 (ex9.symm.trans q))]; rw [← ex12, ← b16]; rw [if_neg c17]; rw [if_neg (fun q => c24 ((show ((σ 9).2.2.1 18 (7 * ((σ 9).1 28).toInt.toNat)) = x22 from by rw [show 7 * ((σ 9).1 28).toInt.toNat = x20.toInt.toNat from (by have f0 := j9_28 hJ rfl; have f1 := t21; have f2 := t23; have f3 := k25; have g1 := rg32 x20; have z2 : (2 : Int32).toInt = 2 := (by decide); omega)]; exact ex22).symm.trans q))])), trivial⟩, (show va_P D clz (WD9 cy g σ) tS.heap by rw [ht]; exact hP)⟩, hS.F ht⟩) hS.2.2 dX9_mayGo_86
        ·
          have k26 := peq32 c24
          refine lv_iload_n hx hb dX9_mayGo_69 rfl (lv_at hl 4 rfl) ?_
          refine lv_iload hx hb dX9_mayGo_70 (lv_at hl 6 rfl) ?_
          refine lv_icmp_eq (tgt := 81) hx hb dX9_mayGo_72 (by decide) (fun c27 => ?_) (fun c27 => ?_)
          ·
            have k28 := peq32 c27
            refine lv_iconst (v := 1) hx hb dX9_mayGo_81 (by decide) ?_
            refine lv_goto (tgt := 86) hx hb dX9_mayGo_82 (by decide) ?_
            exact W.zret (v := 1) hx hb hr rfl (fun tS ht hW => ⟨⟨1, σ, rfl, ⟨rfl, (show (0 : Int) ≤ (1 : Int32).toInt ∧ (1 : Int32).toInt ≤ 1 from (by have z1 : (1 : Int32).toInt = 1 := (by decide); omega)), (show (1 : Int32) = goF (((σ 9)).2.2.1 18 (7 * (((σ 9)).1 28).toInt.toNat)) (((σ 9)).1 30) (((σ 9)).2.2.1 33 p1.toInt.toNat) (((σ 9)).2.2.1 34 p1.toInt.toNat) p2 p3 p4 p5 from (by show (1 : Int32) = goF (((σ 9)).2.2.1 18 (7 * ((σ 9).1 28).toInt.toNat)) ((σ 9).1 30) ((σ 9).2.2.1 33 p1.toInt.toNat) ((σ 9).2.2.1 34 p1.toInt.toNat) p2 p3 p4 p5; unfold goF; rw [ex5, ← b4, ← ex6]; unfold goV; rw [if_neg (Int32.not_lt.mpr c7)]; rw [if_neg (fun q => c10 (ex9.symm.trans q))]; rw [← ex12, ← b16]; rw [if_neg c17]; rw [if_pos ((show ((σ 9).2.2.1 18 (7 * ((σ 9).1 28).toInt.toNat)) = x22 from by rw [show 7 * ((σ 9).1 28).toInt.toNat = x20.toInt.toNat from (by have f0 := j9_28 hJ rfl; have f1 := t21; have f2 := t23; have f3 := k26; have g1 := rg32 x20; have z2 : (2 : Int32).toInt = 2 := (by decide); omega)]; exact ex22).trans c24)]; rw [if_pos c27])), trivial⟩, (show va_P D clz (WD9 cy g σ) tS.heap by rw [ht]; exact hP)⟩, hS.F ht⟩) hS.2.2 dX9_mayGo_86
          ·
            have k29 := neq32 c27
            refine lv_iload hx hb dX9_mayGo_75 (lv_at hl 0 rfl) ?_
            refine lv_iconst (v := 1) hx hb dX9_mayGo_77 (by decide) ?_
            refine lv_icmp_gt (tgt := 85) hx hb dX9_mayGo_78 (by decide) (fun c30 => ?_) (fun c30 => ?_)
            ·
              have k31 := plt32 c30
              refine lv_iconst (v := 0) hx hb dX9_mayGo_85 (by decide) ?_
              exact W.zret (v := 0) hx hb hr rfl (fun tS ht hW => ⟨⟨0, σ, rfl, ⟨rfl, (show (0 : Int) ≤ (0 : Int32).toInt ∧ (0 : Int32).toInt ≤ 1 from (by have z0 : (0 : Int32).toInt = 0 := (by decide); omega)), (show (0 : Int32) = goF (((σ 9)).2.2.1 18 (7 * (((σ 9)).1 28).toInt.toNat)) (((σ 9)).1 30) (((σ 9)).2.2.1 33 p1.toInt.toNat) (((σ 9)).2.2.1 34 p1.toInt.toNat) p2 p3 p4 p5 from (by show (0 : Int32) = goF (((σ 9)).2.2.1 18 (7 * ((σ 9).1 28).toInt.toNat)) ((σ 9).1 30) ((σ 9).2.2.1 33 p1.toInt.toNat) ((σ 9).2.2.1 34 p1.toInt.toNat) p2 p3 p4 p5; unfold goF; rw [ex5, ← b4, ← ex6]; unfold goV; rw [if_neg (Int32.not_lt.mpr c7)]; rw [if_neg (fun q => c10 (ex9.symm.trans q))]; rw [← ex12, ← b16]; rw [if_neg c17]; rw [if_pos ((show ((σ 9).2.2.1 18 (7 * ((σ 9).1 28).toInt.toNat)) = x22 from by rw [show 7 * ((σ 9).1 28).toInt.toNat = x20.toInt.toNat from (by have f0 := j9_28 hJ rfl; have f1 := t21; have f2 := t23; have f3 := k26; have g1 := rg32 x20; have z2 : (2 : Int32).toInt = 2 := (by decide); omega)]; exact ex22).trans c24)]; rw [if_neg c27]; rw [if_pos c30])), trivial⟩, (show va_P D clz (WD9 cy g σ) tS.heap by rw [ht]; exact hP)⟩, hS.F ht⟩) hS.2.2 dX9_mayGo_86
            ·
              have k32 := nlt32 c30
              refine lv_iconst (v := 1) hx hb dX9_mayGo_81 (by decide) ?_
              refine lv_goto (tgt := 86) hx hb dX9_mayGo_82 (by decide) ?_
              exact W.zret (v := 1) hx hb hr rfl (fun tS ht hW => ⟨⟨1, σ, rfl, ⟨rfl, (show (0 : Int) ≤ (1 : Int32).toInt ∧ (1 : Int32).toInt ≤ 1 from (by have z1 : (1 : Int32).toInt = 1 := (by decide); omega)), (show (1 : Int32) = goF (((σ 9)).2.2.1 18 (7 * (((σ 9)).1 28).toInt.toNat)) (((σ 9)).1 30) (((σ 9)).2.2.1 33 p1.toInt.toNat) (((σ 9)).2.2.1 34 p1.toInt.toNat) p2 p3 p4 p5 from (by show (1 : Int32) = goF (((σ 9)).2.2.1 18 (7 * ((σ 9).1 28).toInt.toNat)) ((σ 9).1 30) ((σ 9).2.2.1 33 p1.toInt.toNat) ((σ 9).2.2.1 34 p1.toInt.toNat) p2 p3 p4 p5; unfold goF; rw [ex5, ← b4, ← ex6]; unfold goV; rw [if_neg (Int32.not_lt.mpr c7)]; rw [if_neg (fun q => c10 (ex9.symm.trans q))]; rw [← ex12, ← b16]; rw [if_neg c17]; rw [if_pos ((show ((σ 9).2.2.1 18 (7 * ((σ 9).1 28).toInt.toNat)) = x22 from by rw [show 7 * ((σ 9).1 28).toInt.toNat = x20.toInt.toNat from (by have f0 := j9_28 hJ rfl; have f1 := t21; have f2 := t23; have f3 := k26; have g1 := rg32 x20; have z2 : (2 : Int32).toInt = 2 := (by decide); omega)]; exact ex22).trans c24)]; rw [if_neg c27]; rw [if_neg c30])), trivial⟩, (show va_P D clz (WD9 cy g σ) tS.heap by rw [ht]; exact hP)⟩, hS.F ht⟩) hS.2.2 dX9_mayGo_86
    ·
      have k33 := peq32 c10
      refine lv_iconst (v := 1) hx hb dX9_mayGo_40 (by decide) ?_
      exact W.zret (v := 1) hx hb hr rfl (fun tS ht hW => ⟨⟨1, σ, rfl, ⟨rfl, (show (0 : Int) ≤ (1 : Int32).toInt ∧ (1 : Int32).toInt ≤ 1 from (by have z1 : (1 : Int32).toInt = 1 := (by decide); omega)), (show (1 : Int32) = goF (((σ 9)).2.2.1 18 (7 * (((σ 9)).1 28).toInt.toNat)) (((σ 9)).1 30) (((σ 9)).2.2.1 33 p1.toInt.toNat) (((σ 9)).2.2.1 34 p1.toInt.toNat) p2 p3 p4 p5 from (by show (1 : Int32) = goF (((σ 9)).2.2.1 18 (7 * ((σ 9).1 28).toInt.toNat)) ((σ 9).1 30) ((σ 9).2.2.1 33 p1.toInt.toNat) ((σ 9).2.2.1 34 p1.toInt.toNat) p2 p3 p4 p5; unfold goF; rw [ex5, ← b4, ← ex6]; unfold goV; rw [if_neg (Int32.not_lt.mpr c7)]; rw [if_pos (ex9.trans c10)])), trivial⟩, (show va_P D clz (WD9 cy g σ) tS.heap by rw [ht]; exact hP)⟩, hS.F ht⟩) hS.2.2 dX9_mayGo_41
  ·
    have k34 := nle32 c7
    refine lv_iconst (v := 0) hx hb dX9_mayGo_29 (by decide) ?_
    exact W.zret (v := 0) hx hb hr rfl (fun tS ht hW => ⟨⟨0, σ, rfl, ⟨rfl, (show (0 : Int) ≤ (0 : Int32).toInt ∧ (0 : Int32).toInt ≤ 1 from (by have z0 : (0 : Int32).toInt = 0 := (by decide); omega)), (show (0 : Int32) = goF (((σ 9)).2.2.1 18 (7 * (((σ 9)).1 28).toInt.toNat)) (((σ 9)).1 30) (((σ 9)).2.2.1 33 p1.toInt.toNat) (((σ 9)).2.2.1 34 p1.toInt.toNat) p2 p3 p4 p5 from (by show (0 : Int32) = goF (((σ 9)).2.2.1 18 (7 * ((σ 9).1 28).toInt.toNat)) ((σ 9).1 30) ((σ 9).2.2.1 33 p1.toInt.toNat) ((σ 9).2.2.1 34 p1.toInt.toNat) p2 p3 p4 p5; unfold goF; rw [ex5, ← b4, ← ex6]; unfold goV; rw [if_pos (Int32.not_le.mp c7)])), trivial⟩, (show va_P D clz (WD9 cy g σ) tS.heap by rw [ht]; exact hP)⟩, hS.F ht⟩) hS.2.2 dX9_mayGo_30

theorem q1857 : Cond.code yX9_mayGo_ cX9_mayGo_ 4 (some .boolean) ∈ lw_g := lw_gm (List.mem_of_getElem? (i := 1857) (by decide +kernel)) rfl
theorem q1386 : Cond.fieldLink RX9 59 "LipsAndSlidesModel" "waySetting" "[I" ∈ lw_g := lw_gm (List.mem_of_getElem? (i := 1386) (by decide +kernel)) rfl
theorem q1385 : Cond.fieldLink RX9 56 "LipsAndSlidesModel" "wayPartial" "[I" ∈ lw_g := lw_gm (List.mem_of_getElem? (i := 1385) (by decide +kernel)) rfl
theorem q1858 : Cond.methodLink RX9 399 yX9_mayGo ∈ lw_g := lw_gm (List.mem_of_getElem? (i := 1858) (by decide +kernel)) rfl
theorem q1860 : Cond.instanceMethod yX9_mayGo ∈ lw_g := lw_gm (List.mem_of_getElem? (i := 1860) (by decide +kernel)) rfl
theorem q96 : Cond.selects RX9 yX9_mayGo yX9_mayGo ∈ lw_g := lw_gm (List.mem_of_getElem? (i := 96) (by decide +kernel)) rfl
theorem dX9_mayGo__0 : decode cX9_mayGo_ 0 = .ok (.aload_n 0, 1) := by decide +kernel
theorem dX9_mayGo__1 : decode cX9_mayGo_ 1 = .ok (.iload_n 1, 1) := by decide +kernel
theorem dX9_mayGo__2 : decode cX9_mayGo_ 2 = .ok (.aload_n 0, 1) := by decide +kernel
theorem dX9_mayGo__3 : decode cX9_mayGo_ 3 = .ok (.getfield 59, 3) := by decide +kernel
theorem dX9_mayGo__6 : decode cX9_mayGo_ 6 = .ok (.bipush 88, 2) := by decide +kernel
theorem dX9_mayGo__8 : decode cX9_mayGo_ 8 = .ok (.iload_n 1, 1) := by decide +kernel
theorem dX9_mayGo__9 : decode cX9_mayGo_ 9 = .ok (.imul, 1) := by decide +kernel
theorem dX9_mayGo__10 : decode cX9_mayGo_ 10 = .ok (.iload_n 2, 1) := by decide +kernel
theorem dX9_mayGo__11 : decode cX9_mayGo_ 11 = .ok (.iadd, 1) := by decide +kernel
theorem dX9_mayGo__12 : decode cX9_mayGo_ 12 = .ok (.iaload, 1) := by decide +kernel
theorem dX9_mayGo__13 : decode cX9_mayGo_ 13 = .ok (.aload_n 0, 1) := by decide +kernel
theorem dX9_mayGo__14 : decode cX9_mayGo_ 14 = .ok (.getfield 56, 3) := by decide +kernel
theorem dX9_mayGo__17 : decode cX9_mayGo_ 17 = .ok (.bipush 88, 2) := by decide +kernel
theorem dX9_mayGo__19 : decode cX9_mayGo_ 19 = .ok (.iload_n 1, 1) := by decide +kernel
theorem dX9_mayGo__20 : decode cX9_mayGo_ 20 = .ok (.imul, 1) := by decide +kernel
theorem dX9_mayGo__21 : decode cX9_mayGo_ 21 = .ok (.iload_n 2, 1) := by decide +kernel
theorem dX9_mayGo__22 : decode cX9_mayGo_ 22 = .ok (.iadd, 1) := by decide +kernel
theorem dX9_mayGo__23 : decode cX9_mayGo_ 23 = .ok (.iaload, 1) := by decide +kernel
theorem dX9_mayGo__24 : decode cX9_mayGo_ 24 = .ok (.aload_n 0, 1) := by decide +kernel
theorem dX9_mayGo__25 : decode cX9_mayGo_ 25 = .ok (.getfield 59, 3) := by decide +kernel
theorem dX9_mayGo__28 : decode cX9_mayGo_ 28 = .ok (.bipush 88, 2) := by decide +kernel
theorem dX9_mayGo__30 : decode cX9_mayGo_ 30 = .ok (.iload_n 1, 1) := by decide +kernel
theorem dX9_mayGo__31 : decode cX9_mayGo_ 31 = .ok (.iconst 1, 1) := by decide +kernel
theorem dX9_mayGo__32 : decode cX9_mayGo_ 32 = .ok (.iadd, 1) := by decide +kernel
theorem dX9_mayGo__33 : decode cX9_mayGo_ 33 = .ok (.imul, 1) := by decide +kernel
theorem dX9_mayGo__34 : decode cX9_mayGo_ 34 = .ok (.iload_n 3, 1) := by decide +kernel
theorem dX9_mayGo__35 : decode cX9_mayGo_ 35 = .ok (.iadd, 1) := by decide +kernel
theorem dX9_mayGo__36 : decode cX9_mayGo_ 36 = .ok (.iaload, 1) := by decide +kernel
theorem dX9_mayGo__37 : decode cX9_mayGo_ 37 = .ok (.aload_n 0, 1) := by decide +kernel
theorem dX9_mayGo__38 : decode cX9_mayGo_ 38 = .ok (.getfield 56, 3) := by decide +kernel
theorem dX9_mayGo__41 : decode cX9_mayGo_ 41 = .ok (.bipush 88, 2) := by decide +kernel
theorem dX9_mayGo__43 : decode cX9_mayGo_ 43 = .ok (.iload_n 1, 1) := by decide +kernel
theorem dX9_mayGo__44 : decode cX9_mayGo_ 44 = .ok (.iconst 1, 1) := by decide +kernel
theorem dX9_mayGo__45 : decode cX9_mayGo_ 45 = .ok (.iadd, 1) := by decide +kernel
theorem dX9_mayGo__46 : decode cX9_mayGo_ 46 = .ok (.imul, 1) := by decide +kernel
theorem dX9_mayGo__47 : decode cX9_mayGo_ 47 = .ok (.iload_n 3, 1) := by decide +kernel
theorem dX9_mayGo__48 : decode cX9_mayGo_ 48 = .ok (.iadd, 1) := by decide +kernel
theorem dX9_mayGo__49 : decode cX9_mayGo_ 49 = .ok (.iaload, 1) := by decide +kernel
theorem dX9_mayGo__50 : decode cX9_mayGo_ 50 = .ok (.invokevirtual 399, 3) := by decide +kernel
theorem dX9_mayGo__53 : decode cX9_mayGo_ 53 = .ok (.ireturn, 1) := by decide +kernel
set_option maxHeartbeats 4000000 in
set_option maxRecDepth 100000 in
theorem m_X9_mayGo_ (l : Launch) (D : va_G) (cy : Nat → ClassId) (g : Nat → Nat) (σ : ST) (p1 : Int32) (p2 : Int32) (p3 : Int32) (sz : Nat) (hJ : J9 (σ 9)) (h0 : (0 : Int) ≤ p1.toInt ∧ p1.toInt ≤ 14) (h1 : (0 : Int) ≤ p2.toInt ∧ p2.toInt ≤ 87) (h2 : (0 : Int) ≤ p3.toInt ∧ p3.toInt ≤ 87) : Met l yX9_mayGo_ (ww yX9_mayGo_ cX9_mayGo_ 4 (some .boolean)) ({ frames := 4, cells := 0, slots := 0, locals := 256 }) (va_Pc [.ref (g 60), .int p1, .int p2, .int p3] (pr9 D cy g σ sz)) (qi9 D cy g sz (fun r τ => τ = σ ∧ ((0 : Int) ≤ r.toInt ∧ r.toInt ≤ 1) ∧ (r = goW (σ 9) p1.toInt.toNat p2.toInt.toNat p3.toInt.toNat) ∧ True)) 0 0 (A9 cy g sz) := by
  refine Met.ofW (cc := cX9_mayGo_) (maxL := 4) (ret := (some .boolean)) (by decide) rfl ?_
  intro p e s m args below meth c s₁ B hml hv
  obtain ⟨rfl, hsz, hP, hK, hD0, hC⟩ := hv
  have hx := B.exec
  have hb := B.bytes
  have hr := B.returns
  have hts := hts_g (atoms_spec (ws := ww yX9_mayGo_ cX9_mayGo_ 4 (some .boolean)) B.pre)
  have hown : s.vm.findClass RX9 = some m.cls := findClass_of_methodNamed B.named
  have hlocks := B.notSynchronized
  clear B
  subst hsz
  have hD := fun τ => A9_D (sz := s.heap.size) hD0 τ
  clear hD0
  have hS : va_S (A9 cy g s.heap.size) s.heap s.heap [] := va_S.rf
  have hl := lv_entry ([.ref (g 60), .int p1, .int p2, .int p3]) (n := 4) (Nat.le_of_ble_eq_true rfl)
  rw [lg_entry_eq]
  generalize (lg_sl ([.ref (g 60), .int p1, .int p2, .int p3]) ++ List.replicate (4 - (lg_sl ([.ref (g 60), .int p1, .int p2, .int p3])).length) Slot.unset).toArray = ls at hl ⊢
  have hl : lv_has ls 4 [(0, .ref (g 60)), (1, .int p1), (2, .int p2), (3, .int p3)] := hl
  refine lv_aload_n hx hb dX9_mayGo__0 rfl (lv_at hl 0 rfl) ?_
  refine lv_iload_n hx hb dX9_mayGo__1 rfl (lv_at hl 1 rfl) ?_
  refine lv_aload_n hx hb dX9_mayGo__2 rfl (lv_at hl 0 rfl) ?_
  refine g9_26 hx hb hts hown hK hP (hts _ q1386) dX9_mayGo__3 ?_
  refine lv_bipush (v := 88) hx hb dX9_mayGo__6 (by decide) ?_
  refine lv_iload_n hx hb dX9_mayGo__8 rfl (lv_at hl 1 rfl) ?_
  refine lv_imul hx hb dX9_mayGo__9 ?_
  refine lv_topi (fun x1 ex1 => ?_)
  have t2 := mulC' (n := 88) ex1 (by decide) (by have f0 := h0; have g0 := rg32 p1; omega)
  refine lv_iload_n hx hb dX9_mayGo__10 rfl (lv_at hl 2 rfl) ?_
  refine lv_iadd hx hb dX9_mayGo__11 ?_
  refine lv_topi (fun x3 ex3 => ?_)
  have t4 := addO ex3 (by have f0 := h1; have f1 := t2; have f2 := h0; have g0 := rg32 p2; have g1 := rg32 x1; omega)
  obtain ⟨x5, ex5⟩ : ∃ z, (σ 9).2.2.1 26 x3.toInt.toNat = z := ⟨_, rfl⟩
  refine l9_26 (x := x5) hx hb hK hP (vpo (by have f0 := t4; have f1 := h1; have f2 := t2; have f3 := h0; have g0 := rg32 x3; omega)) ex5 dX9_mayGo__12 ?_
  have t6 := a9_26 hJ ex5
  refine lv_aload_n hx hb dX9_mayGo__13 rfl (lv_at hl 0 rfl) ?_
  refine g9_25 hx hb hts hown hK hP (hts _ q1385) dX9_mayGo__14 ?_
  refine lv_bipush (v := 88) hx hb dX9_mayGo__17 (by decide) ?_
  refine lv_iload_n hx hb dX9_mayGo__19 rfl (lv_at hl 1 rfl) ?_
  refine lv_imul hx hb dX9_mayGo__20 ?_
  refine lv_topi (fun x7 ex7 => ?_)
  have t8 := mulC' (n := 88) ex7 (by decide) (by have f0 := h0; have f1 := t2; have f2 := t4; have f3 := h1; have f4 := t6; have g0 := rg32 p1; omega)
  refine lv_iload_n hx hb dX9_mayGo__21 rfl (lv_at hl 2 rfl) ?_
  refine lv_iadd hx hb dX9_mayGo__22 ?_
  refine lv_topi (fun x9 ex9 => ?_)
  have t10 := addO ex9 (by have f0 := h1; have f1 := t4; have f2 := t8; have f3 := h0; have f4 := t2; have f5 := t6; have g0 := rg32 p2; have g1 := rg32 x7; omega)
  obtain ⟨x11, ex11⟩ : ∃ z, (σ 9).2.2.1 25 x9.toInt.toNat = z := ⟨_, rfl⟩
  refine l9_25 (x := x11) hx hb hK hP (vpo (by have f0 := t10; have f1 := h1; have f2 := t4; have f3 := t8; have f4 := h0; have f5 := t2; have f6 := t6; have g0 := rg32 x9; omega)) ex11 dX9_mayGo__23 ?_
  refine lv_aload_n hx hb dX9_mayGo__24 rfl (lv_at hl 0 rfl) ?_
  refine g9_26 hx hb hts hown hK hP (hts _ q1386) dX9_mayGo__25 ?_
  refine lv_bipush (v := 88) hx hb dX9_mayGo__28 (by decide) ?_
  refine lv_iload_n hx hb dX9_mayGo__30 rfl (lv_at hl 1 rfl) ?_
  refine lv_iconst (v := 1) hx hb dX9_mayGo__31 (by decide) ?_
  refine lv_iadd hx hb dX9_mayGo__32 ?_
  refine lv_topi (fun x12 ex12 => ?_)
  have t13 := addO ex12 (by have f0 := h0; have f1 := t2; have f2 := t8; have f3 := t4; have f4 := t10; have f5 := h1; have f6 := t6; have g0 := rg32 p1; have z1 : (1 : Int32).toInt = 1 := (by decide); omega)
  refine lv_imul hx hb dX9_mayGo__33 ?_
  refine lv_topi (fun x14 ex14 => ?_)
  have t15 := mulC' (n := 88) ex14 (by decide) (by have f0 := t13; have f1 := h0; have f2 := t2; have f3 := t8; have f4 := t4; have f5 := t10; have f6 := h1; have f7 := t6; have g0 := rg32 x12; have z1 : (1 : Int32).toInt = 1 := (by decide); omega)
  refine lv_iload_n hx hb dX9_mayGo__34 rfl (lv_at hl 3 rfl) ?_
  refine lv_iadd hx hb dX9_mayGo__35 ?_
  refine lv_topi (fun x16 ex16 => ?_)
  have t17 := addO ex16 (by have f0 := h2; have f1 := t15; have f2 := t13; have f3 := h0; have f4 := t2; have f5 := t8; have f6 := t4; have f7 := t10; have f8 := h1; have f9 := t6; have g0 := rg32 p3; have g1 := rg32 x14; have z1 : (1 : Int32).toInt = 1 := (by decide); omega)
  obtain ⟨x18, ex18⟩ : ∃ z, (σ 9).2.2.1 26 x16.toInt.toNat = z := ⟨_, rfl⟩
  refine l9_26 (x := x18) hx hb hK hP (vpo (by have f0 := t17; have f1 := h2; have f2 := t15; have f3 := t13; have f4 := h0; have f5 := t2; have f6 := t8; have f7 := t4; have f8 := t10; have f9 := h1; have f10 := t6; have g0 := rg32 x16; have z1 : (1 : Int32).toInt = 1 := (by decide); omega)) ex18 dX9_mayGo__36 ?_
  have t19 := a9_26 hJ ex18
  refine lv_aload_n hx hb dX9_mayGo__37 rfl (lv_at hl 0 rfl) ?_
  refine g9_25 hx hb hts hown hK hP (hts _ q1385) dX9_mayGo__38 ?_
  refine lv_bipush (v := 88) hx hb dX9_mayGo__41 (by decide) ?_
  refine lv_iload_n hx hb dX9_mayGo__43 rfl (lv_at hl 1 rfl) ?_
  refine lv_iconst (v := 1) hx hb dX9_mayGo__44 (by decide) ?_
  refine lv_iadd hx hb dX9_mayGo__45 ?_
  refine lv_topi (fun x20 ex20 => ?_)
  have t21 := addO ex20 (by have f0 := h0; have f1 := t2; have f2 := t8; have f3 := t13; have f4 := t4; have f5 := t10; have f6 := t15; have f7 := h1; have f8 := t6; have f9 := t17; have f10 := h2; have f11 := t19; have g0 := rg32 p1; have z1 : (1 : Int32).toInt = 1 := (by decide); omega)
  refine lv_imul hx hb dX9_mayGo__46 ?_
  refine lv_topi (fun x22 ex22 => ?_)
  have t23 := mulC' (n := 88) ex22 (by decide) (by have f0 := t21; have f1 := h0; have f2 := t2; have f3 := t8; have f4 := t13; have f5 := t4; have f6 := t10; have f7 := t15; have f8 := h1; have f9 := t6; have f10 := t17; have f11 := h2; have f12 := t19; have g0 := rg32 x20; have z1 : (1 : Int32).toInt = 1 := (by decide); omega)
  refine lv_iload_n hx hb dX9_mayGo__47 rfl (lv_at hl 3 rfl) ?_
  refine lv_iadd hx hb dX9_mayGo__48 ?_
  refine lv_topi (fun x24 ex24 => ?_)
  have t25 := addO ex24 (by have f0 := h2; have f1 := t17; have f2 := t23; have f3 := t15; have f4 := t19; have f5 := t21; have f6 := h0; have f7 := t2; have f8 := t8; have f9 := t13; have f10 := t4; have f11 := t10; have f12 := h1; have f13 := t6; have g0 := rg32 p3; have g1 := rg32 x22; have z1 : (1 : Int32).toInt = 1 := (by decide); omega)
  obtain ⟨x26, ex26⟩ : ∃ z, (σ 9).2.2.1 25 x24.toInt.toNat = z := ⟨_, rfl⟩
  refine l9_25 (x := x26) hx hb hK hP (vpo (by have f0 := t25; have f1 := h2; have f2 := t17; have f3 := t23; have f4 := t15; have f5 := t19; have f6 := t21; have f7 := h0; have f8 := t2; have f9 := t8; have f10 := t13; have f11 := t4; have f12 := t10; have f13 := h1; have f14 := t6; have g0 := rg32 x24; have z1 : (1 : Int32).toInt = 1 := (by decide); omega)) ex26 dX9_mayGo__49 ?_
  refine va_calli (va_runV (As := [.int p1, .int x5, .int x11, .int x18, .int x26]) (rest := []) ⟨hx, hb, hml, hown, hts⟩ (m_X9_mayGo l D cy g σ p1 x5 x11 x18 x26 _ hJ (show (0 : Int) ≤ p1.toInt ∧ p1.toInt ≤ 15 from (by have f0 := h0; have f1 := t2; have f2 := t8; have f3 := t13; have f4 := t21; have f5 := t4; have f6 := t10; have f7 := t15; have f8 := t23; have f9 := h1; have f10 := t6; have f11 := t17; have f12 := t25; have f13 := h2; have f14 := t19; have g0 := rg32 p1; have z1 : (1 : Int32).toInt = 1 := (by decide); omega))) (cwV 5 hts (gd_V q1858 q1860 q96 q134 q1861) rfl rfl rfl (by decide +kernel) ⟨Nat.le_of_ble_eq_true rfl, Nat.le_of_ble_eq_true rfl⟩) (pv9 hP hK hD hC hS (va_recv hK hP (ci := 9) (q0 := 0) rfl rfl)) rfl rfl hl.1 rfl (lv_room (Nat.le_of_ble_eq_true rfl)) dX9_mayGo__50 ⟨Nat.le_of_ble_eq_true rfl, Nat.le_of_ble_eq_true rfl⟩) hS (fun q _ h => up9 hS q h) (up9 hS) (fun r27 σ28 tS H1 locs ht hvm hw29 hB hz1 hk1 hS => ?_)
  have hP : va_P D clz (WD9 cy g σ28) H1 := by rw [← ht]; exact hB
  clear hB hz1 hk1 hvm ht
  generalize H1 = H at hP hS ⊢
  have hw29E : σ = σ28 := (hw29.1).symm
  subst hw29E
  have b30 : (0 : Int) ≤ r27.toInt ∧ r27.toInt ≤ 1 := hw29.2.1
  have b31 : r27 = goF (((σ 9)).2.2.1 18 (7 * (((σ 9)).1 28).toInt.toNat)) (((σ 9)).1 30) (((σ 9)).2.2.1 33 p1.toInt.toNat) (((σ 9)).2.2.1 34 p1.toInt.toNat) x5 x11 x18 x26 := hw29.2.2.1
  exact W.zret (v := r27) hx hb hr (nrZ (by have f0 := b30; have g0 := rg32 r27; omega)) (fun tS ht hW => ⟨⟨r27, σ, rfl, ⟨rfl, (show (0 : Int) ≤ r27.toInt ∧ r27.toInt ≤ 1 from (by have f0 := b30; have g0 := rg32 r27; omega)), (show r27 = goW (σ 9) p1.toInt.toNat p2.toInt.toNat p3.toInt.toNat from (by unfold goW; rw [(show ((σ 9).2.2.1 26 (88 * p1.toInt.toNat + p2.toInt.toNat)) = x5 from by rw [show 88 * p1.toInt.toNat + p2.toInt.toNat = x3.toInt.toNat from (by have f0 := h0; have f1 := h1; have f2 := h2; have f3 := t2; have f4 := t4; have f5 := t6; have f6 := t8; have f7 := t10; have f8 := t13; have f9 := t17; have f10 := t21; have f11 := t25; have f12 := t15; have f13 := t19; have f14 := t23; have g0 := rg32 p1; have g1 := rg32 p2; have g2 := rg32 p3; have g3 := rg32 x3; have z1 : (1 : Int32).toInt = 1 := (by decide); omega)]; exact ex5), (show ((σ 9).2.2.1 25 (88 * p1.toInt.toNat + p2.toInt.toNat)) = x11 from by rw [show 88 * p1.toInt.toNat + p2.toInt.toNat = x9.toInt.toNat from (by have f0 := h0; have f1 := h1; have f2 := h2; have f3 := t2; have f4 := t4; have f5 := t8; have f6 := t10; have f7 := t13; have f8 := t17; have f9 := t21; have f10 := t25; have f11 := t6; have f12 := t15; have f13 := t19; have f14 := t23; have g0 := rg32 p1; have g1 := rg32 p2; have g2 := rg32 p3; have g3 := rg32 x9; have z1 : (1 : Int32).toInt = 1 := (by decide); omega)]; exact ex11), (show ((σ 9).2.2.1 26 (88 * (p1.toInt.toNat + 1) + p3.toInt.toNat)) = x18 from by rw [show 88 * (p1.toInt.toNat + 1) + p3.toInt.toNat = x16.toInt.toNat from (by have f0 := h0; have f1 := h1; have f2 := h2; have f3 := t2; have f4 := t4; have f5 := t8; have f6 := t10; have f7 := t13; have f8 := t17; have f9 := t19; have f10 := t21; have f11 := t25; have f12 := t6; have f13 := t15; have f14 := t23; have g0 := rg32 p1; have g1 := rg32 p2; have g2 := rg32 p3; have g3 := rg32 x16; have z1 : (1 : Int32).toInt = 1 := (by decide); omega)]; exact ex18), (show ((σ 9).2.2.1 25 (88 * (p1.toInt.toNat + 1) + p3.toInt.toNat)) = x26 from by rw [show 88 * (p1.toInt.toNat + 1) + p3.toInt.toNat = x24.toInt.toNat from (by have f0 := h0; have f1 := h1; have f2 := h2; have f3 := t2; have f4 := t4; have f5 := t8; have f6 := t10; have f7 := t13; have f8 := t17; have f9 := t21; have f10 := t25; have f11 := t6; have f12 := t15; have f13 := t19; have f14 := t23; have g0 := rg32 p1; have g1 := rg32 p2; have g2 := rg32 p3; have g3 := rg32 x24; have z1 : (1 : Int32).toInt = 1 := (by decide); omega)]; exact ex26)]; exact b31)), trivial⟩, (show va_P D clz (WD9 cy g σ) tS.heap by rw [ht]; exact hP)⟩, hS.F ht⟩) hS.2.2 dX9_mayGo__53

theorem q1865 : Cond.code yX9_moveBy cX9_moveBy 4 (some .int) ∈ lw_g := lw_gm (List.mem_of_getElem? (i := 1865) (by decide +kernel)) rfl
theorem dX9_moveBy_0 : decode cX9_moveBy 0 = .ok (.aload_n 0, 1) := by decide +kernel
theorem dX9_moveBy_1 : decode cX9_moveBy 1 = .ok (.aload_n 0, 1) := by decide +kernel
theorem dX9_moveBy_2 : decode cX9_moveBy 2 = .ok (.getfield 378, 3) := by decide +kernel
theorem dX9_moveBy_5 : decode cX9_moveBy 5 = .ok (.aload_n 0, 1) := by decide +kernel
theorem dX9_moveBy_6 : decode cX9_moveBy 6 = .ok (.getfield 59, 3) := by decide +kernel
theorem dX9_moveBy_9 : decode cX9_moveBy 9 = .ok (.bipush 88, 2) := by decide +kernel
theorem dX9_moveBy_11 : decode cX9_moveBy 11 = .ok (.iload_n 1, 1) := by decide +kernel
theorem dX9_moveBy_12 : decode cX9_moveBy 12 = .ok (.imul, 1) := by decide +kernel
theorem dX9_moveBy_13 : decode cX9_moveBy 13 = .ok (.iload_n 2, 1) := by decide +kernel
theorem dX9_moveBy_14 : decode cX9_moveBy 14 = .ok (.iadd, 1) := by decide +kernel
theorem dX9_moveBy_15 : decode cX9_moveBy 15 = .ok (.iaload, 1) := by decide +kernel
theorem dX9_moveBy_16 : decode cX9_moveBy 16 = .ok (.aload_n 0, 1) := by decide +kernel
theorem dX9_moveBy_17 : decode cX9_moveBy 17 = .ok (.getfield 59, 3) := by decide +kernel
theorem dX9_moveBy_20 : decode cX9_moveBy 20 = .ok (.bipush 88, 2) := by decide +kernel
theorem dX9_moveBy_22 : decode cX9_moveBy 22 = .ok (.iload_n 1, 1) := by decide +kernel
theorem dX9_moveBy_23 : decode cX9_moveBy 23 = .ok (.iconst 1, 1) := by decide +kernel
theorem dX9_moveBy_24 : decode cX9_moveBy 24 = .ok (.iadd, 1) := by decide +kernel
theorem dX9_moveBy_25 : decode cX9_moveBy 25 = .ok (.imul, 1) := by decide +kernel
theorem dX9_moveBy_26 : decode cX9_moveBy 26 = .ok (.iload_n 3, 1) := by decide +kernel
theorem dX9_moveBy_27 : decode cX9_moveBy 27 = .ok (.iadd, 1) := by decide +kernel
theorem dX9_moveBy_28 : decode cX9_moveBy 28 = .ok (.iaload, 1) := by decide +kernel
theorem dX9_moveBy_29 : decode cX9_moveBy 29 = .ok (.invokevirtual 368, 3) := by decide +kernel
theorem dX9_moveBy_32 : decode cX9_moveBy 32 = .ok (.ireturn, 1) := by decide +kernel
set_option maxHeartbeats 4000000 in
set_option maxRecDepth 100000 in
theorem m_X9_moveBy (l : Launch) (D : va_G) (cy : Nat → ClassId) (g : Nat → Nat) (σ : ST) (p1 : Int32) (p2 : Int32) (p3 : Int32) (sz : Nat) (hJ : J9 (σ 9)) (h0 : (0 : Int) ≤ p1.toInt ∧ p1.toInt ≤ 14) (h1 : (0 : Int) ≤ p2.toInt ∧ p2.toInt ≤ 87) (h2 : (0 : Int) ≤ p3.toInt ∧ p3.toInt ≤ 87) : Met l yX9_moveBy (ww yX9_moveBy cX9_moveBy 4 (some .int)) ({ frames := 3, cells := 0, slots := 0, locals := 192 }) (va_Pc [.ref (g 60), .int p1, .int p2, .int p3] (pr9 D cy g σ sz)) (qi9 D cy g sz (fun r τ => τ = σ ∧ (r = mvW (σ 9) p1.toInt.toNat p2.toInt.toNat p3.toInt.toNat) ∧ True)) 0 0 (A9 cy g sz) := by
  refine Met.ofW (cc := cX9_moveBy) (maxL := 4) (ret := (some .int)) (by decide) rfl ?_
  intro p e s m args below meth c s₁ B hml hv
  obtain ⟨rfl, hsz, hP, hK, hD0, hC⟩ := hv
  have hx := B.exec
  have hb := B.bytes
  have hr := B.returns
  have hts := hts_g (atoms_spec (ws := ww yX9_moveBy cX9_moveBy 4 (some .int)) B.pre)
  have hown : s.vm.findClass RX9 = some m.cls := findClass_of_methodNamed B.named
  have hlocks := B.notSynchronized
  clear B
  subst hsz
  have hD := fun τ => A9_D (sz := s.heap.size) hD0 τ
  clear hD0
  have hS : va_S (A9 cy g s.heap.size) s.heap s.heap [] := va_S.rf
  have hl := lv_entry ([.ref (g 60), .int p1, .int p2, .int p3]) (n := 4) (Nat.le_of_ble_eq_true rfl)
  rw [lg_entry_eq]
  generalize (lg_sl ([.ref (g 60), .int p1, .int p2, .int p3]) ++ List.replicate (4 - (lg_sl ([.ref (g 60), .int p1, .int p2, .int p3])).length) Slot.unset).toArray = ls at hl ⊢
  have hl : lv_has ls 4 [(0, .ref (g 60)), (1, .int p1), (2, .int p2), (3, .int p3)] := hl
  refine lv_aload_n hx hb dX9_moveBy_0 rfl (lv_at hl 0 rfl) ?_
  refine lv_aload_n hx hb dX9_moveBy_1 rfl (lv_at hl 0 rfl) ?_
  refine g9_28 (x := ((σ 9).1 28)) hx hb hts hown hK hP (rfl) (hts _ q1388) dX9_moveBy_2 ?_
  refine lv_aload_n hx hb dX9_moveBy_5 rfl (lv_at hl 0 rfl) ?_
  refine g9_26 hx hb hts hown hK hP (hts _ q1386) dX9_moveBy_6 ?_
  refine lv_bipush (v := 88) hx hb dX9_moveBy_9 (by decide) ?_
  refine lv_iload_n hx hb dX9_moveBy_11 rfl (lv_at hl 1 rfl) ?_
  refine lv_imul hx hb dX9_moveBy_12 ?_
  refine lv_topi (fun x1 ex1 => ?_)
  have t2 := mulC' (n := 88) ex1 (by decide) (by have f0 := h0; have g0 := rg32 p1; omega)
  refine lv_iload_n hx hb dX9_moveBy_13 rfl (lv_at hl 2 rfl) ?_
  refine lv_iadd hx hb dX9_moveBy_14 ?_
  refine lv_topi (fun x3 ex3 => ?_)
  have t4 := addO ex3 (by have f0 := h1; have f1 := t2; have f2 := h0; have g0 := rg32 p2; have g1 := rg32 x1; omega)
  obtain ⟨x5, ex5⟩ : ∃ z, (σ 9).2.2.1 26 x3.toInt.toNat = z := ⟨_, rfl⟩
  refine l9_26 (x := x5) hx hb hK hP (vpo (by have f0 := t4; have f1 := h1; have f2 := t2; have f3 := h0; have g0 := rg32 x3; omega)) ex5 dX9_moveBy_15 ?_
  have t6 := a9_26 hJ ex5
  refine lv_aload_n hx hb dX9_moveBy_16 rfl (lv_at hl 0 rfl) ?_
  refine g9_26 hx hb hts hown hK hP (hts _ q1386) dX9_moveBy_17 ?_
  refine lv_bipush (v := 88) hx hb dX9_moveBy_20 (by decide) ?_
  refine lv_iload_n hx hb dX9_moveBy_22 rfl (lv_at hl 1 rfl) ?_
  refine lv_iconst (v := 1) hx hb dX9_moveBy_23 (by decide) ?_
  refine lv_iadd hx hb dX9_moveBy_24 ?_
  refine lv_topi (fun x7 ex7 => ?_)
  have t8 := addO ex7 (by have f0 := h0; have f1 := t2; have f2 := t4; have f3 := h1; have f4 := t6; have g0 := rg32 p1; have z1 : (1 : Int32).toInt = 1 := (by decide); omega)
  refine lv_imul hx hb dX9_moveBy_25 ?_
  refine lv_topi (fun x9 ex9 => ?_)
  have t10 := mulC' (n := 88) ex9 (by decide) (by have f0 := t8; have f1 := h0; have f2 := t2; have f3 := t4; have f4 := h1; have f5 := t6; have g0 := rg32 x7; have z1 : (1 : Int32).toInt = 1 := (by decide); omega)
  refine lv_iload_n hx hb dX9_moveBy_26 rfl (lv_at hl 3 rfl) ?_
  refine lv_iadd hx hb dX9_moveBy_27 ?_
  refine lv_topi (fun x11 ex11 => ?_)
  have t12 := addO ex11 (by have f0 := h2; have f1 := t10; have f2 := t8; have f3 := h0; have f4 := t2; have f5 := t4; have f6 := h1; have f7 := t6; have g0 := rg32 p3; have g1 := rg32 x9; have z1 : (1 : Int32).toInt = 1 := (by decide); omega)
  obtain ⟨x13, ex13⟩ : ∃ z, (σ 9).2.2.1 26 x11.toInt.toNat = z := ⟨_, rfl⟩
  refine l9_26 (x := x13) hx hb hK hP (vpo (by have f0 := t12; have f1 := h2; have f2 := t10; have f3 := t8; have f4 := h0; have f5 := t2; have f6 := t4; have f7 := h1; have f8 := t6; have g0 := rg32 x11; have z1 : (1 : Int32).toInt = 1 := (by decide); omega)) ex13 dX9_moveBy_28 ?_
  have t14 := a9_26 hJ ex13
  refine va_calli (va_runV (As := [.int ((σ 9).1 28), .int x5, .int x13]) (rest := []) ⟨hx, hb, hml, hown, hts⟩ (m_X9_moveOf l D cy g σ ((σ 9).1 28) x5 x13 _ hJ (show (0 : Int) ≤ ((σ 9).1 28).toInt ∧ ((σ 9).1 28).toInt ≤ 3 from (by have f0 := j9_28 hJ rfl; omega))) (cwV 3 hts (gd_V q1790 q1792 q84 q134 q1793) rfl rfl rfl (by decide +kernel) ⟨Nat.le_of_ble_eq_true rfl, Nat.le_of_ble_eq_true rfl⟩) (pv9 hP hK hD hC hS (va_recv hK hP (ci := 9) (q0 := 0) rfl rfl)) rfl rfl hl.1 rfl (lv_room (Nat.le_of_ble_eq_true rfl)) dX9_moveBy_29 ⟨Nat.le_of_ble_eq_true rfl, Nat.le_of_ble_eq_true rfl⟩) hS (fun q _ h => up9 hS q h) (up9 hS) (fun r15 σ16 tS H1 locs ht hvm hw17 hB hz1 hk1 hS => ?_)
  have hP : va_P D clz (WD9 cy g σ16) H1 := by rw [← ht]; exact hB
  clear hB hz1 hk1 hvm ht
  generalize H1 = H at hP hS ⊢
  have hw17E : σ = σ16 := (hw17.1).symm
  subst hw17E
  have b18 : r15 = moveF (((σ 9)).2.2.1 18 (7 * ((σ 9).1 28).toInt.toNat)) x5 x13 := hw17.2.1
  exact W.iret (v := r15) hx hb hr (fun tS ht hW => ⟨⟨r15, σ, rfl, ⟨rfl, (show r15 = mvW (σ 9) p1.toInt.toNat p2.toInt.toNat p3.toInt.toNat from (by unfold mvW; rw [(show ((σ 9).2.2.1 26 (88 * p1.toInt.toNat + p2.toInt.toNat)) = x5 from by rw [show 88 * p1.toInt.toNat + p2.toInt.toNat = x3.toInt.toNat from (by have f0 := h0; have f1 := h1; have f2 := h2; have f3 := t2; have f4 := t4; have f5 := t6; have f6 := t8; have f7 := t12; have f8 := t10; have f9 := t14; have g0 := rg32 p1; have g1 := rg32 p2; have g2 := rg32 p3; have g3 := rg32 x3; have z1 : (1 : Int32).toInt = 1 := (by decide); omega)]; exact ex5), (show ((σ 9).2.2.1 26 (88 * (p1.toInt.toNat + 1) + p3.toInt.toNat)) = x13 from by rw [show 88 * (p1.toInt.toNat + 1) + p3.toInt.toNat = x11.toInt.toNat from (by have f0 := h0; have f1 := h1; have f2 := h2; have f3 := t2; have f4 := t4; have f5 := t8; have f6 := t12; have f7 := t14; have f8 := t6; have f9 := t10; have g0 := rg32 p1; have g1 := rg32 p2; have g2 := rg32 p3; have g3 := rg32 x11; have z1 : (1 : Int32).toInt = 1 := (by decide); omega)]; exact ex13)]; exact b18)), trivial⟩, (show va_P D clz (WD9 cy g σ) tS.heap by rw [ht]; exact hP)⟩, hS.F ht⟩) hS.2.2 dX9_moveBy_32

theorem q1931 : Cond.code yX9_octaveGo cX9_octaveGo 4 (some .boolean) ∈ lw_g := lw_gm (List.mem_of_getElem? (i := 1931) (by decide +kernel)) rfl
theorem q1405 : Cond.fieldLink RX9 95 "LipsAndSlidesModel" "octaveSetting" "[I" ∈ lw_g := lw_gm (List.mem_of_getElem? (i := 1405) (by decide +kernel)) rfl
theorem q1404 : Cond.fieldLink RX9 92 "LipsAndSlidesModel" "octavePartial" "[I" ∈ lw_g := lw_gm (List.mem_of_getElem? (i := 1404) (by decide +kernel)) rfl
theorem dX9_octaveGo_0 : decode cX9_octaveGo 0 = .ok (.aload_n 0, 1) := by decide +kernel
theorem dX9_octaveGo_1 : decode cX9_octaveGo 1 = .ok (.iload_n 1, 1) := by decide +kernel
theorem dX9_octaveGo_2 : decode cX9_octaveGo 2 = .ok (.aload_n 0, 1) := by decide +kernel
theorem dX9_octaveGo_3 : decode cX9_octaveGo 3 = .ok (.getfield 95, 3) := by decide +kernel
theorem dX9_octaveGo_6 : decode cX9_octaveGo 6 = .ok (.iload_n 2, 1) := by decide +kernel
theorem dX9_octaveGo_7 : decode cX9_octaveGo 7 = .ok (.iaload, 1) := by decide +kernel
theorem dX9_octaveGo_8 : decode cX9_octaveGo 8 = .ok (.aload_n 0, 1) := by decide +kernel
theorem dX9_octaveGo_9 : decode cX9_octaveGo 9 = .ok (.getfield 92, 3) := by decide +kernel
theorem dX9_octaveGo_12 : decode cX9_octaveGo 12 = .ok (.iload_n 2, 1) := by decide +kernel
theorem dX9_octaveGo_13 : decode cX9_octaveGo 13 = .ok (.iaload, 1) := by decide +kernel
theorem dX9_octaveGo_14 : decode cX9_octaveGo 14 = .ok (.aload_n 0, 1) := by decide +kernel
theorem dX9_octaveGo_15 : decode cX9_octaveGo 15 = .ok (.getfield 95, 3) := by decide +kernel
theorem dX9_octaveGo_18 : decode cX9_octaveGo 18 = .ok (.iload_n 3, 1) := by decide +kernel
theorem dX9_octaveGo_19 : decode cX9_octaveGo 19 = .ok (.iaload, 1) := by decide +kernel
theorem dX9_octaveGo_20 : decode cX9_octaveGo 20 = .ok (.aload_n 0, 1) := by decide +kernel
theorem dX9_octaveGo_21 : decode cX9_octaveGo 21 = .ok (.getfield 92, 3) := by decide +kernel
theorem dX9_octaveGo_24 : decode cX9_octaveGo 24 = .ok (.iload_n 3, 1) := by decide +kernel
theorem dX9_octaveGo_25 : decode cX9_octaveGo 25 = .ok (.iaload, 1) := by decide +kernel
theorem dX9_octaveGo_26 : decode cX9_octaveGo 26 = .ok (.invokevirtual 399, 3) := by decide +kernel
theorem dX9_octaveGo_29 : decode cX9_octaveGo 29 = .ok (.ireturn, 1) := by decide +kernel
set_option maxHeartbeats 4000000 in
set_option maxRecDepth 100000 in
theorem m_X9_octaveGo (l : Launch) (D : va_G) (cy : Nat → ClassId) (g : Nat → Nat) (σ : ST) (p1 : Int32) (p2 : Int32) (p3 : Int32) (sz : Nat) (hJ : J9 (σ 9)) (h0 : (0 : Int) ≤ p1.toInt ∧ p1.toInt ≤ 14) (h1 : (0 : Int) ≤ p2.toInt ∧ p2.toInt ≤ 4223) (h2 : (0 : Int) ≤ p3.toInt ∧ p3.toInt ≤ 4223) : Met l yX9_octaveGo (ww yX9_octaveGo cX9_octaveGo 4 (some .boolean)) ({ frames := 4, cells := 0, slots := 0, locals := 256 }) (va_Pc [.ref (g 60), .int p1, .int p2, .int p3] (pr9 D cy g σ sz)) (qi9 D cy g sz (fun r τ => τ = σ ∧ ((0 : Int) ≤ r.toInt ∧ r.toInt ≤ 1) ∧ (r = goO (σ 9) p1.toInt.toNat p2.toInt.toNat p3.toInt.toNat) ∧ True)) 0 0 (A9 cy g sz) := by
  refine Met.ofW (cc := cX9_octaveGo) (maxL := 4) (ret := (some .boolean)) (by decide) rfl ?_
  intro p e s m args below meth c s₁ B hml hv
  obtain ⟨rfl, hsz, hP, hK, hD0, hC⟩ := hv
  have hx := B.exec
  have hb := B.bytes
  have hr := B.returns
  have hts := hts_g (atoms_spec (ws := ww yX9_octaveGo cX9_octaveGo 4 (some .boolean)) B.pre)
  have hown : s.vm.findClass RX9 = some m.cls := findClass_of_methodNamed B.named
  have hlocks := B.notSynchronized
  clear B
  subst hsz
  have hD := fun τ => A9_D (sz := s.heap.size) hD0 τ
  clear hD0
  have hS : va_S (A9 cy g s.heap.size) s.heap s.heap [] := va_S.rf
  have hl := lv_entry ([.ref (g 60), .int p1, .int p2, .int p3]) (n := 4) (Nat.le_of_ble_eq_true rfl)
  rw [lg_entry_eq]
  generalize (lg_sl ([.ref (g 60), .int p1, .int p2, .int p3]) ++ List.replicate (4 - (lg_sl ([.ref (g 60), .int p1, .int p2, .int p3])).length) Slot.unset).toArray = ls at hl ⊢
  have hl : lv_has ls 4 [(0, .ref (g 60)), (1, .int p1), (2, .int p2), (3, .int p3)] := hl
  refine lv_aload_n hx hb dX9_octaveGo_0 rfl (lv_at hl 0 rfl) ?_
  refine lv_iload_n hx hb dX9_octaveGo_1 rfl (lv_at hl 1 rfl) ?_
  refine lv_aload_n hx hb dX9_octaveGo_2 rfl (lv_at hl 0 rfl) ?_
  refine g9_45 hx hb hts hown hK hP (hts _ q1405) dX9_octaveGo_3 ?_
  refine lv_iload_n hx hb dX9_octaveGo_6 rfl (lv_at hl 2 rfl) ?_
  obtain ⟨x1, ex1⟩ : ∃ z, (σ 9).2.2.1 45 p2.toInt.toNat = z := ⟨_, rfl⟩
  refine l9_45 (x := x1) hx hb hK hP (vpo (by have f0 := h1; have g0 := rg32 p2; omega)) ex1 dX9_octaveGo_7 ?_
  have t2 := a9_45 hJ ex1
  refine lv_aload_n hx hb dX9_octaveGo_8 rfl (lv_at hl 0 rfl) ?_
  refine g9_44 hx hb hts hown hK hP (hts _ q1404) dX9_octaveGo_9 ?_
  refine lv_iload_n hx hb dX9_octaveGo_12 rfl (lv_at hl 2 rfl) ?_
  obtain ⟨x3, ex3⟩ : ∃ z, (σ 9).2.2.1 44 p2.toInt.toNat = z := ⟨_, rfl⟩
  refine l9_44 (x := x3) hx hb hK hP (vpo (by have f0 := h1; have f1 := t2; have g0 := rg32 p2; omega)) ex3 dX9_octaveGo_13 ?_
  refine lv_aload_n hx hb dX9_octaveGo_14 rfl (lv_at hl 0 rfl) ?_
  refine g9_45 hx hb hts hown hK hP (hts _ q1405) dX9_octaveGo_15 ?_
  refine lv_iload_n hx hb dX9_octaveGo_18 rfl (lv_at hl 3 rfl) ?_
  obtain ⟨x4, ex4⟩ : ∃ z, (σ 9).2.2.1 45 p3.toInt.toNat = z := ⟨_, rfl⟩
  refine l9_45 (x := x4) hx hb hK hP (vpo (by have f0 := h2; have g0 := rg32 p3; omega)) ex4 dX9_octaveGo_19 ?_
  have t5 := a9_45 hJ ex4
  refine lv_aload_n hx hb dX9_octaveGo_20 rfl (lv_at hl 0 rfl) ?_
  refine g9_44 hx hb hts hown hK hP (hts _ q1404) dX9_octaveGo_21 ?_
  refine lv_iload_n hx hb dX9_octaveGo_24 rfl (lv_at hl 3 rfl) ?_
  obtain ⟨x6, ex6⟩ : ∃ z, (σ 9).2.2.1 44 p3.toInt.toNat = z := ⟨_, rfl⟩
  refine l9_44 (x := x6) hx hb hK hP (vpo (by have f0 := h2; have f1 := t5; have g0 := rg32 p3; omega)) ex6 dX9_octaveGo_25 ?_
  refine va_calli (va_runV (As := [.int p1, .int x1, .int x3, .int x4, .int x6]) (rest := []) ⟨hx, hb, hml, hown, hts⟩ (m_X9_mayGo l D cy g σ p1 x1 x3 x4 x6 _ hJ (show (0 : Int) ≤ p1.toInt ∧ p1.toInt ≤ 15 from (by have f0 := h0; have g0 := rg32 p1; omega))) (cwV 5 hts (gd_V q1858 q1860 q96 q134 q1861) rfl rfl rfl (by decide +kernel) ⟨Nat.le_of_ble_eq_true rfl, Nat.le_of_ble_eq_true rfl⟩) (pv9 hP hK hD hC hS (va_recv hK hP (ci := 9) (q0 := 0) rfl rfl)) rfl rfl hl.1 rfl (lv_room (Nat.le_of_ble_eq_true rfl)) dX9_octaveGo_26 ⟨Nat.le_of_ble_eq_true rfl, Nat.le_of_ble_eq_true rfl⟩) hS (fun q _ h => up9 hS q h) (up9 hS) (fun r7 σ8 tS H1 locs ht hvm hw9 hB hz1 hk1 hS => ?_)
  have hP : va_P D clz (WD9 cy g σ8) H1 := by rw [← ht]; exact hB
  clear hB hz1 hk1 hvm ht
  generalize H1 = H at hP hS ⊢
  have hw9E : σ = σ8 := (hw9.1).symm
  subst hw9E
  have b10 : (0 : Int) ≤ r7.toInt ∧ r7.toInt ≤ 1 := hw9.2.1
  have b11 : r7 = goF (((σ 9)).2.2.1 18 (7 * (((σ 9)).1 28).toInt.toNat)) (((σ 9)).1 30) (((σ 9)).2.2.1 33 p1.toInt.toNat) (((σ 9)).2.2.1 34 p1.toInt.toNat) x1 x3 x4 x6 := hw9.2.2.1
  exact W.zret (v := r7) hx hb hr (nrZ (by have f0 := b10; have g0 := rg32 r7; omega)) (fun tS ht hW => ⟨⟨r7, σ, rfl, ⟨rfl, (show (0 : Int) ≤ r7.toInt ∧ r7.toInt ≤ 1 from (by have f0 := b10; have g0 := rg32 r7; omega)), (show r7 = goO (σ 9) p1.toInt.toNat p2.toInt.toNat p3.toInt.toNat from (by unfold goO; rw [ex1, ex3, ex4, ex6]; exact b11)), trivial⟩, (show va_P D clz (WD9 cy g σ) tS.heap by rw [ht]; exact hP)⟩, hS.F ht⟩) hS.2.2 dX9_octaveGo_29

