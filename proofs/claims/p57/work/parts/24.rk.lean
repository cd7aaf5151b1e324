theorem q2063 : Cond.code yX9_isSo cX9_isSo 5 (some .boolean) ∈ lw_g := lw_gm (List.mem_of_getElem? (i := 2063) (by decide +kernel)) rfl
theorem dX9_isSo_0 : decode cX9_isSo 0 = .ok (.aload_n 0, 1) := by decide +kernel
theorem dX9_isSo_1 : decode cX9_isSo 1 = .ok (.getfield 16, 3) := by decide +kernel
theorem dX9_isSo_4 : decode cX9_isSo 4 = .ok (.bipush 60, 2) := by decide +kernel
theorem dX9_isSo_6 : decode cX9_isSo 6 = .ok (.iload_n 1, 1) := by decide +kernel
theorem dX9_isSo_7 : decode cX9_isSo 7 = .ok (.imul, 1) := by decide +kernel
theorem dX9_isSo_8 : decode cX9_isSo 8 = .ok (.iload_n 2, 1) := by decide +kernel
theorem dX9_isSo_9 : decode cX9_isSo 9 = .ok (.iadd, 1) := by decide +kernel
theorem dX9_isSo_10 : decode cX9_isSo 10 = .ok (.laload, 1) := by decide +kernel
theorem dX9_isSo_11 : decode cX9_isSo 11 = .ok (.lstore_n 3, 1) := by decide +kernel
theorem dX9_isSo_12 : decode cX9_isSo 12 = .ok (.lload_n 3, 1) := by decide +kernel
theorem dX9_isSo_13 : decode cX9_isSo 13 = .ok (.lconst 0, 1) := by decide +kernel
theorem dX9_isSo_14 : decode cX9_isSo 14 = .ok (.aload_n 0, 1) := by decide +kernel
theorem dX9_isSo_15 : decode cX9_isSo 15 = .ok (.getfield 53, 3) := by decide +kernel
theorem dX9_isSo_18 : decode cX9_isSo 18 = .ok (.iload_n 2, 1) := by decide +kernel
theorem dX9_isSo_19 : decode cX9_isSo 19 = .ok (.iaload, 1) := by decide +kernel
theorem dX9_isSo_20 : decode cX9_isSo 20 = .ok (.i2l, 1) := by decide +kernel
theorem dX9_isSo_21 : decode cX9_isSo 21 = .ok (.lconst 1, 1) := by decide +kernel
theorem dX9_isSo_22 : decode cX9_isSo 22 = .ok (.lsub, 1) := by decide +kernel
theorem dX9_isSo_23 : decode cX9_isSo 23 = .ok (.invokestatic 134, 3) := by decide +kernel
theorem dX9_isSo_26 : decode cX9_isSo 26 = .ok (.ifCond .ne 5, 3) := by decide +kernel
theorem dX9_isSo_29 : decode cX9_isSo 29 = .ok (.iconst 0, 1) := by decide +kernel
theorem dX9_isSo_30 : decode cX9_isSo 30 = .ok (.ireturn, 1) := by decide +kernel
theorem dX9_isSo_31 : decode cX9_isSo 31 = .ok (.iload_n 2, 1) := by decide +kernel
theorem dX9_isSo_32 : decode cX9_isSo 32 = .ok (.ifCond .eq 29, 3) := by decide +kernel
theorem dX9_isSo_35 : decode cX9_isSo 35 = .ok (.aload_n 0, 1) := by decide +kernel
theorem dX9_isSo_36 : decode cX9_isSo 36 = .ok (.iload_n 2, 1) := by decide +kernel
theorem dX9_isSo_37 : decode cX9_isSo 37 = .ok (.iconst 1, 1) := by decide +kernel
theorem dX9_isSo_38 : decode cX9_isSo 38 = .ok (.isub, 1) := by decide +kernel
theorem dX9_isSo_39 : decode cX9_isSo 39 = .ok (.aload_n 0, 1) := by decide +kernel
theorem dX9_isSo_40 : decode cX9_isSo 40 = .ok (.getfield 16, 3) := by decide +kernel
theorem dX9_isSo_43 : decode cX9_isSo 43 = .ok (.bipush 60, 2) := by decide +kernel
theorem dX9_isSo_45 : decode cX9_isSo 45 = .ok (.iload_n 1, 1) := by decide +kernel
theorem dX9_isSo_46 : decode cX9_isSo 46 = .ok (.imul, 1) := by decide +kernel
theorem dX9_isSo_47 : decode cX9_isSo 47 = .ok (.iload_n 2, 1) := by decide +kernel
theorem dX9_isSo_48 : decode cX9_isSo 48 = .ok (.iadd, 1) := by decide +kernel
theorem dX9_isSo_49 : decode cX9_isSo 49 = .ok (.iconst 1, 1) := by decide +kernel
theorem dX9_isSo_50 : decode cX9_isSo 50 = .ok (.isub, 1) := by decide +kernel
theorem dX9_isSo_51 : decode cX9_isSo 51 = .ok (.laload, 1) := by decide +kernel
theorem dX9_isSo_52 : decode cX9_isSo 52 = .ok (.l2i, 1) := by decide +kernel
theorem dX9_isSo_53 : decode cX9_isSo 53 = .ok (.lload_n 3, 1) := by decide +kernel
theorem dX9_isSo_54 : decode cX9_isSo 54 = .ok (.l2i, 1) := by decide +kernel
theorem dX9_isSo_55 : decode cX9_isSo 55 = .ok (.invokevirtual 403, 3) := by decide +kernel
theorem dX9_isSo_58 : decode cX9_isSo 58 = .ok (.ifCond .eq 7, 3) := by decide +kernel
theorem dX9_isSo_61 : decode cX9_isSo 61 = .ok (.iconst 1, 1) := by decide +kernel
theorem dX9_isSo_62 : decode cX9_isSo 62 = .ok (.goto 4, 3) := by decide +kernel
theorem dX9_isSo_65 : decode cX9_isSo 65 = .ok (.iconst 0, 1) := by decide +kernel
theorem dX9_isSo_66 : decode cX9_isSo 66 = .ok (.ireturn, 1) := by decide +kernel
set_option maxHeartbeats 4000000 in
set_option maxRecDepth 100000 in
theorem m_X9_isSo (l : Launch) (D : va_G) (cy : Nat → ClassId) (g : Nat → Nat) (σ : ST) (p1 : Int32) (p2 : Int32) (sz : Nat) (hJ : J9 (σ 9)) (h0 : (0 : Int) ≤ p1.toInt ∧ p1.toInt ≤ 3) (h1 : (0 : Int) ≤ p2.toInt ∧ p2.toInt ≤ 15) (h2 : p2.toInt = 0 ∨ (0 ≤ ((σ 9).2.2.2 3 (60 * p1.toInt.toNat + p2.toInt.toNat - 1)).toInt ∧ ((σ 9).2.2.2 3 (60 * p1.toInt.toNat + p2.toInt.toNat - 1)).toInt ≤ 87)) : Met l yX9_isSo (ww yX9_isSo cX9_isSo 5 (some .boolean)) ({ frames := 5, cells := 0, slots := 0, locals := 320 }) (va_Pc [.ref (g 60), .int p1, .int p2] (pr9 D cy g σ sz)) (qi9 D cy g sz (fun r τ => τ = σ ∧ ((0 : Int) ≤ r.toInt ∧ r.toInt ≤ 1) ∧ ((r.toInt = 0) ∨ (0 ≤ ((σ 9).2.2.2 3 (60 * p1.toInt.toNat + p2.toInt.toNat)).toInt ∧ ((σ 9).2.2.2 3 (60 * p1.toInt.toNat + p2.toInt.toNat)).toInt ≤ 87)) ∧ True)) 0 0 (A9 cy g sz) := by
  refine Met.ofW (cc := cX9_isSo) (maxL := 5) (ret := (some .boolean)) (by decide) rfl ?_
  intro p e s m args below meth c s₁ B hml hv
  obtain ⟨rfl, hsz, hP, hK, hD0, hC⟩ := hv
  have hx := B.exec
  have hb := B.bytes
  have hr := B.returns
  have hts := hts_g (atoms_spec (ws := ww yX9_isSo cX9_isSo 5 (some .boolean)) B.pre)
  have hown : s.vm.findClass RX9 = some m.cls := findClass_of_methodNamed B.named
  have hlocks := B.notSynchronized
  clear B
  subst hsz
  have hD := fun τ => A9_D (sz := s.heap.size) hD0 τ
  clear hD0
  have hS : va_S (A9 cy g s.heap.size) s.heap s.heap [] := va_S.rf
  have hl := lv_entry ([.ref (g 60), .int p1, .int p2]) (n := 5) (Nat.le_of_ble_eq_true rfl)
  rw [lg_entry_eq]
  generalize (lg_sl ([.ref (g 60), .int p1, .int p2]) ++ List.replicate (5 - (lg_sl ([.ref (g 60), .int p1, .int p2])).length) Slot.unset).toArray = ls at hl ⊢
  have hl : lv_has ls 5 [(0, .ref (g 60)), (1, .int p1), (2, .int p2)] := hl
  refine lv_aload_n hx hb dX9_isSo_0 rfl (lv_at hl 0 rfl) ?_
  refine g9_3 hx hb hts hown hK hP (hts _ q1363) dX9_isSo_1 ?_
  refine lv_bipush (v := 60) hx hb dX9_isSo_4 (by decide) ?_
  refine lv_iload_n hx hb dX9_isSo_6 rfl (lv_at hl 1 rfl) ?_
  refine lv_imul hx hb dX9_isSo_7 ?_
  refine lv_topi (fun x1 ex1 => ?_)
  have t2 := mulC' (n := 60) ex1 (by decide) (by have f0 := h0; have f1 := h2; have f2 := h1; have g1 := rg32 p1; omega)
  refine lv_iload_n hx hb dX9_isSo_8 rfl (lv_at hl 2 rfl) ?_
  refine lv_iadd hx hb dX9_isSo_9 ?_
  refine lv_topi (fun x3 ex3 => ?_)
  have t4 := addO ex3 (by have f0 := h1; have f1 := h2; have f2 := t2; have f3 := h0; have g1 := rg32 p2; have g2 := rg32 x1; omega)
  obtain ⟨x5, ex5⟩ : ∃ z, (σ 9).2.2.2 3 x3.toInt.toNat = z := ⟨_, rfl⟩
  refine l9_3 (x := x5) hx hb hK hP (vpo (by have f0 := t4; have f1 := h1; have f2 := h2; have f3 := t2; have f4 := h0; have g1 := rg32 x3; omega)) ex5 dX9_isSo_10 ?_
  have t6 : ((σ 9).2.2.2 3 (60 * p1.toInt.toNat + p2.toInt.toNat)).toInt = x5.toInt := by rw [show 60 * p1.toInt.toNat + p2.toInt.toNat = x3.toInt.toNat from (by have f0 := h0; have f1 := h1; have f2 := h2; have f3 := t2; have f4 := t4; have g1 := rg32 p1; have g2 := rg32 p2; have g3 := rg32 x3; omega), ex5]
  refine lv_lstore_n (lv' := [(3, .long x5), (0, .ref (g 60)), (1, .int p1), (2, .int p2)]) hx hb dX9_isSo_11 rfl hl (by decide) rfl (fun ls hl => ?_)
  refine lv_lload_n hx hb dX9_isSo_12 rfl (lv_at hl 0 rfl) ?_
  refine lv_lconst (v := 0) hx hb dX9_isSo_13 (by decide) ?_
  refine lv_aload_n hx hb dX9_isSo_14 rfl (lv_at hl 1 rfl) ?_
  refine g9_24 hx hb hts hown hK hP (hts _ q1384) dX9_isSo_15 ?_
  refine lv_iload_n hx hb dX9_isSo_18 rfl (lv_at hl 3 rfl) ?_
  obtain ⟨x7, ex7⟩ : ∃ z, (σ 9).2.2.1 24 p2.toInt.toNat = z := ⟨_, rfl⟩
  refine l9_24 (x := x7) hx hb hK hP (vpo (by have f0 := h1; have f1 := h2; have f2 := t4; have f3 := h0; have f4 := t2; have g1 := rg32 p2; omega)) ex7 dX9_isSo_19 ?_
  have t8 := a9_24 hJ ex7
  refine lv_i2l (v := x7.toInt64) hx hb dX9_isSo_20 rfl ?_
  refine lv_lconst (v := 1) hx hb dX9_isSo_21 (by decide) ?_
  refine lv_lsub hx hb dX9_isSo_22 ?_
  refine lv_topl (fun x9 ex9 => ?_)
  have t10 := subL ex9 (by have f0 := t64 (a := x7); have f1 := t8; have f2 := rg32 x7; have f3 := h1; have f4 := h2; have f5 := t4; have f6 := h0; have f7 := t2; have zl1 : (1 : Int64).toInt = 1 := (by decide); have w9 := t64 (a := x7); omega)
  refine va_calli (va_runS (As := [.long x5, .long 0, .long x9]) (rest := []) ⟨hx, hb, hml, hown, hts⟩ (m_X9_in l D cy g σ x5 (0) x9 _ hJ ) (va_cwS 3 hts (gd_S q1550 q1551 q134 q1552) rfl rfl rfl (by decide +kernel) ⟨Nat.le_of_ble_eq_true rfl, Nat.le_of_ble_eq_true rfl⟩) (ps9 hP hK hD hC hS) rfl rfl hl.1 rfl (lv_room (Nat.le_of_ble_eq_true rfl)) dX9_isSo_23 ⟨Nat.le_of_ble_eq_true rfl, Nat.le_of_ble_eq_true rfl⟩) hS (fun q _ h => up9 hS q h) (up9 hS) (fun r11 σ12 tS H1 locs ht hvm hw13 hB hz1 hk1 hS => ?_)
  have hP : va_P D clz (WD9 cy g σ12) H1 := by rw [← ht]; exact hB
  clear hB hz1 hk1 hvm ht
  generalize H1 = H at hP hS ⊢
  have hw13E : σ = σ12 := (hw13.1).symm
  subst hw13E
  have b14 : (0 : Int) ≤ r11.toInt ∧ r11.toInt ≤ 1 := hw13.2.1
  have b15 : (r11.toInt = 1 ∧ (0 : Int64).toInt ≤ x5.toInt ∧ x5.toInt ≤ x9.toInt) ∨ (r11.toInt = 0 ∧ ¬ ((0 : Int64).toInt ≤ x5.toInt ∧ x5.toInt ≤ x9.toInt)) := hw13.2.2.1
  refine lv_if_ne (tgt := 31) hx hb dX9_isSo_26 (by decide) (fun c16 => ?_) (fun c16 => ?_)
  ·
    have k17 := neq32 c16
    refine lv_iload_n hx hb dX9_isSo_31 rfl (lv_at hl 3 rfl) ?_
    refine lv_if_eq (tgt := 61) hx hb dX9_isSo_32 (by decide) (fun c18 => ?_) (fun c18 => ?_)
    ·
      have k19 := peq32 c18
      refine lv_iconst (v := 1) hx hb dX9_isSo_61 (by decide) ?_
      refine lv_goto (tgt := 66) hx hb dX9_isSo_62 (by decide) ?_
      exact W.zret (v := 1) hx hb hr rfl (fun tS ht hW => ⟨⟨1, σ, rfl, ⟨rfl, (show (0 : Int) ≤ (1 : Int32).toInt ∧ (1 : Int32).toInt ≤ 1 from (by have z1 : (1 : Int32).toInt = 1 := (by decide); omega)), (show ((1 : Int32).toInt = 0) ∨ (0 ≤ ((σ 9).2.2.2 3 (60 * p1.toInt.toNat + p2.toInt.toNat)).toInt ∧ ((σ 9).2.2.2 3 (60 * p1.toInt.toNat + p2.toInt.toNat)).toInt ≤ 87) from (by have f0 := h0; have f1 := h1; have f2 := h2; have f3 := t2; have f4 := t4; have f5 := t6; have f6 := t8; have f7 := k19; have f8 := t64 (a := x7); have f9 := rg32 x7; have f10 := b15; have f11 := t10; have f12 := b14; have f13 := k17; have g2 := rg32 p1; have g3 := rg32 p2; have z0 : (0 : Int32).toInt = 0 := (by decide); have zl0 : (0 : Int64).toInt = 0 := (by decide); have z1 : (1 : Int32).toInt = 1 := (by decide); have zl1 : (1 : Int64).toInt = 1 := (by decide); have w20 := t64 (a := x7); omega)), trivial⟩, (show va_P D clz (WD9 cy g σ) tS.heap by rw [ht]; exact hP)⟩, hS.F ht⟩) hS.2.2 dX9_isSo_66
    ·
      have k20 := neq32 c18
      refine lv_aload_n hx hb dX9_isSo_35 rfl (lv_at hl 1 rfl) ?_
      refine lv_iload_n hx hb dX9_isSo_36 rfl (lv_at hl 3 rfl) ?_
      refine lv_iconst (v := 1) hx hb dX9_isSo_37 (by decide) ?_
      refine lv_isub hx hb dX9_isSo_38 ?_
      refine lv_topi (fun x21 ex21 => ?_)
      have t22 := subO ex21 (by have f0 := h1; have f1 := h2; have f2 := t4; have f3 := t8; have f4 := k20; have f5 := h0; have f6 := t2; have f7 := t64 (a := x7); have f8 := rg32 x7; have f9 := t10; have f10 := b15; have f11 := t6; have f12 := b14; have f13 := k17; have g2 := rg32 p2; have z0 : (0 : Int32).toInt = 0 := (by decide); have zl0 : (0 : Int64).toInt = 0 := (by decide); have z1 : (1 : Int32).toInt = 1 := (by decide); have zl1 : (1 : Int64).toInt = 1 := (by decide); have w19 := t64 (a := x7); omega)
      refine lv_aload_n hx hb dX9_isSo_39 rfl (lv_at hl 1 rfl) ?_
      refine g9_3 hx hb hts hown hK hP (hts _ q1363) dX9_isSo_40 ?_
      refine lv_bipush (v := 60) hx hb dX9_isSo_43 (by decide) ?_
      refine lv_iload_n hx hb dX9_isSo_45 rfl (lv_at hl 2 rfl) ?_
      refine lv_imul hx hb dX9_isSo_46 ?_
      refine lv_topi (fun x23 ex23 => ?_)
      have t24 := mulC' (n := 60) ex23 (by decide) (by have f0 := h0; have f1 := h2; have f2 := t2; have f3 := h1; have f4 := t4; have f5 := t8; have f6 := k20; have f7 := t22; have f8 := t64 (a := x7); have f9 := rg32 x7; have f10 := t10; have f11 := b15; have f12 := t6; have f13 := b14; have f14 := k17; have g2 := rg32 p1; have z0 : (0 : Int32).toInt = 0 := (by decide); have zl0 : (0 : Int64).toInt = 0 := (by decide); have z1 : (1 : Int32).toInt = 1 := (by decide); have zl1 : (1 : Int64).toInt = 1 := (by decide); have w20 := t64 (a := x7); omega)
      refine lv_iload_n hx hb dX9_isSo_47 rfl (lv_at hl 3 rfl) ?_
      refine lv_iadd hx hb dX9_isSo_48 ?_
      refine lv_topi (fun x25 ex25 => ?_)
      have t26 := addO ex25 (by have f0 := h1; have f1 := h2; have f2 := t4; have f3 := t8; have f4 := k20; have f5 := t22; have f6 := t24; have f7 := h0; have f8 := t2; have f9 := t64 (a := x7); have f10 := rg32 x7; have f11 := t10; have f12 := b15; have f13 := t6; have f14 := b14; have f15 := k17; have g2 := rg32 p2; have g3 := rg32 x23; have z0 : (0 : Int32).toInt = 0 := (by decide); have zl0 : (0 : Int64).toInt = 0 := (by decide); have z1 : (1 : Int32).toInt = 1 := (by decide); have zl1 : (1 : Int64).toInt = 1 := (by decide); have w22 := t64 (a := x7); omega)
      refine lv_iconst (v := 1) hx hb dX9_isSo_49 (by decide) ?_
      refine lv_isub hx hb dX9_isSo_50 ?_
      refine lv_topi (fun x27 ex27 => ?_)
      have t28 := subO ex27 (by have f0 := t26; have f1 := h1; have f2 := h2; have f3 := t4; have f4 := t8; have f5 := k20; have f6 := t22; have f7 := t24; have f8 := h0; have f9 := t2; have f10 := t64 (a := x7); have f11 := rg32 x7; have f12 := t10; have f13 := b15; have f14 := t6; have f15 := b14; have f16 := k17; have g2 := rg32 x25; have z0 : (0 : Int32).toInt = 0 := (by decide); have zl0 : (0 : Int64).toInt = 0 := (by decide); have z1 : (1 : Int32).toInt = 1 := (by decide); have zl1 : (1 : Int64).toInt = 1 := (by decide); have w22 := t64 (a := x7); omega)
      obtain ⟨x29, ex29⟩ : ∃ z, (σ 9).2.2.2 3 x27.toInt.toNat = z := ⟨_, rfl⟩
      refine l9_3 (x := x29) hx hb hK hP (vpo (by have f0 := t28; have f1 := t26; have f2 := h1; have f3 := h2; have f4 := t4; have f5 := t8; have f6 := k20; have f7 := t22; have f8 := t24; have f9 := h0; have f10 := t2; have f11 := t64 (a := x7); have f12 := rg32 x7; have f13 := t10; have f14 := b15; have f15 := t6; have f16 := b14; have f17 := k17; have g2 := rg32 x27; have z0 : (0 : Int32).toInt = 0 := (by decide); have zl0 : (0 : Int64).toInt = 0 := (by decide); have z1 : (1 : Int32).toInt = 1 := (by decide); have zl1 : (1 : Int64).toInt = 1 := (by decide); have w23 := t64 (a := x7); omega)) ex29 dX9_isSo_51 ?_
      have t30 : ((σ 9).2.2.2 3 (60 * p1.toInt.toNat + p2.toInt.toNat - 1)).toInt = x29.toInt := by rw [show 60 * p1.toInt.toNat + p2.toInt.toNat - 1 = x27.toInt.toNat from (by have f0 := h0; have f1 := h1; have f2 := h2; have f3 := t2; have f4 := t4; have f5 := t8; have f6 := k20; have f7 := t22; have f8 := t24; have f9 := t26; have f10 := t28; have f11 := t64 (a := x7); have f12 := rg32 x7; have f13 := t10; have f14 := b15; have f15 := t6; have f16 := b14; have f17 := k17; have g2 := rg32 p1; have g3 := rg32 p2; have g4 := rg32 x27; have z0 : (0 : Int32).toInt = 0 := (by decide); have zl0 : (0 : Int64).toInt = 0 := (by decide); have z1 : (1 : Int32).toInt = 1 := (by decide); have zl1 : (1 : Int64).toInt = 1 := (by decide); have w25 := t64 (a := x7); omega), ex29]
      have t31 : (0 : Int) ≤ x29.toInt ∧ x29.toInt ≤ 87 := (by have f0 := t30; have f1 := h2; have f2 := h0; have f3 := h1; have f4 := t2; have f5 := t4; have f6 := t8; have f7 := k20; have f8 := t22; have f9 := t24; have f10 := t26; have f11 := t64 (a := x7); have f12 := rg32 x7; have f13 := t28; have f14 := t10; have f15 := b15; have f16 := t6; have f17 := b14; have f18 := k17; have z0 : (0 : Int32).toInt = 0 := (by decide); have zl0 : (0 : Int64).toInt = 0 := (by decide); have z1 : (1 : Int32).toInt = 1 := (by decide); have zl1 : (1 : Int64).toInt = 1 := (by decide); have w23 := t64 (a := x7); omega)
      refine lv_l2i hx hb dX9_isSo_52 rfl ?_
      refine lv_topi (fun x32 ex32 => ?_)
      have t33 := l2iO ex32 (by have f0 := t30; have f1 := t31; have f2 := h2; have f3 := h0; have f4 := h1; have f5 := t2; have f6 := t4; have f7 := t8; have f8 := k20; have f9 := t22; have f10 := t24; have f11 := t26; have f12 := t64 (a := x7); have f13 := rg32 x7; have f14 := t28; have f15 := t10; have f16 := b15; have f17 := t6; have f18 := b14; have f19 := k17; have z0 : (0 : Int32).toInt = 0 := (by decide); have zl0 : (0 : Int64).toInt = 0 := (by decide); have z1 : (1 : Int32).toInt = 1 := (by decide); have zl1 : (1 : Int64).toInt = 1 := (by decide); have w24 := t64 (a := x7); omega)
      refine lv_lload_n hx hb dX9_isSo_53 rfl (lv_at hl 0 rfl) ?_
      refine lv_l2i hx hb dX9_isSo_54 rfl ?_
      refine lv_topi (fun x34 ex34 => ?_)
      have t35 := l2iO ex34 (by have f0 := t6; have f1 := b15; have f2 := t10; have f3 := b14; have f4 := k17; have f5 := t64 (a := x7); have f6 := t8; have f7 := rg32 x7; have f8 := h1; have f9 := h2; have f10 := t4; have f11 := k20; have f12 := t22; have f13 := t26; have f14 := h0; have f15 := t2; have f16 := t24; have f17 := t28; have f18 := t30; have f19 := t31; have f20 := t33; have z0 : (0 : Int32).toInt = 0 := (by decide); have zl0 : (0 : Int64).toInt = 0 := (by decide); have z1 : (1 : Int32).toInt = 1 := (by decide); have zl1 : (1 : Int64).toInt = 1 := (by decide); have w25 := t64 (a := x7); omega)
      refine va_calli (va_runV (As := [.int x21, .int x32, .int x34]) (rest := []) ⟨hx, hb, hml, hown, hts⟩ (m_X9_mayGo_ l D cy g σ x21 x32 x34 _ hJ (show (0 : Int) ≤ x21.toInt ∧ x21.toInt ≤ 14 from (by have f0 := t22; have f1 := h1; have f2 := h2; have f3 := t4; have f4 := t8; have f5 := k20; have f6 := t26; have f7 := h0; have f8 := t2; have f9 := t64 (a := x7); have f10 := rg32 x7; have f11 := t24; have f12 := t28; have f13 := t30; have f14 := t10; have f15 := t31; have f16 := t33; have f17 := b15; have f18 := t6; have f19 := b14; have f20 := k17; have f21 := t35; have g2 := rg32 x21; have z0 : (0 : Int32).toInt = 0 := (by decide); have zl0 : (0 : Int64).toInt = 0 := (by decide); have z1 : (1 : Int32).toInt = 1 := (by decide); have zl1 : (1 : Int64).toInt = 1 := (by decide); have w27 := t64 (a := x7); omega)) (show (0 : Int) ≤ x32.toInt ∧ x32.toInt ≤ 87 from (by have f0 := t22; have f1 := t33; have f2 := h1; have f3 := h2; have f4 := t4; have f5 := t8; have f6 := k20; have f7 := t26; have f8 := t30; have f9 := t31; have f10 := h0; have f11 := t2; have f12 := t64 (a := x7); have f13 := rg32 x7; have f14 := t24; have f15 := t28; have f16 := t10; have f17 := b15; have f18 := t6; have f19 := b14; have f20 := k17; have f21 := t35; have g2 := rg32 x21; have g3 := rg32 x32; have z0 : (0 : Int32).toInt = 0 := (by decide); have zl0 : (0 : Int64).toInt = 0 := (by decide); have z1 : (1 : Int32).toInt = 1 := (by decide); have zl1 : (1 : Int64).toInt = 1 := (by decide); have w28 := t64 (a := x7); omega)) (show (0 : Int) ≤ x34.toInt ∧ x34.toInt ≤ 87 from (by have f0 := t22; have f1 := t33; have f2 := t35; have f3 := h1; have f4 := h2; have f5 := t4; have f6 := t6; have f7 := t8; have f8 := b15; have f9 := k20; have f10 := t26; have f11 := t30; have f12 := t31; have f13 := h0; have f14 := t2; have f15 := t64 (a := x7); have f16 := rg32 x7; have f17 := t10; have f18 := b14; have f19 := k17; have f20 := t24; have f21 := t28; have g2 := rg32 x21; have g3 := rg32 x32; have g4 := rg32 x34; have z0 : (0 : Int32).toInt = 0 := (by decide); have zl0 : (0 : Int64).toInt = 0 := (by decide); have z1 : (1 : Int32).toInt = 1 := (by decide); have zl1 : (1 : Int64).toInt = 1 := (by decide); have w29 := t64 (a := x7); omega))) (cwV 3 hts (gd_V q1854 q1856 q95 q134 q1857) rfl rfl rfl (by decide +kernel) ⟨Nat.le_of_ble_eq_true rfl, Nat.le_of_ble_eq_true rfl⟩) (pv9 hP hK hD hC hS (va_recv hK hP (ci := 9) (q0 := 0) rfl rfl)) rfl rfl hl.1 rfl (lv_room (Nat.le_of_ble_eq_true rfl)) dX9_isSo_55 ⟨Nat.le_of_ble_eq_true rfl, Nat.le_of_ble_eq_true rfl⟩) hS (fun q _ h => up9 hS q h) (up9 hS) (fun r36 σ37 tS H1 locs ht hvm hw38 hB hz1 hk1 hS => ?_)
      have hP : va_P D clz (WD9 cy g σ37) H1 := by rw [← ht]; exact hB
      clear hB hz1 hk1 hvm ht
      generalize H1 = H at hP hS ⊢
      have hw38E : σ = σ37 := (hw38.1).symm
      subst hw38E
      have b39 : (0 : Int) ≤ r36.toInt ∧ r36.toInt ≤ 1 := hw38.2.1
      have b40 : r36 = goW (σ 9) x21.toInt.toNat x32.toInt.toNat x34.toInt.toNat := hw38.2.2.1
      refine lv_if_eq (tgt := 65) hx hb dX9_isSo_58 (by decide) (fun c41 => ?_) (fun c41 => ?_)
      ·
        have k42 := peq32 c41
        refine lv_iconst (v := 0) hx hb dX9_isSo_65 (by decide) ?_
        exact W.zret (v := 0) hx hb hr rfl (fun tS ht hW => ⟨⟨0, σ, rfl, ⟨rfl, (show (0 : Int) ≤ (0 : Int32).toInt ∧ (0 : Int32).toInt ≤ 1 from (by have z0 : (0 : Int32).toInt = 0 := (by decide); omega)), (show ((0 : Int32).toInt = 0) ∨ (0 ≤ ((σ 9).2.2.2 3 (60 * p1.toInt.toNat + p2.toInt.toNat)).toInt ∧ ((σ 9).2.2.2 3 (60 * p1.toInt.toNat + p2.toInt.toNat)).toInt ≤ 87) from (by have f0 := h0; have f1 := h1; have f2 := h2; have f3 := t2; have f4 := t4; have f5 := t6; have f6 := t8; have f7 := k20; have f8 := t22; have f9 := t24; have f10 := t26; have f11 := t64 (a := x7); have f12 := rg32 x7; have f13 := b15; have f14 := t28; have f15 := t30; have f16 := t35; have f17 := t10; have f18 := b14; have f19 := k17; have f20 := t31; have f21 := t33; have g2 := rg32 p1; have g3 := rg32 p2; have z0 : (0 : Int32).toInt = 0 := (by decide); have zl0 : (0 : Int64).toInt = 0 := (by decide); have z1 : (1 : Int32).toInt = 1 := (by decide); have zl1 : (1 : Int64).toInt = 1 := (by decide); have w28 := t64 (a := x7); omega)), trivial⟩, (show va_P D clz (WD9 cy g σ) tS.heap by rw [ht]; exact hP)⟩, hS.F ht⟩) hS.2.2 dX9_isSo_66
      ·
        have k43 := neq32 c41
        refine lv_iconst (v := 1) hx hb dX9_isSo_61 (by decide) ?_
        refine lv_goto (tgt := 66) hx hb dX9_isSo_62 (by decide) ?_
        exact W.zret (v := 1) hx hb hr rfl (fun tS ht hW => ⟨⟨1, σ, rfl, ⟨rfl, (show (0 : Int) ≤ (1 : Int32).toInt ∧ (1 : Int32).toInt ≤ 1 from (by have z1 : (1 : Int32).toInt = 1 := (by decide); omega)), (show ((1 : Int32).toInt = 0) ∨ (0 ≤ ((σ 9).2.2.2 3 (60 * p1.toInt.toNat + p2.toInt.toNat)).toInt ∧ ((σ 9).2.2.2 3 (60 * p1.toInt.toNat + p2.toInt.toNat)).toInt ≤ 87) from (by have f0 := h0; have f1 := h1; have f2 := h2; have f3 := t2; have f4 := t4; have f5 := t6; have f6 := t8; have f7 := k20; have f8 := t22; have f9 := t24; have f10 := t26; have f11 := t64 (a := x7); have f12 := rg32 x7; have f13 := b15; have f14 := t28; have f15 := t30; have f16 := t35; have f17 := t10; have f18 := b14; have f19 := k17; have f20 := t31; have f21 := t33; have g2 := rg32 p1; have g3 := rg32 p2; have z0 : (0 : Int32).toInt = 0 := (by decide); have zl0 : (0 : Int64).toInt = 0 := (by decide); have z1 : (1 : Int32).toInt = 1 := (by decide); have zl1 : (1 : Int64).toInt = 1 := (by decide); have w28 := t64 (a := x7); omega)), trivial⟩, (show va_P D clz (WD9 cy g σ) tS.heap by rw [ht]; exact hP)⟩, hS.F ht⟩) hS.2.2 dX9_isSo_66
  ·
    have k44 := peq32 c16
    refine lv_iconst (v := 0) hx hb dX9_isSo_29 (by decide) ?_
    exact W.zret (v := 0) hx hb hr rfl (fun tS ht hW => ⟨⟨0, σ, rfl, ⟨rfl, (show (0 : Int) ≤ (0 : Int32).toInt ∧ (0 : Int32).toInt ≤ 1 from (by have z0 : (0 : Int32).toInt = 0 := (by decide); omega)), (show ((0 : Int32).toInt = 0) ∨ (0 ≤ ((σ 9).2.2.2 3 (60 * p1.toInt.toNat + p2.toInt.toNat)).toInt ∧ ((σ 9).2.2.2 3 (60 * p1.toInt.toNat + p2.toInt.toNat)).toInt ≤ 87) from (by have f0 := h0; have f1 := h1; have f2 := h2; have f3 := t2; have f4 := t4; have f5 := t6; have f6 := t8; have f7 := t64 (a := x7); have f8 := rg32 x7; have f9 := b15; have f10 := t10; have f11 := b14; have f12 := k44; have g2 := rg32 p1; have g3 := rg32 p2; have z0 : (0 : Int32).toInt = 0 := (by decide); have zl0 : (0 : Int64).toInt = 0 := (by decide); have zl1 : (1 : Int64).toInt = 1 := (by decide); have w18 := t64 (a := x7); omega)), trivial⟩, (show va_P D clz (WD9 cy g σ) tS.heap by rw [ht]; exact hP)⟩, hS.F ht⟩) hS.2.2 dX9_isSo_30

theorem q2059 : Cond.code yX9_judges cX9_judges 3 (some .int) ∈ lw_g := lw_gm (List.mem_of_getElem? (i := 2059) (by decide +kernel)) rfl
theorem q2060 : Cond.methodLink RX9 513 yX9_isSo ∈ lw_g := lw_gm (List.mem_of_getElem? (i := 2060) (by decide +kernel)) rfl
theorem q2062 : Cond.instanceMethod yX9_isSo ∈ lw_g := lw_gm (List.mem_of_getElem? (i := 2062) (by decide +kernel)) rfl
theorem q121 : Cond.selects RX9 yX9_isSo yX9_isSo ∈ lw_g := lw_gm (List.mem_of_getElem? (i := 121) (by decide +kernel)) rfl
theorem dX9_judges_0 : decode cX9_judges 0 = .ok (.iconst 0, 1) := by decide +kernel
theorem dX9_judges_1 : decode cX9_judges 1 = .ok (.istore_n 2, 1) := by decide +kernel
theorem dX9_judges_2 : decode cX9_judges 2 = .ok (.iload_n 2, 1) := by decide +kernel
theorem dX9_judges_3 : decode cX9_judges 3 = .ok (.aload_n 0, 1) := by decide +kernel
theorem dX9_judges_4 : decode cX9_judges 4 = .ok (.getfield 387, 3) := by decide +kernel
theorem dX9_judges_7 : decode cX9_judges 7 = .ok (.if_icmp .ge 18, 3) := by decide +kernel
theorem dX9_judges_10 : decode cX9_judges 10 = .ok (.aload_n 0, 1) := by decide +kernel
theorem dX9_judges_11 : decode cX9_judges 11 = .ok (.iload_n 1, 1) := by decide +kernel
theorem dX9_judges_12 : decode cX9_judges 12 = .ok (.iload_n 2, 1) := by decide +kernel
theorem dX9_judges_13 : decode cX9_judges 13 = .ok (.invokevirtual 513, 3) := by decide +kernel
theorem dX9_judges_16 : decode cX9_judges 16 = .ok (.ifCond .eq 9, 3) := by decide +kernel
theorem dX9_judges_19 : decode cX9_judges 19 = .ok (.iinc 2 1, 3) := by decide +kernel
theorem dX9_judges_22 : decode cX9_judges 22 = .ok (.goto (-20), 3) := by decide +kernel
theorem dX9_judges_25 : decode cX9_judges 25 = .ok (.iload_n 2, 1) := by decide +kernel
theorem dX9_judges_26 : decode cX9_judges 26 = .ok (.ireturn, 1) := by decide +kernel
set_option maxHeartbeats 4000000 in
set_option maxRecDepth 100000 in
theorem m_X9_judges (l : Launch) (D : va_G) (cy : Nat → ClassId) (g : Nat → Nat) (σ : ST) (p1 : Int32) (sz : Nat) (hJ : J9 (σ 9)) (h0 : (0 : Int) ≤ p1.toInt ∧ p1.toInt ≤ 3) : Met l yX9_judges (ww yX9_judges cX9_judges 3 (some .int)) ({ frames := 6, cells := 0, slots := 0, locals := 384 }) (va_Pc [.ref (g 60), .int p1] (pr9 D cy g σ sz)) (qi9 D cy g sz (fun r τ => τ = σ ∧ ((0 : Int) ≤ r.toInt ∧ r.toInt ≤ 16) ∧ (CJ (σ 9) p1.toInt.toNat r.toInt.toNat) ∧ True)) 0 0 (A9 cy g sz) := by
  refine Met.ofW (cc := cX9_judges) (maxL := 3) (ret := (some .int)) (by decide) rfl ?_
  intro p e s m args below meth c s₁ B hml hv
  obtain ⟨rfl, hsz, hP, hK, hD0, hC⟩ := hv
  have hx := B.exec
  have hb := B.bytes
  have hr := B.returns
  have hts := hts_g (atoms_spec (ws := ww yX9_judges cX9_judges 3 (some .int)) B.pre)
  have hown : s.vm.findClass RX9 = some m.cls := findClass_of_methodNamed B.named
  have hlocks := B.notSynchronized
  clear B
  subst hsz
  have hD := fun τ => A9_D (sz := s.heap.size) hD0 τ
  clear hD0
  have hS : va_S (A9 cy g s.heap.size) s.heap s.heap [] := va_S.rf
  have hl := lv_entry ([.ref (g 60), .int p1]) (n := 3) (Nat.le_of_ble_eq_true rfl)
  rw [lg_entry_eq]
  generalize (lg_sl ([.ref (g 60), .int p1]) ++ List.replicate (3 - (lg_sl ([.ref (g 60), .int p1])).length) Slot.unset).toArray = ls at hl ⊢
  have hl : lv_has ls 3 [(0, .ref (g 60)), (1, .int p1)] := hl
  refine lv_iconst (v := 0) hx hb dX9_judges_0 (by decide) ?_
  refine lv_istore_n (lv' := [(2, .int 0), (0, .ref (g 60)), (1, .int p1)]) hx hb dX9_judges_1 rfl hl (by decide) rfl (fun ls hl => ?_)
  refine loop9 3 2 (fun x : LZ => [(2, .int (x.2.1 0)), (0, .ref (g 60)), (1, .int p1)]) (fun x : LZ => (x.1 = σ) ∧ ((0 : Int) ≤ (x.2.1 0).toInt ∧ (x.2.1 0).toInt ≤ 16) ∧ (CJ (σ 9) p1.toInt.toNat (x.2.1 0).toInt.toNat) ∧ True) (fun x : LZ => ((17 : Int) - (x.2.1 0).toInt).toNat) ?_ (σ, lf [0], lg []) ⟨rfl, (show (0 : Int) ≤ (0 : Int32).toInt ∧ (0 : Int32).toInt ≤ 16 from (by have z0 : (0 : Int32).toInt = 0 := (by decide); omega)), (show CJ (σ 9) p1.toInt.toNat (0 : Int32).toInt.toNat from (by rw [show (0 : Int32).toInt.toNat = 0 by decide]; intro j hj; exact absurd hj (Nat.not_lt_zero _))), trivial⟩ _ _ _ hP hS (lv_sub hl [0, 1, 2] rfl)
  intro y3 hI2 nl1 H locs ls hP hS hl
  rw [show y3.1 = σ from hI2.1] at hP
  have b4 : (0 : Int) ≤ (y3.2.1 0).toInt ∧ (y3.2.1 0).toInt ≤ 16 := hI2.2.1
  have b5 : CJ (σ 9) p1.toInt.toNat (y3.2.1 0).toInt.toNat := hI2.2.2.1
  have hl : lv_has ls 3 [(2, .int (y3.2.1 0)), (0, .ref (g 60)), (1, .int p1)] := hl
  refine lv_iload_n hx hb dX9_judges_2 rfl (lv_at hl 0 rfl) ?_
  refine lv_aload_n hx hb dX9_judges_3 rfl (lv_at hl 1 rfl) ?_
  refine g9_31 (x := ((σ 9).1 31)) hx hb hts hown hK hP (rfl) (hts _ q1391) dX9_judges_4 ?_
  refine lv_icmp_ge (tgt := 25) hx hb dX9_judges_7 (by decide) (fun c6 => ?_) (fun c6 => ?_)
  ·
    have k7 := ple32 c6
    refine lv_iload_n hx hb dX9_judges_25 rfl (lv_at hl 0 rfl) ?_
    exact W.iret (v := (y3.2.1 0)) hx hb hr (fun tS ht hW => ⟨⟨(y3.2.1 0), σ, rfl, ⟨rfl, (show (0 : Int) ≤ (y3.2.1 0).toInt ∧ (y3.2.1 0).toInt ≤ 16 from (by have f0 := b4; have f1 := k7; have f2 := j9_31 hJ rfl; have g0 := rg32 (y3.2.1 0); omega)), (show CJ (σ 9) p1.toInt.toNat (y3.2.1 0).toInt.toNat from b5), trivial⟩, (show va_P D clz (WD9 cy g σ) tS.heap by rw [ht]; exact hP)⟩, hS.F ht⟩) hS.2.2 dX9_judges_26
  ·
    have k8 := nle32 c6
    refine lv_aload_n hx hb dX9_judges_10 rfl (lv_at hl 1 rfl) ?_
    refine lv_iload_n hx hb dX9_judges_11 rfl (lv_at hl 2 rfl) ?_
    refine lv_iload_n hx hb dX9_judges_12 rfl (lv_at hl 0 rfl) ?_
    refine va_calli (va_runV (As := [.int p1, .int (y3.2.1 0)]) (rest := []) ⟨hx, hb, hml, hown, hts⟩ (m_X9_isSo l D cy g σ p1 (y3.2.1 0) _ hJ (show (0 : Int) ≤ p1.toInt ∧ p1.toInt ≤ 3 from (by have f0 := h0; have g0 := rg32 p1; omega)) (show (0 : Int) ≤ (y3.2.1 0).toInt ∧ (y3.2.1 0).toInt ≤ 15 from (by have f0 := h0; have f1 := b4; have f2 := k8; have f3 := j9_31 hJ rfl; have g0 := rg32 (y3.2.1 0); have g1 := rg32 p1; omega)) (show (y3.2.1 0).toInt = 0 ∨ (0 ≤ ((σ 9).2.2.2 3 (60 * p1.toInt.toNat + (y3.2.1 0).toInt.toNat - 1)).toInt ∧ ((σ 9).2.2.2 3 (60 * p1.toInt.toNat + (y3.2.1 0).toInt.toNat - 1)).toInt ≤ 87) from (by by_cases hz : (y3.2.1 0).toInt = 0; exact Or.inl hz; exact Or.inr (CJ.back b5 (by have f0 := b4; have f1 := k8; have f2 := j9_31 hJ rfl; have g0 := rg32 (y3.2.1 0); omega))))) (cwV 2 hts (gd_V q2060 q2062 q121 q134 q2063) rfl rfl rfl (by decide +kernel) ⟨Nat.le_of_ble_eq_true rfl, Nat.le_of_ble_eq_true rfl⟩) (pv9 hP hK hD hC hS (va_recv hK hP (ci := 9) (q0 := 0) rfl rfl)) rfl rfl hl.1 rfl (lv_room (Nat.le_of_ble_eq_true rfl)) dX9_judges_13 ⟨Nat.le_of_ble_eq_true rfl, Nat.le_of_ble_eq_true rfl⟩) hS (fun q _ h => up9 hS q h) (up9 hS) (fun r9 σ10 tS H1 locs ht hvm hw11 hB hz1 hk1 hS => ?_)
    have hP : va_P D clz (WD9 cy g σ10) H1 := by rw [← ht]; exact hB
    clear hB hz1 hk1 hvm ht
    generalize H1 = H at hP hS ⊢
    have hw11E : σ = σ10 := (hw11.1).symm
    subst hw11E
    have b12 : (0 : Int) ≤ r9.toInt ∧ r9.toInt ≤ 1 := hw11.2.1
    have b13 : (r9.toInt = 0) ∨ (0 ≤ ((σ 9).2.2.2 3 (60 * p1.toInt.toNat + (y3.2.1 0).toInt.toNat)).toInt ∧ ((σ 9).2.2.2 3 (60 * p1.toInt.toNat + (y3.2.1 0).toInt.toNat)).toInt ≤ 87) := hw11.2.2.1
    refine lv_if_eq (tgt := 25) hx hb dX9_judges_16 (by decide) (fun c14 => ?_) (fun c14 => ?_)
    ·
      have k15 := peq32 c14
      refine lv_iload_n hx hb dX9_judges_25 rfl (lv_at hl 0 rfl) ?_
      exact W.iret (v := (y3.2.1 0)) hx hb hr (fun tS ht hW => ⟨⟨(y3.2.1 0), σ, rfl, ⟨rfl, (show (0 : Int) ≤ (y3.2.1 0).toInt ∧ (y3.2.1 0).toInt ≤ 16 from (by have f0 := b4; have f1 := k8; have f2 := b13; have f3 := j9_31 hJ rfl; have f4 := h0; have f5 := b12; have f6 := k15; have g1 := rg32 (y3.2.1 0); have z0 : (0 : Int32).toInt = 0 := (by decide); omega)), (show CJ (σ 9) p1.toInt.toNat (y3.2.1 0).toInt.toNat from b5), trivial⟩, (show va_P D clz (WD9 cy g σ) tS.heap by rw [ht]; exact hP)⟩, hS.F ht⟩) hS.2.2 dX9_judges_26
    ·
      have k16 := neq32 c14
      obtain ⟨x17, ex17⟩ : ∃ y : Int32, y = (y3.2.1 0) + 1 := ⟨_, rfl⟩
      have t18 := addO ex17 (by have f0 := b4; have f1 := k8; have f2 := b13; have f3 := j9_31 hJ rfl; have f4 := h0; have f5 := b12; have f6 := k16; have g1 := rg32 (y3.2.1 0); have z0 : (0 : Int32).toInt = 0 := (by decide); have z1 : (1 : Int32).toInt = 1 := (by decide); omega)
      refine lv_iinc (v := x17) (lv' := [(2, .int x17), (0, .ref (g 60)), (1, .int p1)]) hx hb dX9_judges_19 hl (k := 0) rfl (by rw [ex17]; rfl) (by decide) rfl (fun ls hl => ?_)
      refine lv_goto (tgt := 2) hx hb dX9_judges_22 (by decide) ?_
      have t19 : ((17 : Int) - x17.toInt).toNat < ((17 : Int) - (y3.2.1 0).toInt).toNat := (by have f0 := b4; have f1 := k8; have f2 := b13; have f3 := t18; have f4 := j9_31 hJ rfl; have f5 := h0; have f6 := b12; have f7 := k16; have g1 := rg32 (y3.2.1 0); have g2 := rg32 x17; have z0 : (0 : Int32).toInt = 0 := (by decide); have z1 : (1 : Int32).toInt = 1 := (by decide); omega)
      exact nl1 (σ, lf [x17], lg []) ⟨rfl, (show (0 : Int) ≤ (x17 : Int32).toInt ∧ (x17 : Int32).toInt ≤ 16 from (by have f0 := t18; have f1 := b4; have f2 := k8; have f3 := b13; have f4 := j9_31 hJ rfl; have f5 := h0; have f6 := b12; have f7 := k16; have g1 := rg32 x17; have z0 : (0 : Int32).toInt = 0 := (by decide); have z1 : (1 : Int32).toInt = 1 := (by decide); omega)), (show CJ (σ 9) p1.toInt.toNat x17.toInt.toNat from (CJ.step b5 (show x17.toInt.toNat = (y3.2.1 0).toInt.toNat + 1 from (by have f0 := b4; have f1 := k8; have f2 := b13; have f3 := t18; have f4 := j9_31 hJ rfl; have f5 := h0; have f6 := b12; have f7 := k16; have g1 := rg32 (y3.2.1 0); have g2 := rg32 x17; have z0 : (0 : Int32).toInt = 0 := (by decide); have z1 : (1 : Int32).toInt = 1 := (by decide); omega)) ((b13).resolve_left (fun q => c14 (Int32.toInt_inj.mp (q.trans (by decide : (0 : Int) = (0 : Int32).toInt))))))), trivial⟩ (show ((17 : Int) - x17.toInt).toNat < _ from t19) _ _ _ hP hS (lv_sub hl [0, 1, 2] rfl)

theorem q2051 : Cond.code yX9_judge cX9_judge 5 (some .int) ∈ lw_g := lw_gm (List.mem_of_getElem? (i := 2051) (by decide +kernel)) rfl
theorem q2052 : Cond.methodLink RX9 516 yX9_whyNot ∈ lw_g := lw_gm (List.mem_of_getElem? (i := 2052) (by decide +kernel)) rfl
theorem q2054 : Cond.instanceMethod yX9_whyNot ∈ lw_g := lw_gm (List.mem_of_getElem? (i := 2054) (by decide +kernel)) rfl
theorem q119 : Cond.selects RX9 yX9_whyNot yX9_whyNot ∈ lw_g := lw_gm (List.mem_of_getElem? (i := 119) (by decide +kernel)) rfl
theorem q2056 : Cond.methodLink RX9 519 yX9_judges ∈ lw_g := lw_gm (List.mem_of_getElem? (i := 2056) (by decide +kernel)) rfl
theorem q2058 : Cond.instanceMethod yX9_judges ∈ lw_g := lw_gm (List.mem_of_getElem? (i := 2058) (by decide +kernel)) rfl
theorem q120 : Cond.selects RX9 yX9_judges yX9_judges ∈ lw_g := lw_gm (List.mem_of_getElem? (i := 120) (by decide +kernel)) rfl
theorem dX9_judge_0 : decode cX9_judge 0 = .ok (.aload_n 0, 1) := by decide +kernel
theorem dX9_judge_1 : decode cX9_judge 1 = .ok (.iconst 0, 1) := by decide +kernel
theorem dX9_judge_2 : decode cX9_judge 2 = .ok (.putfield 129, 3) := by decide +kernel
theorem dX9_judge_5 : decode cX9_judge 5 = .ok (.aload_n 0, 1) := by decide +kernel
theorem dX9_judge_6 : decode cX9_judge 6 = .ok (.iload_n 1, 1) := by decide +kernel
theorem dX9_judge_7 : decode cX9_judge 7 = .ok (.iload_n 2, 1) := by decide +kernel
theorem dX9_judge_8 : decode cX9_judge 8 = .ok (.iload_n 3, 1) := by decide +kernel
theorem dX9_judge_9 : decode cX9_judge 9 = .ok (.invokevirtual 516, 3) := by decide +kernel
theorem dX9_judge_12 : decode cX9_judge 12 = .ok (.istore 4, 2) := by decide +kernel
theorem dX9_judge_14 : decode cX9_judge 14 = .ok (.iload 4, 2) := by decide +kernel
theorem dX9_judge_16 : decode cX9_judge 16 = .ok (.ifCond .eq 8, 3) := by decide +kernel
theorem dX9_judge_19 : decode cX9_judge 19 = .ok (.iload 4, 2) := by decide +kernel
theorem dX9_judge_21 : decode cX9_judge 21 = .ok (.goto 8, 3) := by decide +kernel
theorem dX9_judge_24 : decode cX9_judge 24 = .ok (.aload_n 0, 1) := by decide +kernel
theorem dX9_judge_25 : decode cX9_judge 25 = .ok (.iload_n 1, 1) := by decide +kernel
theorem dX9_judge_26 : decode cX9_judge 26 = .ok (.invokevirtual 519, 3) := by decide +kernel
theorem dX9_judge_29 : decode cX9_judge 29 = .ok (.ireturn, 1) := by decide +kernel
set_option maxHeartbeats 4000000 in
set_option maxRecDepth 100000 in
theorem m_X9_judge (l : Launch) (D : va_G) (cy : Nat → ClassId) (g : Nat → Nat) (σ : ST) (p1 : Int32) (p2 : Int32) (p3 : Int32) (sz : Nat) (hJ : J9 (σ 9)) (kDK0 : DK0 (σ 9)) : Met l yX9_judge (ww yX9_judge cX9_judge 5 (some .int)) ({ frames := 7, cells := 0, slots := 0, locals := 448 }) (va_Pc [.ref (g 60), .int p1, .int p2, .int p3] (pr9 D cy g σ sz)) (qi9 D cy g sz (fun r τ => Fr (fL [0, 23, 24, 25, 26, 27, 28, 29, 30, 31, 32, 33, 34]) σ τ ∧ J9 (τ 9) ∧ True)) 0 0 (A9 cy g sz) := by
  refine Met.ofW (cc := cX9_judge) (maxL := 5) (ret := (some .int)) (by decide) rfl ?_
  intro p e s m args below meth c s₁ B hml hv
  obtain ⟨rfl, hsz, hP, hK, hD0, hC⟩ := hv
  have hx := B.exec
  have hb := B.bytes
  have hr := B.returns
  have hts := hts_g (atoms_spec (ws := ww yX9_judge cX9_judge 5 (some .int)) B.pre)
  have hown : s.vm.findClass RX9 = some m.cls := findClass_of_methodNamed B.named
  have hlocks := B.notSynchronized
  clear B
  subst hsz
  have hD := fun τ => A9_D (sz := s.heap.size) hD0 τ
  clear hD0
  have hS : va_S (A9 cy g s.heap.size) s.heap s.heap [] := va_S.rf
  have hl := lv_entry ([.ref (g 60), .int p1, .int p2, .int p3]) (n := 5) (Nat.le_of_ble_eq_true rfl)
  rw [lg_entry_eq]
  generalize (lg_sl ([.ref (g 60), .int p1, .int p2, .int p3]) ++ List.replicate (5 - (lg_sl ([.ref (g 60), .int p1, .int p2, .int p3])).length) Slot.unset).toArray = ls at hl ⊢
  have hl : lv_has ls 5 [(0, .ref (g 60)), (1, .int p1), (2, .int p2), (3, .int p3)] := hl
  refine lv_aload_n hx hb dX9_judge_0 rfl (lv_at hl 0 rfl) ?_
  refine lv_iconst (v := 0) hx hb dX9_judge_1 (by decide) ?_
  refine p9_0 hx hb hts hown hK hP hD hS (hts _ q1360) dX9_judge_2 (fun H locs σ1 eσ1 hP hS => ?_)
  have hJ2 : J9 (σ1 9) := hJ.I eσ1 (show JI9 0 (0 : Int32) from trivial)
  have T3 : DK0 (σ1 9) := DK0.mv kDK0 ((sI_f eσ1) 9 17 rfl).2.2.1 ((sI_f eσ1) 9 18 rfl).2.2.1 ((sI_f eσ1) 9 19 rfl).2.2.1
  refine lv_aload_n hx hb dX9_judge_5 rfl (lv_at hl 0 rfl) ?_
  refine lv_iload_n hx hb dX9_judge_6 rfl (lv_at hl 1 rfl) ?_
  refine lv_iload_n hx hb dX9_judge_7 rfl (lv_at hl 2 rfl) ?_
  refine lv_iload_n hx hb dX9_judge_8 rfl (lv_at hl 3 rfl) ?_
  refine va_calli (va_runV (As := [.int p1, .int p2, .int p3]) (rest := []) ⟨hx, hb, hml, hown, hts⟩ (m_X9_whyNot l D cy g σ1 p1 p2 p3 _ hJ2 T3) (cwV 3 hts (gd_V q2052 q2054 q119 q134 q2055) rfl rfl rfl (by decide +kernel) ⟨Nat.le_of_ble_eq_true rfl, Nat.le_of_ble_eq_true rfl⟩) (pv9 hP hK hD hC hS (va_recv hK hP (ci := 9) (q0 := 0) rfl rfl)) rfl rfl hl.1 rfl (lv_room (Nat.le_of_ble_eq_true rfl)) dX9_judge_9 ⟨Nat.le_of_ble_eq_true rfl, Nat.le_of_ble_eq_true rfl⟩) hS (fun q _ h => up9 hS q h) (up9 hS) (fun r4 σ5 tS H1 locs ht hvm hw6 hB hz1 hk1 hS => ?_)
  have hP : va_P D clz (WD9 cy g σ5) H1 := by rw [← ht]; exact hB
  clear hB hz1 hk1 hvm ht
  generalize H1 = H at hP hS ⊢
  have hF7 : Fr (fL [23, 24, 25, 26, 27, 28, 29, 30, 31, 32, 33, 34]) σ1 σ5 := hw6.1
  have hJ8 : J9 (σ5 9) := hw6.2.1
  have b9 : (¬ r4.toInt = 0) ∨ ((0 : Int) ≤ p1.toInt ∧ p1.toInt ≤ 3 ∧ (0 : Int) ≤ p2.toInt ∧ p2.toInt ≤ 8 ∧ (0 : Int) ≤ p3.toInt ∧ p3.toInt ≤ 2) := hw6.2.2.1
  have T10 : DK0 (σ5 9) := DK0.mv T3 (hF7 9 17 rfl).2.2.1 (hF7 9 18 rfl).2.2.1 (hF7 9 19 rfl).2.2.1
  refine lv_istore (lv' := [(4, .int r4), (0, .ref (g 60)), (1, .int p1), (2, .int p2), (3, .int p3)]) hx hb dX9_judge_12 hl (by decide) rfl (fun ls hl => ?_)
  refine lv_iload hx hb dX9_judge_14 (lv_at hl 0 rfl) ?_
  refine lv_if_eq (tgt := 24) hx hb dX9_judge_16 (by decide) (fun c11 => ?_) (fun c11 => ?_)
  ·
    have k12 := peq32 c11
    refine lv_aload_n hx hb dX9_judge_24 rfl (lv_at hl 1 rfl) ?_
    refine lv_iload_n hx hb dX9_judge_25 rfl (lv_at hl 2 rfl) ?_
    refine va_calli (va_runV (As := [.int p1]) (rest := []) ⟨hx, hb, hml, hown, hts⟩ (m_X9_judges l D cy g σ5 p1 _ hJ8 (show (0 : Int) ≤ p1.toInt ∧ p1.toInt ≤ 3 from (by have f0 := b9; have f1 := k12; have g0 := rg32 p1; have z0 : (0 : Int32).toInt = 0 := (by decide); omega))) (cwV 1 hts (gd_V q2056 q2058 q120 q134 q2059) rfl rfl rfl (by decide +kernel) ⟨Nat.le_of_ble_eq_true rfl, Nat.le_of_ble_eq_true rfl⟩) (pv9 hP hK hD hC hS (va_recv hK hP (ci := 9) (q0 := 0) rfl rfl)) rfl rfl hl.1 rfl (lv_room (Nat.le_of_ble_eq_true rfl)) dX9_judge_26 ⟨Nat.le_of_ble_eq_true rfl, Nat.le_of_ble_eq_true rfl⟩) hS (fun q _ h => up9 hS q h) (up9 hS) (fun r13 σ14 tS H1 locs ht hvm hw15 hB hz1 hk1 hS => ?_)
    have hP : va_P D clz (WD9 cy g σ14) H1 := by rw [← ht]; exact hB
    clear hB hz1 hk1 hvm ht
    generalize H1 = H at hP hS ⊢
    have hw15E : σ5 = σ14 := (hw15.1).symm
    subst hw15E
    have b16 : (0 : Int) ≤ r13.toInt ∧ r13.toInt ≤ 16 := hw15.2.1
    have b17 : CJ (σ5 9) p1.toInt.toNat r13.toInt.toNat := hw15.2.2.1
    exact W.iret (v := r13) hx hb hr (fun tS ht hW => ⟨⟨r13, σ5, rfl, ⟨Fr.tr (Fr.tr (Fr.rf) (sI_f eσ1) (fN_L rfl)) hF7 (fL_sub rfl), hJ8, trivial⟩, (show va_P D clz (WD9 cy g σ5) tS.heap by rw [ht]; exact hP)⟩, hS.F ht⟩) hS.2.2 dX9_judge_29
  ·
    have k18 := neq32 c11
    refine lv_iload hx hb dX9_judge_19 (lv_at hl 0 rfl) ?_
    refine lv_goto (tgt := 29) hx hb dX9_judge_21 (by decide) ?_
    exact W.iret (v := r4) hx hb hr (fun tS ht hW => ⟨⟨r4, σ5, rfl, ⟨Fr.tr (Fr.tr (Fr.rf) (sI_f eσ1) (fN_L rfl)) hF7 (fL_sub rfl), hJ8, trivial⟩, (show va_P D clz (WD9 cy g σ5) tS.heap by rw [ht]; exact hP)⟩, hS.F ht⟩) hS.2.2 dX9_judge_29

theorem q2067 : Cond.code yX9_told cX9_told 7 (some .int) ∈ lw_g := lw_gm (List.mem_of_getElem? (i := 2067) (by decide +kernel)) rfl
theorem dX9_told_0 : decode cX9_told 0 = .ok (.aload_n 0, 1) := by decide +kernel
theorem dX9_told_1 : decode cX9_told 1 = .ok (.iconst 0, 1) := by decide +kernel
theorem dX9_told_2 : decode cX9_told 2 = .ok (.putfield 129, 3) := by decide +kernel
theorem dX9_told_5 : decode cX9_told 5 = .ok (.aload_n 0, 1) := by decide +kernel
theorem dX9_told_6 : decode cX9_told 6 = .ok (.iload_n 1, 1) := by decide +kernel
theorem dX9_told_7 : decode cX9_told 7 = .ok (.iload_n 2, 1) := by decide +kernel
theorem dX9_told_8 : decode cX9_told 8 = .ok (.iload_n 3, 1) := by decide +kernel
theorem dX9_told_9 : decode cX9_told 9 = .ok (.invokevirtual 516, 3) := by decide +kernel
theorem dX9_told_12 : decode cX9_told 12 = .ok (.istore 4, 2) := by decide +kernel
theorem dX9_told_14 : decode cX9_told 14 = .ok (.iload 4, 2) := by decide +kernel
theorem dX9_told_16 : decode cX9_told 16 = .ok (.ifCond .eq 6, 3) := by decide +kernel
theorem dX9_told_19 : decode cX9_told 19 = .ok (.iload 4, 2) := by decide +kernel
theorem dX9_told_21 : decode cX9_told 21 = .ok (.ireturn, 1) := by decide +kernel
theorem dX9_told_22 : decode cX9_told 22 = .ok (.aload_n 0, 1) := by decide +kernel
theorem dX9_told_23 : decode cX9_told 23 = .ok (.iload_n 1, 1) := by decide +kernel
theorem dX9_told_24 : decode cX9_told 24 = .ok (.invokevirtual 519, 3) := by decide +kernel
theorem dX9_told_27 : decode cX9_told 27 = .ok (.aload_n 0, 1) := by decide +kernel
theorem dX9_told_28 : decode cX9_told 28 = .ok (.getfield 387, 3) := by decide +kernel
theorem dX9_told_31 : decode cX9_told 31 = .ok (.if_icmp .ge 5, 3) := by decide +kernel
theorem dX9_told_34 : decode cX9_told 34 = .ok (.iconst (-1), 1) := by decide +kernel
theorem dX9_told_35 : decode cX9_told 35 = .ok (.ireturn, 1) := by decide +kernel
theorem dX9_told_36 : decode cX9_told 36 = .ok (.iconst 0, 1) := by decide +kernel
theorem dX9_told_37 : decode cX9_told 37 = .ok (.istore 5, 2) := by decide +kernel
theorem dX9_told_39 : decode cX9_told 39 = .ok (.iconst 0, 1) := by decide +kernel
theorem dX9_told_40 : decode cX9_told 40 = .ok (.istore 6, 2) := by decide +kernel
theorem dX9_told_42 : decode cX9_told 42 = .ok (.iload 6, 2) := by decide +kernel
theorem dX9_told_44 : decode cX9_told 44 = .ok (.iconst 1, 1) := by decide +kernel
theorem dX9_told_45 : decode cX9_told 45 = .ok (.iadd, 1) := by decide +kernel
theorem dX9_told_46 : decode cX9_told 46 = .ok (.aload_n 0, 1) := by decide +kernel
theorem dX9_told_47 : decode cX9_told 47 = .ok (.getfield 387, 3) := by decide +kernel
theorem dX9_told_50 : decode cX9_told 50 = .ok (.if_icmp .ge 48, 3) := by decide +kernel
theorem dX9_told_53 : decode cX9_told 53 = .ok (.iload 5, 2) := by decide +kernel
theorem dX9_told_55 : decode cX9_told 55 = .ok (.aload_n 0, 1) := by decide +kernel
theorem dX9_told_56 : decode cX9_told 56 = .ok (.iload 6, 2) := by decide +kernel
theorem dX9_told_58 : decode cX9_told 58 = .ok (.aload_n 0, 1) := by decide +kernel
theorem dX9_told_59 : decode cX9_told 59 = .ok (.getfield 16, 3) := by decide +kernel
theorem dX9_told_62 : decode cX9_told 62 = .ok (.bipush 60, 2) := by decide +kernel
theorem dX9_told_64 : decode cX9_told 64 = .ok (.iload_n 1, 1) := by decide +kernel
theorem dX9_told_65 : decode cX9_told 65 = .ok (.imul, 1) := by decide +kernel
theorem dX9_told_66 : decode cX9_told 66 = .ok (.iload 6, 2) := by decide +kernel
theorem dX9_told_68 : decode cX9_told 68 = .ok (.iadd, 1) := by decide +kernel
theorem dX9_told_69 : decode cX9_told 69 = .ok (.laload, 1) := by decide +kernel
theorem dX9_told_70 : decode cX9_told 70 = .ok (.l2i, 1) := by decide +kernel
theorem dX9_told_71 : decode cX9_told 71 = .ok (.aload_n 0, 1) := by decide +kernel
theorem dX9_told_72 : decode cX9_told 72 = .ok (.getfield 16, 3) := by decide +kernel
theorem dX9_told_75 : decode cX9_told 75 = .ok (.bipush 60, 2) := by decide +kernel
theorem dX9_told_77 : decode cX9_told 77 = .ok (.iload_n 1, 1) := by decide +kernel
theorem dX9_told_78 : decode cX9_told 78 = .ok (.imul, 1) := by decide +kernel
theorem dX9_told_79 : decode cX9_told 79 = .ok (.iload 6, 2) := by decide +kernel
theorem dX9_told_81 : decode cX9_told 81 = .ok (.iadd, 1) := by decide +kernel
theorem dX9_told_82 : decode cX9_told 82 = .ok (.iconst 1, 1) := by decide +kernel
theorem dX9_told_83 : decode cX9_told 83 = .ok (.iadd, 1) := by decide +kernel
theorem dX9_told_84 : decode cX9_told 84 = .ok (.laload, 1) := by decide +kernel
theorem dX9_told_85 : decode cX9_told 85 = .ok (.l2i, 1) := by decide +kernel
theorem dX9_told_86 : decode cX9_told 86 = .ok (.invokevirtual 405, 3) := by decide +kernel
theorem dX9_told_89 : decode cX9_told 89 = .ok (.iadd, 1) := by decide +kernel
theorem dX9_told_90 : decode cX9_told 90 = .ok (.istore 5, 2) := by decide +kernel
theorem dX9_told_92 : decode cX9_told 92 = .ok (.iinc 6 1, 3) := by decide +kernel
theorem dX9_told_95 : decode cX9_told 95 = .ok (.goto (-53), 3) := by decide +kernel
theorem dX9_told_98 : decode cX9_told 98 = .ok (.iload 5, 2) := by decide +kernel
theorem dX9_told_100 : decode cX9_told 100 = .ok (.ireturn, 1) := by decide +kernel
set_option maxHeartbeats 4000000 in
set_option maxRecDepth 100000 in
theorem m_X9_told (l : Launch) (D : va_G) (cy : Nat → ClassId) (g : Nat → Nat) (σ : ST) (p1 : Int32) (p2 : Int32) (p3 : Int32) (sz : Nat) (hJ : J9 (σ 9)) (kDK0 : DK0 (σ 9)) : Met l yX9_told (ww yX9_told cX9_told 7 (some .int)) ({ frames := 7, cells := 0, slots := 0, locals := 448 }) (va_Pc [.ref (g 60), .int p1, .int p2, .int p3] (pr9 D cy g σ sz)) (qi9 D cy g sz (fun r τ => Fr (fL [0, 23, 24, 25, 26, 27, 28, 29, 30, 31, 32, 33, 34]) σ τ ∧ J9 (τ 9) ∧ True)) 0 0 (A9 cy g sz) := by
  refine Met.ofW (cc := cX9_told) (maxL := 7) (ret := (some .int)) (by decide) rfl ?_
  intro p e s m args below meth c s₁ B hml hv
  obtain ⟨rfl, hsz, hP, hK, hD0, hC⟩ := hv
  have hx := B.exec
  have hb := B.bytes
  have hr := B.returns
  have hts := hts_g (atoms_spec (ws := ww yX9_told cX9_told 7 (some .int)) B.pre)
  have hown : s.vm.findClass RX9 = some m.cls := findClass_of_methodNamed B.named
  have hlocks := B.notSynchronized
  clear B
  subst hsz
  have hD := fun τ => A9_D (sz := s.heap.size) hD0 τ
  clear hD0
  have hS : va_S (A9 cy g s.heap.size) s.heap s.heap [] := va_S.rf
  have hl := lv_entry ([.ref (g 60), .int p1, .int p2, .int p3]) (n := 7) (Nat.le_of_ble_eq_true rfl)
  rw [lg_entry_eq]
  generalize (lg_sl ([.ref (g 60), .int p1, .int p2, .int p3]) ++ List.replicate (7 - (lg_sl ([.ref (g 60), .int p1, .int p2, .int p3])).length) Slot.unset).toArray = ls at hl ⊢
  have hl : lv_has ls 7 [(0, .ref (g 60)), (1, .int p1), (2, .int p2), (3, .int p3)] := hl
  refine lv_aload_n hx hb dX9_told_0 rfl (lv_at hl 0 rfl) ?_
  refine lv_iconst (v := 0) hx hb dX9_told_1 (by decide) ?_
  refine p9_0 hx hb hts hown hK hP hD hS (hts _ q1360) dX9_told_2 (fun H locs σ1 eσ1 hP hS => ?_)
  have hJ2 : J9 (σ1 9) := hJ.I eσ1 (show JI9 0 (0 : Int32) from trivial)
  have T3 : DK0 (σ1 9) := DK0.mv kDK0 ((sI_f eσ1) 9 17 rfl).2.2.1 ((sI_f eσ1) 9 18 rfl).2.2.1 ((sI_f eσ1) 9 19 rfl).2.2.1
  refine lv_aload_n hx hb dX9_told_5 rfl (lv_at hl 0 rfl) ?_
  refine lv_iload_n hx hb dX9_told_6 rfl (lv_at hl 1 rfl) ?_
  refine lv_iload_n hx hb dX9_told_7 rfl (lv_at hl 2 rfl) ?_
  refine lv_iload_n hx hb dX9_told_8 rfl (lv_at hl 3 rfl) ?_
  refine va_calli (va_runV (As := [.int p1, .int p2, .int p3]) (rest := []) ⟨hx, hb, hml, hown, hts⟩ (m_X9_whyNot l D cy g σ1 p1 p2 p3 _ hJ2 T3) (cwV 3 hts (gd_V q2052 q2054 q119 q134 q2055) rfl rfl rfl (by decide +kernel) ⟨Nat.le_of_ble_eq_true rfl, Nat.le_of_ble_eq_true rfl⟩) (pv9 hP hK hD hC hS (va_recv hK hP (ci := 9) (q0 := 0) rfl rfl)) rfl rfl hl.1 rfl (lv_room (Nat.le_of_ble_eq_true rfl)) dX9_told_9 ⟨Nat.le_of_ble_eq_true rfl, Nat.le_of_ble_eq_true rfl⟩) hS (fun q _ h => up9 hS q h) (up9 hS) (fun r4 σ5 tS H1 locs ht hvm hw6 hB hz1 hk1 hS => ?_)
  have hP : va_P D clz (WD9 cy g σ5) H1 := by rw [← ht]; exact hB
  clear hB hz1 hk1 hvm ht
  generalize H1 = H at hP hS ⊢
  have hF7 : Fr (fL [23, 24, 25, 26, 27, 28, 29, 30, 31, 32, 33, 34]) σ1 σ5 := hw6.1
  have hJ8 : J9 (σ5 9) := hw6.2.1
  have b9 : (¬ r4.toInt = 0) ∨ ((0 : Int) ≤ p1.toInt ∧ p1.toInt ≤ 3 ∧ (0 : Int) ≤ p2.toInt ∧ p2.toInt ≤ 8 ∧ (0 : Int) ≤ p3.toInt ∧ p3.toInt ≤ 2) := hw6.2.2.1
  have T10 : DK0 (σ5 9) := DK0.mv T3 (hF7 9 17 rfl).2.2.1 (hF7 9 18 rfl).2.2.1 (hF7 9 19 rfl).2.2.1
  refine lv_istore (lv' := [(4, .int r4), (0, .ref (g 60)), (1, .int p1), (2, .int p2), (3, .int p3)]) hx hb dX9_told_12 hl (by decide) rfl (fun ls hl => ?_)
  refine lv_iload hx hb dX9_told_14 (lv_at hl 0 rfl) ?_
  refine lv_if_eq (tgt := 22) hx hb dX9_told_16 (by decide) (fun c11 => ?_) (fun c11 => ?_)
  ·
    have k12 := peq32 c11
    refine lv_aload_n hx hb dX9_told_22 rfl (lv_at hl 1 rfl) ?_
    refine lv_iload_n hx hb dX9_told_23 rfl (lv_at hl 2 rfl) ?_
    refine va_calli (va_runV (As := [.int p1]) (rest := []) ⟨hx, hb, hml, hown, hts⟩ (m_X9_judges l D cy g σ5 p1 _ hJ8 (show (0 : Int) ≤ p1.toInt ∧ p1.toInt ≤ 3 from (by have f0 := b9; have f1 := k12; have g0 := rg32 p1; have z0 : (0 : Int32).toInt = 0 := (by decide); omega))) (cwV 1 hts (gd_V q2056 q2058 q120 q134 q2059) rfl rfl rfl (by decide +kernel) ⟨Nat.le_of_ble_eq_true rfl, Nat.le_of_ble_eq_true rfl⟩) (pv9 hP hK hD hC hS (va_recv hK hP (ci := 9) (q0 := 0) rfl rfl)) rfl rfl hl.1 rfl (lv_room (Nat.le_of_ble_eq_true rfl)) dX9_told_24 ⟨Nat.le_of_ble_eq_true rfl, Nat.le_of_ble_eq_true rfl⟩) hS (fun q _ h => up9 hS q h) (up9 hS) (fun r13 σ14 tS H1 locs ht hvm hw15 hB hz1 hk1 hS => ?_)
    have hP : va_P D clz (WD9 cy g σ14) H1 := by rw [← ht]; exact hB
    clear hB hz1 hk1 hvm ht
    generalize H1 = H at hP hS ⊢
    have hw15E : σ5 = σ14 := (hw15.1).symm
    subst hw15E
    have b16 : (0 : Int) ≤ r13.toInt ∧ r13.toInt ≤ 16 := hw15.2.1
    have b17 : CJ (σ5 9) p1.toInt.toNat r13.toInt.toNat := hw15.2.2.1
    refine lv_aload_n hx hb dX9_told_27 rfl (lv_at hl 1 rfl) ?_
    refine g9_31 (x := ((σ5 9).1 31)) hx hb hts hown hK hP (rfl) (hts _ q1391) dX9_told_28 ?_
    refine lv_icmp_ge (tgt := 36) hx hb dX9_told_31 (by decide) (fun c18 => ?_) (fun c18 => ?_)
    ·
      have k19 := ple32 c18
      refine lv_iconst (v := 0) hx hb dX9_told_36 (by decide) ?_
      refine lv_istore (lv' := [(5, .int 0), (4, .int r4), (0, .ref (g 60)), (1, .int p1), (2, .int p2), (3, .int p3)]) hx hb dX9_told_37 hl (by decide) rfl (fun ls hl => ?_)
      refine lv_iconst (v := 0) hx hb dX9_told_39 (by decide) ?_
      refine lv_istore (lv' := [(6, .int 0), (5, .int 0), (4, .int r4), (0, .ref (g 60)), (1, .int p1), (2, .int p2), (3, .int p3)]) hx hb dX9_told_40 hl (by decide) rfl (fun ls hl => ?_)
      refine loop9 7 42 (fun x : LZ => [(6, .int (x.2.1 0)), (5, .int (x.2.1 1)), (4, .int r4), (0, .ref (g 60)), (1, .int p1), (2, .int p2), (3, .int p3)]) (fun x : LZ => (x.1 = σ5) ∧ ((0 : Int) ≤ (x.2.1 0).toInt ∧ (x.2.1 0).toInt ≤ 15) ∧ (DK0 (σ5 9)) ∧ True) (fun x : LZ => ((16 : Int) - (x.2.1 0).toInt).toNat) ?_ (σ5, lf [0, 0], lg []) ⟨rfl, (show (0 : Int) ≤ (0 : Int32).toInt ∧ (0 : Int32).toInt ≤ 15 from (by have z0 : (0 : Int32).toInt = 0 := (by decide); omega)), (show DK0 (σ5 9) from T10), trivial⟩ _ _ _ hP hS (lv_sub hl [0, 1, 2, 3, 4, 5, 6] rfl)
      intro y22 hI21 nl20 H locs ls hP hS hl
      rw [show y22.1 = σ5 from hI21.1] at hP
      have b23 : (0 : Int) ≤ (y22.2.1 0).toInt ∧ (y22.2.1 0).toInt ≤ 15 := hI21.2.1
      have b24 : DK0 (σ5 9) := hI21.2.2.1
      have hl : lv_has ls 7 [(6, .int (y22.2.1 0)), (5, .int (y22.2.1 1)), (4, .int r4), (0, .ref (g 60)), (1, .int p1), (2, .int p2), (3, .int p3)] := hl
      refine lv_iload hx hb dX9_told_42 (lv_at hl 0 rfl) ?_
      refine lv_iconst (v := 1) hx hb dX9_told_44 (by decide) ?_
      refine lv_iadd hx hb dX9_told_45 ?_
      refine lv_topi (fun x25 ex25 => ?_)
      have t26 := addO ex25 (by have f0 := b23; have g0 := rg32 (y22.2.1 0); have z1 : (1 : Int32).toInt = 1 := (by decide); omega)
      refine lv_aload_n hx hb dX9_told_46 rfl (lv_at hl 3 rfl) ?_
      refine g9_31 (x := ((σ5 9).1 31)) hx hb hts hown hK hP (rfl) (hts _ q1391) dX9_told_47 ?_
      refine lv_icmp_ge (tgt := 98) hx hb dX9_told_50 (by decide) (fun c27 => ?_) (fun c27 => ?_)
      ·
        have k28 := ple32 c27
        refine lv_iload hx hb dX9_told_98 (lv_at hl 1 rfl) ?_
        exact W.iret (v := (y22.2.1 1)) hx hb hr (fun tS ht hW => ⟨⟨(y22.2.1 1), σ5, rfl, ⟨Fr.tr (Fr.tr (Fr.rf) (sI_f eσ1) (fN_L rfl)) hF7 (fL_sub rfl), hJ8, trivial⟩, (show va_P D clz (WD9 cy g σ5) tS.heap by rw [ht]; exact hP)⟩, hS.F ht⟩) hS.2.2 dX9_told_100
      ·
        have k29 := nle32 c27
        refine lv_iload hx hb dX9_told_53 (lv_at hl 1 rfl) ?_
        refine lv_aload_n hx hb dX9_told_55 rfl (lv_at hl 3 rfl) ?_
        refine lv_iload hx hb dX9_told_56 (lv_at hl 0 rfl) ?_
        refine lv_aload_n hx hb dX9_told_58 rfl (lv_at hl 3 rfl) ?_
        refine g9_3 hx hb hts hown hK hP (hts _ q1363) dX9_told_59 ?_
        refine lv_bipush (v := 60) hx hb dX9_told_62 (by decide) ?_
        refine lv_iload_n hx hb dX9_told_64 rfl (lv_at hl 4 rfl) ?_
        refine lv_imul hx hb dX9_told_65 ?_
        refine lv_topi (fun x30 ex30 => ?_)
        have t31 := mulC' (n := 60) ex30 (by decide) (by have f0 := b9; have f1 := k12; have g0 := rg32 p1; have z0 : (0 : Int32).toInt = 0 := (by decide); omega)
        refine lv_iload hx hb dX9_told_66 (lv_at hl 0 rfl) ?_
        refine lv_iadd hx hb dX9_told_68 ?_
        refine lv_topi (fun x32 ex32 => ?_)
        have t33 := addO ex32 (by have f0 := b23; have f1 := t26; have f2 := t31; have f3 := b9; have f4 := k29; have f5 := j9_31 hJ8 rfl; have f6 := k12; have f7 := k19; have f8 := b16; have g0 := rg32 (y22.2.1 0); have g1 := rg32 x30; have z0 : (0 : Int32).toInt = 0 := (by decide); have z1 : (1 : Int32).toInt = 1 := (by decide); omega)
        obtain ⟨x34, ex34⟩ : ∃ z, (σ 9).2.2.2 3 x32.toInt.toNat = z := ⟨_, rfl⟩
        refine l9_3 (x := x34) hx hb hK hP (vpo (by have f0 := t33; have f1 := b23; have f2 := t26; have f3 := t31; have f4 := b9; have f5 := k29; have f6 := j9_31 hJ8 rfl; have f7 := k12; have f8 := k19; have f9 := b16; have g0 := rg32 x32; have z0 : (0 : Int32).toInt = 0 := (by decide); have z1 : (1 : Int32).toInt = 1 := (by decide); omega)) ((congrFun (((hF7 9 3 rfl).2.2.2).trans (((sI_f eσ1) 9 3 rfl).2.2.2)) _).trans ex34) dX9_told_69 ?_
        have t35 : 0 ≤ x34.toInt ∧ x34.toInt ≤ 87 := by have h := b17 ((y22.2.1 0).toInt.toNat) (by have f0 := b16; have f1 := k19; have f2 := b23; have f3 := t26; have f4 := t33; have f5 := j9_31 hJ8 rfl; have f6 := k29; have f7 := t31; have f8 := b9; have f9 := k12; have g0 := rg32 (y22.2.1 0); have g1 := rg32 r13; have z0 : (0 : Int32).toInt = 0 := (by decide); have z1 : (1 : Int32).toInt = 1 := (by decide); omega); rw [((hF7 9 3 rfl).2.2.2).trans (((sI_f eσ1) 9 3 rfl).2.2.2), show 60 * p1.toInt.toNat + ((y22.2.1 0).toInt.toNat) = x32.toInt.toNat from (by have f0 := b9; have f1 := b23; have f2 := t26; have f3 := t31; have f4 := t33; have f5 := k12; have f6 := k29; have f7 := j9_31 hJ8 rfl; have f8 := k19; have f9 := b16; have g0 := rg32 (y22.2.1 0); have g1 := rg32 p1; have g2 := rg32 x32; have z0 : (0 : Int32).toInt = 0 := (by decide); have z1 : (1 : Int32).toInt = 1 := (by decide); omega), ex34] at h; exact h
        refine lv_l2i hx hb dX9_told_70 rfl ?_
        refine lv_topi (fun x36 ex36 => ?_)
        have t37 := l2iO ex36 (by have f0 := t35; omega)
        refine lv_aload_n hx hb dX9_told_71 rfl (lv_at hl 3 rfl) ?_
        refine g9_3 hx hb hts hown hK hP (hts _ q1363) dX9_told_72 ?_
        refine lv_bipush (v := 60) hx hb dX9_told_75 (by decide) ?_
        refine lv_iload_n hx hb dX9_told_77 rfl (lv_at hl 4 rfl) ?_
        refine lv_imul hx hb dX9_told_78 ?_
        refine lv_topi (fun x38 ex38 => ?_)
        have t39 := mulC' (n := 60) ex38 (by decide) (by have f0 := b9; have f1 := t31; have f2 := k12; have f3 := t33; have f4 := b23; have f5 := t26; have f6 := k29; have f7 := j9_31 hJ8 rfl; have f8 := k19; have f9 := b16; have g0 := rg32 p1; have z0 : (0 : Int32).toInt = 0 := (by decide); have z1 : (1 : Int32).toInt = 1 := (by decide); omega)
        refine lv_iload hx hb dX9_told_79 (lv_at hl 0 rfl) ?_
        refine lv_iadd hx hb dX9_told_81 ?_
        refine lv_topi (fun x40 ex40 => ?_)
        have t41 := addO ex40 (by have f0 := b23; have f1 := t26; have f2 := t33; have f3 := t39; have f4 := b9; have f5 := k29; have f6 := t31; have f7 := j9_31 hJ8 rfl; have f8 := k12; have f9 := k19; have f10 := b16; have g0 := rg32 (y22.2.1 0); have g1 := rg32 x38; have z0 : (0 : Int32).toInt = 0 := (by decide); have z1 : (1 : Int32).toInt = 1 := (by decide); omega)
        refine lv_iconst (v := 1) hx hb dX9_told_82 (by decide) ?_
        refine lv_iadd hx hb dX9_told_83 ?_
        refine lv_topi (fun x42 ex42 => ?_)
        have t43 := addO ex42 (by have f0 := t41; have f1 := b23; have f2 := t26; have f3 := t33; have f4 := t39; have f5 := b9; have f6 := k29; have f7 := t31; have f8 := j9_31 hJ8 rfl; have f9 := k12; have f10 := k19; have f11 := b16; have g0 := rg32 x40; have z0 : (0 : Int32).toInt = 0 := (by decide); have z1 : (1 : Int32).toInt = 1 := (by decide); omega)
        obtain ⟨x44, ex44⟩ : ∃ z, (σ 9).2.2.2 3 x42.toInt.toNat = z := ⟨_, rfl⟩
        refine l9_3 (x := x44) hx hb hK hP (vpo (by have f0 := t43; have f1 := t41; have f2 := b23; have f3 := t26; have f4 := t33; have f5 := t39; have f6 := b9; have f7 := k29; have f8 := t31; have f9 := j9_31 hJ8 rfl; have f10 := k12; have f11 := k19; have f12 := b16; have g0 := rg32 x42; have z0 : (0 : Int32).toInt = 0 := (by decide); have z1 : (1 : Int32).toInt = 1 := (by decide); omega)) ((congrFun (((hF7 9 3 rfl).2.2.2).trans (((sI_f eσ1) 9 3 rfl).2.2.2)) _).trans ex44) dX9_told_84 ?_
        have t45 : 0 ≤ x44.toInt ∧ x44.toInt ≤ 87 := by have h := b17 ((y22.2.1 0).toInt.toNat + 1) (by have f0 := b16; have f1 := k19; have f2 := b23; have f3 := t26; have f4 := t33; have f5 := t41; have f6 := j9_31 hJ8 rfl; have f7 := k29; have f8 := t31; have f9 := t39; have f10 := t43; have f11 := b9; have f12 := k12; have g0 := rg32 (y22.2.1 0); have g1 := rg32 r13; have z0 : (0 : Int32).toInt = 0 := (by decide); have z1 : (1 : Int32).toInt = 1 := (by decide); omega); rw [((hF7 9 3 rfl).2.2.2).trans (((sI_f eσ1) 9 3 rfl).2.2.2), show 60 * p1.toInt.toNat + ((y22.2.1 0).toInt.toNat + 1) = x42.toInt.toNat from (by have f0 := b9; have f1 := b23; have f2 := t26; have f3 := t31; have f4 := t33; have f5 := t39; have f6 := t41; have f7 := t43; have f8 := k12; have f9 := k29; have f10 := j9_31 hJ8 rfl; have f11 := k19; have f12 := b16; have g0 := rg32 (y22.2.1 0); have g1 := rg32 p1; have g2 := rg32 x42; have z0 : (0 : Int32).toInt = 0 := (by decide); have z1 : (1 : Int32).toInt = 1 := (by decide); omega), ex44] at h; exact h
        refine lv_l2i hx hb dX9_told_85 rfl ?_
        refine lv_topi (fun x46 ex46 => ?_)
        have t47 := l2iO ex46 (by have f0 := t45; omega)
        refine va_calli (va_runV (As := [.int (y22.2.1 0), .int x36, .int x46]) (rest := [.int (y22.2.1 1)]) ⟨hx, hb, hml, hown, hts⟩ (m_X9_moveBy l D cy g σ5 (y22.2.1 0) x36 x46 _ hJ8 (show (0 : Int) ≤ (y22.2.1 0).toInt ∧ (y22.2.1 0).toInt ≤ 14 from (by have f0 := b23; have f1 := t26; have f2 := t33; have f3 := t41; have f4 := k29; have f5 := t31; have f6 := t39; have f7 := t43; have f8 := j9_31 hJ8 rfl; have f9 := b9; have f10 := k19; have f11 := k12; have f12 := b16; have g0 := rg32 (y22.2.1 0); have z0 : (0 : Int32).toInt = 0 := (by decide); have z1 : (1 : Int32).toInt = 1 := (by decide); omega)) (show (0 : Int) ≤ x36.toInt ∧ x36.toInt ≤ 87 from (by have f0 := b23; have f1 := t26; have f2 := t33; have f3 := t37; have f4 := t41; have f5 := k29; have f6 := t31; have f7 := t35; have f8 := t39; have f9 := t43; have f10 := j9_31 hJ8 rfl; have f11 := b9; have f12 := k19; have f13 := k12; have f14 := b16; have g0 := rg32 (y22.2.1 0); have g1 := rg32 x36; have z0 : (0 : Int32).toInt = 0 := (by decide); have z1 : (1 : Int32).toInt = 1 := (by decide); omega)) (show (0 : Int) ≤ x46.toInt ∧ x46.toInt ≤ 87 from (by have f0 := b23; have f1 := t26; have f2 := t33; have f3 := t37; have f4 := t41; have f5 := t47; have f6 := k29; have f7 := t31; have f8 := t35; have f9 := t39; have f10 := t43; have f11 := t45; have f12 := j9_31 hJ8 rfl; have f13 := b9; have f14 := k19; have f15 := k12; have f16 := b16; have g0 := rg32 (y22.2.1 0); have g1 := rg32 x36; have g2 := rg32 x46; have z0 : (0 : Int32).toInt = 0 := (by decide); have z1 : (1 : Int32).toInt = 1 := (by decide); omega))) (cwV 3 hts (gd_V q1862 q1864 q97 q134 q1865) rfl rfl rfl (by decide +kernel) ⟨Nat.le_of_ble_eq_true rfl, Nat.le_of_ble_eq_true rfl⟩) (pv9 hP hK hD hC hS (va_recv hK hP (ci := 9) (q0 := 0) rfl rfl)) rfl rfl hl.1 rfl (lv_room (Nat.le_of_ble_eq_true rfl)) dX9_told_86 ⟨Nat.le_of_ble_eq_true rfl, Nat.le_of_ble_eq_true rfl⟩) hS (fun q _ h => up9 hS q h) (up9 hS) (fun r48 σ49 tS H1 locs ht hvm hw50 hB hz1 hk1 hS => ?_)
        have hP : va_P D clz (WD9 cy g σ49) H1 := by rw [← ht]; exact hB
        clear hB hz1 hk1 hvm ht
        generalize H1 = H at hP hS ⊢
        have hw50E : σ5 = σ49 := (hw50.1).symm
        subst hw50E
        have b51 : r48 = mvW (σ5 9) (y22.2.1 0).toInt.toNat x36.toInt.toNat x46.toInt.toNat := hw50.2.1
        refine lv_iadd hx hb dX9_told_89 ?_
        refine lv_topi (fun x52 ex52 => ?_)
        refine lv_istore (lv' := [(5, .int x52), (6, .int (y22.2.1 0)), (4, .int r4), (0, .ref (g 60)), (1, .int p1), (2, .int p2), (3, .int p3)]) hx hb dX9_told_90 hl (by decide) rfl (fun ls hl => ?_)
        obtain ⟨x53, ex53⟩ : ∃ y : Int32, y = (y22.2.1 0) + 1 := ⟨_, rfl⟩
        have t54 := addO ex53 (by have f0 := b23; have f1 := t26; have f2 := t33; have f3 := t41; have f4 := k29; have f5 := t31; have f6 := t39; have f7 := t43; have f8 := j9_31 hJ8 rfl; have f9 := b9; have f10 := k19; have f11 := k12; have f12 := b16; have g0 := rg32 (y22.2.1 0); have z0 : (0 : Int32).toInt = 0 := (by decide); have z1 : (1 : Int32).toInt = 1 := (by decide); omega)
        refine lv_iinc (v := x53) (lv' := [(6, .int x53), (5, .int x52), (4, .int r4), (0, .ref (g 60)), (1, .int p1), (2, .int p2), (3, .int p3)]) hx hb dX9_told_92 hl (k := 1) rfl (by rw [ex53]; rfl) (by decide) rfl (fun ls hl => ?_)
        refine lv_goto (tgt := 42) hx hb dX9_told_95 (by decide) ?_
        have t55 : ((16 : Int) - x53.toInt).toNat < ((16 : Int) - (y22.2.1 0).toInt).toNat := (by have f0 := b23; have f1 := t26; have f2 := t33; have f3 := t41; have f4 := t54; have f5 := k29; have f6 := t31; have f7 := t39; have f8 := t43; have f9 := j9_31 hJ8 rfl; have f10 := b9; have f11 := k19; have f12 := k12; have f13 := b16; have g0 := rg32 (y22.2.1 0); have g1 := rg32 x53; have z0 : (0 : Int32).toInt = 0 := (by decide); have z1 : (1 : Int32).toInt = 1 := (by decide); omega)
        exact nl20 (σ5, lf [x53, x52], lg []) ⟨rfl, (show (0 : Int) ≤ (x53 : Int32).toInt ∧ (x53 : Int32).toInt ≤ 15 from (by have f0 := t54; have f1 := b23; have f2 := t26; have f3 := t33; have f4 := t41; have f5 := k29; have f6 := t31; have f7 := t39; have f8 := t43; have f9 := j9_31 hJ8 rfl; have f10 := b9; have f11 := k19; have f12 := k12; have f13 := b16; have g0 := rg32 x53; have z0 : (0 : Int32).toInt = 0 := (by decide); have z1 : (1 : Int32).toInt = 1 := (by decide); omega)), (show DK0 (σ5 9) from b24), trivial⟩ (show ((16 : Int) - x53.toInt).toNat < _ from t55) _ _ _ hP hS (lv_sub hl [0, 1, 2, 3, 4, 5, 6] rfl)
    ·
      have k56 := nle32 c18
      refine lv_iconst (v := (-1)) hx hb dX9_told_34 (by decide) ?_
      exact W.iret (v := (-1)) hx hb hr (fun tS ht hW => ⟨⟨(-1), σ5, rfl, ⟨Fr.tr (Fr.tr (Fr.rf) (sI_f eσ1) (fN_L rfl)) hF7 (fL_sub rfl), hJ8, trivial⟩, (show va_P D clz (WD9 cy g σ5) tS.heap by rw [ht]; exact hP)⟩, hS.F ht⟩) hS.2.2 dX9_told_35
  ·
    have k57 := neq32 c11
    refine lv_iload hx hb dX9_told_19 (lv_at hl 0 rfl) ?_
    exact W.iret (v := r4) hx hb hr (fun tS ht hW => ⟨⟨r4, σ5, rfl, ⟨Fr.tr (Fr.tr (Fr.rf) (sI_f eσ1) (fN_L rfl)) hF7 (fL_sub rfl), hJ8, trivial⟩, (show va_P D clz (WD9 cy g σ5) tS.heap by rw [ht]; exact hP)⟩, hS.F ht⟩) hS.2.2 dX9_told_21

theorem q2043 : Cond.code yX9_shares cX9_shares 5 none ∈ lw_g := lw_gm (List.mem_of_getElem? (i := 2043) (by decide +kernel)) rfl
theorem q1418 : Cond.fieldLink RX9 500 "LipsAndSlidesModel" "shareBest" "I" ∈ lw_g := lw_gm (List.mem_of_getElem? (i := 1418) (by decide +kernel)) rfl
theorem q1417 : Cond.fieldLink RX9 126 "LipsAndSlidesModel" "rowBest" "[I" ∈ lw_g := lw_gm (List.mem_of_getElem? (i := 1417) (by decide +kernel)) rfl
theorem q1416 : Cond.fieldLink RX9 123 "LipsAndSlidesModel" "rowNow" "[I" ∈ lw_g := lw_gm (List.mem_of_getElem? (i := 1416) (by decide +kernel)) rfl
theorem dX9_shares_0 : decode cX9_shares 0 = .ok (.iload_n 1, 1) := by decide +kernel
theorem dX9_shares_1 : decode cX9_shares 1 = .ok (.aload_n 0, 1) := by decide +kernel
theorem dX9_shares_2 : decode cX9_shares 2 = .ok (.getfield 34, 3) := by decide +kernel
theorem dX9_shares_5 : decode cX9_shares 5 = .ok (.iconst 4, 1) := by decide +kernel
theorem dX9_shares_6 : decode cX9_shares 6 = .ok (.iaload, 1) := by decide +kernel
theorem dX9_shares_7 : decode cX9_shares 7 = .ok (.if_icmp .ne 47, 3) := by decide +kernel
theorem dX9_shares_10 : decode cX9_shares 10 = .ok (.iload_n 3, 1) := by decide +kernel
theorem dX9_shares_11 : decode cX9_shares 11 = .ok (.aload_n 0, 1) := by decide +kernel
theorem dX9_shares_12 : decode cX9_shares 12 = .ok (.getfield 500, 3) := by decide +kernel
theorem dX9_shares_15 : decode cX9_shares 15 = .ok (.if_icmp .lt 4, 3) := by decide +kernel
theorem dX9_shares_18 : decode cX9_shares 18 = .ok (.return_, 1) := by decide +kernel
theorem dX9_shares_19 : decode cX9_shares 19 = .ok (.aload_n 0, 1) := by decide +kernel
theorem dX9_shares_20 : decode cX9_shares 20 = .ok (.iload_n 3, 1) := by decide +kernel
theorem dX9_shares_21 : decode cX9_shares 21 = .ok (.putfield 500, 3) := by decide +kernel
theorem dX9_shares_24 : decode cX9_shares 24 = .ok (.iconst 0, 1) := by decide +kernel
theorem dX9_shares_25 : decode cX9_shares 25 = .ok (.istore 4, 2) := by decide +kernel
theorem dX9_shares_27 : decode cX9_shares 27 = .ok (.iload 4, 2) := by decide +kernel
theorem dX9_shares_29 : decode cX9_shares 29 = .ok (.iconst 3, 1) := by decide +kernel
theorem dX9_shares_30 : decode cX9_shares 30 = .ok (.if_icmp .ge 23, 3) := by decide +kernel
theorem dX9_shares_33 : decode cX9_shares 33 = .ok (.aload_n 0, 1) := by decide +kernel
theorem dX9_shares_34 : decode cX9_shares 34 = .ok (.getfield 126, 3) := by decide +kernel
theorem dX9_shares_37 : decode cX9_shares 37 = .ok (.iload 4, 2) := by decide +kernel
theorem dX9_shares_39 : decode cX9_shares 39 = .ok (.aload_n 0, 1) := by decide +kernel
theorem dX9_shares_40 : decode cX9_shares 40 = .ok (.getfield 123, 3) := by decide +kernel
theorem dX9_shares_43 : decode cX9_shares 43 = .ok (.iload 4, 2) := by decide +kernel
theorem dX9_shares_45 : decode cX9_shares 45 = .ok (.iaload, 1) := by decide +kernel
theorem dX9_shares_46 : decode cX9_shares 46 = .ok (.iastore, 1) := by decide +kernel
theorem dX9_shares_47 : decode cX9_shares 47 = .ok (.iinc 4 1, 3) := by decide +kernel
theorem dX9_shares_50 : decode cX9_shares 50 = .ok (.goto (-23), 3) := by decide +kernel
theorem dX9_shares_53 : decode cX9_shares 53 = .ok (.return_, 1) := by decide +kernel
set_option maxHeartbeats 4000000 in
set_option maxRecDepth 100000 in
theorem m_X9_shares_c3 (l : Launch) (D : va_G) (cy : Nat → ClassId) (g : Nat → Nat) (σ : ST) (p2 : Int32) (p3 : Int32) (sz : Nat) (hJ : J9 (σ 9)) (h0 : (3 : Int32).toInt ≤ ((σ 9).2.2.1 17 4).toInt) : Met l yX9_shares (ww yX9_shares cX9_shares 5 none) ({ frames := 1, cells := 0, slots := 0, locals := 64 }) (va_Pc [.ref (g 60), .int 3, .int p2, .int p3] (pr9 D cy g σ sz)) (qv9 D cy g sz (fun τ => Fr (fL [56, 57, 58]) σ τ ∧ J9 (τ 9) ∧ True)) 0 0 (A9 cy g sz) := by
  refine Met.ofW (cc := cX9_shares) (maxL := 5) (ret := none) (by decide) rfl ?_
  intro p e s m args below meth c s₁ B hml hv
  obtain ⟨rfl, hsz, hP, hK, hD0, hC⟩ := hv
  have hx := B.exec
  have hb := B.bytes
  have hr := B.returns
  have hts := hts_g (atoms_spec (ws := ww yX9_shares cX9_shares 5 none) B.pre)
  have hown : s.vm.findClass RX9 = some m.cls := findClass_of_methodNamed B.named
  have hlocks := B.notSynchronized
  clear B
  subst hsz
  have hD := fun τ => A9_D (sz := s.heap.size) hD0 τ
  clear hD0
  have hS : va_S (A9 cy g s.heap.size) s.heap s.heap [] := va_S.rf
  have hl := lv_entry ([.ref (g 60), .int 3, .int p2, .int p3]) (n := 5) (Nat.le_of_ble_eq_true rfl)
  rw [lg_entry_eq]
  generalize (lg_sl ([.ref (g 60), .int 3, .int p2, .int p3]) ++ List.replicate (5 - (lg_sl ([.ref (g 60), .int 3, .int p2, .int p3])).length) Slot.unset).toArray = ls at hl ⊢
  have hl : lv_has ls 5 [(0, .ref (g 60)), (1, .int 3), (2, .int p2), (3, .int p3)] := hl
  refine lv_iload_n hx hb dX9_shares_0 rfl (lv_at hl 1 rfl) ?_
  refine lv_aload_n hx hb dX9_shares_1 rfl (lv_at hl 0 rfl) ?_
  refine g9_17 hx hb hts hown hK hP (hts _ q1377) dX9_shares_2 ?_
  refine lv_iconst (v := 4) hx hb dX9_shares_5 (by decide) ?_
  refine l9_17 (x := ((σ 9).2.2.1 17 4)) hx hb hK hP (vpi (by decide)) (congrArg ((σ 9).2.2.1 17) (show (4 : Int32).toInt.toNat = 4 by decide)) dX9_shares_6 ?_
  refine lv_icmp_ne (tgt := 54) hx hb dX9_shares_7 (by decide) (fun c1 => ?_) (fun c1 => ?_)
  ·
    have k2 := neq32 c1
    exact False.elim (by have f0 := a9_17 hJ (j := 4) rfl; have f1 := h0; have f2 := k2; have z3 : (3 : Int32).toInt = 3 := (by decide); omega)
  ·
    have k3 := peq32 c1
    refine lv_iload_n hx hb dX9_shares_10 rfl (lv_at hl 3 rfl) ?_
    refine lv_aload_n hx hb dX9_shares_11 rfl (lv_at hl 0 rfl) ?_
    refine g9_58 (x := ((σ 9).1 58)) hx hb hts hown hK hP (rfl) (hts _ q1418) dX9_shares_12 ?_
    refine lv_icmp_lt (tgt := 19) hx hb dX9_shares_15 (by decide) (fun c4 => ?_) (fun c4 => ?_)
    ·
      have k5 := plt32 c4
      refine lv_aload_n hx hb dX9_shares_19 rfl (lv_at hl 0 rfl) ?_
      refine lv_iload_n hx hb dX9_shares_20 rfl (lv_at hl 3 rfl) ?_
      refine p9_58 hx hb hts hown hK hP hD hS (hts _ q1418) dX9_shares_21 (fun H locs σ6 eσ6 hP hS => ?_)
      have hJ7 : J9 (σ6 9) := hJ.I eσ6 (show JI9 58 p3 from trivial)
      refine lv_iconst (v := 0) hx hb dX9_shares_24 (by decide) ?_
      refine lv_istore (lv' := [(4, .int 0), (0, .ref (g 60)), (1, .int 3), (2, .int p2), (3, .int p3)]) hx hb dX9_shares_25 hl (by decide) rfl (fun ls hl => ?_)
      refine loop9 5 27 (fun x : LZ => [(4, .int (x.2.1 0)), (0, .ref (g 60)), (1, .int 3), (2, .int p2), (3, .int p3)]) (fun x : LZ => (Fr (fL [57]) σ6 x.1) ∧ (J9 (x.1 9)) ∧ ((0 : Int) ≤ (x.2.1 0).toInt ∧ (x.2.1 0).toInt ≤ 3) ∧ True) (fun x : LZ => ((4 : Int) - (x.2.1 0).toInt).toNat) ?_ (σ6, lf [0], lg []) ⟨Fr.rf, hJ7, (show (0 : Int) ≤ (0 : Int32).toInt ∧ (0 : Int32).toInt ≤ 3 from (by have z0 : (0 : Int32).toInt = 0 := (by decide); omega)), trivial⟩ _ _ _ hP hS (lv_sub hl [0, 1, 2, 3, 4] rfl)
      intro y10 hI9 nl8 H locs ls hP hS hl
      obtain ⟨σ11, eσ11⟩ : ∃ z, z = y10.1 := ⟨_, rfl⟩
      rw [← eσ11] at hP hI9
      have hF12 : Fr (fL [57]) σ6 σ11 := hI9.1
      have hJ13 : J9 (σ11 9) := hI9.2.1
      have b14 : (0 : Int) ≤ (y10.2.1 0).toInt ∧ (y10.2.1 0).toInt ≤ 3 := hI9.2.2.1
      have hl : lv_has ls 5 [(4, .int (y10.2.1 0)), (0, .ref (g 60)), (1, .int 3), (2, .int p2), (3, .int p3)] := hl
      refine lv_iload hx hb dX9_shares_27 (lv_at hl 0 rfl) ?_
      refine lv_iconst (v := 3) hx hb dX9_shares_29 (by decide) ?_
      refine lv_icmp_ge (tgt := 53) hx hb dX9_shares_30 (by decide) (fun c15 => ?_) (fun c15 => ?_)
      ·
        have k16 := ple32 c15
        exact W.vret hx hb hr (fun tS ht hW => ⟨⟨σ11, rfl, ⟨Fr.tr (Fr.tr (Fr.rf) (sI_f eσ6) (fN_L rfl)) hF12 (fL_sub rfl), hJ13, trivial⟩, (show va_P D clz (WD9 cy g σ11) tS.heap by rw [ht]; exact hP)⟩, hS.F ht⟩) hS.2.2 dX9_shares_53
      ·
        have k17 := nle32 c15
        refine lv_aload_n hx hb dX9_shares_33 rfl (lv_at hl 1 rfl) ?_
        refine g9_57 hx hb hts hown hK hP (hts _ q1417) dX9_shares_34 ?_
        refine lv_iload hx hb dX9_shares_37 (lv_at hl 0 rfl) ?_
        refine lv_aload_n hx hb dX9_shares_39 rfl (lv_at hl 1 rfl) ?_
        refine g9_56 hx hb hts hown hK hP (hts _ q1416) dX9_shares_40 ?_
        refine lv_iload hx hb dX9_shares_43 (lv_at hl 0 rfl) ?_
        obtain ⟨x18, ex18⟩ : ∃ z, (σ 9).2.2.1 56 (y10.2.1 0).toInt.toNat = z := ⟨_, rfl⟩
        refine l9_56 (x := x18) hx hb hK hP (vpo (by have f0 := b14; have f1 := k17; have g0 := rg32 (y10.2.1 0); have z3 : (3 : Int32).toInt = 3 := (by decide); omega)) ((congrFun (((hF12 9 56 rfl).2.2.1).trans (((sI_f eσ6) 9 56 rfl).2.2.1)) _).trans ex18) dX9_shares_45 ?_
        have t19 := a9_56 hJ ex18
        refine t9_57 hx hb hK hP hD hS (vpo (by have f0 := b14; have f1 := k17; have f2 := t19; have g0 := rg32 (y10.2.1 0); have z3 : (3 : Int32).toInt = 3 := (by decide); omega)) dX9_shares_46 (fun H locs σ20 eσ20 hP hS => ?_)
        have hJ21 : J9 (σ20 9) := hJ13.A eσ20 (show PA9 57 (y10.2.1 0).toInt.toNat x18 from (by have f0 := b14; have f1 := k17; have f2 := t19; have g0 := rg32 (y10.2.1 0); have g1 := rg32 x18; have z3 : (3 : Int32).toInt = 3 := (by decide); exact ⟨by omega, by omega⟩))
        obtain ⟨x22, ex22⟩ : ∃ y : Int32, y = (y10.2.1 0) + 1 := ⟨_, rfl⟩
        have t23 := addO ex22 (by have f0 := b14; have f1 := k17; have f2 := t19; have g0 := rg32 (y10.2.1 0); have z1 : (1 : Int32).toInt = 1 := (by decide); have z3 : (3 : Int32).toInt = 3 := (by decide); omega)
        refine lv_iinc (v := x22) (lv' := [(4, .int x22), (0, .ref (g 60)), (1, .int 3), (2, .int p2), (3, .int p3)]) hx hb dX9_shares_47 hl (k := 0) rfl (by rw [ex22]; rfl) (by decide) rfl (fun ls hl => ?_)
        refine lv_goto (tgt := 27) hx hb dX9_shares_50 (by decide) ?_
        have t24 : ((4 : Int) - x22.toInt).toNat < ((4 : Int) - (y10.2.1 0).toInt).toNat := (by have f0 := b14; have f1 := k17; have f2 := t19; have f3 := t23; have g0 := rg32 (y10.2.1 0); have g1 := rg32 x22; have z1 : (1 : Int32).toInt = 1 := (by decide); have z3 : (3 : Int32).toInt = 3 := (by decide); omega)
        exact nl8 (σ20, lf [x22], lg []) ⟨Fr.tr (Fr.tr (Fr.rf) hF12 (fL_sub rfl)) (sA_f eσ20) (fN_L rfl), hJ21, (show (0 : Int) ≤ (x22 : Int32).toInt ∧ (x22 : Int32).toInt ≤ 3 from (by have f0 := t23; have f1 := b14; have f2 := k17; have f3 := t19; have g0 := rg32 x22; have z1 : (1 : Int32).toInt = 1 := (by decide); have z3 : (3 : Int32).toInt = 3 := (by decide); omega)), trivial⟩ (show ((4 : Int) - x22.toInt).toNat < _ from by first | exact t24 | (rw [← eσ11]; exact t24)) _ _ _ hP hS (lv_sub hl [0, 1, 2, 3, 4] rfl)
    ·
      have k25 := nlt32 c4
      exact W.vret hx hb hr (fun tS ht hW => ⟨⟨σ, rfl, ⟨Fr.rf, hJ, trivial⟩, (show va_P D clz (WD9 cy g σ) tS.heap by rw [ht]; exact hP)⟩, hS.F ht⟩) hS.2.2 dX9_shares_18

theorem q1415 : Cond.fieldLink RX9 120 "LipsAndSlidesModel" "costOf" "[I" ∈ lw_g := lw_gm (List.mem_of_getElem? (i := 1415) (by decide +kernel)) rfl
theorem q2040 : Cond.methodLink RX9 503 yX9_shares ∈ lw_g := lw_gm (List.mem_of_getElem? (i := 2040) (by decide +kernel)) rfl
theorem q2042 : Cond.instanceMethod yX9_shares ∈ lw_g := lw_gm (List.mem_of_getElem? (i := 2042) (by decide +kernel)) rfl
theorem q118 : Cond.selects RX9 yX9_shares yX9_shares ∈ lw_g := lw_gm (List.mem_of_getElem? (i := 118) (by decide +kernel)) rfl
theorem dX9_shares_54 : decode cX9_shares 54 = .ok (.iconst 0, 1) := by decide +kernel
theorem dX9_shares_55 : decode cX9_shares 55 = .ok (.istore 4, 2) := by decide +kernel
theorem dX9_shares_57 : decode cX9_shares 57 = .ok (.iload 4, 2) := by decide +kernel
theorem dX9_shares_59 : decode cX9_shares 59 = .ok (.aload_n 0, 1) := by decide +kernel
theorem dX9_shares_60 : decode cX9_shares 60 = .ok (.getfield 34, 3) := by decide +kernel
theorem dX9_shares_63 : decode cX9_shares 63 = .ok (.iconst 3, 1) := by decide +kernel
theorem dX9_shares_64 : decode cX9_shares 64 = .ok (.iaload, 1) := by decide +kernel
theorem dX9_shares_65 : decode cX9_shares 65 = .ok (.if_icmp .ge 74, 3) := by decide +kernel
theorem dX9_shares_68 : decode cX9_shares 68 = .ok (.iload_n 2, 1) := by decide +kernel
theorem dX9_shares_69 : decode cX9_shares 69 = .ok (.iload 4, 2) := by decide +kernel
theorem dX9_shares_71 : decode cX9_shares 71 = .ok (.ishr, 1) := by decide +kernel
theorem dX9_shares_72 : decode cX9_shares 72 = .ok (.iconst 1, 1) := by decide +kernel
theorem dX9_shares_73 : decode cX9_shares 73 = .ok (.iand, 1) := by decide +kernel
theorem dX9_shares_74 : decode cX9_shares 74 = .ok (.iconst 1, 1) := by decide +kernel
theorem dX9_shares_75 : decode cX9_shares 75 = .ok (.if_icmp .eq 58, 3) := by decide +kernel
theorem dX9_shares_78 : decode cX9_shares 78 = .ok (.aload_n 0, 1) := by decide +kernel
theorem dX9_shares_79 : decode cX9_shares 79 = .ok (.getfield 120, 3) := by decide +kernel
theorem dX9_shares_82 : decode cX9_shares 82 = .ok (.bipush 9, 2) := by decide +kernel
theorem dX9_shares_84 : decode cX9_shares 84 = .ok (.iload_n 1, 1) := by decide +kernel
theorem dX9_shares_85 : decode cX9_shares 85 = .ok (.imul, 1) := by decide +kernel
theorem dX9_shares_86 : decode cX9_shares 86 = .ok (.iload 4, 2) := by decide +kernel
theorem dX9_shares_88 : decode cX9_shares 88 = .ok (.iadd, 1) := by decide +kernel
theorem dX9_shares_89 : decode cX9_shares 89 = .ok (.iaload, 1) := by decide +kernel
theorem dX9_shares_90 : decode cX9_shares 90 = .ok (.ldc 180, 2) := by decide +kernel
theorem dX9_shares_92 : decode cX9_shares 92 = .ok (.if_icmp .ne 6, 3) := by decide +kernel
theorem dX9_shares_95 : decode cX9_shares 95 = .ok (.goto 38, 3) := by decide +kernel
theorem dX9_shares_98 : decode cX9_shares 98 = .ok (.aload_n 0, 1) := by decide +kernel
theorem dX9_shares_99 : decode cX9_shares 99 = .ok (.getfield 123, 3) := by decide +kernel
theorem dX9_shares_102 : decode cX9_shares 102 = .ok (.iload_n 1, 1) := by decide +kernel
theorem dX9_shares_103 : decode cX9_shares 103 = .ok (.iload 4, 2) := by decide +kernel
theorem dX9_shares_105 : decode cX9_shares 105 = .ok (.iastore, 1) := by decide +kernel
theorem dX9_shares_106 : decode cX9_shares 106 = .ok (.aload_n 0, 1) := by decide +kernel
theorem dX9_shares_107 : decode cX9_shares 107 = .ok (.iload_n 1, 1) := by decide +kernel
theorem dX9_shares_108 : decode cX9_shares 108 = .ok (.iconst 1, 1) := by decide +kernel
theorem dX9_shares_109 : decode cX9_shares 109 = .ok (.iadd, 1) := by decide +kernel
theorem dX9_shares_110 : decode cX9_shares 110 = .ok (.iload_n 2, 1) := by decide +kernel
theorem dX9_shares_111 : decode cX9_shares 111 = .ok (.iconst 1, 1) := by decide +kernel
theorem dX9_shares_112 : decode cX9_shares 112 = .ok (.iload 4, 2) := by decide +kernel
theorem dX9_shares_114 : decode cX9_shares 114 = .ok (.ishl, 1) := by decide +kernel
theorem dX9_shares_115 : decode cX9_shares 115 = .ok (.ior, 1) := by decide +kernel
theorem dX9_shares_116 : decode cX9_shares 116 = .ok (.iload_n 3, 1) := by decide +kernel
theorem dX9_shares_117 : decode cX9_shares 117 = .ok (.aload_n 0, 1) := by decide +kernel
theorem dX9_shares_118 : decode cX9_shares 118 = .ok (.getfield 120, 3) := by decide +kernel
theorem dX9_shares_121 : decode cX9_shares 121 = .ok (.bipush 9, 2) := by decide +kernel
theorem dX9_shares_123 : decode cX9_shares 123 = .ok (.iload_n 1, 1) := by decide +kernel
theorem dX9_shares_124 : decode cX9_shares 124 = .ok (.imul, 1) := by decide +kernel
theorem dX9_shares_125 : decode cX9_shares 125 = .ok (.iload 4, 2) := by decide +kernel
theorem dX9_shares_127 : decode cX9_shares 127 = .ok (.iadd, 1) := by decide +kernel
theorem dX9_shares_128 : decode cX9_shares 128 = .ok (.iaload, 1) := by decide +kernel
theorem dX9_shares_129 : decode cX9_shares 129 = .ok (.iadd, 1) := by decide +kernel
theorem dX9_shares_130 : decode cX9_shares 130 = .ok (.invokevirtual 503, 3) := by decide +kernel
theorem dX9_shares_133 : decode cX9_shares 133 = .ok (.iinc 4 1, 3) := by decide +kernel
theorem dX9_shares_136 : decode cX9_shares 136 = .ok (.goto (-79), 3) := by decide +kernel
theorem dX9_shares_139 : decode cX9_shares 139 = .ok (.return_, 1) := by decide +kernel
set_option maxHeartbeats 4000000 in
set_option maxRecDepth 100000 in
theorem m_X9_shares_c2 (l : Launch) (D : va_G) (cy : Nat → ClassId) (g : Nat → Nat) (σ : ST) (p2 : Int32) (p3 : Int32) (sz : Nat) (hJ : J9 (σ 9)) (h0 : (2 : Int32).toInt ≤ ((σ 9).2.2.1 17 4).toInt) : Met l yX9_shares (ww yX9_shares cX9_shares 5 none) ({ frames := 2, cells := 0, slots := 0, locals := 128 }) (va_Pc [.ref (g 60), .int 2, .int p2, .int p3] (pr9 D cy g σ sz)) (qv9 D cy g sz (fun τ => Fr (fL [56, 57, 58]) σ τ ∧ J9 (τ 9) ∧ True)) 0 0 (A9 cy g sz) := by
  refine Met.ofW (cc := cX9_shares) (maxL := 5) (ret := none) (by decide) rfl ?_
  intro p e s m args below meth c s₁ B hml hv
  obtain ⟨rfl, hsz, hP, hK, hD0, hC⟩ := hv
  have hx := B.exec
  have hb := B.bytes
  have hr := B.returns
  have hts := hts_g (atoms_spec (ws := ww yX9_shares cX9_shares 5 none) B.pre)
  have hown : s.vm.findClass RX9 = some m.cls := findClass_of_methodNamed B.named
  have hlocks := B.notSynchronized
  clear B
  subst hsz
  have hD := fun τ => A9_D (sz := s.heap.size) hD0 τ
  clear hD0
  have hS : va_S (A9 cy g s.heap.size) s.heap s.heap [] := va_S.rf
  have hl := lv_entry ([.ref (g 60), .int 2, .int p2, .int p3]) (n := 5) (Nat.le_of_ble_eq_true rfl)
  rw [lg_entry_eq]
  generalize (lg_sl ([.ref (g 60), .int 2, .int p2, .int p3]) ++ List.replicate (5 - (lg_sl ([.ref (g 60), .int 2, .int p2, .int p3])).length) Slot.unset).toArray = ls at hl ⊢
  have hl : lv_has ls 5 [(0, .ref (g 60)), (1, .int 2), (2, .int p2), (3, .int p3)] := hl
  refine lv_iload_n hx hb dX9_shares_0 rfl (lv_at hl 1 rfl) ?_
  refine lv_aload_n hx hb dX9_shares_1 rfl (lv_at hl 0 rfl) ?_
  refine g9_17 hx hb hts hown hK hP (hts _ q1377) dX9_shares_2 ?_
  refine lv_iconst (v := 4) hx hb dX9_shares_5 (by decide) ?_
  refine l9_17 (x := ((σ 9).2.2.1 17 4)) hx hb hK hP (vpi (by decide)) (congrArg ((σ 9).2.2.1 17) (show (4 : Int32).toInt.toNat = 4 by decide)) dX9_shares_6 ?_
  refine lv_icmp_ne (tgt := 54) hx hb dX9_shares_7 (by decide) (fun c1 => ?_) (fun c1 => ?_)
  ·
    have k2 := neq32 c1
    refine lv_iconst (v := 0) hx hb dX9_shares_54 (by decide) ?_
    refine lv_istore (lv' := [(4, .int 0), (0, .ref (g 60)), (1, .int 2), (2, .int p2), (3, .int p3)]) hx hb dX9_shares_55 hl (by decide) rfl (fun ls hl => ?_)
    refine loop9 5 57 (fun x : LZ => [(4, .int (x.2.1 0)), (0, .ref (g 60)), (1, .int 2), (2, .int p2), (3, .int p3)]) (fun x : LZ => (Fr (fL [56, 57, 58]) σ x.1) ∧ (J9 (x.1 9)) ∧ ((0 : Int) ≤ (x.2.1 0).toInt ∧ (x.2.1 0).toInt ≤ 9) ∧ True) (fun x : LZ => ((10 : Int) - (x.2.1 0).toInt).toNat) ?_ (σ, lf [0], lg []) ⟨Fr.rf, hJ, (show (0 : Int) ≤ (0 : Int32).toInt ∧ (0 : Int32).toInt ≤ 9 from (by have z0 : (0 : Int32).toInt = 0 := (by decide); omega)), trivial⟩ _ _ _ hP hS (lv_sub hl [0, 1, 2, 3, 4] rfl)
    intro y5 hI4 nl3 H locs ls hP hS hl
    obtain ⟨σ6, eσ6⟩ : ∃ z, z = y5.1 := ⟨_, rfl⟩
    rw [← eσ6] at hP hI4
    have hF7 : Fr (fL [56, 57, 58]) σ σ6 := hI4.1
    have hJ8 : J9 (σ6 9) := hI4.2.1
    have b9 : (0 : Int) ≤ (y5.2.1 0).toInt ∧ (y5.2.1 0).toInt ≤ 9 := hI4.2.2.1
    have hl : lv_has ls 5 [(4, .int (y5.2.1 0)), (0, .ref (g 60)), (1, .int 2), (2, .int p2), (3, .int p3)] := hl
    refine lv_iload hx hb dX9_shares_57 (lv_at hl 0 rfl) ?_
    refine lv_aload_n hx hb dX9_shares_59 rfl (lv_at hl 1 rfl) ?_
    refine g9_17 hx hb hts hown hK hP (hts _ q1377) dX9_shares_60 ?_
    refine lv_iconst (v := 3) hx hb dX9_shares_63 (by decide) ?_
    refine l9_17 (x := ((σ 9).2.2.1 17 3)) hx hb hK hP (vpi (by decide)) ((congrFun ((hF7 9 17 rfl).2.2.1) _).trans (congrArg ((σ 9).2.2.1 17) (show (3 : Int32).toInt.toNat = 3 by decide))) dX9_shares_64 ?_
    refine lv_icmp_ge (tgt := 139) hx hb dX9_shares_65 (by decide) (fun c10 => ?_) (fun c10 => ?_)
    ·
      have k11 := ple32 c10
      exact W.vret hx hb hr (fun tS ht hW => ⟨⟨σ6, rfl, ⟨Fr.tr (Fr.rf) hF7 (fL_sub rfl), hJ8, trivial⟩, (show va_P D clz (WD9 cy g σ6) tS.heap by rw [ht]; exact hP)⟩, hS.F ht⟩) hS.2.2 dX9_shares_139
    ·
      have k12 := nle32 c10
      refine lv_iload_n hx hb dX9_shares_68 rfl (lv_at hl 3 rfl) ?_
      refine lv_iload hx hb dX9_shares_69 (lv_at hl 0 rfl) ?_
      refine lv_ishr hx hb dX9_shares_71 ?_
      refine lv_topi (fun x13 ex13 => ?_)
      refine lv_iconst (v := 1) hx hb dX9_shares_72 (by decide) ?_
      refine lv_iand hx hb dX9_shares_73 ?_
      refine lv_topi (fun x14 ex14 => ?_)
      have t15 := andM 1 ex14 (by decide) (by decide)
      refine lv_iconst (v := 1) hx hb dX9_shares_74 (by decide) ?_
      refine cut9 (D := D) (cy := cy) (g := g) (A := A9 cy g s.heap.size) (H0 := s.heap) 5 133 (fun x : LZ => [(4, .int (y5.2.1 0)), (0, .ref (g 60)), (1, .int 2), (2, .int p2), (3, .int p3)]) (fun x : LZ => []) (fun x : LZ => (Fr (fL [56, 57, 58]) σ6 x.1) ∧ (J9 (x.1 9)) ∧ True) ?_ ?_
      ·
        intro y18 hI17 H locs ls hP hS hl
        obtain ⟨σ19, eσ19⟩ : ∃ z, z = y18.1 := ⟨_, rfl⟩
        rw [← eσ19] at hP hI17
        have hF20 : Fr (fL [56, 57, 58]) σ6 σ19 := hI17.1
        have hJ21 : J9 (σ19 9) := hI17.2.1
        have hl : lv_has ls 5 [(4, .int (y5.2.1 0)), (0, .ref (g 60)), (1, .int 2), (2, .int p2), (3, .int p3)] := hl
        obtain ⟨x22, ex22⟩ : ∃ y : Int32, y = (y5.2.1 0) + 1 := ⟨_, rfl⟩
        have t23 := addO ex22 (by have f0 := b9; have f1 := k12; have f2 := a9_17 hJ (j := 3) rfl; have g0 := rg32 (y5.2.1 0); have z1 : (1 : Int32).toInt = 1 := (by decide); omega)
        refine lv_iinc (v := x22) (lv' := [(4, .int x22), (0, .ref (g 60)), (1, .int 2), (2, .int p2), (3, .int p3)]) hx hb dX9_shares_133 hl (k := 0) rfl (by rw [ex22]; rfl) (by decide) rfl (fun ls hl => ?_)
        refine lv_goto (tgt := 57) hx hb dX9_shares_136 (by decide) ?_
        have t24 : ((10 : Int) - x22.toInt).toNat < ((10 : Int) - (y5.2.1 0).toInt).toNat := (by have f0 := b9; have f1 := k12; have f2 := t23; have f3 := a9_17 hJ (j := 3) rfl; have g0 := rg32 (y5.2.1 0); have g1 := rg32 x22; have z1 : (1 : Int32).toInt = 1 := (by decide); omega)
        exact nl3 (σ19, lf [x22], lg []) ⟨Fr.tr (Fr.tr (Fr.rf) hF7 (fL_sub rfl)) hF20 (fL_sub rfl), hJ21, (show (0 : Int) ≤ (x22 : Int32).toInt ∧ (x22 : Int32).toInt ≤ 9 from (by have f0 := t23; have f1 := b9; have f2 := k12; have f3 := a9_17 hJ (j := 3) rfl; have g0 := rg32 x22; have z1 : (1 : Int32).toInt = 1 := (by decide); omega)), trivial⟩ (show ((10 : Int) - x22.toInt).toNat < _ from by first | exact t24 | (rw [← eσ6]; exact t24)) _ _ _ hP hS (lv_sub hl [0, 1, 2, 3, 4] rfl)
      ·
        intro nj16
        refine lv_icmp_eq (tgt := 133) hx hb dX9_shares_75 (by decide) (fun c25 => ?_) (fun c25 => ?_)
        ·
          have k26 := peq32 c25
          exact nj16 (σ6, lf [], lg []) ⟨Fr.rf, hJ8, trivial⟩ _ _ _ hP hS (lv_sub hl [0, 1, 2, 3, 4] rfl)
        ·
          have k27 := neq32 c25
          refine lv_aload_n hx hb dX9_shares_78 rfl (lv_at hl 1 rfl) ?_
          refine g9_55 hx hb hts hown hK hP (hts _ q1415) dX9_shares_79 ?_
          refine lv_bipush (v := 9) hx hb dX9_shares_82 (by decide) ?_
          refine lv_iload_n hx hb dX9_shares_84 rfl (lv_at hl 2 rfl) ?_
          refine lv_imul hx hb dX9_shares_85 ?_
          refine lv_topi (fun x28 ex28 => ?_)
          obtain rfl : x28 = 18 := ex28.trans (by decide)
          refine lv_iload hx hb dX9_shares_86 (lv_at hl 0 rfl) ?_
          refine lv_iadd hx hb dX9_shares_88 ?_
          refine lv_topi (fun x29 ex29 => ?_)
          have t30 := addO ex29 (by have f0 := b9; have f1 := k12; have f2 := a9_17 hJ (j := 3) rfl; have g0 := rg32 (y5.2.1 0); have z18 : (18 : Int32).toInt = 18 := (by decide); omega)
          obtain ⟨x31, ex31⟩ : ∃ z, (σ 9).2.2.1 55 x29.toInt.toNat = z := ⟨_, rfl⟩
          refine l9_55 (x := x31) hx hb hK hP (vpo (by have f0 := t30; have f1 := b9; have f2 := k12; have f3 := a9_17 hJ (j := 3) rfl; have g0 := rg32 x29; have z18 : (18 : Int32).toInt = 18 := (by decide); omega)) ((congrFun ((hF7 9 55 rfl).2.2.1) _).trans ex31) dX9_shares_89 ?_
          refine lv_ldc (v := 1000000) hx hb hown (hts _ q1604) dX9_shares_90 ?_
          refine lv_icmp_ne (tgt := 98) hx hb dX9_shares_92 (by decide) (fun c32 => ?_) (fun c32 => ?_)
          ·
            have k33 := neq32 c32
            refine lv_aload_n hx hb dX9_shares_98 rfl (lv_at hl 1 rfl) ?_
            refine g9_56 hx hb hts hown hK hP (hts _ q1416) dX9_shares_99 ?_
            refine lv_iload_n hx hb dX9_shares_102 rfl (lv_at hl 2 rfl) ?_
            refine lv_iload hx hb dX9_shares_103 (lv_at hl 0 rfl) ?_
            refine t9_56 hx hb hK hP hD hS (vpi (by decide)) dX9_shares_105 (fun H locs σ34 eσ34 hP hS => ?_)
            have hJ35 : J9 (σ34 9) := hJ8.A eσ34 (show PA9 56 (2 : Int32).toInt.toNat (y5.2.1 0) from (by have f0 := b9; have f1 := k12; have f2 := t30; have f3 := a9_17 hJ (j := 3) rfl; have g0 := rg32 (y5.2.1 0); have z2 : (2 : Int32).toInt = 2 := (by decide); have z18 : (18 : Int32).toInt = 18 := (by decide); exact ⟨by omega, by omega⟩))
            refine lv_aload_n hx hb dX9_shares_106 rfl (lv_at hl 1 rfl) ?_
            refine lv_iload_n hx hb dX9_shares_107 rfl (lv_at hl 2 rfl) ?_
            refine lv_iconst (v := 1) hx hb dX9_shares_108 (by decide) ?_
            refine lv_iadd hx hb dX9_shares_109 ?_
            refine lv_topi (fun x36 ex36 => ?_)
            obtain rfl : x36 = 3 := ex36.trans (by decide)
            refine lv_iload_n hx hb dX9_shares_110 rfl (lv_at hl 3 rfl) ?_
            refine lv_iconst (v := 1) hx hb dX9_shares_111 (by decide) ?_
            refine lv_iload hx hb dX9_shares_112 (lv_at hl 0 rfl) ?_
            refine lv_ishl hx hb dX9_shares_114 ?_
            refine lv_topi (fun x37 ex37 => ?_)
            have t38 := shl9 ex37 (by have f0 := b9; have f1 := k12; have f2 := t30; have f3 := a9_17 hJ (j := 3) rfl; have g0 := rg32 (y5.2.1 0); have z18 : (18 : Int32).toInt = 18 := (by decide); omega)
            refine lv_ior hx hb dX9_shares_115 ?_
            refine lv_topi (fun x39 ex39 => ?_)
            refine lv_iload_n hx hb dX9_shares_116 rfl (lv_at hl 4 rfl) ?_
            refine lv_aload_n hx hb dX9_shares_117 rfl (lv_at hl 1 rfl) ?_
            refine g9_55 hx hb hts hown hK hP (hts _ q1415) dX9_shares_118 ?_
            refine lv_bipush (v := 9) hx hb dX9_shares_121 (by decide) ?_
            refine lv_iload_n hx hb dX9_shares_123 rfl (lv_at hl 2 rfl) ?_
            refine lv_imul hx hb dX9_shares_124 ?_
            refine lv_topi (fun x40 ex40 => ?_)
            obtain rfl : x40 = 18 := ex40.trans (by decide)
            refine lv_iload hx hb dX9_shares_125 (lv_at hl 0 rfl) ?_
            refine lv_iadd hx hb dX9_shares_127 ?_
            refine lv_topi (fun x41 ex41 => ?_)
            have t42 := addO ex41 (by have f0 := b9; have f1 := k12; have f2 := t30; have f3 := a9_17 hJ (j := 3) rfl; have g0 := rg32 (y5.2.1 0); have z18 : (18 : Int32).toInt = 18 := (by decide); omega)
            obtain ⟨x43, ex43⟩ : ∃ z, (σ 9).2.2.1 55 x41.toInt.toNat = z := ⟨_, rfl⟩
            refine l9_55 (x := x43) hx hb hK hP (vpo (by have f0 := t42; have f1 := b9; have f2 := k12; have f3 := t30; have f4 := a9_17 hJ (j := 3) rfl; have g0 := rg32 x41; have z18 : (18 : Int32).toInt = 18 := (by decide); omega)) ((congrFun ((((sA_f eσ34) 9 55 rfl).2.2.1).trans ((hF7 9 55 rfl).2.2.1)) _).trans ex43) dX9_shares_128 ?_
            refine lv_iadd hx hb dX9_shares_129 ?_
            refine lv_topi (fun x44 ex44 => ?_)
            refine va_callv (va_runV (As := [.int 3, .int x39, .int x44]) (rest := []) ⟨hx, hb, hml, hown, hts⟩ (m_X9_shares_c3 l D cy g σ34 x39 x44 _ hJ35 (show (3 : Int32).toInt ≤ ((σ34 9).2.2.1 17 4).toInt from (by have f0 := a9_17 hJ35 (j := 4) rfl; have f1 := congrArg Int32.toInt (show ((σ34 9).2.2.1 17 4) = ((σ 9).2.2.1 17 4) from congrFun ((((sA_f eσ34) 9 17 rfl).2.2.1).trans ((hF7 9 17 rfl).2.2.1)) _); have f2 := a9_17 hJ (j := 4) rfl; have f3 := h0; have f4 := k2; have z2 : (2 : Int32).toInt = 2 := (by decide); have z3 : (3 : Int32).toInt = 3 := (by decide); omega))) (cwV 3 hts (gd_V q2040 q2042 q118 q134 q2043) rfl rfl rfl (by decide +kernel) ⟨Nat.le_of_ble_eq_true rfl, Nat.le_of_ble_eq_true rfl⟩) (pv9 hP hK hD hC hS (va_recv hK hP (ci := 9) (q0 := 0) rfl rfl)) rfl rfl hl.1 rfl (lv_room (Nat.le_of_ble_eq_true rfl)) dX9_shares_130 ⟨Nat.le_of_ble_eq_true rfl, Nat.le_of_ble_eq_true rfl⟩) hS (fun q _ h => up9 hS q h) (up9 hS) (fun σ46 tS H1 locs ht hvm hw47 hB hz1 hk1 hS => ?_)
            have hP : va_P D clz (WD9 cy g σ46) H1 := by rw [← ht]; exact hB
            clear hB hz1 hk1 hvm ht
            generalize H1 = H at hP hS ⊢
            have hF48 : Fr (fL [56, 57, 58]) σ34 σ46 := hw47.1
            have hJ49 : J9 (σ46 9) := hw47.2.1
            exact nj16 (σ46, lf [], lg []) ⟨Fr.tr (Fr.tr (Fr.rf) (sA_f eσ34) (fN_L rfl)) hF48 (fL_sub rfl), hJ49, trivial⟩ _ _ _ hP hS (lv_sub hl [0, 1, 2, 3, 4] rfl)
          ·
            have k50 := peq32 c32
            refine lv_goto (tgt := 133) hx hb dX9_shares_95 (by decide) ?_
            exact nj16 (σ6, lf [], lg []) ⟨Fr.rf, hJ8, trivial⟩ _ _ _ hP hS (lv_sub hl [0, 1, 2, 3, 4] rfl)
  ·
    have k51 := peq32 c1
    refine lv_iload_n hx hb dX9_shares_10 rfl (lv_at hl 3 rfl) ?_
    refine lv_aload_n hx hb dX9_shares_11 rfl (lv_at hl 0 rfl) ?_
    refine g9_58 (x := ((σ 9).1 58)) hx hb hts hown hK hP (rfl) (hts _ q1418) dX9_shares_12 ?_
    refine lv_icmp_lt (tgt := 19) hx hb dX9_shares_15 (by decide) (fun c52 => ?_) (fun c52 => ?_)
    ·
      have k53 := plt32 c52
      refine lv_aload_n hx hb dX9_shares_19 rfl (lv_at hl 0 rfl) ?_
      refine lv_iload_n hx hb dX9_shares_20 rfl (lv_at hl 3 rfl) ?_
      refine p9_58 hx hb hts hown hK hP hD hS (hts _ q1418) dX9_shares_21 (fun H locs σ54 eσ54 hP hS => ?_)
      have hJ55 : J9 (σ54 9) := hJ.I eσ54 (show JI9 58 p3 from trivial)
      refine lv_iconst (v := 0) hx hb dX9_shares_24 (by decide) ?_
      refine lv_istore (lv' := [(4, .int 0), (0, .ref (g 60)), (1, .int 2), (2, .int p2), (3, .int p3)]) hx hb dX9_shares_25 hl (by decide) rfl (fun ls hl => ?_)
      refine loop9 5 27 (fun x : LZ => [(4, .int (x.2.1 0)), (0, .ref (g 60)), (1, .int 2), (2, .int p2), (3, .int p3)]) (fun x : LZ => (Fr (fL [57]) σ54 x.1) ∧ (J9 (x.1 9)) ∧ ((0 : Int) ≤ (x.2.1 0).toInt ∧ (x.2.1 0).toInt ≤ 3) ∧ True) (fun x : LZ => ((4 : Int) - (x.2.1 0).toInt).toNat) ?_ (σ54, lf [0], lg []) ⟨Fr.rf, hJ55, (show (0 : Int) ≤ (0 : Int32).toInt ∧ (0 : Int32).toInt ≤ 3 from (by have z0 : (0 : Int32).toInt = 0 := (by decide); omega)), trivial⟩ _ _ _ hP hS (lv_sub hl [0, 1, 2, 3, 4] rfl)
      intro y58 hI57 nl56 H locs ls hP hS hl
      obtain ⟨σ59, eσ59⟩ : ∃ z, z = y58.1 := ⟨_, rfl⟩
      rw [← eσ59] at hP hI57
      have hF60 : Fr (fL [57]) σ54 σ59 := hI57.1
      have hJ61 : J9 (σ59 9) := hI57.2.1
      have b62 : (0 : Int) ≤ (y58.2.1 0).toInt ∧ (y58.2.1 0).toInt ≤ 3 := hI57.2.2.1
      have hl : lv_has ls 5 [(4, .int (y58.2.1 0)), (0, .ref (g 60)), (1, .int 2), (2, .int p2), (3, .int p3)] := hl
      refine lv_iload hx hb dX9_shares_27 (lv_at hl 0 rfl) ?_
      refine lv_iconst (v := 3) hx hb dX9_shares_29 (by decide) ?_
      refine lv_icmp_ge (tgt := 53) hx hb dX9_shares_30 (by decide) (fun c63 => ?_) (fun c63 => ?_)
      ·
        have k64 := ple32 c63
        exact W.vret hx hb hr (fun tS ht hW => ⟨⟨σ59, rfl, ⟨Fr.tr (Fr.tr (Fr.rf) (sI_f eσ54) (fN_L rfl)) hF60 (fL_sub rfl), hJ61, trivial⟩, (show va_P D clz (WD9 cy g σ59) tS.heap by rw [ht]; exact hP)⟩, hS.F ht⟩) hS.2.2 dX9_shares_53
      ·
        have k65 := nle32 c63
        refine lv_aload_n hx hb dX9_shares_33 rfl (lv_at hl 1 rfl) ?_
        refine g9_57 hx hb hts hown hK hP (hts _ q1417) dX9_shares_34 ?_
        refine lv_iload hx hb dX9_shares_37 (lv_at hl 0 rfl) ?_
        refine lv_aload_n hx hb dX9_shares_39 rfl (lv_at hl 1 rfl) ?_
        refine g9_56 hx hb hts hown hK hP (hts _ q1416) dX9_shares_40 ?_
        refine lv_iload hx hb dX9_shares_43 (lv_at hl 0 rfl) ?_
        obtain ⟨x66, ex66⟩ : ∃ z, (σ 9).2.2.1 56 (y58.2.1 0).toInt.toNat = z := ⟨_, rfl⟩
        refine l9_56 (x := x66) hx hb hK hP (vpo (by have f0 := b62; have f1 := k65; have g0 := rg32 (y58.2.1 0); have z3 : (3 : Int32).toInt = 3 := (by decide); omega)) ((congrFun (((hF60 9 56 rfl).2.2.1).trans (((sI_f eσ54) 9 56 rfl).2.2.1)) _).trans ex66) dX9_shares_45 ?_
        have t67 := a9_56 hJ ex66
        refine t9_57 hx hb hK hP hD hS (vpo (by have f0 := b62; have f1 := k65; have f2 := t67; have g0 := rg32 (y58.2.1 0); have z3 : (3 : Int32).toInt = 3 := (by decide); omega)) dX9_shares_46 (fun H locs σ68 eσ68 hP hS => ?_)
        have hJ69 : J9 (σ68 9) := hJ61.A eσ68 (show PA9 57 (y58.2.1 0).toInt.toNat x66 from (by have f0 := b62; have f1 := k65; have f2 := t67; have g0 := rg32 (y58.2.1 0); have g1 := rg32 x66; have z3 : (3 : Int32).toInt = 3 := (by decide); exact ⟨by omega, by omega⟩))
        obtain ⟨x70, ex70⟩ : ∃ y : Int32, y = (y58.2.1 0) + 1 := ⟨_, rfl⟩
        have t71 := addO ex70 (by have f0 := b62; have f1 := k65; have f2 := t67; have g0 := rg32 (y58.2.1 0); have z1 : (1 : Int32).toInt = 1 := (by decide); have z3 : (3 : Int32).toInt = 3 := (by decide); omega)
        refine lv_iinc (v := x70) (lv' := [(4, .int x70), (0, .ref (g 60)), (1, .int 2), (2, .int p2), (3, .int p3)]) hx hb dX9_shares_47 hl (k := 0) rfl (by rw [ex70]; rfl) (by decide) rfl (fun ls hl => ?_)
        refine lv_goto (tgt := 27) hx hb dX9_shares_50 (by decide) ?_
        have t72 : ((4 : Int) - x70.toInt).toNat < ((4 : Int) - (y58.2.1 0).toInt).toNat := (by have f0 := b62; have f1 := k65; have f2 := t67; have f3 := t71; have g0 := rg32 (y58.2.1 0); have g1 := rg32 x70; have z1 : (1 : Int32).toInt = 1 := (by decide); have z3 : (3 : Int32).toInt = 3 := (by decide); omega)
        exact nl56 (σ68, lf [x70], lg []) ⟨Fr.tr (Fr.tr (Fr.rf) hF60 (fL_sub rfl)) (sA_f eσ68) (fN_L rfl), hJ69, (show (0 : Int) ≤ (x70 : Int32).toInt ∧ (x70 : Int32).toInt ≤ 3 from (by have f0 := t71; have f1 := b62; have f2 := k65; have f3 := t67; have g0 := rg32 x70; have z1 : (1 : Int32).toInt = 1 := (by decide); have z3 : (3 : Int32).toInt = 3 := (by decide); omega)), trivial⟩ (show ((4 : Int) - x70.toInt).toNat < _ from by first | exact t72 | (rw [← eσ59]; exact t72)) _ _ _ hP hS (lv_sub hl [0, 1, 2, 3, 4] rfl)
    ·
      have k73 := nlt32 c52
      exact W.vret hx hb hr (fun tS ht hW => ⟨⟨σ, rfl, ⟨Fr.rf, hJ, trivial⟩, (show va_P D clz (WD9 cy g σ) tS.heap by rw [ht]; exact hP)⟩, hS.F ht⟩) hS.2.2 dX9_shares_18

set_option maxHeartbeats 4000000 in
set_option maxRecDepth 100000 in
theorem m_X9_shares_c1 (l : Launch) (D : va_G) (cy : Nat → ClassId) (g : Nat → Nat) (σ : ST) (p2 : Int32) (p3 : Int32) (sz : Nat) (hJ : J9 (σ 9)) (h0 : (1 : Int32).toInt ≤ ((σ 9).2.2.1 17 4).toInt) : Met l yX9_shares (ww yX9_shares cX9_shares 5 none) ({ frames := 3, cells := 0, slots := 0, locals := 192 }) (va_Pc [.ref (g 60), .int 1, .int p2, .int p3] (pr9 D cy g σ sz)) (qv9 D cy g sz (fun τ => Fr (fL [56, 57, 58]) σ τ ∧ J9 (τ 9) ∧ True)) 0 0 (A9 cy g sz) := by
  refine Met.ofW (cc := cX9_shares) (maxL := 5) (ret := none) (by decide) rfl ?_
  intro p e s m args below meth c s₁ B hml hv
  obtain ⟨rfl, hsz, hP, hK, hD0, hC⟩ := hv
  have hx := B.exec
  have hb := B.bytes
  have hr := B.returns
  have hts := hts_g (atoms_spec (ws := ww yX9_shares cX9_shares 5 none) B.pre)
  have hown : s.vm.findClass RX9 = some m.cls := findClass_of_methodNamed B.named
  have hlocks := B.notSynchronized
  clear B
  subst hsz
  have hD := fun τ => A9_D (sz := s.heap.size) hD0 τ
  clear hD0
  have hS : va_S (A9 cy g s.heap.size) s.heap s.heap [] := va_S.rf
  have hl := lv_entry ([.ref (g 60), .int 1, .int p2, .int p3]) (n := 5) (Nat.le_of_ble_eq_true rfl)
  rw [lg_entry_eq]
  generalize (lg_sl ([.ref (g 60), .int 1, .int p2, .int p3]) ++ List.replicate (5 - (lg_sl ([.ref (g 60), .int 1, .int p2, .int p3])).length) Slot.unset).toArray = ls at hl ⊢
  have hl : lv_has ls 5 [(0, .ref (g 60)), (1, .int 1), (2, .int p2), (3, .int p3)] := hl
  refine lv_iload_n hx hb dX9_shares_0 rfl (lv_at hl 1 rfl) ?_
  refine lv_aload_n hx hb dX9_shares_1 rfl (lv_at hl 0 rfl) ?_
  refine g9_17 hx hb hts hown hK hP (hts _ q1377) dX9_shares_2 ?_
  refine lv_iconst (v := 4) hx hb dX9_shares_5 (by decide) ?_
  refine l9_17 (x := ((σ 9).2.2.1 17 4)) hx hb hK hP (vpi (by decide)) (congrArg ((σ 9).2.2.1 17) (show (4 : Int32).toInt.toNat = 4 by decide)) dX9_shares_6 ?_
  refine lv_icmp_ne (tgt := 54) hx hb dX9_shares_7 (by decide) (fun c1 => ?_) (fun c1 => ?_)
  ·
    have k2 := neq32 c1
    refine lv_iconst (v := 0) hx hb dX9_shares_54 (by decide) ?_
    refine lv_istore (lv' := [(4, .int 0), (0, .ref (g 60)), (1, .int 1), (2, .int p2), (3, .int p3)]) hx hb dX9_shares_55 hl (by decide) rfl (fun ls hl => ?_)
    refine loop9 5 57 (fun x : LZ => [(4, .int (x.2.1 0)), (0, .ref (g 60)), (1, .int 1), (2, .int p2), (3, .int p3)]) (fun x : LZ => (Fr (fL [56, 57, 58]) σ x.1) ∧ (J9 (x.1 9)) ∧ ((0 : Int) ≤ (x.2.1 0).toInt ∧ (x.2.1 0).toInt ≤ 9) ∧ True) (fun x : LZ => ((10 : Int) - (x.2.1 0).toInt).toNat) ?_ (σ, lf [0], lg []) ⟨Fr.rf, hJ, (show (0 : Int) ≤ (0 : Int32).toInt ∧ (0 : Int32).toInt ≤ 9 from (by have z0 : (0 : Int32).toInt = 0 := (by decide); omega)), trivial⟩ _ _ _ hP hS (lv_sub hl [0, 1, 2, 3, 4] rfl)
    intro y5 hI4 nl3 H locs ls hP hS hl
    obtain ⟨σ6, eσ6⟩ : ∃ z, z = y5.1 := ⟨_, rfl⟩
    rw [← eσ6] at hP hI4
    have hF7 : Fr (fL [56, 57, 58]) σ σ6 := hI4.1
    have hJ8 : J9 (σ6 9) := hI4.2.1
    have b9 : (0 : Int) ≤ (y5.2.1 0).toInt ∧ (y5.2.1 0).toInt ≤ 9 := hI4.2.2.1
    have hl : lv_has ls 5 [(4, .int (y5.2.1 0)), (0, .ref (g 60)), (1, .int 1), (2, .int p2), (3, .int p3)] := hl
    refine lv_iload hx hb dX9_shares_57 (lv_at hl 0 rfl) ?_
    refine lv_aload_n hx hb dX9_shares_59 rfl (lv_at hl 1 rfl) ?_
    refine g9_17 hx hb hts hown hK hP (hts _ q1377) dX9_shares_60 ?_
    refine lv_iconst (v := 3) hx hb dX9_shares_63 (by decide) ?_
    refine l9_17 (x := ((σ 9).2.2.1 17 3)) hx hb hK hP (vpi (by decide)) ((congrFun ((hF7 9 17 rfl).2.2.1) _).trans (congrArg ((σ 9).2.2.1 17) (show (3 : Int32).toInt.toNat = 3 by decide))) dX9_shares_64 ?_
    refine lv_icmp_ge (tgt := 139) hx hb dX9_shares_65 (by decide) (fun c10 => ?_) (fun c10 => ?_)
    ·
      have k11 := ple32 c10
      exact W.vret hx hb hr (fun tS ht hW => ⟨⟨σ6, rfl, ⟨Fr.tr (Fr.rf) hF7 (fL_sub rfl), hJ8, trivial⟩, (show va_P D clz (WD9 cy g σ6) tS.heap by rw [ht]; exact hP)⟩, hS.F ht⟩) hS.2.2 dX9_shares_139
    ·
      have k12 := nle32 c10
      refine lv_iload_n hx hb dX9_shares_68 rfl (lv_at hl 3 rfl) ?_
      refine lv_iload hx hb dX9_shares_69 (lv_at hl 0 rfl) ?_
      refine lv_ishr hx hb dX9_shares_71 ?_
      refine lv_topi (fun x13 ex13 => ?_)
      refine lv_iconst (v := 1) hx hb dX9_shares_72 (by decide) ?_
      refine lv_iand hx hb dX9_shares_73 ?_
      refine lv_topi (fun x14 ex14 => ?_)
      have t15 := andM 1 ex14 (by decide) (by decide)
      refine lv_iconst (v := 1) hx hb dX9_shares_74 (by decide) ?_
      refine cut9 (D := D) (cy := cy) (g := g) (A := A9 cy g s.heap.size) (H0 := s.heap) 5 133 (fun x : LZ => [(4, .int (y5.2.1 0)), (0, .ref (g 60)), (1, .int 1), (2, .int p2), (3, .int p3)]) (fun x : LZ => []) (fun x : LZ => (Fr (fL [56, 57, 58]) σ6 x.1) ∧ (J9 (x.1 9)) ∧ True) ?_ ?_
      ·
        intro y18 hI17 H locs ls hP hS hl
        obtain ⟨σ19, eσ19⟩ : ∃ z, z = y18.1 := ⟨_, rfl⟩
        rw [← eσ19] at hP hI17
        have hF20 : Fr (fL [56, 57, 58]) σ6 σ19 := hI17.1
        have hJ21 : J9 (σ19 9) := hI17.2.1
        have hl : lv_has ls 5 [(4, .int (y5.2.1 0)), (0, .ref (g 60)), (1, .int 1), (2, .int p2), (3, .int p3)] := hl
        obtain ⟨x22, ex22⟩ : ∃ y : Int32, y = (y5.2.1 0) + 1 := ⟨_, rfl⟩
        have t23 := addO ex22 (by have f0 := b9; have f1 := k12; have f2 := a9_17 hJ (j := 3) rfl; have g0 := rg32 (y5.2.1 0); have z1 : (1 : Int32).toInt = 1 := (by decide); omega)
        refine lv_iinc (v := x22) (lv' := [(4, .int x22), (0, .ref (g 60)), (1, .int 1), (2, .int p2), (3, .int p3)]) hx hb dX9_shares_133 hl (k := 0) rfl (by rw [ex22]; rfl) (by decide) rfl (fun ls hl => ?_)
        refine lv_goto (tgt := 57) hx hb dX9_shares_136 (by decide) ?_
        have t24 : ((10 : Int) - x22.toInt).toNat < ((10 : Int) - (y5.2.1 0).toInt).toNat := (by have f0 := b9; have f1 := k12; have f2 := t23; have f3 := a9_17 hJ (j := 3) rfl; have g0 := rg32 (y5.2.1 0); have g1 := rg32 x22; have z1 : (1 : Int32).toInt = 1 := (by decide); omega)
        exact nl3 (σ19, lf [x22], lg []) ⟨Fr.tr (Fr.tr (Fr.rf) hF7 (fL_sub rfl)) hF20 (fL_sub rfl), hJ21, (show (0 : Int) ≤ (x22 : Int32).toInt ∧ (x22 : Int32).toInt ≤ 9 from (by have f0 := t23; have f1 := b9; have f2 := k12; have f3 := a9_17 hJ (j := 3) rfl; have g0 := rg32 x22; have z1 : (1 : Int32).toInt = 1 := (by decide); omega)), trivial⟩ (show ((10 : Int) - x22.toInt).toNat < _ from by first | exact t24 | (rw [← eσ6]; exact t24)) _ _ _ hP hS (lv_sub hl [0, 1, 2, 3, 4] rfl)
      ·
        intro nj16
        refine lv_icmp_eq (tgt := 133) hx hb dX9_shares_75 (by decide) (fun c25 => ?_) (fun c25 => ?_)
        ·
          have k26 := peq32 c25
          exact nj16 (σ6, lf [], lg []) ⟨Fr.rf, hJ8, trivial⟩ _ _ _ hP hS (lv_sub hl [0, 1, 2, 3, 4] rfl)
        ·
          have k27 := neq32 c25
          refine lv_aload_n hx hb dX9_shares_78 rfl (lv_at hl 1 rfl) ?_
          refine g9_55 hx hb hts hown hK hP (hts _ q1415) dX9_shares_79 ?_
          refine lv_bipush (v := 9) hx hb dX9_shares_82 (by decide) ?_
          refine lv_iload_n hx hb dX9_shares_84 rfl (lv_at hl 2 rfl) ?_
          refine lv_imul hx hb dX9_shares_85 ?_
          refine lv_topi (fun x28 ex28 => ?_)
          obtain rfl : x28 = 9 := ex28.trans (by decide)
          refine lv_iload hx hb dX9_shares_86 (lv_at hl 0 rfl) ?_
          refine lv_iadd hx hb dX9_shares_88 ?_
          refine lv_topi (fun x29 ex29 => ?_)
          have t30 := addO ex29 (by have f0 := b9; have f1 := k12; have f2 := a9_17 hJ (j := 3) rfl; have g0 := rg32 (y5.2.1 0); have z9 : (9 : Int32).toInt = 9 := (by decide); omega)
          obtain ⟨x31, ex31⟩ : ∃ z, (σ 9).2.2.1 55 x29.toInt.toNat = z := ⟨_, rfl⟩
          refine l9_55 (x := x31) hx hb hK hP (vpo (by have f0 := t30; have f1 := b9; have f2 := k12; have f3 := a9_17 hJ (j := 3) rfl; have g0 := rg32 x29; have z9 : (9 : Int32).toInt = 9 := (by decide); omega)) ((congrFun ((hF7 9 55 rfl).2.2.1) _).trans ex31) dX9_shares_89 ?_
          refine lv_ldc (v := 1000000) hx hb hown (hts _ q1604) dX9_shares_90 ?_
          refine lv_icmp_ne (tgt := 98) hx hb dX9_shares_92 (by decide) (fun c32 => ?_) (fun c32 => ?_)
          ·
            have k33 := neq32 c32
            refine lv_aload_n hx hb dX9_shares_98 rfl (lv_at hl 1 rfl) ?_
            refine g9_56 hx hb hts hown hK hP (hts _ q1416) dX9_shares_99 ?_
            refine lv_iload_n hx hb dX9_shares_102 rfl (lv_at hl 2 rfl) ?_
            refine lv_iload hx hb dX9_shares_103 (lv_at hl 0 rfl) ?_
            refine t9_56 hx hb hK hP hD hS (vpi (by decide)) dX9_shares_105 (fun H locs σ34 eσ34 hP hS => ?_)
            have hJ35 : J9 (σ34 9) := hJ8.A eσ34 (show PA9 56 (1 : Int32).toInt.toNat (y5.2.1 0) from (by have f0 := b9; have f1 := k12; have f2 := t30; have f3 := a9_17 hJ (j := 3) rfl; have g0 := rg32 (y5.2.1 0); have z1 : (1 : Int32).toInt = 1 := (by decide); have z9 : (9 : Int32).toInt = 9 := (by decide); exact ⟨by omega, by omega⟩))
            refine lv_aload_n hx hb dX9_shares_106 rfl (lv_at hl 1 rfl) ?_
            refine lv_iload_n hx hb dX9_shares_107 rfl (lv_at hl 2 rfl) ?_
            refine lv_iconst (v := 1) hx hb dX9_shares_108 (by decide) ?_
            refine lv_iadd hx hb dX9_shares_109 ?_
            refine lv_topi (fun x36 ex36 => ?_)
            obtain rfl : x36 = 2 := ex36.trans (by decide)
            refine lv_iload_n hx hb dX9_shares_110 rfl (lv_at hl 3 rfl) ?_
            refine lv_iconst (v := 1) hx hb dX9_shares_111 (by decide) ?_
            refine lv_iload hx hb dX9_shares_112 (lv_at hl 0 rfl) ?_
            refine lv_ishl hx hb dX9_shares_114 ?_
            refine lv_topi (fun x37 ex37 => ?_)
            have t38 := shl9 ex37 (by have f0 := b9; have f1 := k12; have f2 := t30; have f3 := a9_17 hJ (j := 3) rfl; have g0 := rg32 (y5.2.1 0); have z9 : (9 : Int32).toInt = 9 := (by decide); omega)
            refine lv_ior hx hb dX9_shares_115 ?_
            refine lv_topi (fun x39 ex39 => ?_)
            refine lv_iload_n hx hb dX9_shares_116 rfl (lv_at hl 4 rfl) ?_
            refine lv_aload_n hx hb dX9_shares_117 rfl (lv_at hl 1 rfl) ?_
            refine g9_55 hx hb hts hown hK hP (hts _ q1415) dX9_shares_118 ?_
            refine lv_bipush (v := 9) hx hb dX9_shares_121 (by decide) ?_
            refine lv_iload_n hx hb dX9_shares_123 rfl (lv_at hl 2 rfl) ?_
            refine lv_imul hx hb dX9_shares_124 ?_
            refine lv_topi (fun x40 ex40 => ?_)
            obtain rfl : x40 = 9 := ex40.trans (by decide)
            refine lv_iload hx hb dX9_shares_125 (lv_at hl 0 rfl) ?_
            refine lv_iadd hx hb dX9_shares_127 ?_
            refine lv_topi (fun x41 ex41 => ?_)
            have t42 := addO ex41 (by have f0 := b9; have f1 := k12; have f2 := t30; have f3 := a9_17 hJ (j := 3) rfl; have g0 := rg32 (y5.2.1 0); have z9 : (9 : Int32).toInt = 9 := (by decide); omega)
            obtain ⟨x43, ex43⟩ : ∃ z, (σ 9).2.2.1 55 x41.toInt.toNat = z := ⟨_, rfl⟩
            refine l9_55 (x := x43) hx hb hK hP (vpo (by have f0 := t42; have f1 := b9; have f2 := k12; have f3 := t30; have f4 := a9_17 hJ (j := 3) rfl; have g0 := rg32 x41; have z9 : (9 : Int32).toInt = 9 := (by decide); omega)) ((congrFun ((((sA_f eσ34) 9 55 rfl).2.2.1).trans ((hF7 9 55 rfl).2.2.1)) _).trans ex43) dX9_shares_128 ?_
            refine lv_iadd hx hb dX9_shares_129 ?_
            refine lv_topi (fun x44 ex44 => ?_)
            refine va_callv (va_runV (As := [.int 2, .int x39, .int x44]) (rest := []) ⟨hx, hb, hml, hown, hts⟩ (m_X9_shares_c2 l D cy g σ34 x39 x44 _ hJ35 (show (2 : Int32).toInt ≤ ((σ34 9).2.2.1 17 4).toInt from (by have f0 := a9_17 hJ35 (j := 4) rfl; have f1 := congrArg Int32.toInt (show ((σ34 9).2.2.1 17 4) = ((σ 9).2.2.1 17 4) from congrFun ((((sA_f eσ34) 9 17 rfl).2.2.1).trans ((hF7 9 17 rfl).2.2.1)) _); have f2 := a9_17 hJ (j := 4) rfl; have f3 := h0; have f4 := k2; have z1 : (1 : Int32).toInt = 1 := (by decide); have z2 : (2 : Int32).toInt = 2 := (by decide); omega))) (cwV 3 hts (gd_V q2040 q2042 q118 q134 q2043) rfl rfl rfl (by decide +kernel) ⟨Nat.le_of_ble_eq_true rfl, Nat.le_of_ble_eq_true rfl⟩) (pv9 hP hK hD hC hS (va_recv hK hP (ci := 9) (q0 := 0) rfl rfl)) rfl rfl hl.1 rfl (lv_room (Nat.le_of_ble_eq_true rfl)) dX9_shares_130 ⟨Nat.le_of_ble_eq_true rfl, Nat.le_of_ble_eq_true rfl⟩) hS (fun q _ h => up9 hS q h) (up9 hS) (fun σ46 tS H1 locs ht hvm hw47 hB hz1 hk1 hS => ?_)
            have hP : va_P D clz (WD9 cy g σ46) H1 := by rw [← ht]; exact hB
            clear hB hz1 hk1 hvm ht
            generalize H1 = H at hP hS ⊢
            have hF48 : Fr (fL [56, 57, 58]) σ34 σ46 := hw47.1
            have hJ49 : J9 (σ46 9) := hw47.2.1
            exact nj16 (σ46, lf [], lg []) ⟨Fr.tr (Fr.tr (Fr.rf) (sA_f eσ34) (fN_L rfl)) hF48 (fL_sub rfl), hJ49, trivial⟩ _ _ _ hP hS (lv_sub hl [0, 1, 2, 3, 4] rfl)
          ·
            have k50 := peq32 c32
            refine lv_goto (tgt := 133) hx hb dX9_shares_95 (by decide) ?_
            exact nj16 (σ6, lf [], lg []) ⟨Fr.rf, hJ8, trivial⟩ _ _ _ hP hS (lv_sub hl [0, 1, 2, 3, 4] rfl)
  ·
    have k51 := peq32 c1
    refine lv_iload_n hx hb dX9_shares_10 rfl (lv_at hl 3 rfl) ?_
    refine lv_aload_n hx hb dX9_shares_11 rfl (lv_at hl 0 rfl) ?_
    refine g9_58 (x := ((σ 9).1 58)) hx hb hts hown hK hP (rfl) (hts _ q1418) dX9_shares_12 ?_
    refine lv_icmp_lt (tgt := 19) hx hb dX9_shares_15 (by decide) (fun c52 => ?_) (fun c52 => ?_)
    ·
      have k53 := plt32 c52
      refine lv_aload_n hx hb dX9_shares_19 rfl (lv_at hl 0 rfl) ?_
      refine lv_iload_n hx hb dX9_shares_20 rfl (lv_at hl 3 rfl) ?_
      refine p9_58 hx hb hts hown hK hP hD hS (hts _ q1418) dX9_shares_21 (fun H locs σ54 eσ54 hP hS => ?_)
      have hJ55 : J9 (σ54 9) := hJ.I eσ54 (show JI9 58 p3 from trivial)
      refine lv_iconst (v := 0) hx hb dX9_shares_24 (by decide) ?_
      refine lv_istore (lv' := [(4, .int 0), (0, .ref (g 60)), (1, .int 1), (2, .int p2), (3, .int p3)]) hx hb dX9_shares_25 hl (by decide) rfl (fun ls hl => ?_)
      refine loop9 5 27 (fun x : LZ => [(4, .int (x.2.1 0)), (0, .ref (g 60)), (1, .int 1), (2, .int p2), (3, .int p3)]) (fun x : LZ => (Fr (fL [57]) σ54 x.1) ∧ (J9 (x.1 9)) ∧ ((0 : Int) ≤ (x.2.1 0).toInt ∧ (x.2.1 0).toInt ≤ 3) ∧ True) (fun x : LZ => ((4 : Int) - (x.2.1 0).toInt).toNat) ?_ (σ54, lf [0], lg []) ⟨Fr.rf, hJ55, (show (0 : Int) ≤ (0 : Int32).toInt ∧ (0 : Int32).toInt ≤ 3 from (by have z0 : (0 : Int32).toInt = 0 := (by decide); omega)), trivial⟩ _ _ _ hP hS (lv_sub hl [0, 1, 2, 3, 4] rfl)
      intro y58 hI57 nl56 H locs ls hP hS hl
      obtain ⟨σ59, eσ59⟩ : ∃ z, z = y58.1 := ⟨_, rfl⟩
      rw [← eσ59] at hP hI57
      have hF60 : Fr (fL [57]) σ54 σ59 := hI57.1
      have hJ61 : J9 (σ59 9) := hI57.2.1
      have b62 : (0 : Int) ≤ (y58.2.1 0).toInt ∧ (y58.2.1 0).toInt ≤ 3 := hI57.2.2.1
      have hl : lv_has ls 5 [(4, .int (y58.2.1 0)), (0, .ref (g 60)), (1, .int 1), (2, .int p2), (3, .int p3)] := hl
      refine lv_iload hx hb dX9_shares_27 (lv_at hl 0 rfl) ?_
      refine lv_iconst (v := 3) hx hb dX9_shares_29 (by decide) ?_
      refine lv_icmp_ge (tgt := 53) hx hb dX9_shares_30 (by decide) (fun c63 => ?_) (fun c63 => ?_)
      ·
        have k64 := ple32 c63
        exact W.vret hx hb hr (fun tS ht hW => ⟨⟨σ59, rfl, ⟨Fr.tr (Fr.tr (Fr.rf) (sI_f eσ54) (fN_L rfl)) hF60 (fL_sub rfl), hJ61, trivial⟩, (show va_P D clz (WD9 cy g σ59) tS.heap by rw [ht]; exact hP)⟩, hS.F ht⟩) hS.2.2 dX9_shares_53
      ·
        have k65 := nle32 c63
        refine lv_aload_n hx hb dX9_shares_33 rfl (lv_at hl 1 rfl) ?_
        refine g9_57 hx hb hts hown hK hP (hts _ q1417) dX9_shares_34 ?_
        refine lv_iload hx hb dX9_shares_37 (lv_at hl 0 rfl) ?_
        refine lv_aload_n hx hb dX9_shares_39 rfl (lv_at hl 1 rfl) ?_
        refine g9_56 hx hb hts hown hK hP (hts _ q1416) dX9_shares_40 ?_
        refine lv_iload hx hb dX9_shares_43 (lv_at hl 0 rfl) ?_
        obtain ⟨x66, ex66⟩ : ∃ z, (σ 9).2.2.1 56 (y58.2.1 0).toInt.toNat = z := ⟨_, rfl⟩
        refine l9_56 (x := x66) hx hb hK hP (vpo (by have f0 := b62; have f1 := k65; have g0 := rg32 (y58.2.1 0); have z3 : (3 : Int32).toInt = 3 := (by decide); omega)) ((congrFun (((hF60 9 56 rfl).2.2.1).trans (((sI_f eσ54) 9 56 rfl).2.2.1)) _).trans ex66) dX9_shares_45 ?_
        have t67 := a9_56 hJ ex66
        refine t9_57 hx hb hK hP hD hS (vpo (by have f0 := b62; have f1 := k65; have f2 := t67; have g0 := rg32 (y58.2.1 0); have z3 : (3 : Int32).toInt = 3 := (by decide); omega)) dX9_shares_46 (fun H locs σ68 eσ68 hP hS => ?_)
        have hJ69 : J9 (σ68 9) := hJ61.A eσ68 (show PA9 57 (y58.2.1 0).toInt.toNat x66 from (by have f0 := b62; have f1 := k65; have f2 := t67; have g0 := rg32 (y58.2.1 0); have g1 := rg32 x66; have z3 : (3 : Int32).toInt = 3 := (by decide); exact ⟨by omega, by omega⟩))
        obtain ⟨x70, ex70⟩ : ∃ y : Int32, y = (y58.2.1 0) + 1 := ⟨_, rfl⟩
        have t71 := addO ex70 (by have f0 := b62; have f1 := k65; have f2 := t67; have g0 := rg32 (y58.2.1 0); have z1 : (1 : Int32).toInt = 1 := (by decide); have z3 : (3 : Int32).toInt = 3 := (by decide); omega)
        refine lv_iinc (v := x70) (lv' := [(4, .int x70), (0, .ref (g 60)), (1, .int 1), (2, .int p2), (3, .int p3)]) hx hb dX9_shares_47 hl (k := 0) rfl (by rw [ex70]; rfl) (by decide) rfl (fun ls hl => ?_)
        refine lv_goto (tgt := 27) hx hb dX9_shares_50 (by decide) ?_
        have t72 : ((4 : Int) - x70.toInt).toNat < ((4 : Int) - (y58.2.1 0).toInt).toNat := (by have f0 := b62; have f1 := k65; have f2 := t67; have f3 := t71; have g0 := rg32 (y58.2.1 0); have g1 := rg32 x70; have z1 : (1 : Int32).toInt = 1 := (by decide); have z3 : (3 : Int32).toInt = 3 := (by decide); omega)
        exact nl56 (σ68, lf [x70], lg []) ⟨Fr.tr (Fr.tr (Fr.rf) hF60 (fL_sub rfl)) (sA_f eσ68) (fN_L rfl), hJ69, (show (0 : Int) ≤ (x70 : Int32).toInt ∧ (x70 : Int32).toInt ≤ 3 from (by have f0 := t71; have f1 := b62; have f2 := k65; have f3 := t67; have g0 := rg32 x70; have z1 : (1 : Int32).toInt = 1 := (by decide); have z3 : (3 : Int32).toInt = 3 := (by decide); omega)), trivial⟩ (show ((4 : Int) - x70.toInt).toNat < _ from by first | exact t72 | (rw [← eσ59]; exact t72)) _ _ _ hP hS (lv_sub hl [0, 1, 2, 3, 4] rfl)
    ·
      have k73 := nlt32 c52
      exact W.vret hx hb hr (fun tS ht hW => ⟨⟨σ, rfl, ⟨Fr.rf, hJ, trivial⟩, (show va_P D clz (WD9 cy g σ) tS.heap by rw [ht]; exact hP)⟩, hS.F ht⟩) hS.2.2 dX9_shares_18

set_option maxHeartbeats 4000000 in
set_option maxRecDepth 100000 in
theorem m_X9_shares_c0 (l : Launch) (D : va_G) (cy : Nat → ClassId) (g : Nat → Nat) (σ : ST) (p2 : Int32) (p3 : Int32) (sz : Nat) (hJ : J9 (σ 9)) (h0 : (0 : Int32).toInt ≤ ((σ 9).2.2.1 17 4).toInt) : Met l yX9_shares (ww yX9_shares cX9_shares 5 none) ({ frames := 4, cells := 0, slots := 0, locals := 256 }) (va_Pc [.ref (g 60), .int 0, .int p2, .int p3] (pr9 D cy g σ sz)) (qv9 D cy g sz (fun τ => Fr (fL [56, 57, 58]) σ τ ∧ J9 (τ 9) ∧ True)) 0 0 (A9 cy g sz) := by
  refine Met.ofW (cc := cX9_shares) (maxL := 5) (ret := none) (by decide) rfl ?_
  intro p e s m args below meth c s₁ B hml hv
  obtain ⟨rfl, hsz, hP, hK, hD0, hC⟩ := hv
  have hx := B.exec
  have hb := B.bytes
  have hr := B.returns
  have hts := hts_g (atoms_spec (ws := ww yX9_shares cX9_shares 5 none) B.pre)
  have hown : s.vm.findClass RX9 = some m.cls := findClass_of_methodNamed B.named
  have hlocks := B.notSynchronized
  clear B
  subst hsz
  have hD := fun τ => A9_D (sz := s.heap.size) hD0 τ
  clear hD0
  have hS : va_S (A9 cy g s.heap.size) s.heap s.heap [] := va_S.rf
  have hl := lv_entry ([.ref (g 60), .int 0, .int p2, .int p3]) (n := 5) (Nat.le_of_ble_eq_true rfl)
  rw [lg_entry_eq]
  generalize (lg_sl ([.ref (g 60), .int 0, .int p2, .int p3]) ++ List.replicate (5 - (lg_sl ([.ref (g 60), .int 0, .int p2, .int p3])).length) Slot.unset).toArray = ls at hl ⊢
  have hl : lv_has ls 5 [(0, .ref (g 60)), (1, .int 0), (2, .int p2), (3, .int p3)] := hl
  refine lv_iload_n hx hb dX9_shares_0 rfl (lv_at hl 1 rfl) ?_
  refine lv_aload_n hx hb dX9_shares_1 rfl (lv_at hl 0 rfl) ?_
  refine g9_17 hx hb hts hown hK hP (hts _ q1377) dX9_shares_2 ?_
  refine lv_iconst (v := 4) hx hb dX9_shares_5 (by decide) ?_
  refine l9_17 (x := ((σ 9).2.2.1 17 4)) hx hb hK hP (vpi (by decide)) (congrArg ((σ 9).2.2.1 17) (show (4 : Int32).toInt.toNat = 4 by decide)) dX9_shares_6 ?_
  refine lv_icmp_ne (tgt := 54) hx hb dX9_shares_7 (by decide) (fun c1 => ?_) (fun c1 => ?_)
  ·
    have k2 := neq32 c1
    refine lv_iconst (v := 0) hx hb dX9_shares_54 (by decide) ?_
    refine lv_istore (lv' := [(4, .int 0), (0, .ref (g 60)), (1, .int 0), (2, .int p2), (3, .int p3)]) hx hb dX9_shares_55 hl (by decide) rfl (fun ls hl => ?_)
    refine loop9 5 57 (fun x : LZ => [(4, .int (x.2.1 0)), (0, .ref (g 60)), (1, .int 0), (2, .int p2), (3, .int p3)]) (fun x : LZ => (Fr (fL [56, 57, 58]) σ x.1) ∧ (J9 (x.1 9)) ∧ ((0 : Int) ≤ (x.2.1 0).toInt ∧ (x.2.1 0).toInt ≤ 9) ∧ True) (fun x : LZ => ((10 : Int) - (x.2.1 0).toInt).toNat) ?_ (σ, lf [0], lg []) ⟨Fr.rf, hJ, (show (0 : Int) ≤ (0 : Int32).toInt ∧ (0 : Int32).toInt ≤ 9 from (by have z0 : (0 : Int32).toInt = 0 := (by decide); omega)), trivial⟩ _ _ _ hP hS (lv_sub hl [0, 1, 2, 3, 4] rfl)
    intro y5 hI4 nl3 H locs ls hP hS hl
    obtain ⟨σ6, eσ6⟩ : ∃ z, z = y5.1 := ⟨_, rfl⟩
    rw [← eσ6] at hP hI4
    have hF7 : Fr (fL [56, 57, 58]) σ σ6 := hI4.1
    have hJ8 : J9 (σ6 9) := hI4.2.1
    have b9 : (0 : Int) ≤ (y5.2.1 0).toInt ∧ (y5.2.1 0).toInt ≤ 9 := hI4.2.2.1
    have hl : lv_has ls 5 [(4, .int (y5.2.1 0)), (0, .ref (g 60)), (1, .int 0), (2, .int p2), (3, .int p3)] := hl
    refine lv_iload hx hb dX9_shares_57 (lv_at hl 0 rfl) ?_
    refine lv_aload_n hx hb dX9_shares_59 rfl (lv_at hl 1 rfl) ?_
    refine g9_17 hx hb hts hown hK hP (hts _ q1377) dX9_shares_60 ?_
    refine lv_iconst (v := 3) hx hb dX9_shares_63 (by decide) ?_
    refine l9_17 (x := ((σ 9).2.2.1 17 3)) hx hb hK hP (vpi (by decide)) ((congrFun ((hF7 9 17 rfl).2.2.1) _).trans (congrArg ((σ 9).2.2.1 17) (show (3 : Int32).toInt.toNat = 3 by decide))) dX9_shares_64 ?_
    refine lv_icmp_ge (tgt := 139) hx hb dX9_shares_65 (by decide) (fun c10 => ?_) (fun c10 => ?_)
    ·
      have k11 := ple32 c10
      exact W.vret hx hb hr (fun tS ht hW => ⟨⟨σ6, rfl, ⟨Fr.tr (Fr.rf) hF7 (fL_sub rfl), hJ8, trivial⟩, (show va_P D clz (WD9 cy g σ6) tS.heap by rw [ht]; exact hP)⟩, hS.F ht⟩) hS.2.2 dX9_shares_139
    ·
      have k12 := nle32 c10
      refine lv_iload_n hx hb dX9_shares_68 rfl (lv_at hl 3 rfl) ?_
      refine lv_iload hx hb dX9_shares_69 (lv_at hl 0 rfl) ?_
      refine lv_ishr hx hb dX9_shares_71 ?_
      refine lv_topi (fun x13 ex13 => ?_)
      refine lv_iconst (v := 1) hx hb dX9_shares_72 (by decide) ?_
      refine lv_iand hx hb dX9_shares_73 ?_
      refine lv_topi (fun x14 ex14 => ?_)
      have t15 := andM 1 ex14 (by decide) (by decide)
      refine lv_iconst (v := 1) hx hb dX9_shares_74 (by decide) ?_
      refine cut9 (D := D) (cy := cy) (g := g) (A := A9 cy g s.heap.size) (H0 := s.heap) 5 133 (fun x : LZ => [(4, .int (y5.2.1 0)), (0, .ref (g 60)), (1, .int 0), (2, .int p2), (3, .int p3)]) (fun x : LZ => []) (fun x : LZ => (Fr (fL [56, 57, 58]) σ6 x.1) ∧ (J9 (x.1 9)) ∧ True) ?_ ?_
      ·
        intro y18 hI17 H locs ls hP hS hl
        obtain ⟨σ19, eσ19⟩ : ∃ z, z = y18.1 := ⟨_, rfl⟩
        rw [← eσ19] at hP hI17
        have hF20 : Fr (fL [56, 57, 58]) σ6 σ19 := hI17.1
        have hJ21 : J9 (σ19 9) := hI17.2.1
        have hl : lv_has ls 5 [(4, .int (y5.2.1 0)), (0, .ref (g 60)), (1, .int 0), (2, .int p2), (3, .int p3)] := hl
        obtain ⟨x22, ex22⟩ : ∃ y : Int32, y = (y5.2.1 0) + 1 := ⟨_, rfl⟩
        have t23 := addO ex22 (by have f0 := b9; have f1 := k12; have f2 := a9_17 hJ (j := 3) rfl; have g0 := rg32 (y5.2.1 0); have z1 : (1 : Int32).toInt = 1 := (by decide); omega)
        refine lv_iinc (v := x22) (lv' := [(4, .int x22), (0, .ref (g 60)), (1, .int 0), (2, .int p2), (3, .int p3)]) hx hb dX9_shares_133 hl (k := 0) rfl (by rw [ex22]; rfl) (by decide) rfl (fun ls hl => ?_)
        refine lv_goto (tgt := 57) hx hb dX9_shares_136 (by decide) ?_
        have t24 : ((10 : Int) - x22.toInt).toNat < ((10 : Int) - (y5.2.1 0).toInt).toNat := (by have f0 := b9; have f1 := k12; have f2 := t23; have f3 := a9_17 hJ (j := 3) rfl; have g0 := rg32 (y5.2.1 0); have g1 := rg32 x22; have z1 : (1 : Int32).toInt = 1 := (by decide); omega)
        exact nl3 (σ19, lf [x22], lg []) ⟨Fr.tr (Fr.tr (Fr.rf) hF7 (fL_sub rfl)) hF20 (fL_sub rfl), hJ21, (show (0 : Int) ≤ (x22 : Int32).toInt ∧ (x22 : Int32).toInt ≤ 9 from (by have f0 := t23; have f1 := b9; have f2 := k12; have f3 := a9_17 hJ (j := 3) rfl; have g0 := rg32 x22; have z1 : (1 : Int32).toInt = 1 := (by decide); omega)), trivial⟩ (show ((10 : Int) - x22.toInt).toNat < _ from by first | exact t24 | (rw [← eσ6]; exact t24)) _ _ _ hP hS (lv_sub hl [0, 1, 2, 3, 4] rfl)
      ·
        intro nj16
        refine lv_icmp_eq (tgt := 133) hx hb dX9_shares_75 (by decide) (fun c25 => ?_) (fun c25 => ?_)
        ·
          have k26 := peq32 c25
          exact nj16 (σ6, lf [], lg []) ⟨Fr.rf, hJ8, trivial⟩ _ _ _ hP hS (lv_sub hl [0, 1, 2, 3, 4] rfl)
        ·
          have k27 := neq32 c25
          refine lv_aload_n hx hb dX9_shares_78 rfl (lv_at hl 1 rfl) ?_
          refine g9_55 hx hb hts hown hK hP (hts _ q1415) dX9_shares_79 ?_
          refine lv_bipush (v := 9) hx hb dX9_shares_82 (by decide) ?_
          refine lv_iload_n hx hb dX9_shares_84 rfl (lv_at hl 2 rfl) ?_
          refine lv_imul hx hb dX9_shares_85 ?_
          refine lv_topi (fun x28 ex28 => ?_)
          obtain rfl : x28 = 0 := ex28.trans (by decide)
          refine lv_iload hx hb dX9_shares_86 (lv_at hl 0 rfl) ?_
          refine lv_iadd hx hb dX9_shares_88 ?_
          refine lv_topi (fun x29 ex29 => ?_)
          have t30 := addO ex29 (by have f0 := b9; have f1 := k12; have f2 := a9_17 hJ (j := 3) rfl; have g0 := rg32 (y5.2.1 0); have z0 : (0 : Int32).toInt = 0 := (by decide); omega)
          obtain ⟨x31, ex31⟩ : ∃ z, (σ 9).2.2.1 55 x29.toInt.toNat = z := ⟨_, rfl⟩
          refine l9_55 (x := x31) hx hb hK hP (vpo (by have f0 := t30; have f1 := b9; have f2 := k12; have f3 := a9_17 hJ (j := 3) rfl; have g0 := rg32 x29; have z0 : (0 : Int32).toInt = 0 := (by decide); omega)) ((congrFun ((hF7 9 55 rfl).2.2.1) _).trans ex31) dX9_shares_89 ?_
          refine lv_ldc (v := 1000000) hx hb hown (hts _ q1604) dX9_shares_90 ?_
          refine lv_icmp_ne (tgt := 98) hx hb dX9_shares_92 (by decide) (fun c32 => ?_) (fun c32 => ?_)
          ·
            have k33 := neq32 c32
            refine lv_aload_n hx hb dX9_shares_98 rfl (lv_at hl 1 rfl) ?_
            refine g9_56 hx hb hts hown hK hP (hts _ q1416) dX9_shares_99 ?_
            refine lv_iload_n hx hb dX9_shares_102 rfl (lv_at hl 2 rfl) ?_
            refine lv_iload hx hb dX9_shares_103 (lv_at hl 0 rfl) ?_
            refine t9_56 hx hb hK hP hD hS (vpi (by decide)) dX9_shares_105 (fun H locs σ34 eσ34 hP hS => ?_)
            have hJ35 : J9 (σ34 9) := hJ8.A eσ34 (show PA9 56 (0 : Int32).toInt.toNat (y5.2.1 0) from (by have f0 := b9; have f1 := k12; have f2 := t30; have f3 := a9_17 hJ (j := 3) rfl; have g0 := rg32 (y5.2.1 0); have z0 : (0 : Int32).toInt = 0 := (by decide); exact ⟨by omega, by omega⟩))
            refine lv_aload_n hx hb dX9_shares_106 rfl (lv_at hl 1 rfl) ?_
            refine lv_iload_n hx hb dX9_shares_107 rfl (lv_at hl 2 rfl) ?_
            refine lv_iconst (v := 1) hx hb dX9_shares_108 (by decide) ?_
            refine lv_iadd hx hb dX9_shares_109 ?_
            refine lv_topi (fun x36 ex36 => ?_)
            obtain rfl : x36 = 1 := ex36.trans (by decide)
            refine lv_iload_n hx hb dX9_shares_110 rfl (lv_at hl 3 rfl) ?_
            refine lv_iconst (v := 1) hx hb dX9_shares_111 (by decide) ?_
            refine lv_iload hx hb dX9_shares_112 (lv_at hl 0 rfl) ?_
            refine lv_ishl hx hb dX9_shares_114 ?_
            refine lv_topi (fun x37 ex37 => ?_)
            have t38 := shl9 ex37 (by have f0 := b9; have f1 := k12; have f2 := t30; have f3 := a9_17 hJ (j := 3) rfl; have g0 := rg32 (y5.2.1 0); have z0 : (0 : Int32).toInt = 0 := (by decide); omega)
            refine lv_ior hx hb dX9_shares_115 ?_
            refine lv_topi (fun x39 ex39 => ?_)
            refine lv_iload_n hx hb dX9_shares_116 rfl (lv_at hl 4 rfl) ?_
            refine lv_aload_n hx hb dX9_shares_117 rfl (lv_at hl 1 rfl) ?_
            refine g9_55 hx hb hts hown hK hP (hts _ q1415) dX9_shares_118 ?_
            refine lv_bipush (v := 9) hx hb dX9_shares_121 (by decide) ?_
            refine lv_iload_n hx hb dX9_shares_123 rfl (lv_at hl 2 rfl) ?_
            refine lv_imul hx hb dX9_shares_124 ?_
            refine lv_topi (fun x40 ex40 => ?_)
            obtain rfl : x40 = 0 := ex40.trans (by decide)
            refine lv_iload hx hb dX9_shares_125 (lv_at hl 0 rfl) ?_
            refine lv_iadd hx hb dX9_shares_127 ?_
            refine lv_topi (fun x41 ex41 => ?_)
            have t42 := addO ex41 (by have f0 := b9; have f1 := k12; have f2 := t30; have f3 := a9_17 hJ (j := 3) rfl; have g0 := rg32 (y5.2.1 0); have z0 : (0 : Int32).toInt = 0 := (by decide); omega)
            obtain ⟨x43, ex43⟩ : ∃ z, (σ 9).2.2.1 55 x41.toInt.toNat = z := ⟨_, rfl⟩
            refine l9_55 (x := x43) hx hb hK hP (vpo (by have f0 := t42; have f1 := b9; have f2 := k12; have f3 := t30; have f4 := a9_17 hJ (j := 3) rfl; have g0 := rg32 x41; have z0 : (0 : Int32).toInt = 0 := (by decide); omega)) ((congrFun ((((sA_f eσ34) 9 55 rfl).2.2.1).trans ((hF7 9 55 rfl).2.2.1)) _).trans ex43) dX9_shares_128 ?_
            refine lv_iadd hx hb dX9_shares_129 ?_
            refine lv_topi (fun x44 ex44 => ?_)
            refine va_callv (va_runV (As := [.int 1, .int x39, .int x44]) (rest := []) ⟨hx, hb, hml, hown, hts⟩ (m_X9_shares_c1 l D cy g σ34 x39 x44 _ hJ35 (show (1 : Int32).toInt ≤ ((σ34 9).2.2.1 17 4).toInt from (by have f0 := a9_17 hJ35 (j := 4) rfl; have f1 := congrArg Int32.toInt (show ((σ34 9).2.2.1 17 4) = ((σ 9).2.2.1 17 4) from congrFun ((((sA_f eσ34) 9 17 rfl).2.2.1).trans ((hF7 9 17 rfl).2.2.1)) _); have f2 := a9_17 hJ (j := 4) rfl; have f3 := h0; have f4 := k2; have z0 : (0 : Int32).toInt = 0 := (by decide); have z1 : (1 : Int32).toInt = 1 := (by decide); omega))) (cwV 3 hts (gd_V q2040 q2042 q118 q134 q2043) rfl rfl rfl (by decide +kernel) ⟨Nat.le_of_ble_eq_true rfl, Nat.le_of_ble_eq_true rfl⟩) (pv9 hP hK hD hC hS (va_recv hK hP (ci := 9) (q0 := 0) rfl rfl)) rfl rfl hl.1 rfl (lv_room (Nat.le_of_ble_eq_true rfl)) dX9_shares_130 ⟨Nat.le_of_ble_eq_true rfl, Nat.le_of_ble_eq_true rfl⟩) hS (fun q _ h => up9 hS q h) (up9 hS) (fun σ46 tS H1 locs ht hvm hw47 hB hz1 hk1 hS => ?_)
            have hP : va_P D clz (WD9 cy g σ46) H1 := by rw [← ht]; exact hB
            clear hB hz1 hk1 hvm ht
            generalize H1 = H at hP hS ⊢
            have hF48 : Fr (fL [56, 57, 58]) σ34 σ46 := hw47.1
            have hJ49 : J9 (σ46 9) := hw47.2.1
            exact nj16 (σ46, lf [], lg []) ⟨Fr.tr (Fr.tr (Fr.rf) (sA_f eσ34) (fN_L rfl)) hF48 (fL_sub rfl), hJ49, trivial⟩ _ _ _ hP hS (lv_sub hl [0, 1, 2, 3, 4] rfl)
          ·
            have k50 := peq32 c32
            refine lv_goto (tgt := 133) hx hb dX9_shares_95 (by decide) ?_
            exact nj16 (σ6, lf [], lg []) ⟨Fr.rf, hJ8, trivial⟩ _ _ _ hP hS (lv_sub hl [0, 1, 2, 3, 4] rfl)
  ·
    have k51 := peq32 c1
    refine lv_iload_n hx hb dX9_shares_10 rfl (lv_at hl 3 rfl) ?_
    refine lv_aload_n hx hb dX9_shares_11 rfl (lv_at hl 0 rfl) ?_
    refine g9_58 (x := ((σ 9).1 58)) hx hb hts hown hK hP (rfl) (hts _ q1418) dX9_shares_12 ?_
    refine lv_icmp_lt (tgt := 19) hx hb dX9_shares_15 (by decide) (fun c52 => ?_) (fun c52 => ?_)
    ·
      have k53 := plt32 c52
      refine lv_aload_n hx hb dX9_shares_19 rfl (lv_at hl 0 rfl) ?_
      refine lv_iload_n hx hb dX9_shares_20 rfl (lv_at hl 3 rfl) ?_
      refine p9_58 hx hb hts hown hK hP hD hS (hts _ q1418) dX9_shares_21 (fun H locs σ54 eσ54 hP hS => ?_)
      have hJ55 : J9 (σ54 9) := hJ.I eσ54 (show JI9 58 p3 from trivial)
      refine lv_iconst (v := 0) hx hb dX9_shares_24 (by decide) ?_
      refine lv_istore (lv' := [(4, .int 0), (0, .ref (g 60)), (1, .int 0), (2, .int p2), (3, .int p3)]) hx hb dX9_shares_25 hl (by decide) rfl (fun ls hl => ?_)
      refine loop9 5 27 (fun x : LZ => [(4, .int (x.2.1 0)), (0, .ref (g 60)), (1, .int 0), (2, .int p2), (3, .int p3)]) (fun x : LZ => (Fr (fL [57]) σ54 x.1) ∧ (J9 (x.1 9)) ∧ ((0 : Int) ≤ (x.2.1 0).toInt ∧ (x.2.1 0).toInt ≤ 3) ∧ True) (fun x : LZ => ((4 : Int) - (x.2.1 0).toInt).toNat) ?_ (σ54, lf [0], lg []) ⟨Fr.rf, hJ55, (show (0 : Int) ≤ (0 : Int32).toInt ∧ (0 : Int32).toInt ≤ 3 from (by have z0 : (0 : Int32).toInt = 0 := (by decide); omega)), trivial⟩ _ _ _ hP hS (lv_sub hl [0, 1, 2, 3, 4] rfl)
      intro y58 hI57 nl56 H locs ls hP hS hl
      obtain ⟨σ59, eσ59⟩ : ∃ z, z = y58.1 := ⟨_, rfl⟩
      rw [← eσ59] at hP hI57
      have hF60 : Fr (fL [57]) σ54 σ59 := hI57.1
      have hJ61 : J9 (σ59 9) := hI57.2.1
      have b62 : (0 : Int) ≤ (y58.2.1 0).toInt ∧ (y58.2.1 0).toInt ≤ 3 := hI57.2.2.1
      have hl : lv_has ls 5 [(4, .int (y58.2.1 0)), (0, .ref (g 60)), (1, .int 0), (2, .int p2), (3, .int p3)] := hl
      refine lv_iload hx hb dX9_shares_27 (lv_at hl 0 rfl) ?_
      refine lv_iconst (v := 3) hx hb dX9_shares_29 (by decide) ?_
      refine lv_icmp_ge (tgt := 53) hx hb dX9_shares_30 (by decide) (fun c63 => ?_) (fun c63 => ?_)
      ·
        have k64 := ple32 c63
        exact W.vret hx hb hr (fun tS ht hW => ⟨⟨σ59, rfl, ⟨Fr.tr (Fr.tr (Fr.rf) (sI_f eσ54) (fN_L rfl)) hF60 (fL_sub rfl), hJ61, trivial⟩, (show va_P D clz (WD9 cy g σ59) tS.heap by rw [ht]; exact hP)⟩, hS.F ht⟩) hS.2.2 dX9_shares_53
      ·
        have k65 := nle32 c63
        refine lv_aload_n hx hb dX9_shares_33 rfl (lv_at hl 1 rfl) ?_
        refine g9_57 hx hb hts hown hK hP (hts _ q1417) dX9_shares_34 ?_
        refine lv_iload hx hb dX9_shares_37 (lv_at hl 0 rfl) ?_
        refine lv_aload_n hx hb dX9_shares_39 rfl (lv_at hl 1 rfl) ?_
        refine g9_56 hx hb hts hown hK hP (hts _ q1416) dX9_shares_40 ?_
        refine lv_iload hx hb dX9_shares_43 (lv_at hl 0 rfl) ?_
        obtain ⟨x66, ex66⟩ : ∃ z, (σ 9).2.2.1 56 (y58.2.1 0).toInt.toNat = z := ⟨_, rfl⟩
        refine l9_56 (x := x66) hx hb hK hP (vpo (by have f0 := b62; have f1 := k65; have g0 := rg32 (y58.2.1 0); have z3 : (3 : Int32).toInt = 3 := (by decide); omega)) ((congrFun (((hF60 9 56 rfl).2.2.1).trans (((sI_f eσ54) 9 56 rfl).2.2.1)) _).trans ex66) dX9_shares_45 ?_
        have t67 := a9_56 hJ ex66
        refine t9_57 hx hb hK hP hD hS (vpo (by have f0 := b62; have f1 := k65; have f2 := t67; have g0 := rg32 (y58.2.1 0); have z3 : (3 : Int32).toInt = 3 := (by decide); omega)) dX9_shares_46 (fun H locs σ68 eσ68 hP hS => ?_)
        have hJ69 : J9 (σ68 9) := hJ61.A eσ68 (show PA9 57 (y58.2.1 0).toInt.toNat x66 from (by have f0 := b62; have f1 := k65; have f2 := t67; have g0 := rg32 (y58.2.1 0); have g1 := rg32 x66; have z3 : (3 : Int32).toInt = 3 := (by decide); exact ⟨by omega, by omega⟩))
        obtain ⟨x70, ex70⟩ : ∃ y : Int32, y = (y58.2.1 0) + 1 := ⟨_, rfl⟩
        have t71 := addO ex70 (by have f0 := b62; have f1 := k65; have f2 := t67; have g0 := rg32 (y58.2.1 0); have z1 : (1 : Int32).toInt = 1 := (by decide); have z3 : (3 : Int32).toInt = 3 := (by decide); omega)
        refine lv_iinc (v := x70) (lv' := [(4, .int x70), (0, .ref (g 60)), (1, .int 0), (2, .int p2), (3, .int p3)]) hx hb dX9_shares_47 hl (k := 0) rfl (by rw [ex70]; rfl) (by decide) rfl (fun ls hl => ?_)
        refine lv_goto (tgt := 27) hx hb dX9_shares_50 (by decide) ?_
        have t72 : ((4 : Int) - x70.toInt).toNat < ((4 : Int) - (y58.2.1 0).toInt).toNat := (by have f0 := b62; have f1 := k65; have f2 := t67; have f3 := t71; have g0 := rg32 (y58.2.1 0); have g1 := rg32 x70; have z1 : (1 : Int32).toInt = 1 := (by decide); have z3 : (3 : Int32).toInt = 3 := (by decide); omega)
        exact nl56 (σ68, lf [x70], lg []) ⟨Fr.tr (Fr.tr (Fr.rf) hF60 (fL_sub rfl)) (sA_f eσ68) (fN_L rfl), hJ69, (show (0 : Int) ≤ (x70 : Int32).toInt ∧ (x70 : Int32).toInt ≤ 3 from (by have f0 := t71; have f1 := b62; have f2 := k65; have f3 := t67; have g0 := rg32 x70; have z1 : (1 : Int32).toInt = 1 := (by decide); have z3 : (3 : Int32).toInt = 3 := (by decide); omega)), trivial⟩ (show ((4 : Int) - x70.toInt).toNat < _ from by first | exact t72 | (rw [← eσ59]; exact t72)) _ _ _ hP hS (lv_sub hl [0, 1, 2, 3, 4] rfl)
    ·
      have k73 := nlt32 c52
      exact W.vret hx hb hr (fun tS ht hW => ⟨⟨σ, rfl, ⟨Fr.rf, hJ, trivial⟩, (show va_P D clz (WD9 cy g σ) tS.heap by rw [ht]; exact hP)⟩, hS.F ht⟩) hS.2.2 dX9_shares_18

theorem q2039 : Cond.code yX9_laysShares cX9_laysShares 3 none ∈ lw_g := lw_gm (List.mem_of_getElem? (i := 2039) (by decide +kernel)) rfl
theorem dX9_laysShares_0 : decode cX9_laysShares 0 = .ok (.iconst 0, 1) := by decide +kernel
theorem dX9_laysShares_1 : decode cX9_laysShares 1 = .ok (.istore_n 1, 1) := by decide +kernel
theorem dX9_laysShares_2 : decode cX9_laysShares 2 = .ok (.iload_n 1, 1) := by decide +kernel
theorem dX9_laysShares_3 : decode cX9_laysShares 3 = .ok (.aload_n 0, 1) := by decide +kernel
theorem dX9_laysShares_4 : decode cX9_laysShares 4 = .ok (.getfield 34, 3) := by decide +kernel
theorem dX9_laysShares_7 : decode cX9_laysShares 7 = .ok (.iconst 4, 1) := by decide +kernel
theorem dX9_laysShares_8 : decode cX9_laysShares 8 = .ok (.iaload, 1) := by decide +kernel
theorem dX9_laysShares_9 : decode cX9_laysShares 9 = .ok (.if_icmp .ge 56, 3) := by decide +kernel
theorem dX9_laysShares_12 : decode cX9_laysShares 12 = .ok (.iconst 0, 1) := by decide +kernel
theorem dX9_laysShares_13 : decode cX9_laysShares 13 = .ok (.istore_n 2, 1) := by decide +kernel
theorem dX9_laysShares_14 : decode cX9_laysShares 14 = .ok (.iload_n 2, 1) := by decide +kernel
theorem dX9_laysShares_15 : decode cX9_laysShares 15 = .ok (.aload_n 0, 1) := by decide +kernel
theorem dX9_laysShares_16 : decode cX9_laysShares 16 = .ok (.getfield 34, 3) := by decide +kernel
theorem dX9_laysShares_19 : decode cX9_laysShares 19 = .ok (.iconst 3, 1) := by decide +kernel
theorem dX9_laysShares_20 : decode cX9_laysShares 20 = .ok (.iaload, 1) := by decide +kernel
theorem dX9_laysShares_21 : decode cX9_laysShares 21 = .ok (.if_icmp .ge 38, 3) := by decide +kernel
theorem dX9_laysShares_24 : decode cX9_laysShares 24 = .ok (.aload_n 0, 1) := by decide +kernel
theorem dX9_laysShares_25 : decode cX9_laysShares 25 = .ok (.getfield 120, 3) := by decide +kernel
theorem dX9_laysShares_28 : decode cX9_laysShares 28 = .ok (.bipush 9, 2) := by decide +kernel
theorem dX9_laysShares_30 : decode cX9_laysShares 30 = .ok (.iload_n 1, 1) := by decide +kernel
theorem dX9_laysShares_31 : decode cX9_laysShares 31 = .ok (.imul, 1) := by decide +kernel
theorem dX9_laysShares_32 : decode cX9_laysShares 32 = .ok (.iload_n 2, 1) := by decide +kernel
theorem dX9_laysShares_33 : decode cX9_laysShares 33 = .ok (.iadd, 1) := by decide +kernel
theorem dX9_laysShares_34 : decode cX9_laysShares 34 = .ok (.aload_n 0, 1) := by decide +kernel
theorem dX9_laysShares_35 : decode cX9_laysShares 35 = .ok (.iload_n 2, 1) := by decide +kernel
theorem dX9_laysShares_36 : decode cX9_laysShares 36 = .ok (.iload_n 1, 1) := by decide +kernel
theorem dX9_laysShares_37 : decode cX9_laysShares 37 = .ok (.invokevirtual 436, 3) := by decide +kernel
theorem dX9_laysShares_40 : decode cX9_laysShares 40 = .ok (.ifCond .eq 10, 3) := by decide +kernel
theorem dX9_laysShares_43 : decode cX9_laysShares 43 = .ok (.aload_n 0, 1) := by decide +kernel
theorem dX9_laysShares_44 : decode cX9_laysShares 44 = .ok (.getfield 415, 3) := by decide +kernel
theorem dX9_laysShares_47 : decode cX9_laysShares 47 = .ok (.goto 5, 3) := by decide +kernel
theorem dX9_laysShares_50 : decode cX9_laysShares 50 = .ok (.ldc 180, 2) := by decide +kernel
theorem dX9_laysShares_52 : decode cX9_laysShares 52 = .ok (.iastore, 1) := by decide +kernel
theorem dX9_laysShares_53 : decode cX9_laysShares 53 = .ok (.iinc 2 1, 3) := by decide +kernel
theorem dX9_laysShares_56 : decode cX9_laysShares 56 = .ok (.goto (-42), 3) := by decide +kernel
theorem dX9_laysShares_59 : decode cX9_laysShares 59 = .ok (.iinc 1 1, 3) := by decide +kernel
theorem dX9_laysShares_62 : decode cX9_laysShares 62 = .ok (.goto (-60), 3) := by decide +kernel
theorem dX9_laysShares_65 : decode cX9_laysShares 65 = .ok (.aload_n 0, 1) := by decide +kernel
theorem dX9_laysShares_66 : decode cX9_laysShares 66 = .ok (.ldc 180, 2) := by decide +kernel
theorem dX9_laysShares_68 : decode cX9_laysShares 68 = .ok (.putfield 500, 3) := by decide +kernel
theorem dX9_laysShares_71 : decode cX9_laysShares 71 = .ok (.aload_n 0, 1) := by decide +kernel
theorem dX9_laysShares_72 : decode cX9_laysShares 72 = .ok (.iconst 0, 1) := by decide +kernel
theorem dX9_laysShares_73 : decode cX9_laysShares 73 = .ok (.iconst 0, 1) := by decide +kernel
theorem dX9_laysShares_74 : decode cX9_laysShares 74 = .ok (.iconst 0, 1) := by decide +kernel
theorem dX9_laysShares_75 : decode cX9_laysShares 75 = .ok (.invokevirtual 503, 3) := by decide +kernel
theorem dX9_laysShares_78 : decode cX9_laysShares 78 = .ok (.return_, 1) := by decide +kernel
set_option maxHeartbeats 4000000 in
set_option maxRecDepth 100000 in
theorem m_X9_laysShares (l : Launch) (D : va_G) (cy : Nat → ClassId) (g : Nat → Nat) (σ : ST)  (sz : Nat) (hJ : J9 (σ 9)) (kDK0 : DK0 (σ 9)) : Met l yX9_laysShares (ww yX9_laysShares cX9_laysShares 3 none) ({ frames := 8, cells := 0, slots := 0, locals := 512 }) (va_Pc [.ref (g 60)] (pr9 D cy g σ sz)) (qv9 D cy g sz (fun τ => Fr (fL [23, 24, 25, 26, 27, 28, 29, 30, 31, 32, 33, 34, 35, 36, 37, 38, 39, 40, 41, 55, 56, 57, 58]) σ τ ∧ J9 (τ 9) ∧ True)) 0 0 (A9 cy g sz) := by
  refine Met.ofW (cc := cX9_laysShares) (maxL := 3) (ret := none) (by decide) rfl ?_
  intro p e s m args below meth c s₁ B hml hv
  obtain ⟨rfl, hsz, hP, hK, hD0, hC⟩ := hv
  have hx := B.exec
  have hb := B.bytes
  have hr := B.returns
  have hts := hts_g (atoms_spec (ws := ww yX9_laysShares cX9_laysShares 3 none) B.pre)
  have hown : s.vm.findClass RX9 = some m.cls := findClass_of_methodNamed B.named
  have hlocks := B.notSynchronized
  clear B
  subst hsz
  have hD := fun τ => A9_D (sz := s.heap.size) hD0 τ
  clear hD0
  have hS : va_S (A9 cy g s.heap.size) s.heap s.heap [] := va_S.rf
  have hl := lv_entry ([.ref (g 60)]) (n := 3) (Nat.le_of_ble_eq_true rfl)
  rw [lg_entry_eq]
  generalize (lg_sl ([.ref (g 60)]) ++ List.replicate (3 - (lg_sl ([.ref (g 60)])).length) Slot.unset).toArray = ls at hl ⊢
  have hl : lv_has ls 3 [(0, .ref (g 60))] := hl
  refine lv_iconst (v := 0) hx hb dX9_laysShares_0 (by decide) ?_
  refine lv_istore_n (lv' := [(1, .int 0), (0, .ref (g 60))]) hx hb dX9_laysShares_1 rfl hl (by decide) rfl (fun ls hl => ?_)
  refine loop9 3 2 (fun x : LZ => [(1, .int (x.2.1 0)), (0, .ref (g 60))]) (fun x : LZ => (Fr (fL [23, 24, 25, 26, 27, 28, 29, 30, 31, 32, 33, 34, 35, 36, 37, 38, 39, 40, 41, 55]) σ x.1) ∧ (J9 (x.1 9)) ∧ ((0 : Int) ≤ (x.2.1 0).toInt ∧ (x.2.1 0).toInt ≤ 3) ∧ (DK0 (x.1 9)) ∧ True) (fun x : LZ => ((4 : Int) - (x.2.1 0).toInt).toNat) ?_ (σ, lf [0], lg []) ⟨Fr.rf, hJ, (show (0 : Int) ≤ (0 : Int32).toInt ∧ (0 : Int32).toInt ≤ 3 from (by have z0 : (0 : Int32).toInt = 0 := (by decide); omega)), (show DK0 (σ 9) from kDK0), trivial⟩ _ _ _ hP hS (lv_sub hl [0, 1] rfl)
  intro y3 hI2 nl1 H locs ls hP hS hl
  obtain ⟨σ4, eσ4⟩ : ∃ z, z = y3.1 := ⟨_, rfl⟩
  rw [← eσ4] at hP hI2
  have hF5 : Fr (fL [23, 24, 25, 26, 27, 28, 29, 30, 31, 32, 33, 34, 35, 36, 37, 38, 39, 40, 41, 55]) σ σ4 := hI2.1
  have hJ6 : J9 (σ4 9) := hI2.2.1
  have b7 : (0 : Int) ≤ (y3.2.1 0).toInt ∧ (y3.2.1 0).toInt ≤ 3 := hI2.2.2.1
  have b8 : DK0 (σ4 9) := hI2.2.2.2.1
  have hl : lv_has ls 3 [(1, .int (y3.2.1 0)), (0, .ref (g 60))] := hl
  refine lv_iload_n hx hb dX9_laysShares_2 rfl (lv_at hl 0 rfl) ?_
  refine lv_aload_n hx hb dX9_laysShares_3 rfl (lv_at hl 1 rfl) ?_
  refine g9_17 hx hb hts hown hK hP (hts _ q1377) dX9_laysShares_4 ?_
  refine lv_iconst (v := 4) hx hb dX9_laysShares_7 (by decide) ?_
  refine l9_17 (x := ((σ 9).2.2.1 17 4)) hx hb hK hP (vpi (by decide)) ((congrFun ((hF5 9 17 rfl).2.2.1) _).trans (congrArg ((σ 9).2.2.1 17) (show (4 : Int32).toInt.toNat = 4 by decide))) dX9_laysShares_8 ?_
  refine lv_icmp_ge (tgt := 65) hx hb dX9_laysShares_9 (by decide) (fun c9 => ?_) (fun c9 => ?_)
  ·
    have k10 := ple32 c9
    refine lv_aload_n hx hb dX9_laysShares_65 rfl (lv_at hl 1 rfl) ?_
    refine lv_ldc (v := 1000000) hx hb hown (hts _ q1604) dX9_laysShares_66 ?_
    refine p9_58 hx hb hts hown hK hP hD hS (hts _ q1418) dX9_laysShares_68 (fun H locs σ11 eσ11 hP hS => ?_)
    have hJ12 : J9 (σ11 9) := hJ6.I eσ11 (show JI9 58 (1000000 : Int32) from trivial)
    have T13 : DK0 (σ11 9) := DK0.mv b8 ((sI_f eσ11) 9 17 rfl).2.2.1 ((sI_f eσ11) 9 18 rfl).2.2.1 ((sI_f eσ11) 9 19 rfl).2.2.1
    refine lv_aload_n hx hb dX9_laysShares_71 rfl (lv_at hl 1 rfl) ?_
    refine lv_iconst (v := 0) hx hb dX9_laysShares_72 (by decide) ?_
    refine lv_iconst (v := 0) hx hb dX9_laysShares_73 (by decide) ?_
    refine lv_iconst (v := 0) hx hb dX9_laysShares_74 (by decide) ?_
    refine va_callv (va_runV (As := [.int 0, .int 0, .int 0]) (rest := []) ⟨hx, hb, hml, hown, hts⟩ (m_X9_shares_c0 l D cy g σ11 (0) (0) _ hJ12 (show (0 : Int32).toInt ≤ ((σ11 9).2.2.1 17 4).toInt from (by have f0 := a9_17 hJ12 (j := 4) rfl; have f1 := congrArg Int32.toInt (show ((σ11 9).2.2.1 17 4) = ((σ 9).2.2.1 17 4) from congrFun ((((sI_f eσ11) 9 17 rfl).2.2.1).trans ((hF5 9 17 rfl).2.2.1)) _); have f2 := a9_17 hJ (j := 4) rfl; have f3 := k10; have f4 := b7; have z0 : (0 : Int32).toInt = 0 := (by decide); omega))) (cwV 3 hts (gd_V q2040 q2042 q118 q134 q2043) rfl rfl rfl (by decide +kernel) ⟨Nat.le_of_ble_eq_true rfl, Nat.le_of_ble_eq_true rfl⟩) (pv9 hP hK hD hC hS (va_recv hK hP (ci := 9) (q0 := 0) rfl rfl)) rfl rfl hl.1 rfl (lv_room (Nat.le_of_ble_eq_true rfl)) dX9_laysShares_75 ⟨Nat.le_of_ble_eq_true rfl, Nat.le_of_ble_eq_true rfl⟩) hS (fun q _ h => up9 hS q h) (up9 hS) (fun σ15 tS H1 locs ht hvm hw16 hB hz1 hk1 hS => ?_)
    have hP : va_P D clz (WD9 cy g σ15) H1 := by rw [← ht]; exact hB
    clear hB hz1 hk1 hvm ht
    generalize H1 = H at hP hS ⊢
    have hF17 : Fr (fL [56, 57, 58]) σ11 σ15 := hw16.1
    have hJ18 : J9 (σ15 9) := hw16.2.1
    have T19 : DK0 (σ15 9) := DK0.mv T13 (hF17 9 17 rfl).2.2.1 (hF17 9 18 rfl).2.2.1 (hF17 9 19 rfl).2.2.1
    exact W.vret hx hb hr (fun tS ht hW => ⟨⟨σ15, rfl, ⟨Fr.tr (Fr.tr (Fr.tr (Fr.rf) hF5 (fL_sub rfl)) (sI_f eσ11) (fN_L rfl)) hF17 (fL_sub rfl), hJ18, trivial⟩, (show va_P D clz (WD9 cy g σ15) tS.heap by rw [ht]; exact hP)⟩, hS.F ht⟩) hS.2.2 dX9_laysShares_78
  ·
    have k20 := nle32 c9
    refine lv_iconst (v := 0) hx hb dX9_laysShares_12 (by decide) ?_
    refine lv_istore_n (lv' := [(2, .int 0), (1, .int (y3.2.1 0)), (0, .ref (g 60))]) hx hb dX9_laysShares_13 rfl hl (by decide) rfl (fun ls hl => ?_)
    refine loop9 3 14 (fun x : LZ => [(2, .int (x.2.1 0)), (1, .int (y3.2.1 0)), (0, .ref (g 60))]) (fun x : LZ => (Fr (fL [23, 24, 25, 26, 27, 28, 29, 30, 31, 32, 33, 34, 35, 36, 37, 38, 39, 40, 41, 55]) σ4 x.1) ∧ (J9 (x.1 9)) ∧ ((0 : Int) ≤ (x.2.1 0).toInt ∧ (x.2.1 0).toInt ≤ 9) ∧ (DK0 (x.1 9)) ∧ True) (fun x : LZ => ((10 : Int) - (x.2.1 0).toInt).toNat) ?_ (σ4, lf [0], lg []) ⟨Fr.rf, hJ6, (show (0 : Int) ≤ (0 : Int32).toInt ∧ (0 : Int32).toInt ≤ 9 from (by have z0 : (0 : Int32).toInt = 0 := (by decide); omega)), (show DK0 (σ4 9) from b8), trivial⟩ _ _ _ hP hS (lv_sub hl [0, 1, 2] rfl)
    intro y23 hI22 nl21 H locs ls hP hS hl
    obtain ⟨σ24, eσ24⟩ : ∃ z, z = y23.1 := ⟨_, rfl⟩
    rw [← eσ24] at hP hI22
    have hF25 : Fr (fL [23, 24, 25, 26, 27, 28, 29, 30, 31, 32, 33, 34, 35, 36, 37, 38, 39, 40, 41, 55]) σ4 σ24 := hI22.1
    have hJ26 : J9 (σ24 9) := hI22.2.1
    have b27 : (0 : Int) ≤ (y23.2.1 0).toInt ∧ (y23.2.1 0).toInt ≤ 9 := hI22.2.2.1
    have b28 : DK0 (σ24 9) := hI22.2.2.2.1
    have hl : lv_has ls 3 [(2, .int (y23.2.1 0)), (1, .int (y3.2.1 0)), (0, .ref (g 60))] := hl
    refine lv_iload_n hx hb dX9_laysShares_14 rfl (lv_at hl 0 rfl) ?_
    refine lv_aload_n hx hb dX9_laysShares_15 rfl (lv_at hl 2 rfl) ?_
    refine g9_17 hx hb hts hown hK hP (hts _ q1377) dX9_laysShares_16 ?_
    refine lv_iconst (v := 3) hx hb dX9_laysShares_19 (by decide) ?_
    refine l9_17 (x := ((σ 9).2.2.1 17 3)) hx hb hK hP (vpi (by decide)) ((congrFun (((hF25 9 17 rfl).2.2.1).trans ((hF5 9 17 rfl).2.2.1)) _).trans (congrArg ((σ 9).2.2.1 17) (show (3 : Int32).toInt.toNat = 3 by decide))) dX9_laysShares_20 ?_
    refine lv_icmp_ge (tgt := 59) hx hb dX9_laysShares_21 (by decide) (fun c29 => ?_) (fun c29 => ?_)
    ·
      have k30 := ple32 c29
      obtain ⟨x31, ex31⟩ : ∃ y : Int32, y = (y3.2.1 0) + 1 := ⟨_, rfl⟩
      have t32 := addO ex31 (by have f0 := b7; have f1 := k20; have f2 := a9_17 hJ (j := 4) rfl; have g0 := rg32 (y3.2.1 0); have z1 : (1 : Int32).toInt = 1 := (by decide); omega)
      refine lv_iinc (v := x31) (lv' := [(1, .int x31), (2, .int (y23.2.1 0)), (0, .ref (g 60))]) hx hb dX9_laysShares_59 hl (k := 1) rfl (by rw [ex31]; rfl) (by decide) rfl (fun ls hl => ?_)
      refine lv_goto (tgt := 2) hx hb dX9_laysShares_62 (by decide) ?_
      have t33 : ((4 : Int) - x31.toInt).toNat < ((4 : Int) - (y3.2.1 0).toInt).toNat := (by have f0 := b7; have f1 := k20; have f2 := t32; have f3 := a9_17 hJ (j := 4) rfl; have g0 := rg32 (y3.2.1 0); have g1 := rg32 x31; have z1 : (1 : Int32).toInt = 1 := (by decide); omega)
      exact nl1 (σ24, lf [x31], lg []) ⟨Fr.tr (Fr.tr (Fr.rf) hF5 (fL_sub rfl)) hF25 (fL_sub rfl), hJ26, (show (0 : Int) ≤ (x31 : Int32).toInt ∧ (x31 : Int32).toInt ≤ 3 from (by have f0 := t32; have f1 := b7; have f2 := k20; have f3 := a9_17 hJ (j := 4) rfl; have g0 := rg32 x31; have z1 : (1 : Int32).toInt = 1 := (by decide); omega)), (show DK0 (σ24 9) from b28), trivial⟩ (show ((4 : Int) - x31.toInt).toNat < _ from by first | exact t33 | (rw [← eσ4]; exact t33)) _ _ _ hP hS (lv_sub hl [0, 2] rfl)
    ·
      have k34 := nle32 c29
      refine lv_aload_n hx hb dX9_laysShares_24 rfl (lv_at hl 2 rfl) ?_
      refine g9_55 hx hb hts hown hK hP (hts _ q1415) dX9_laysShares_25 ?_
      refine lv_bipush (v := 9) hx hb dX9_laysShares_28 (by decide) ?_
      refine lv_iload_n hx hb dX9_laysShares_30 rfl (lv_at hl 1 rfl) ?_
      refine lv_imul hx hb dX9_laysShares_31 ?_
      refine lv_topi (fun x35 ex35 => ?_)
      have t36 := mulC' (n := 9) ex35 (by decide) (by have f0 := b7; have f1 := k20; have f2 := a9_17 hJ (j := 4) rfl; have g0 := rg32 (y3.2.1 0); omega)
      refine lv_iload_n hx hb dX9_laysShares_32 rfl (lv_at hl 0 rfl) ?_
      refine lv_iadd hx hb dX9_laysShares_33 ?_
      refine lv_topi (fun x37 ex37 => ?_)
      have t38 := addO ex37 (by have f0 := b27; have f1 := k34; have f2 := t36; have f3 := a9_17 hJ (j := 3) rfl; have f4 := b7; have f5 := k20; have f6 := a9_17 hJ (j := 4) rfl; have g0 := rg32 (y23.2.1 0); have g1 := rg32 x35; omega)
      refine lv_aload_n hx hb dX9_laysShares_34 rfl (lv_at hl 2 rfl) ?_
      refine lv_iload_n hx hb dX9_laysShares_35 rfl (lv_at hl 0 rfl) ?_
      refine lv_iload_n hx hb dX9_laysShares_36 rfl (lv_at hl 1 rfl) ?_
      refine va_calli (va_runV (As := [.int (y23.2.1 0), .int (y3.2.1 0)]) (rest := [.int x37, .ref (g 55)]) ⟨hx, hb, hml, hown, hts⟩ (m_X9_isBest l D cy g σ24 (y23.2.1 0) (y3.2.1 0) _ hJ26 b28 (show (0 : Int) ≤ (y23.2.1 0).toInt ∧ (y23.2.1 0).toInt ≤ 8 from (by have f0 := b27; have f1 := k34; have f2 := t38; have f3 := a9_17 hJ (j := 3) rfl; have f4 := t36; have f5 := b7; have f6 := k20; have f7 := a9_17 hJ (j := 4) rfl; have g0 := rg32 (y23.2.1 0); omega)) (show (0 : Int) ≤ (y3.2.1 0).toInt ∧ (y3.2.1 0).toInt ≤ 2 from (by have f0 := b7; have f1 := k20; have f2 := b27; have f3 := k34; have f4 := t36; have f5 := t38; have f6 := a9_17 hJ (j := 3) rfl; have f7 := a9_17 hJ (j := 4) rfl; have g0 := rg32 (y23.2.1 0); have g1 := rg32 (y3.2.1 0); omega)) (show (y23.2.1 0).toInt < ((σ24 9).2.2.1 17 3).toInt from (by have f0 := a9_17 hJ26 (j := 3) rfl; have f1 := congrArg Int32.toInt (show ((σ24 9).2.2.1 17 3) = ((σ 9).2.2.1 17 3) from congrFun (((hF25 9 17 rfl).2.2.1).trans ((hF5 9 17 rfl).2.2.1)) _); have f2 := b27; have f3 := k34; have f4 := t38; have f5 := a9_17 hJ (j := 3) rfl; have f6 := t36; have f7 := b7; have f8 := k20; have f9 := a9_17 hJ (j := 4) rfl; have g1 := rg32 (y23.2.1 0); omega))) (cwV 2 hts (gd_V q1826 q1828 q88 q134 q1829) rfl rfl rfl (by decide +kernel) ⟨Nat.le_of_ble_eq_true rfl, Nat.le_of_ble_eq_true rfl⟩) (pv9 hP hK hD hC hS (va_recv hK hP (ci := 9) (q0 := 0) rfl rfl)) rfl rfl hl.1 rfl (lv_room (Nat.le_of_ble_eq_true rfl)) dX9_laysShares_37 ⟨Nat.le_of_ble_eq_true rfl, Nat.le_of_ble_eq_true rfl⟩) hS (fun q _ h => up9 hS q h) (up9 hS) (fun r39 σ40 tS H1 locs ht hvm hw41 hB hz1 hk1 hS => ?_)
      have hP : va_P D clz (WD9 cy g σ40) H1 := by rw [← ht]; exact hB
      clear hB hz1 hk1 hvm ht
      generalize H1 = H at hP hS ⊢
      have hF42 : Fr (fL [23, 24, 25, 26, 27, 28, 29, 30, 31, 32, 33, 34, 35, 36, 37, 38, 39, 40, 41]) σ24 σ40 := hw41.1
      have hJ43 : J9 (σ40 9) := hw41.2.1
      have b44 : (0 : Int) ≤ r39.toInt ∧ r39.toInt ≤ 1 := hw41.2.2.1
      have T45 : DK0 (σ40 9) := DK0.mv b28 (hF42 9 17 rfl).2.2.1 (hF42 9 18 rfl).2.2.1 (hF42 9 19 rfl).2.2.1
      refine cut9 (D := D) (cy := cy) (g := g) (A := A9 cy g s.heap.size) (H0 := s.heap) 3 52 (fun x : LZ => [(2, .int (y23.2.1 0)), (1, .int (y3.2.1 0)), (0, .ref (g 60))]) (fun x : LZ => [.int (x.2.1 0), .int x37, .ref (g 55)]) (fun x : LZ => (x.1 = σ40) ∧ (DK0 (σ40 9)) ∧ True) ?_ ?_
      ·
        intro y48 hI47 H locs ls hP hS hl
        rw [show y48.1 = σ40 from hI47.1] at hP
        have b49 : DK0 (σ40 9) := hI47.2.1
        have hl : lv_has ls 3 [(2, .int (y23.2.1 0)), (1, .int (y3.2.1 0)), (0, .ref (g 60))] := hl
        refine W.eq (g2 := F0 m 52 ls [.int (y48.2.1 0), .int x37, .ref (g 55)]) rfl ?_
        refine t9_55 hx hb hK hP hD hS (vpo (by have f0 := t38; have f1 := b27; have f2 := k34; have f3 := t36; have f4 := a9_17 hJ (j := 3) rfl; have f5 := b7; have f6 := k20; have f7 := a9_17 hJ (j := 4) rfl; have g0 := rg32 x37; omega)) dX9_laysShares_52 (fun H locs σ50 eσ50 hP hS => ?_)
        have hJ51 : J9 (σ50 9) := hJ43.A eσ50 trivial
        have T52 : DK0 (σ50 9) := DK0.mv b49 ((sA_f eσ50) 9 17 rfl).2.2.1 ((sA_f eσ50) 9 18 rfl).2.2.1 ((sA_f eσ50) 9 19 rfl).2.2.1
        obtain ⟨x53, ex53⟩ : ∃ y : Int32, y = (y23.2.1 0) + 1 := ⟨_, rfl⟩
        have t54 := addO ex53 (by have f0 := b27; have f1 := k34; have f2 := t38; have f3 := a9_17 hJ (j := 3) rfl; have f4 := t36; have f5 := b7; have f6 := k20; have f7 := a9_17 hJ (j := 4) rfl; have g0 := rg32 (y23.2.1 0); have z1 : (1 : Int32).toInt = 1 := (by decide); omega)
        refine lv_iinc (v := x53) (lv' := [(2, .int x53), (1, .int (y3.2.1 0)), (0, .ref (g 60))]) hx hb dX9_laysShares_53 hl (k := 0) rfl (by rw [ex53]; rfl) (by decide) rfl (fun ls hl => ?_)
        refine lv_goto (tgt := 14) hx hb dX9_laysShares_56 (by decide) ?_
        have t55 : ((10 : Int) - x53.toInt).toNat < ((10 : Int) - (y23.2.1 0).toInt).toNat := (by have f0 := b27; have f1 := k34; have f2 := t38; have f3 := t54; have f4 := a9_17 hJ (j := 3) rfl; have f5 := t36; have f6 := b7; have f7 := k20; have f8 := a9_17 hJ (j := 4) rfl; have g0 := rg32 (y23.2.1 0); have g1 := rg32 x53; have z1 : (1 : Int32).toInt = 1 := (by decide); omega)
        exact nl21 (σ50, lf [x53], lg []) ⟨Fr.tr (Fr.tr (Fr.tr (Fr.rf) hF25 (fL_sub rfl)) hF42 (fL_sub rfl)) (sA_f eσ50) (fN_L rfl), hJ51, (show (0 : Int) ≤ (x53 : Int32).toInt ∧ (x53 : Int32).toInt ≤ 9 from (by have f0 := t54; have f1 := b27; have f2 := k34; have f3 := t38; have f4 := a9_17 hJ (j := 3) rfl; have f5 := t36; have f6 := b7; have f7 := k20; have f8 := a9_17 hJ (j := 4) rfl; have g0 := rg32 x53; have z1 : (1 : Int32).toInt = 1 := (by decide); omega)), (show DK0 (σ50 9) from T52), trivial⟩ (show ((10 : Int) - x53.toInt).toNat < _ from by first | exact t55 | (rw [← eσ24]; exact t55)) _ _ _ hP hS (lv_sub hl [0, 1, 2] rfl)
      ·
        intro nj46
        refine lv_if_eq (tgt := 50) hx hb dX9_laysShares_40 (by decide) (fun c56 => ?_) (fun c56 => ?_)
        ·
          have k57 := peq32 c56
          refine lv_ldc (v := 1000000) hx hb hown (hts _ q1604) dX9_laysShares_50 ?_
          exact nj46 (σ40, lf [1000000], lg []) ⟨rfl, (show DK0 (σ40 9) from T45), trivial⟩ _ _ _ hP hS (lv_sub hl [0, 1, 2] rfl)
        ·
          have k58 := neq32 c56
          refine lv_aload_n hx hb dX9_laysShares_43 rfl (lv_at hl 2 rfl) ?_
          refine g9_39 (x := ((σ40 9).1 39)) hx hb hts hown hK hP (rfl) (hts _ q1399) dX9_laysShares_44 ?_
          refine lv_goto (tgt := 52) hx hb dX9_laysShares_47 (by decide) ?_
          exact nj46 (σ40, lf [((σ40 9).1 39)], lg []) ⟨rfl, (show DK0 (σ40 9) from T45), trivial⟩ _ _ _ hP hS (lv_sub hl [0, 1, 2] rfl)

theorem q2031 : Cond.code yX9_shared cX9_shared 1 (some .int) ∈ lw_g := lw_gm (List.mem_of_getElem? (i := 2031) (by decide +kernel)) rfl
theorem q2036 : Cond.methodLink RX9 510 yX9_laysShares ∈ lw_g := lw_gm (List.mem_of_getElem? (i := 2036) (by decide +kernel)) rfl
theorem q2038 : Cond.instanceMethod yX9_laysShares ∈ lw_g := lw_gm (List.mem_of_getElem? (i := 2038) (by decide +kernel)) rfl
theorem q117 : Cond.selects RX9 yX9_laysShares yX9_laysShares ∈ lw_g := lw_gm (List.mem_of_getElem? (i := 117) (by decide +kernel)) rfl
theorem dX9_shared_0 : decode cX9_shared 0 = .ok (.aload_n 0, 1) := by decide +kernel
theorem dX9_shared_1 : decode cX9_shared 1 = .ok (.iconst 0, 1) := by decide +kernel
theorem dX9_shared_2 : decode cX9_shared 2 = .ok (.putfield 129, 3) := by decide +kernel
theorem dX9_shared_5 : decode cX9_shared 5 = .ok (.aload_n 0, 1) := by decide +kernel
theorem dX9_shared_6 : decode cX9_shared 6 = .ok (.invokevirtual 507, 3) := by decide +kernel
theorem dX9_shared_9 : decode cX9_shared 9 = .ok (.ifCond .ne 6, 3) := by decide +kernel
theorem dX9_shared_12 : decode cX9_shared 12 = .ok (.bipush (-2), 2) := by decide +kernel
theorem dX9_shared_14 : decode cX9_shared 14 = .ok (.ireturn, 1) := by decide +kernel
theorem dX9_shared_15 : decode cX9_shared 15 = .ok (.aload_n 0, 1) := by decide +kernel
theorem dX9_shared_16 : decode cX9_shared 16 = .ok (.invokevirtual 510, 3) := by decide +kernel
theorem dX9_shared_19 : decode cX9_shared 19 = .ok (.aload_n 0, 1) := by decide +kernel
theorem dX9_shared_20 : decode cX9_shared 20 = .ok (.getfield 500, 3) := by decide +kernel
theorem dX9_shared_23 : decode cX9_shared 23 = .ok (.ldc 180, 2) := by decide +kernel
theorem dX9_shared_25 : decode cX9_shared 25 = .ok (.if_icmp .ne 7, 3) := by decide +kernel
theorem dX9_shared_28 : decode cX9_shared 28 = .ok (.iconst (-1), 1) := by decide +kernel
theorem dX9_shared_29 : decode cX9_shared 29 = .ok (.goto 7, 3) := by decide +kernel
theorem dX9_shared_32 : decode cX9_shared 32 = .ok (.aload_n 0, 1) := by decide +kernel
theorem dX9_shared_33 : decode cX9_shared 33 = .ok (.getfield 500, 3) := by decide +kernel
theorem dX9_shared_36 : decode cX9_shared 36 = .ok (.ireturn, 1) := by decide +kernel
set_option maxHeartbeats 4000000 in
set_option maxRecDepth 100000 in
theorem m_X9_shared (l : Launch) (D : va_G) (cy : Nat → ClassId) (g : Nat → Nat) (σ : ST)  (sz : Nat) (hJ : J9 (σ 9)) (kDK0 : DK0 (σ 9)) : Met l yX9_shared (ww yX9_shared cX9_shared 1 (some .int)) ({ frames := 9, cells := 0, slots := 0, locals := 576 }) (va_Pc [.ref (g 60)] (pr9 D cy g σ sz)) (qi9 D cy g sz (fun r τ => Fr (fL [0, 23, 24, 25, 26, 27, 28, 29, 30, 31, 32, 33, 34, 35, 36, 37, 38, 39, 40, 41, 55, 56, 57, 58]) σ τ ∧ J9 (τ 9) ∧ True)) 0 0 (A9 cy g sz) := by
  refine Met.ofW (cc := cX9_shared) (maxL := 1) (ret := (some .int)) (by decide) rfl ?_
  intro p e s m args below meth c s₁ B hml hv
  obtain ⟨rfl, hsz, hP, hK, hD0, hC⟩ := hv
  have hx := B.exec
  have hb := B.bytes
  have hr := B.returns
  have hts := hts_g (atoms_spec (ws := ww yX9_shared cX9_shared 1 (some .int)) B.pre)
  have hown : s.vm.findClass RX9 = some m.cls := findClass_of_methodNamed B.named
  have hlocks := B.notSynchronized
  clear B
  subst hsz
  have hD := fun τ => A9_D (sz := s.heap.size) hD0 τ
  clear hD0
  have hS : va_S (A9 cy g s.heap.size) s.heap s.heap [] := va_S.rf
  have hl := lv_entry ([.ref (g 60)]) (n := 1) (Nat.le_of_ble_eq_true rfl)
  rw [lg_entry_eq]
  generalize (lg_sl ([.ref (g 60)]) ++ List.replicate (1 - (lg_sl ([.ref (g 60)])).length) Slot.unset).toArray = ls at hl ⊢
  have hl : lv_has ls 1 [(0, .ref (g 60))] := hl
  refine lv_aload_n hx hb dX9_shared_0 rfl (lv_at hl 0 rfl) ?_
  refine lv_iconst (v := 0) hx hb dX9_shared_1 (by decide) ?_
  refine p9_0 hx hb hts hown hK hP hD hS (hts _ q1360) dX9_shared_2 (fun H locs σ1 eσ1 hP hS => ?_)
  have hJ2 : J9 (σ1 9) := hJ.I eσ1 (show JI9 0 (0 : Int32) from trivial)
  have T3 : DK0 (σ1 9) := DK0.mv kDK0 ((sI_f eσ1) 9 17 rfl).2.2.1 ((sI_f eσ1) 9 18 rfl).2.2.1 ((sI_f eσ1) 9 19 rfl).2.2.1
  refine lv_aload_n hx hb dX9_shared_5 rfl (lv_at hl 0 rfl) ?_
  refine va_calli (va_runV (As := []) (rest := []) ⟨hx, hb, hml, hown, hts⟩ (m_X9_isDesk l D cy g σ1  _ hJ2 ) (cwV 0 hts (gd_V q2032 q2034 q116 q134 q2035) rfl rfl rfl (by decide +kernel) ⟨Nat.le_of_ble_eq_true rfl, Nat.le_of_ble_eq_true rfl⟩) (pv9 hP hK hD hC hS (va_recv hK hP (ci := 9) (q0 := 0) rfl rfl)) rfl rfl hl.1 rfl (lv_room (Nat.le_of_ble_eq_true rfl)) dX9_shared_6 ⟨Nat.le_of_ble_eq_true rfl, Nat.le_of_ble_eq_true rfl⟩) hS (fun q _ h => up9 hS q h) (up9 hS) (fun r4 σ5 tS H1 locs ht hvm hw6 hB hz1 hk1 hS => ?_)
  have hP : va_P D clz (WD9 cy g σ5) H1 := by rw [← ht]; exact hB
  clear hB hz1 hk1 hvm ht
  generalize H1 = H at hP hS ⊢
  have hw6E : σ1 = σ5 := (hw6.1).symm
  subst hw6E
  have b7 : (0 : Int) ≤ r4.toInt ∧ r4.toInt ≤ 1 := hw6.2.1
  refine lv_if_ne (tgt := 15) hx hb dX9_shared_9 (by decide) (fun c8 => ?_) (fun c8 => ?_)
  ·
    have k9 := neq32 c8
    refine lv_aload_n hx hb dX9_shared_15 rfl (lv_at hl 0 rfl) ?_
    refine va_callv (va_runV (As := []) (rest := []) ⟨hx, hb, hml, hown, hts⟩ (m_X9_laysShares l D cy g σ1  _ hJ2 T3) (cwV 0 hts (gd_V q2036 q2038 q117 q134 q2039) rfl rfl rfl (by decide +kernel) ⟨Nat.le_of_ble_eq_true rfl, Nat.le_of_ble_eq_true rfl⟩) (pv9 hP hK hD hC hS (va_recv hK hP (ci := 9) (q0 := 0) rfl rfl)) rfl rfl hl.1 rfl (lv_room (Nat.le_of_ble_eq_true rfl)) dX9_shared_16 ⟨Nat.le_of_ble_eq_true rfl, Nat.le_of_ble_eq_true rfl⟩) hS (fun q _ h => up9 hS q h) (up9 hS) (fun σ11 tS H1 locs ht hvm hw12 hB hz1 hk1 hS => ?_)
    have hP : va_P D clz (WD9 cy g σ11) H1 := by rw [← ht]; exact hB
    clear hB hz1 hk1 hvm ht
    generalize H1 = H at hP hS ⊢
    have hF13 : Fr (fL [23, 24, 25, 26, 27, 28, 29, 30, 31, 32, 33, 34, 35, 36, 37, 38, 39, 40, 41, 55, 56, 57, 58]) σ1 σ11 := hw12.1
    have hJ14 : J9 (σ11 9) := hw12.2.1
    have T15 : DK0 (σ11 9) := DK0.mv T3 (hF13 9 17 rfl).2.2.1 (hF13 9 18 rfl).2.2.1 (hF13 9 19 rfl).2.2.1
    refine lv_aload_n hx hb dX9_shared_19 rfl (lv_at hl 0 rfl) ?_
    refine g9_58 (x := ((σ11 9).1 58)) hx hb hts hown hK hP (rfl) (hts _ q1418) dX9_shared_20 ?_
    refine lv_ldc (v := 1000000) hx hb hown (hts _ q1604) dX9_shared_23 ?_
    refine lv_icmp_ne (tgt := 32) hx hb dX9_shared_25 (by decide) (fun c16 => ?_) (fun c16 => ?_)
    ·
      have k17 := neq32 c16
      refine lv_aload_n hx hb dX9_shared_32 rfl (lv_at hl 0 rfl) ?_
      refine g9_58 (x := ((σ11 9).1 58)) hx hb hts hown hK hP (rfl) (hts _ q1418) dX9_shared_33 ?_
      exact W.iret (v := ((σ11 9).1 58)) hx hb hr (fun tS ht hW => ⟨⟨((σ11 9).1 58), σ11, rfl, ⟨Fr.tr (Fr.tr (Fr.rf) (sI_f eσ1) (fN_L rfl)) hF13 (fL_sub rfl), hJ14, trivial⟩, (show va_P D clz (WD9 cy g σ11) tS.heap by rw [ht]; exact hP)⟩, hS.F ht⟩) hS.2.2 dX9_shared_36
    ·
      have k18 := peq32 c16
      refine lv_iconst (v := (-1)) hx hb dX9_shared_28 (by decide) ?_
      refine lv_goto (tgt := 36) hx hb dX9_shared_29 (by decide) ?_
      exact W.iret (v := (-1)) hx hb hr (fun tS ht hW => ⟨⟨(-1), σ11, rfl, ⟨Fr.tr (Fr.tr (Fr.rf) (sI_f eσ1) (fN_L rfl)) hF13 (fL_sub rfl), hJ14, trivial⟩, (show va_P D clz (WD9 cy g σ11) tS.heap by rw [ht]; exact hP)⟩, hS.F ht⟩) hS.2.2 dX9_shared_36
  ·
    have k19 := peq32 c8
    refine lv_bipush (v := (-2)) hx hb dX9_shared_12 (by decide) ?_
    exact W.iret (v := (-2)) hx hb hr (fun tS ht hW => ⟨⟨(-2), σ1, rfl, ⟨Fr.tr (Fr.rf) (sI_f eσ1) (fN_L rfl), hJ2, trivial⟩, (show va_P D clz (WD9 cy g σ1) tS.heap by rw [ht]; exact hP)⟩, hS.F ht⟩) hS.2.2 dX9_shared_14

theorem q2047 : Cond.code yX9_given cX9_given 2 (some .int) ∈ lw_g := lw_gm (List.mem_of_getElem? (i := 2047) (by decide +kernel)) rfl
theorem dX9_given_0 : decode cX9_given 0 = .ok (.aload_n 0, 1) := by decide +kernel
theorem dX9_given_1 : decode cX9_given 1 = .ok (.iconst 0, 1) := by decide +kernel
theorem dX9_given_2 : decode cX9_given 2 = .ok (.putfield 129, 3) := by decide +kernel
theorem dX9_given_5 : decode cX9_given 5 = .ok (.aload_n 0, 1) := by decide +kernel
theorem dX9_given_6 : decode cX9_given 6 = .ok (.iload_n 1, 1) := by decide +kernel
theorem dX9_given_7 : decode cX9_given 7 = .ok (.invokevirtual 303, 3) := by decide +kernel
theorem dX9_given_10 : decode cX9_given 10 = .ok (.ifCond .ne 6, 3) := by decide +kernel
theorem dX9_given_13 : decode cX9_given 13 = .ok (.bipush (-2), 2) := by decide +kernel
theorem dX9_given_15 : decode cX9_given 15 = .ok (.ireturn, 1) := by decide +kernel
theorem dX9_given_16 : decode cX9_given 16 = .ok (.aload_n 0, 1) := by decide +kernel
theorem dX9_given_17 : decode cX9_given 17 = .ok (.invokevirtual 510, 3) := by decide +kernel
theorem dX9_given_20 : decode cX9_given 20 = .ok (.aload_n 0, 1) := by decide +kernel
theorem dX9_given_21 : decode cX9_given 21 = .ok (.getfield 500, 3) := by decide +kernel
theorem dX9_given_24 : decode cX9_given 24 = .ok (.ldc 180, 2) := by decide +kernel
theorem dX9_given_26 : decode cX9_given 26 = .ok (.if_icmp .ne 7, 3) := by decide +kernel
theorem dX9_given_29 : decode cX9_given 29 = .ok (.iconst (-1), 1) := by decide +kernel
theorem dX9_given_30 : decode cX9_given 30 = .ok (.goto 9, 3) := by decide +kernel
theorem dX9_given_33 : decode cX9_given 33 = .ok (.aload_n 0, 1) := by decide +kernel
theorem dX9_given_34 : decode cX9_given 34 = .ok (.getfield 126, 3) := by decide +kernel
theorem dX9_given_37 : decode cX9_given 37 = .ok (.iload_n 1, 1) := by decide +kernel
theorem dX9_given_38 : decode cX9_given 38 = .ok (.iaload, 1) := by decide +kernel
theorem dX9_given_39 : decode cX9_given 39 = .ok (.ireturn, 1) := by decide +kernel
set_option maxHeartbeats 4000000 in
set_option maxRecDepth 100000 in
theorem m_X9_given (l : Launch) (D : va_G) (cy : Nat → ClassId) (g : Nat → Nat) (σ : ST) (p1 : Int32) (sz : Nat) (hJ : J9 (σ 9)) (kDK0 : DK0 (σ 9)) : Met l yX9_given (ww yX9_given cX9_given 2 (some .int)) ({ frames := 9, cells := 0, slots := 0, locals := 576 }) (va_Pc [.ref (g 60), .int p1] (pr9 D cy g σ sz)) (qi9 D cy g sz (fun r τ => Fr (fL [0, 23, 24, 25, 26, 27, 28, 29, 30, 31, 32, 33, 34, 35, 36, 37, 38, 39, 40, 41, 55, 56, 57, 58]) σ τ ∧ J9 (τ 9) ∧ True)) 0 0 (A9 cy g sz) := by
  refine Met.ofW (cc := cX9_given) (maxL := 2) (ret := (some .int)) (by decide) rfl ?_
  intro p e s m args below meth c s₁ B hml hv
  obtain ⟨rfl, hsz, hP, hK, hD0, hC⟩ := hv
  have hx := B.exec
  have hb := B.bytes
  have hr := B.returns
  have hts := hts_g (atoms_spec (ws := ww yX9_given cX9_given 2 (some .int)) B.pre)
  have hown : s.vm.findClass RX9 = some m.cls := findClass_of_methodNamed B.named
  have hlocks := B.notSynchronized
  clear B
  subst hsz
  have hD := fun τ => A9_D (sz := s.heap.size) hD0 τ
  clear hD0
  have hS : va_S (A9 cy g s.heap.size) s.heap s.heap [] := va_S.rf
  have hl := lv_entry ([.ref (g 60), .int p1]) (n := 2) (Nat.le_of_ble_eq_true rfl)
  rw [lg_entry_eq]
  generalize (lg_sl ([.ref (g 60), .int p1]) ++ List.replicate (2 - (lg_sl ([.ref (g 60), .int p1])).length) Slot.unset).toArray = ls at hl ⊢
  have hl : lv_has ls 2 [(0, .ref (g 60)), (1, .int p1)] := hl
  refine lv_aload_n hx hb dX9_given_0 rfl (lv_at hl 0 rfl) ?_
  refine lv_iconst (v := 0) hx hb dX9_given_1 (by decide) ?_
  refine p9_0 hx hb hts hown hK hP hD hS (hts _ q1360) dX9_given_2 (fun H locs σ1 eσ1 hP hS => ?_)
  have hJ2 : J9 (σ1 9) := hJ.I eσ1 (show JI9 0 (0 : Int32) from trivial)
  have T3 : DK0 (σ1 9) := DK0.mv kDK0 ((sI_f eσ1) 9 17 rfl).2.2.1 ((sI_f eσ1) 9 18 rfl).2.2.1 ((sI_f eσ1) 9 19 rfl).2.2.1
  refine lv_aload_n hx hb dX9_given_5 rfl (lv_at hl 0 rfl) ?_
  refine lv_iload_n hx hb dX9_given_6 rfl (lv_at hl 1 rfl) ?_
  refine va_calli (va_runV (As := [.int p1]) (rest := []) ⟨hx, hb, hml, hown, hts⟩ (m_X9_isPart l D cy g σ1 p1 _ hJ2 ) (cwV 1 hts (gd_V q1722 q1724 q74 q134 q1725) rfl rfl rfl (by decide +kernel) ⟨Nat.le_of_ble_eq_true rfl, Nat.le_of_ble_eq_true rfl⟩) (pv9 hP hK hD hC hS (va_recv hK hP (ci := 9) (q0 := 0) rfl rfl)) rfl rfl hl.1 rfl (lv_room (Nat.le_of_ble_eq_true rfl)) dX9_given_7 ⟨Nat.le_of_ble_eq_true rfl, Nat.le_of_ble_eq_true rfl⟩) hS (fun q _ h => up9 hS q h) (up9 hS) (fun r4 σ5 tS H1 locs ht hvm hw6 hB hz1 hk1 hS => ?_)
  have hP : va_P D clz (WD9 cy g σ5) H1 := by rw [← ht]; exact hB
  clear hB hz1 hk1 hvm ht
  generalize H1 = H at hP hS ⊢
  have hw6E : σ1 = σ5 := (hw6.1).symm
  subst hw6E
  have b7 : (0 : Int) ≤ r4.toInt ∧ r4.toInt ≤ 1 := hw6.2.1
  have b8 : (r4.toInt = 0) ∨ ((0 : Int) ≤ p1.toInt ∧ p1.toInt ≤ 2) := hw6.2.2.1
  have b9 : (r4.toInt = 0) ∨ (0 ≤ p1.toInt ∧ p1.toInt < ((σ1 9).2.2.1 17 4).toInt) := hw6.2.2.2.1
  refine lv_if_ne (tgt := 16) hx hb dX9_given_10 (by decide) (fun c10 => ?_) (fun c10 => ?_)
  ·
    have k11 := neq32 c10
    refine lv_aload_n hx hb dX9_given_16 rfl (lv_at hl 0 rfl) ?_
    refine va_callv (va_runV (As := []) (rest := []) ⟨hx, hb, hml, hown, hts⟩ (m_X9_laysShares l D cy g σ1  _ hJ2 T3) (cwV 0 hts (gd_V q2036 q2038 q117 q134 q2039) rfl rfl rfl (by decide +kernel) ⟨Nat.le_of_ble_eq_true rfl, Nat.le_of_ble_eq_true rfl⟩) (pv9 hP hK hD hC hS (va_recv hK hP (ci := 9) (q0 := 0) rfl rfl)) rfl rfl hl.1 rfl (lv_room (Nat.le_of_ble_eq_true rfl)) dX9_given_17 ⟨Nat.le_of_ble_eq_true rfl, Nat.le_of_ble_eq_true rfl⟩) hS (fun q _ h => up9 hS q h) (up9 hS) (fun σ13 tS H1 locs ht hvm hw14 hB hz1 hk1 hS => ?_)
    have hP : va_P D clz (WD9 cy g σ13) H1 := by rw [← ht]; exact hB
    clear hB hz1 hk1 hvm ht
    generalize H1 = H at hP hS ⊢
    have hF15 : Fr (fL [23, 24, 25, 26, 27, 28, 29, 30, 31, 32, 33, 34, 35, 36, 37, 38, 39, 40, 41, 55, 56, 57, 58]) σ1 σ13 := hw14.1
    have hJ16 : J9 (σ13 9) := hw14.2.1
    have T17 : DK0 (σ13 9) := DK0.mv T3 (hF15 9 17 rfl).2.2.1 (hF15 9 18 rfl).2.2.1 (hF15 9 19 rfl).2.2.1
    refine lv_aload_n hx hb dX9_given_20 rfl (lv_at hl 0 rfl) ?_
    refine g9_58 (x := ((σ13 9).1 58)) hx hb hts hown hK hP (rfl) (hts _ q1418) dX9_given_21 ?_
    refine lv_ldc (v := 1000000) hx hb hown (hts _ q1604) dX9_given_24 ?_
    refine lv_icmp_ne (tgt := 33) hx hb dX9_given_26 (by decide) (fun c18 => ?_) (fun c18 => ?_)
    ·
      have k19 := neq32 c18
      refine lv_aload_n hx hb dX9_given_33 rfl (lv_at hl 0 rfl) ?_
      refine g9_57 hx hb hts hown hK hP (hts _ q1417) dX9_given_34 ?_
      refine lv_iload_n hx hb dX9_given_37 rfl (lv_at hl 1 rfl) ?_
      obtain ⟨x20, ex20⟩ : ∃ z, (σ13 9).2.2.1 57 p1.toInt.toNat = z := ⟨_, rfl⟩
      refine l9_57 (x := x20) hx hb hK hP (vpo (by have f0 := b8; have f1 := b9; have f2 := a9_17 hJ2 (j := 4) rfl; have f3 := congrArg Int32.toInt (show ((σ1 9).2.2.1 17 4) = ((σ 9).2.2.1 17 4) from congrFun (((sI_f eσ1) 9 17 rfl).2.2.1) _); have f4 := b7; have f5 := k11; have f6 := a9_17 hJ (j := 4) rfl; have g2 := rg32 p1; have z0 : (0 : Int32).toInt = 0 := (by decide); omega)) ex20 dX9_given_38 ?_
      have t21 := a9_57 hJ16 ex20
      exact W.iret (v := x20) hx hb hr (fun tS ht hW => ⟨⟨x20, σ13, rfl, ⟨Fr.tr (Fr.tr (Fr.rf) (sI_f eσ1) (fN_L rfl)) hF15 (fL_sub rfl), hJ16, trivial⟩, (show va_P D clz (WD9 cy g σ13) tS.heap by rw [ht]; exact hP)⟩, hS.F ht⟩) hS.2.2 dX9_given_39
    ·
      have k22 := peq32 c18
      refine lv_iconst (v := (-1)) hx hb dX9_given_29 (by decide) ?_
      refine lv_goto (tgt := 39) hx hb dX9_given_30 (by decide) ?_
      exact W.iret (v := (-1)) hx hb hr (fun tS ht hW => ⟨⟨(-1), σ13, rfl, ⟨Fr.tr (Fr.tr (Fr.rf) (sI_f eσ1) (fN_L rfl)) hF15 (fL_sub rfl), hJ16, trivial⟩, (show va_P D clz (WD9 cy g σ13) tS.heap by rw [ht]; exact hP)⟩, hS.F ht⟩) hS.2.2 dX9_given_39
  ·
    have k23 := peq32 c10
    refine lv_bipush (v := (-2)) hx hb dX9_given_13 (by decide) ?_
    exact W.iret (v := (-2)) hx hb hr (fun tS ht hW => ⟨⟨(-2), σ1, rfl, ⟨Fr.tr (Fr.rf) (sI_f eσ1) (fN_L rfl), hJ2, trivial⟩, (show va_P D clz (WD9 cy g σ1) tS.heap by rw [ht]; exact hP)⟩, hS.F ht⟩) hS.2.2 dX9_given_15

theorem q2111 : Cond.code yX9_sets cX9_sets 4 (some .int) ∈ lw_g := lw_gm (List.mem_of_getElem? (i := 2111) (by decide +kernel)) rfl
theorem dX9_sets_0 : decode cX9_sets 0 = .ok (.aload_n 0, 1) := by decide +kernel
theorem dX9_sets_1 : decode cX9_sets 1 = .ok (.iload_n 1, 1) := by decide +kernel
theorem dX9_sets_2 : decode cX9_sets 2 = .ok (.iaload, 1) := by decide +kernel
theorem dX9_sets_3 : decode cX9_sets 3 = .ok (.istore_n 3, 1) := by decide +kernel
theorem dX9_sets_4 : decode cX9_sets 4 = .ok (.aload_n 0, 1) := by decide +kernel
theorem dX9_sets_5 : decode cX9_sets 5 = .ok (.iload_n 1, 1) := by decide +kernel
theorem dX9_sets_6 : decode cX9_sets 6 = .ok (.iload_n 2, 1) := by decide +kernel
theorem dX9_sets_7 : decode cX9_sets 7 = .ok (.iastore, 1) := by decide +kernel
theorem dX9_sets_8 : decode cX9_sets 8 = .ok (.iload_n 3, 1) := by decide +kernel
theorem dX9_sets_9 : decode cX9_sets 9 = .ok (.ireturn, 1) := by decide +kernel
set_option maxHeartbeats 4000000 in
set_option maxRecDepth 100000 in
theorem m_X9_sets_18 (l : Launch) (D : va_G) (cy : Nat → ClassId) (g : Nat → Nat) (σ : ST) (p1 : Int32) (p2 : Int32) (sz : Nat) (hJ : J9 (σ 9)) (h0 : (0 : Int) ≤ p1.toInt ∧ p1.toInt ≤ 139) (h1 : 0 ≤ p2.toInt ∧ p2.toInt ≤ 999) : Met l yX9_sets (ww yX9_sets cX9_sets 4 (some .int)) ({ frames := 1, cells := 0, slots := 0, locals := 64 }) (va_Pc [.ref (g 18), .int p1, .int p2] (pr9 D cy g σ sz)) (qi9 D cy g sz (fun r τ => Fr (fL [18]) σ τ ∧ J9 (τ 9) ∧ (((τ 9)).2.2.1 18 = upd (((σ 9)).2.2.1 18) p1.toInt.toNat p2) ∧ True)) 0 0 (A9 cy g sz) := by
  refine Met.ofW (cc := cX9_sets) (maxL := 4) (ret := (some .int)) (by decide) rfl ?_
  intro p e s m args below meth c s₁ B hml hv
  obtain ⟨rfl, hsz, hP, hK, hD0, hC⟩ := hv
  have hx := B.exec
  have hb := B.bytes
  have hr := B.returns
  have hts := hts_g (atoms_spec (ws := ww yX9_sets cX9_sets 4 (some .int)) B.pre)
  have hown : s.vm.findClass RX9 = some m.cls := findClass_of_methodNamed B.named
  have hlocks := B.notSynchronized
  clear B
  subst hsz
  have hD := fun τ => A9_D (sz := s.heap.size) hD0 τ
  clear hD0
  have hS : va_S (A9 cy g s.heap.size) s.heap s.heap [] := va_S.rf
  have hl := lv_entry ([.ref (g 18), .int p1, .int p2]) (n := 4) (Nat.le_of_ble_eq_true rfl)
  rw [lg_entry_eq]
  generalize (lg_sl ([.ref (g 18), .int p1, .int p2]) ++ List.replicate (4 - (lg_sl ([.ref (g 18), .int p1, .int p2])).length) Slot.unset).toArray = ls at hl ⊢
  have hl : lv_has ls 4 [(0, .ref (g 18)), (1, .int p1), (2, .int p2)] := hl
  refine lv_aload_n hx hb dX9_sets_0 rfl (lv_at hl 0 rfl) ?_
  refine lv_iload_n hx hb dX9_sets_1 rfl (lv_at hl 1 rfl) ?_
  obtain ⟨x1, ex1⟩ : ∃ z, (σ 9).2.2.1 18 p1.toInt.toNat = z := ⟨_, rfl⟩
  refine l9_18 (x := x1) hx hb hK hP (vpo (by have f0 := h0; have g0 := rg32 p1; omega)) ex1 dX9_sets_2 ?_
  have t2 := a9_18 hJ ex1
  refine lv_istore_n (lv' := [(3, .int x1), (0, .ref (g 18)), (1, .int p1), (2, .int p2)]) hx hb dX9_sets_3 rfl hl (by decide) rfl (fun ls hl => ?_)
  refine lv_aload_n hx hb dX9_sets_4 rfl (lv_at hl 1 rfl) ?_
  refine lv_iload_n hx hb dX9_sets_5 rfl (lv_at hl 2 rfl) ?_
  refine lv_iload_n hx hb dX9_sets_6 rfl (lv_at hl 3 rfl) ?_
  refine t9_18 hx hb hK hP hD hS (vpo (by have f0 := h0; have f1 := t2; have g0 := rg32 p1; omega)) dX9_sets_7 (fun H locs σ3 eσ3 hP hS => ?_)
  have hJ4 : J9 (σ3 9) := hJ.A eσ3 (show PA9 18 p1.toInt.toNat p2 from (by have f0 := h0; have f1 := h1; have f2 := t2; have g0 := rg32 p1; have g1 := rg32 p2; exact ⟨by omega, by omega⟩))
  refine lv_iload_n hx hb dX9_sets_8 rfl (lv_at hl 0 rfl) ?_
  exact W.iret (v := x1) hx hb hr (fun tS ht hW => ⟨⟨x1, σ3, rfl, ⟨Fr.tr (Fr.rf) (sA_f eσ3) (fN_L rfl), hJ4, (show ((σ3 9)).2.2.1 18 = upd (((σ 9)).2.2.1 18) p1.toInt.toNat p2 from (sA_s eσ3)), trivial⟩, (show va_P D clz (WD9 cy g σ3) tS.heap by rw [ht]; exact hP)⟩, hS.F ht⟩) hS.2.2 dX9_sets_9

set_option maxHeartbeats 4000000 in
set_option maxRecDepth 100000 in
theorem m_X9_sets_19 (l : Launch) (D : va_G) (cy : Nat → ClassId) (g : Nat → Nat) (σ : ST) (p1 : Int32) (p2 : Int32) (sz : Nat) (hJ : J9 (σ 9)) (h0 : (0 : Int) ≤ p1.toInt ∧ p1.toInt ≤ 179) (h1 : 0 ≤ p2.toInt ∧ p2.toInt ≤ 999 ∧ (p1.toInt.toNat % 4 = 0 → p2.toInt ≤ 3) ∧ (p1.toInt.toNat % 4 = 2 → p2.toInt ≤ 30)) : Met l yX9_sets (ww yX9_sets cX9_sets 4 (some .int)) ({ frames := 1, cells := 0, slots := 0, locals := 64 }) (va_Pc [.ref (g 19), .int p1, .int p2] (pr9 D cy g σ sz)) (qi9 D cy g sz (fun r τ => Fr (fL [19]) σ τ ∧ J9 (τ 9) ∧ (((τ 9)).2.2.1 19 = upd (((σ 9)).2.2.1 19) p1.toInt.toNat p2) ∧ True)) 0 0 (A9 cy g sz) := by
  refine Met.ofW (cc := cX9_sets) (maxL := 4) (ret := (some .int)) (by decide) rfl ?_
  intro p e s m args below meth c s₁ B hml hv
  obtain ⟨rfl, hsz, hP, hK, hD0, hC⟩ := hv
  have hx := B.exec
  have hb := B.bytes
  have hr := B.returns
  have hts := hts_g (atoms_spec (ws := ww yX9_sets cX9_sets 4 (some .int)) B.pre)
  have hown : s.vm.findClass RX9 = some m.cls := findClass_of_methodNamed B.named
  have hlocks := B.notSynchronized
  clear B
  subst hsz
  have hD := fun τ => A9_D (sz := s.heap.size) hD0 τ
  clear hD0
  have hS : va_S (A9 cy g s.heap.size) s.heap s.heap [] := va_S.rf
  have hl := lv_entry ([.ref (g 19), .int p1, .int p2]) (n := 4) (Nat.le_of_ble_eq_true rfl)
  rw [lg_entry_eq]
  generalize (lg_sl ([.ref (g 19), .int p1, .int p2]) ++ List.replicate (4 - (lg_sl ([.ref (g 19), .int p1, .int p2])).length) Slot.unset).toArray = ls at hl ⊢
  have hl : lv_has ls 4 [(0, .ref (g 19)), (1, .int p1), (2, .int p2)] := hl
  refine lv_aload_n hx hb dX9_sets_0 rfl (lv_at hl 0 rfl) ?_
  refine lv_iload_n hx hb dX9_sets_1 rfl (lv_at hl 1 rfl) ?_
  obtain ⟨x1, ex1⟩ : ∃ z, (σ 9).2.2.1 19 p1.toInt.toNat = z := ⟨_, rfl⟩
  refine l9_19 (x := x1) hx hb hK hP (vpo (by have f0 := h0; have f1 := h1; have g0 := rg32 p1; have g1 := rg32 p2; omega)) ex1 dX9_sets_2 ?_
  have t2 := a9_19 hJ ex1
  refine lv_istore_n (lv' := [(3, .int x1), (0, .ref (g 19)), (1, .int p1), (2, .int p2)]) hx hb dX9_sets_3 rfl hl (by decide) rfl (fun ls hl => ?_)
  refine lv_aload_n hx hb dX9_sets_4 rfl (lv_at hl 1 rfl) ?_
  refine lv_iload_n hx hb dX9_sets_5 rfl (lv_at hl 2 rfl) ?_
  refine lv_iload_n hx hb dX9_sets_6 rfl (lv_at hl 3 rfl) ?_
  refine t9_19 hx hb hK hP hD hS (vpo (by have f0 := h0; have f1 := h1; have f2 := t2; have g0 := rg32 p1; have g1 := rg32 p2; omega)) dX9_sets_7 (fun H locs σ3 eσ3 hP hS => ?_)
  have hJ4 : J9 (σ3 9) := hJ.A eσ3 (show PA9 19 p1.toInt.toNat p2 from (by have f0 := h0; have f1 := h1; have f2 := t2; have g0 := rg32 p1; have g1 := rg32 p2; exact ⟨by omega, by omega, by omega, by omega⟩))
  refine lv_iload_n hx hb dX9_sets_8 rfl (lv_at hl 0 rfl) ?_
  exact W.iret (v := x1) hx hb hr (fun tS ht hW => ⟨⟨x1, σ3, rfl, ⟨Fr.tr (Fr.rf) (sA_f eσ3) (fN_L rfl), hJ4, (show ((σ3 9)).2.2.1 19 = upd (((σ 9)).2.2.1 19) p1.toInt.toNat p2 from (sA_s eσ3)), trivial⟩, (show va_P D clz (WD9 cy g σ3) tS.heap by rw [ht]; exact hP)⟩, hS.F ht⟩) hS.2.2 dX9_sets_9

set_option maxHeartbeats 4000000 in
set_option maxRecDepth 100000 in
theorem m_X9_sets_21 (l : Launch) (D : va_G) (cy : Nat → ClassId) (g : Nat → Nat) (σ : ST) (p1 : Int32) (p2 : Int32) (sz : Nat) (hJ : J9 (σ 9)) (h0 : (0 : Int) ≤ p1.toInt ∧ p1.toInt ≤ 959) (h1 : -1 ≤ p2.toInt ∧ p2.toInt ≤ 60 ∧ (p1.toInt.toNat % 4 = 1 → 0 ≤ p2.toInt)) : Met l yX9_sets (ww yX9_sets cX9_sets 4 (some .int)) ({ frames := 1, cells := 0, slots := 0, locals := 64 }) (va_Pc [.ref (g 21), .int p1, .int p2] (pr9 D cy g σ sz)) (qi9 D cy g sz (fun r τ => Fr (fL [21]) σ τ ∧ J9 (τ 9) ∧ (((τ 9)).2.2.1 21 = upd (((σ 9)).2.2.1 21) p1.toInt.toNat p2) ∧ True)) 0 0 (A9 cy g sz) := by
  refine Met.ofW (cc := cX9_sets) (maxL := 4) (ret := (some .int)) (by decide) rfl ?_
  intro p e s m args below meth c s₁ B hml hv
  obtain ⟨rfl, hsz, hP, hK, hD0, hC⟩ := hv
  have hx := B.exec
  have hb := B.bytes
  have hr := B.returns
  have hts := hts_g (atoms_spec (ws := ww yX9_sets cX9_sets 4 (some .int)) B.pre)
  have hown : s.vm.findClass RX9 = some m.cls := findClass_of_methodNamed B.named
  have hlocks := B.notSynchronized
  clear B
  subst hsz
  have hD := fun τ => A9_D (sz := s.heap.size) hD0 τ
  clear hD0
  have hS : va_S (A9 cy g s.heap.size) s.heap s.heap [] := va_S.rf
  have hl := lv_entry ([.ref (g 21), .int p1, .int p2]) (n := 4) (Nat.le_of_ble_eq_true rfl)
  rw [lg_entry_eq]
  generalize (lg_sl ([.ref (g 21), .int p1, .int p2]) ++ List.replicate (4 - (lg_sl ([.ref (g 21), .int p1, .int p2])).length) Slot.unset).toArray = ls at hl ⊢
  have hl : lv_has ls 4 [(0, .ref (g 21)), (1, .int p1), (2, .int p2)] := hl
  refine lv_aload_n hx hb dX9_sets_0 rfl (lv_at hl 0 rfl) ?_
  refine lv_iload_n hx hb dX9_sets_1 rfl (lv_at hl 1 rfl) ?_
  obtain ⟨x1, ex1⟩ : ∃ z, (σ 9).2.2.1 21 p1.toInt.toNat = z := ⟨_, rfl⟩
  refine l9_21 (x := x1) hx hb hK hP (vpo (by have f0 := h0; have f1 := h1; have g0 := rg32 p1; have g1 := rg32 p2; omega)) ex1 dX9_sets_2 ?_
  have t2 := a9_21 hJ ex1
  refine lv_istore_n (lv' := [(3, .int x1), (0, .ref (g 21)), (1, .int p1), (2, .int p2)]) hx hb dX9_sets_3 rfl hl (by decide) rfl (fun ls hl => ?_)
  refine lv_aload_n hx hb dX9_sets_4 rfl (lv_at hl 1 rfl) ?_
  refine lv_iload_n hx hb dX9_sets_5 rfl (lv_at hl 2 rfl) ?_
  refine lv_iload_n hx hb dX9_sets_6 rfl (lv_at hl 3 rfl) ?_
  refine t9_21 hx hb hK hP hD hS (vpo (by have f0 := h0; have f1 := h1; have f2 := t2; have g0 := rg32 p1; have g1 := rg32 p2; omega)) dX9_sets_7 (fun H locs σ3 eσ3 hP hS => ?_)
  have hJ4 : J9 (σ3 9) := hJ.A eσ3 (show PA9 21 p1.toInt.toNat p2 from (by have f0 := h0; have f1 := h1; have f2 := t2; have g0 := rg32 p1; have g1 := rg32 p2; exact ⟨by omega, by omega, by omega⟩))
  refine lv_iload_n hx hb dX9_sets_8 rfl (lv_at hl 0 rfl) ?_
  exact W.iret (v := x1) hx hb hr (fun tS ht hW => ⟨⟨x1, σ3, rfl, ⟨Fr.tr (Fr.rf) (sA_f eσ3) (fN_L rfl), hJ4, (show ((σ3 9)).2.2.1 21 = upd (((σ 9)).2.2.1 21) p1.toInt.toNat p2 from (sA_s eσ3)), trivial⟩, (show va_P D clz (WD9 cy g σ3) tS.heap by rw [ht]; exact hP)⟩, hS.F ht⟩) hS.2.2 dX9_sets_9

theorem q2119 : Cond.code yX9_pitch cX9_pitch 4 (some .int) ∈ lw_g := lw_gm (List.mem_of_getElem? (i := 2119) (by decide +kernel)) rfl
theorem q2109 : Cond.methodLink RX9 556 yX9_sets ∈ lw_g := lw_gm (List.mem_of_getElem? (i := 2109) (by decide +kernel)) rfl
theorem q2110 : Cond.static yX9_sets ∈ lw_g := lw_gm (List.mem_of_getElem? (i := 2110) (by decide +kernel)) rfl
theorem dX9_pitch_0 : decode cX9_pitch 0 = .ok (.aload_n 0, 1) := by decide +kernel
theorem dX9_pitch_1 : decode cX9_pitch 1 = .ok (.iconst 0, 1) := by decide +kernel
theorem dX9_pitch_2 : decode cX9_pitch 2 = .ok (.putfield 129, 3) := by decide +kernel
theorem dX9_pitch_5 : decode cX9_pitch 5 = .ok (.aload_n 0, 1) := by decide +kernel
theorem dX9_pitch_6 : decode cX9_pitch 6 = .ok (.iload_n 1, 1) := by decide +kernel
theorem dX9_pitch_7 : decode cX9_pitch 7 = .ok (.iload_n 2, 1) := by decide +kernel
theorem dX9_pitch_8 : decode cX9_pitch 8 = .ok (.invokevirtual 320, 3) := by decide +kernel
theorem dX9_pitch_11 : decode cX9_pitch 11 = .ok (.ifCond .eq 39, 3) := by decide +kernel
theorem dX9_pitch_14 : decode cX9_pitch 14 = .ok (.aload_n 0, 1) := by decide +kernel
theorem dX9_pitch_15 : decode cX9_pitch 15 = .ok (.iload_n 1, 1) := by decide +kernel
theorem dX9_pitch_16 : decode cX9_pitch 16 = .ok (.iload_n 2, 1) := by decide +kernel
theorem dX9_pitch_17 : decode cX9_pitch 17 = .ok (.invokevirtual 390, 3) := by decide +kernel
theorem dX9_pitch_20 : decode cX9_pitch 20 = .ok (.ifCond .ne 30, 3) := by decide +kernel
theorem dX9_pitch_23 : decode cX9_pitch 23 = .ok (.iload_n 3, 1) := by decide +kernel
theorem dX9_pitch_24 : decode cX9_pitch 24 = .ok (.i2l, 1) := by decide +kernel
theorem dX9_pitch_25 : decode cX9_pitch 25 = .ok (.invokestatic 353, 3) := by decide +kernel
theorem dX9_pitch_28 : decode cX9_pitch 28 = .ok (.ifCond .eq 22, 3) := by decide +kernel
theorem dX9_pitch_31 : decode cX9_pitch 31 = .ok (.aload_n 0, 1) := by decide +kernel
theorem dX9_pitch_32 : decode cX9_pitch 32 = .ok (.getfield 46, 3) := by decide +kernel
theorem dX9_pitch_35 : decode cX9_pitch 35 = .ok (.iconst 4, 1) := by decide +kernel
theorem dX9_pitch_36 : decode cX9_pitch 36 = .ok (.bipush 16, 2) := by decide +kernel
theorem dX9_pitch_38 : decode cX9_pitch 38 = .ok (.iload_n 1, 1) := by decide +kernel
theorem dX9_pitch_39 : decode cX9_pitch 39 = .ok (.imul, 1) := by decide +kernel
theorem dX9_pitch_40 : decode cX9_pitch 40 = .ok (.iload_n 2, 1) := by decide +kernel
theorem dX9_pitch_41 : decode cX9_pitch 41 = .ok (.iadd, 1) := by decide +kernel
theorem dX9_pitch_42 : decode cX9_pitch 42 = .ok (.imul, 1) := by decide +kernel
theorem dX9_pitch_43 : decode cX9_pitch 43 = .ok (.iload_n 3, 1) := by decide +kernel
theorem dX9_pitch_44 : decode cX9_pitch 44 = .ok (.invokestatic 556, 3) := by decide +kernel
theorem dX9_pitch_47 : decode cX9_pitch 47 = .ok (.goto 5, 3) := by decide +kernel
theorem dX9_pitch_50 : decode cX9_pitch 50 = .ok (.bipush (-2), 2) := by decide +kernel
theorem dX9_pitch_52 : decode cX9_pitch 52 = .ok (.ireturn, 1) := by decide +kernel
set_option maxHeartbeats 4000000 in
set_option maxRecDepth 100000 in
theorem m_X9_pitch (l : Launch) (D : va_G) (cy : Nat → ClassId) (g : Nat → Nat) (σ : ST) (p1 : Int32) (p2 : Int32) (p3 : Int32) (sz : Nat) (hJ : J9 (σ 9))  : Met l yX9_pitch (ww yX9_pitch cX9_pitch 4 (some .int)) ({ frames := 4, cells := 0, slots := 0, locals := 256 }) (va_Pc [.ref (g 60), .int p1, .int p2, .int p3] (pr9 D cy g σ sz)) (qi9 D cy g sz (fun r τ => Fr (fL [0, 21]) σ τ ∧ J9 (τ 9) ∧ True)) 0 0 (A9 cy g sz) := by
  refine Met.ofW (cc := cX9_pitch) (maxL := 4) (ret := (some .int)) (by decide) rfl ?_
  intro p e s m args below meth c s₁ B hml hv
  obtain ⟨rfl, hsz, hP, hK, hD0, hC⟩ := hv
  have hx := B.exec
  have hb := B.bytes
  have hr := B.returns
  have hts := hts_g (atoms_spec (ws := ww yX9_pitch cX9_pitch 4 (some .int)) B.pre)
  have hown : s.vm.findClass RX9 = some m.cls := findClass_of_methodNamed B.named
  have hlocks := B.notSynchronized
  clear B
  subst hsz
  have hD := fun τ => A9_D (sz := s.heap.size) hD0 τ
  clear hD0
  have hS : va_S (A9 cy g s.heap.size) s.heap s.heap [] := va_S.rf
  have hl := lv_entry ([.ref (g 60), .int p1, .int p2, .int p3]) (n := 4) (Nat.le_of_ble_eq_true rfl)
  rw [lg_entry_eq]
  generalize (lg_sl ([.ref (g 60), .int p1, .int p2, .int p3]) ++ List.replicate (4 - (lg_sl ([.ref (g 60), .int p1, .int p2, .int p3])).length) Slot.unset).toArray = ls at hl ⊢
  have hl : lv_has ls 4 [(0, .ref (g 60)), (1, .int p1), (2, .int p2), (3, .int p3)] := hl
  refine lv_aload_n hx hb dX9_pitch_0 rfl (lv_at hl 0 rfl) ?_
  refine lv_iconst (v := 0) hx hb dX9_pitch_1 (by decide) ?_
  refine p9_0 hx hb hts hown hK hP hD hS (hts _ q1360) dX9_pitch_2 (fun H locs σ1 eσ1 hP hS => ?_)
  have hJ2 : J9 (σ1 9) := hJ.I eσ1 (show JI9 0 (0 : Int32) from trivial)
  refine lv_aload_n hx hb dX9_pitch_5 rfl (lv_at hl 0 rfl) ?_
  refine lv_iload_n hx hb dX9_pitch_6 rfl (lv_at hl 1 rfl) ?_
  refine lv_iload_n hx hb dX9_pitch_7 rfl (lv_at hl 2 rfl) ?_
  refine va_calli (va_runV (As := [.int p1, .int p2]) (rest := []) ⟨hx, hb, hml, hown, hts⟩ (m_X9_isTone l D cy g σ1 p1 p2 _ hJ2 ) (cwV 2 hts (gd_V q1718 q1720 q73 q134 q1721) rfl rfl rfl (by decide +kernel) ⟨Nat.le_of_ble_eq_true rfl, Nat.le_of_ble_eq_true rfl⟩) (pv9 hP hK hD hC hS (va_recv hK hP (ci := 9) (q0 := 0) rfl rfl)) rfl rfl hl.1 rfl (lv_room (Nat.le_of_ble_eq_true rfl)) dX9_pitch_8 ⟨Nat.le_of_ble_eq_true rfl, Nat.le_of_ble_eq_true rfl⟩) hS (fun q _ h => up9 hS q h) (up9 hS) (fun r3 σ4 tS H1 locs ht hvm hw5 hB hz1 hk1 hS => ?_)
  have hP : va_P D clz (WD9 cy g σ4) H1 := by rw [← ht]; exact hB
  clear hB hz1 hk1 hvm ht
  generalize H1 = H at hP hS ⊢
  have hw5E : σ1 = σ4 := (hw5.1).symm
  subst hw5E
  have b6 : (0 : Int) ≤ r3.toInt ∧ r3.toInt ≤ 1 := hw5.2.1
  have b7 : (r3.toInt = 0) ∨ ((0 : Int) ≤ p1.toInt ∧ p1.toInt ≤ 2 ∧ (0 : Int) ≤ p2.toInt ∧ p2.toInt ≤ 15) := hw5.2.2.1
  refine lv_if_eq (tgt := 50) hx hb dX9_pitch_11 (by decide) (fun c8 => ?_) (fun c8 => ?_)
  ·
    have k9 := peq32 c8
    refine lv_bipush (v := (-2)) hx hb dX9_pitch_50 (by decide) ?_
    exact W.iret (v := (-2)) hx hb hr (fun tS ht hW => ⟨⟨(-2), σ1, rfl, ⟨Fr.tr (Fr.rf) (sI_f eσ1) (fN_L rfl), hJ2, trivial⟩, (show va_P D clz (WD9 cy g σ1) tS.heap by rw [ht]; exact hP)⟩, hS.F ht⟩) hS.2.2 dX9_pitch_52
  ·
    have k10 := neq32 c8
    refine lv_aload_n hx hb dX9_pitch_14 rfl (lv_at hl 0 rfl) ?_
    refine lv_iload_n hx hb dX9_pitch_15 rfl (lv_at hl 1 rfl) ?_
    refine lv_iload_n hx hb dX9_pitch_16 rfl (lv_at hl 2 rfl) ?_
    refine va_calli (va_runV (As := [.int p1, .int p2]) (rest := []) ⟨hx, hb, hml, hown, hts⟩ (m_X9_isRest l D cy g σ1 p1 p2 _ hJ2 (show (0 : Int) ≤ p1.toInt ∧ p1.toInt ≤ 2 from (by have f0 := b7; have f1 := b6; have f2 := k10; have g0 := rg32 p1; have z0 : (0 : Int32).toInt = 0 := (by decide); omega)) (show (0 : Int) ≤ p2.toInt ∧ p2.toInt ≤ 15 from (by have f0 := b7; have f1 := b6; have f2 := k10; have g0 := rg32 p1; have g1 := rg32 p2; have z0 : (0 : Int32).toInt = 0 := (by decide); omega))) (cwV 2 hts (gd_V q1838 q1840 q91 q134 q1841) rfl rfl rfl (by decide +kernel) ⟨Nat.le_of_ble_eq_true rfl, Nat.le_of_ble_eq_true rfl⟩) (pv9 hP hK hD hC hS (va_recv hK hP (ci := 9) (q0 := 0) rfl rfl)) rfl rfl hl.1 rfl (lv_room (Nat.le_of_ble_eq_true rfl)) dX9_pitch_17 ⟨Nat.le_of_ble_eq_true rfl, Nat.le_of_ble_eq_true rfl⟩) hS (fun q _ h => up9 hS q h) (up9 hS) (fun r11 σ12 tS H1 locs ht hvm hw13 hB hz1 hk1 hS => ?_)
    have hP : va_P D clz (WD9 cy g σ12) H1 := by rw [← ht]; exact hB
    clear hB hz1 hk1 hvm ht
    generalize H1 = H at hP hS ⊢
    have hw13E : σ1 = σ12 := (hw13.1).symm
    subst hw13E
    have b14 : (0 : Int) ≤ r11.toInt ∧ r11.toInt ≤ 1 := hw13.2.1
    refine lv_if_ne (tgt := 50) hx hb dX9_pitch_20 (by decide) (fun c15 => ?_) (fun c15 => ?_)
    ·
      have k16 := neq32 c15
      refine lv_bipush (v := (-2)) hx hb dX9_pitch_50 (by decide) ?_
      exact W.iret (v := (-2)) hx hb hr (fun tS ht hW => ⟨⟨(-2), σ1, rfl, ⟨Fr.tr (Fr.rf) (sI_f eσ1) (fN_L rfl), hJ2, trivial⟩, (show va_P D clz (WD9 cy g σ1) tS.heap by rw [ht]; exact hP)⟩, hS.F ht⟩) hS.2.2 dX9_pitch_52
    ·
      have k17 := peq32 c15
      refine lv_iload_n hx hb dX9_pitch_23 rfl (lv_at hl 3 rfl) ?_
      refine lv_i2l (v := p3.toInt64) hx hb dX9_pitch_24 rfl ?_
      refine va_calli (va_runS (As := [.long p3.toInt64]) (rest := []) ⟨hx, hb, hml, hown, hts⟩ (m_X9_isPitch l D cy g σ1 p3.toInt64 _ hJ2 ) (va_cwS 1 hts (gd_S q1763 q1764 q134 q1765) rfl rfl rfl (by decide +kernel) ⟨Nat.le_of_ble_eq_true rfl, Nat.le_of_ble_eq_true rfl⟩) (ps9 hP hK hD hC hS) rfl rfl hl.1 rfl (lv_room (Nat.le_of_ble_eq_true rfl)) dX9_pitch_25 ⟨Nat.le_of_ble_eq_true rfl, Nat.le_of_ble_eq_true rfl⟩) hS (fun q _ h => up9 hS q h) (up9 hS) (fun r18 σ19 tS H1 locs ht hvm hw20 hB hz1 hk1 hS => ?_)
      have hP : va_P D clz (WD9 cy g σ19) H1 := by rw [← ht]; exact hB
      clear hB hz1 hk1 hvm ht
      generalize H1 = H at hP hS ⊢
      have hw20E : σ1 = σ19 := (hw20.1).symm
      subst hw20E
      have b21 : (0 : Int) ≤ r18.toInt ∧ r18.toInt ≤ 1 := hw20.2.1
      have b22 : (r18.toInt = 1 ∧ 0 ≤ p3.toInt64.toInt ∧ p3.toInt64.toInt ≤ 60) ∨ (r18.toInt = 0 ∧ ¬ (0 ≤ p3.toInt64.toInt ∧ p3.toInt64.toInt ≤ 60)) := hw20.2.2.1
      refine lv_if_eq (tgt := 50) hx hb dX9_pitch_28 (by decide) (fun c23 => ?_) (fun c23 => ?_)
      ·
        have k24 := peq32 c23
        refine lv_bipush (v := (-2)) hx hb dX9_pitch_50 (by decide) ?_
        exact W.iret (v := (-2)) hx hb hr (fun tS ht hW => ⟨⟨(-2), σ1, rfl, ⟨Fr.tr (Fr.rf) (sI_f eσ1) (fN_L rfl), hJ2, trivial⟩, (show va_P D clz (WD9 cy g σ1) tS.heap by rw [ht]; exact hP)⟩, hS.F ht⟩) hS.2.2 dX9_pitch_52
      ·
        have k25 := neq32 c23
        refine lv_aload_n hx hb dX9_pitch_31 rfl (lv_at hl 0 rfl) ?_
        refine g9_21 hx hb hts hown hK hP (hts _ q1381) dX9_pitch_32 ?_
        refine lv_iconst (v := 4) hx hb dX9_pitch_35 (by decide) ?_
        refine lv_bipush (v := 16) hx hb dX9_pitch_36 (by decide) ?_
        refine lv_iload_n hx hb dX9_pitch_38 rfl (lv_at hl 1 rfl) ?_
        refine lv_imul hx hb dX9_pitch_39 ?_
        refine lv_topi (fun x26 ex26 => ?_)
        have t27 := mulC' (n := 16) ex26 (by decide) (by have f0 := b7; have f1 := b6; have f2 := k10; have g0 := rg32 p1; have z0 : (0 : Int32).toInt = 0 := (by decide); omega)
        refine lv_iload_n hx hb dX9_pitch_40 rfl (lv_at hl 2 rfl) ?_
        refine lv_iadd hx hb dX9_pitch_41 ?_
        refine lv_topi (fun x28 ex28 => ?_)
        have t29 := addO ex28 (by have f0 := b7; have f1 := t27; have f2 := b6; have f3 := k10; have g0 := rg32 p2; have g1 := rg32 x26; have z0 : (0 : Int32).toInt = 0 := (by decide); omega)
        refine lv_imul hx hb dX9_pitch_42 ?_
        refine lv_topi (fun x30 ex30 => ?_)
        have t31 := mulC' (n := 4) ex30 (by decide) (by have f0 := t29; have f1 := b7; have f2 := t27; have f3 := b6; have f4 := k10; have g0 := rg32 x28; have z0 : (0 : Int32).toInt = 0 := (by decide); omega)
        refine lv_iload_n hx hb dX9_pitch_43 rfl (lv_at hl 3 rfl) ?_
        refine va_calli (va_runS (As := [.ref (g 21), .int x30, .int p3]) (rest := []) ⟨hx, hb, hml, hown, hts⟩ (m_X9_sets_21 l D cy g σ1 x30 p3 _ hJ2 (show (0 : Int) ≤ x30.toInt ∧ x30.toInt ≤ 959 from (by have f0 := t31; have f1 := t29; have f2 := b7; have f3 := t27; have f4 := b6; have f5 := k10; have g0 := rg32 x30; have z0 : (0 : Int32).toInt = 0 := (by decide); omega)) (show -1 ≤ p3.toInt ∧ p3.toInt ≤ 60 ∧ (x30.toInt.toNat % 4 = 1 → 0 ≤ p3.toInt) from (by have f0 := t64 (a := p3); have f1 := rg32 p3; have f2 := t31; have f3 := b22; have f4 := t29; have f5 := b7; have f6 := b21; have f7 := k25; have f8 := t27; have f9 := b6; have f10 := k10; have g0 := rg32 p3; have g2 := rg32 x30; have z0 : (0 : Int32).toInt = 0 := (by decide); have w14 := t64 (a := p3); omega))) (va_cwS 3 hts (gd_S q2109 q2110 q134 q2111) rfl rfl rfl (by decide +kernel) ⟨Nat.le_of_ble_eq_true rfl, Nat.le_of_ble_eq_true rfl⟩) (ps9 hP hK hD hC hS) rfl rfl hl.1 rfl (lv_room (Nat.le_of_ble_eq_true rfl)) dX9_pitch_44 ⟨Nat.le_of_ble_eq_true rfl, Nat.le_of_ble_eq_true rfl⟩) hS (fun q _ h => up9 hS q h) (up9 hS) (fun r32 σ33 tS H1 locs ht hvm hw34 hB hz1 hk1 hS => ?_)
        have hP : va_P D clz (WD9 cy g σ33) H1 := by rw [← ht]; exact hB
        clear hB hz1 hk1 hvm ht
        generalize H1 = H at hP hS ⊢
        have hF35 : Fr (fL [21]) σ1 σ33 := hw34.1
        have hJ36 : J9 (σ33 9) := hw34.2.1
        have b37 : ((σ33 9)).2.2.1 21 = upd (((σ1 9)).2.2.1 21) x30.toInt.toNat p3 := hw34.2.2.1
        refine lv_goto (tgt := 52) hx hb dX9_pitch_47 (by decide) ?_
        exact W.iret (v := r32) hx hb hr (fun tS ht hW => ⟨⟨r32, σ33, rfl, ⟨Fr.tr (Fr.tr (Fr.rf) (sI_f eσ1) (fN_L rfl)) hF35 (fL_sub rfl), hJ36, trivial⟩, (show va_P D clz (WD9 cy g σ33) tS.heap by rw [ht]; exact hP)⟩, hS.F ht⟩) hS.2.2 dX9_pitch_52

theorem q2123 : Cond.code yX9_slur cX9_slur 4 (some .int) ∈ lw_g := lw_gm (List.mem_of_getElem? (i := 2123) (by decide +kernel)) rfl
theorem dX9_slur_0 : decode cX9_slur 0 = .ok (.aload_n 0, 1) := by decide +kernel
theorem dX9_slur_1 : decode cX9_slur 1 = .ok (.iconst 0, 1) := by decide +kernel
theorem dX9_slur_2 : decode cX9_slur 2 = .ok (.putfield 129, 3) := by decide +kernel
theorem dX9_slur_5 : decode cX9_slur 5 = .ok (.aload_n 0, 1) := by decide +kernel
theorem dX9_slur_6 : decode cX9_slur 6 = .ok (.iload_n 1, 1) := by decide +kernel
theorem dX9_slur_7 : decode cX9_slur 7 = .ok (.iload_n 2, 1) := by decide +kernel
theorem dX9_slur_8 : decode cX9_slur 8 = .ok (.invokevirtual 320, 3) := by decide +kernel
theorem dX9_slur_11 : decode cX9_slur 11 = .ok (.ifCond .eq 43, 3) := by decide +kernel
theorem dX9_slur_14 : decode cX9_slur 14 = .ok (.aload_n 0, 1) := by decide +kernel
theorem dX9_slur_15 : decode cX9_slur 15 = .ok (.iload_n 1, 1) := by decide +kernel
theorem dX9_slur_16 : decode cX9_slur 16 = .ok (.iload_n 2, 1) := by decide +kernel
theorem dX9_slur_17 : decode cX9_slur 17 = .ok (.invokevirtual 390, 3) := by decide +kernel
theorem dX9_slur_20 : decode cX9_slur 20 = .ok (.ifCond .ne 34, 3) := by decide +kernel
theorem dX9_slur_23 : decode cX9_slur 23 = .ok (.iload_n 3, 1) := by decide +kernel
theorem dX9_slur_24 : decode cX9_slur 24 = .ok (.i2l, 1) := by decide +kernel
theorem dX9_slur_25 : decode cX9_slur 25 = .ok (.lconst 0, 1) := by decide +kernel
theorem dX9_slur_26 : decode cX9_slur 26 = .ok (.lconst 1, 1) := by decide +kernel
theorem dX9_slur_27 : decode cX9_slur 27 = .ok (.invokestatic 134, 3) := by decide +kernel
theorem dX9_slur_30 : decode cX9_slur 30 = .ok (.ifCond .eq 24, 3) := by decide +kernel
theorem dX9_slur_33 : decode cX9_slur 33 = .ok (.aload_n 0, 1) := by decide +kernel
theorem dX9_slur_34 : decode cX9_slur 34 = .ok (.getfield 46, 3) := by decide +kernel
theorem dX9_slur_37 : decode cX9_slur 37 = .ok (.iconst 4, 1) := by decide +kernel
theorem dX9_slur_38 : decode cX9_slur 38 = .ok (.bipush 16, 2) := by decide +kernel
theorem dX9_slur_40 : decode cX9_slur 40 = .ok (.iload_n 1, 1) := by decide +kernel
theorem dX9_slur_41 : decode cX9_slur 41 = .ok (.imul, 1) := by decide +kernel
theorem dX9_slur_42 : decode cX9_slur 42 = .ok (.iload_n 2, 1) := by decide +kernel
theorem dX9_slur_43 : decode cX9_slur 43 = .ok (.iadd, 1) := by decide +kernel
theorem dX9_slur_44 : decode cX9_slur 44 = .ok (.imul, 1) := by decide +kernel
theorem dX9_slur_45 : decode cX9_slur 45 = .ok (.iconst 2, 1) := by decide +kernel
theorem dX9_slur_46 : decode cX9_slur 46 = .ok (.iadd, 1) := by decide +kernel
theorem dX9_slur_47 : decode cX9_slur 47 = .ok (.iload_n 3, 1) := by decide +kernel
theorem dX9_slur_48 : decode cX9_slur 48 = .ok (.invokestatic 556, 3) := by decide +kernel
theorem dX9_slur_51 : decode cX9_slur 51 = .ok (.goto 5, 3) := by decide +kernel
theorem dX9_slur_54 : decode cX9_slur 54 = .ok (.bipush (-2), 2) := by decide +kernel
theorem dX9_slur_56 : decode cX9_slur 56 = .ok (.ireturn, 1) := by decide +kernel
set_option maxHeartbeats 4000000 in
set_option maxRecDepth 100000 in
theorem m_X9_slur (l : Launch) (D : va_G) (cy : Nat → ClassId) (g : Nat → Nat) (σ : ST) (p1 : Int32) (p2 : Int32) (p3 : Int32) (sz : Nat) (hJ : J9 (σ 9))  : Met l yX9_slur (ww yX9_slur cX9_slur 4 (some .int)) ({ frames := 4, cells := 0, slots := 0, locals := 256 }) (va_Pc [.ref (g 60), .int p1, .int p2, .int p3] (pr9 D cy g σ sz)) (qi9 D cy g sz (fun r τ => Fr (fL [0, 21]) σ τ ∧ J9 (τ 9) ∧ True)) 0 0 (A9 cy g sz) := by
  refine Met.ofW (cc := cX9_slur) (maxL := 4) (ret := (some .int)) (by decide) rfl ?_
  intro p e s m args below meth c s₁ B hml hv
  obtain ⟨rfl, hsz, hP, hK, hD0, hC⟩ := hv
  have hx := B.exec
  have hb := B.bytes
  have hr := B.returns
  have hts := hts_g (atoms_spec (ws := ww yX9_slur cX9_slur 4 (some .int)) B.pre)
  have hown : s.vm.findClass RX9 = some m.cls := findClass_of_methodNamed B.named
  have hlocks := B.notSynchronized
  clear B
  subst hsz
  have hD := fun τ => A9_D (sz := s.heap.size) hD0 τ
  clear hD0
  have hS : va_S (A9 cy g s.heap.size) s.heap s.heap [] := va_S.rf
  have hl := lv_entry ([.ref (g 60), .int p1, .int p2, .int p3]) (n := 4) (Nat.le_of_ble_eq_true rfl)
  rw [lg_entry_eq]
  generalize (lg_sl ([.ref (g 60), .int p1, .int p2, .int p3]) ++ List.replicate (4 - (lg_sl ([.ref (g 60), .int p1, .int p2, .int p3])).length) Slot.unset).toArray = ls at hl ⊢
  have hl : lv_has ls 4 [(0, .ref (g 60)), (1, .int p1), (2, .int p2), (3, .int p3)] := hl
  refine lv_aload_n hx hb dX9_slur_0 rfl (lv_at hl 0 rfl) ?_
  refine lv_iconst (v := 0) hx hb dX9_slur_1 (by decide) ?_
  refine p9_0 hx hb hts hown hK hP hD hS (hts _ q1360) dX9_slur_2 (fun H locs σ1 eσ1 hP hS => ?_)
  have hJ2 : J9 (σ1 9) := hJ.I eσ1 (show JI9 0 (0 : Int32) from trivial)
  refine lv_aload_n hx hb dX9_slur_5 rfl (lv_at hl 0 rfl) ?_
  refine lv_iload_n hx hb dX9_slur_6 rfl (lv_at hl 1 rfl) ?_
  refine lv_iload_n hx hb dX9_slur_7 rfl (lv_at hl 2 rfl) ?_
  refine va_calli (va_runV (As := [.int p1, .int p2]) (rest := []) ⟨hx, hb, hml, hown, hts⟩ (m_X9_isTone l D cy g σ1 p1 p2 _ hJ2 ) (cwV 2 hts (gd_V q1718 q1720 q73 q134 q1721) rfl rfl rfl (by decide +kernel) ⟨Nat.le_of_ble_eq_true rfl, Nat.le_of_ble_eq_true rfl⟩) (pv9 hP hK hD hC hS (va_recv hK hP (ci := 9) (q0 := 0) rfl rfl)) rfl rfl hl.1 rfl (lv_room (Nat.le_of_ble_eq_true rfl)) dX9_slur_8 ⟨Nat.le_of_ble_eq_true rfl, Nat.le_of_ble_eq_true rfl⟩) hS (fun q _ h => up9 hS q h) (up9 hS) (fun r3 σ4 tS H1 locs ht hvm hw5 hB hz1 hk1 hS => ?_)
  have hP : va_P D clz (WD9 cy g σ4) H1 := by rw [← ht]; exact hB
  clear hB hz1 hk1 hvm ht
  generalize H1 = H at hP hS ⊢
  have hw5E : σ1 = σ4 := (hw5.1).symm
  subst hw5E
  have b6 : (0 : Int) ≤ r3.toInt ∧ r3.toInt ≤ 1 := hw5.2.1
  have b7 : (r3.toInt = 0) ∨ ((0 : Int) ≤ p1.toInt ∧ p1.toInt ≤ 2 ∧ (0 : Int) ≤ p2.toInt ∧ p2.toInt ≤ 15) := hw5.2.2.1
  refine lv_if_eq (tgt := 54) hx hb dX9_slur_11 (by decide) (fun c8 => ?_) (fun c8 => ?_)
  ·
    have k9 := peq32 c8
    refine lv_bipush (v := (-2)) hx hb dX9_slur_54 (by decide) ?_
    exact W.iret (v := (-2)) hx hb hr (fun tS ht hW => ⟨⟨(-2), σ1, rfl, ⟨Fr.tr (Fr.rf) (sI_f eσ1) (fN_L rfl), hJ2, trivial⟩, (show va_P D clz (WD9 cy g σ1) tS.heap by rw [ht]; exact hP)⟩, hS.F ht⟩) hS.2.2 dX9_slur_56
  ·
    have k10 := neq32 c8
    refine lv_aload_n hx hb dX9_slur_14 rfl (lv_at hl 0 rfl) ?_
    refine lv_iload_n hx hb dX9_slur_15 rfl (lv_at hl 1 rfl) ?_
    refine lv_iload_n hx hb dX9_slur_16 rfl (lv_at hl 2 rfl) ?_
    refine va_calli (va_runV (As := [.int p1, .int p2]) (rest := []) ⟨hx, hb, hml, hown, hts⟩ (m_X9_isRest l D cy g σ1 p1 p2 _ hJ2 (show (0 : Int) ≤ p1.toInt ∧ p1.toInt ≤ 2 from (by have f0 := b7; have f1 := b6; have f2 := k10; have g0 := rg32 p1; have z0 : (0 : Int32).toInt = 0 := (by decide); omega)) (show (0 : Int) ≤ p2.toInt ∧ p2.toInt ≤ 15 from (by have f0 := b7; have f1 := b6; have f2 := k10; have g0 := rg32 p1; have g1 := rg32 p2; have z0 : (0 : Int32).toInt = 0 := (by decide); omega))) (cwV 2 hts (gd_V q1838 q1840 q91 q134 q1841) rfl rfl rfl (by decide +kernel) ⟨Nat.le_of_ble_eq_true rfl, Nat.le_of_ble_eq_true rfl⟩) (pv9 hP hK hD hC hS (va_recv hK hP (ci := 9) (q0 := 0) rfl rfl)) rfl rfl hl.1 rfl (lv_room (Nat.le_of_ble_eq_true rfl)) dX9_slur_17 ⟨Nat.le_of_ble_eq_true rfl, Nat.le_of_ble_eq_true rfl⟩) hS (fun q _ h => up9 hS q h) (up9 hS) (fun r11 σ12 tS H1 locs ht hvm hw13 hB hz1 hk1 hS => ?_)
    have hP : va_P D clz (WD9 cy g σ12) H1 := by rw [← ht]; exact hB
    clear hB hz1 hk1 hvm ht
    generalize H1 = H at hP hS ⊢
    have hw13E : σ1 = σ12 := (hw13.1).symm
    subst hw13E
    have b14 : (0 : Int) ≤ r11.toInt ∧ r11.toInt ≤ 1 := hw13.2.1
    refine lv_if_ne (tgt := 54) hx hb dX9_slur_20 (by decide) (fun c15 => ?_) (fun c15 => ?_)
    ·
      have k16 := neq32 c15
      refine lv_bipush (v := (-2)) hx hb dX9_slur_54 (by decide) ?_
      exact W.iret (v := (-2)) hx hb hr (fun tS ht hW => ⟨⟨(-2), σ1, rfl, ⟨Fr.tr (Fr.rf) (sI_f eσ1) (fN_L rfl), hJ2, trivial⟩, (show va_P D clz (WD9 cy g σ1) tS.heap by rw [ht]; exact hP)⟩, hS.F ht⟩) hS.2.2 dX9_slur_56
    ·
      have k17 := peq32 c15
      refine lv_iload_n hx hb dX9_slur_23 rfl (lv_at hl 3 rfl) ?_
      refine lv_i2l (v := p3.toInt64) hx hb dX9_slur_24 rfl ?_
      refine lv_lconst (v := 0) hx hb dX9_slur_25 (by decide) ?_
      refine lv_lconst (v := 1) hx hb dX9_slur_26 (by decide) ?_
      refine va_calli (va_runS (As := [.long p3.toInt64, .long 0, .long 1]) (rest := []) ⟨hx, hb, hml, hown, hts⟩ (m_X9_in l D cy g σ1 p3.toInt64 (0) (1) _ hJ2 ) (va_cwS 3 hts (gd_S q1550 q1551 q134 q1552) rfl rfl rfl (by decide +kernel) ⟨Nat.le_of_ble_eq_true rfl, Nat.le_of_ble_eq_true rfl⟩) (ps9 hP hK hD hC hS) rfl rfl hl.1 rfl (lv_room (Nat.le_of_ble_eq_true rfl)) dX9_slur_27 ⟨Nat.le_of_ble_eq_true rfl, Nat.le_of_ble_eq_true rfl⟩) hS (fun q _ h => up9 hS q h) (up9 hS) (fun r18 σ19 tS H1 locs ht hvm hw20 hB hz1 hk1 hS => ?_)
      have hP : va_P D clz (WD9 cy g σ19) H1 := by rw [← ht]; exact hB
      clear hB hz1 hk1 hvm ht
      generalize H1 = H at hP hS ⊢
      have hw20E : σ1 = σ19 := (hw20.1).symm
      subst hw20E
      have b21 : (0 : Int) ≤ r18.toInt ∧ r18.toInt ≤ 1 := hw20.2.1
      have b22 : (r18.toInt = 1 ∧ (0 : Int64).toInt ≤ p3.toInt64.toInt ∧ p3.toInt64.toInt ≤ (1 : Int64).toInt) ∨ (r18.toInt = 0 ∧ ¬ ((0 : Int64).toInt ≤ p3.toInt64.toInt ∧ p3.toInt64.toInt ≤ (1 : Int64).toInt)) := hw20.2.2.1
      refine lv_if_eq (tgt := 54) hx hb dX9_slur_30 (by decide) (fun c23 => ?_) (fun c23 => ?_)
      ·
        have k24 := peq32 c23
        refine lv_bipush (v := (-2)) hx hb dX9_slur_54 (by decide) ?_
        exact W.iret (v := (-2)) hx hb hr (fun tS ht hW => ⟨⟨(-2), σ1, rfl, ⟨Fr.tr (Fr.rf) (sI_f eσ1) (fN_L rfl), hJ2, trivial⟩, (show va_P D clz (WD9 cy g σ1) tS.heap by rw [ht]; exact hP)⟩, hS.F ht⟩) hS.2.2 dX9_slur_56
      ·
        have k25 := neq32 c23
        refine lv_aload_n hx hb dX9_slur_33 rfl (lv_at hl 0 rfl) ?_
        refine g9_21 hx hb hts hown hK hP (hts _ q1381) dX9_slur_34 ?_
        refine lv_iconst (v := 4) hx hb dX9_slur_37 (by decide) ?_
        refine lv_bipush (v := 16) hx hb dX9_slur_38 (by decide) ?_
        refine lv_iload_n hx hb dX9_slur_40 rfl (lv_at hl 1 rfl) ?_
        refine lv_imul hx hb dX9_slur_41 ?_
        refine lv_topi (fun x26 ex26 => ?_)
        have t27 := mulC' (n := 16) ex26 (by decide) (by have f0 := b7; have f1 := b6; have f2 := k10; have g0 := rg32 p1; have z0 : (0 : Int32).toInt = 0 := (by decide); omega)
        refine lv_iload_n hx hb dX9_slur_42 rfl (lv_at hl 2 rfl) ?_
        refine lv_iadd hx hb dX9_slur_43 ?_
        refine lv_topi (fun x28 ex28 => ?_)
        have t29 := addO ex28 (by have f0 := b7; have f1 := t27; have f2 := b6; have f3 := k10; have g0 := rg32 p2; have g1 := rg32 x26; have z0 : (0 : Int32).toInt = 0 := (by decide); omega)
        refine lv_imul hx hb dX9_slur_44 ?_
        refine lv_topi (fun x30 ex30 => ?_)
        have t31 := mulC' (n := 4) ex30 (by decide) (by have f0 := t29; have f1 := b7; have f2 := t27; have f3 := b6; have f4 := k10; have g0 := rg32 x28; have z0 : (0 : Int32).toInt = 0 := (by decide); omega)
        refine lv_iconst (v := 2) hx hb dX9_slur_45 (by decide) ?_
        refine lv_iadd hx hb dX9_slur_46 ?_
        refine lv_topi (fun x32 ex32 => ?_)
        have t33 := addO ex32 (by have f0 := t31; have f1 := t29; have f2 := b7; have f3 := t27; have f4 := b6; have f5 := k10; have g0 := rg32 x30; have z0 : (0 : Int32).toInt = 0 := (by decide); have z2 : (2 : Int32).toInt = 2 := (by decide); omega)
        refine lv_iload_n hx hb dX9_slur_47 rfl (lv_at hl 3 rfl) ?_
        refine va_calli (va_runS (As := [.ref (g 21), .int x32, .int p3]) (rest := []) ⟨hx, hb, hml, hown, hts⟩ (m_X9_sets_21 l D cy g σ1 x32 p3 _ hJ2 (show (0 : Int) ≤ x32.toInt ∧ x32.toInt ≤ 959 from (by have f0 := t33; have f1 := t31; have f2 := t29; have f3 := b7; have f4 := t27; have f5 := b6; have f6 := k10; have g0 := rg32 x32; have z0 : (0 : Int32).toInt = 0 := (by decide); have z2 : (2 : Int32).toInt = 2 := (by decide); omega)) (show -1 ≤ p3.toInt ∧ p3.toInt ≤ 60 ∧ (x32.toInt.toNat % 4 = 1 → 0 ≤ p3.toInt) from (by have f0 := t64 (a := p3); have f1 := rg32 p3; have f2 := t33; have f3 := b22; have f4 := t31; have f5 := b21; have f6 := k25; have f7 := t29; have f8 := b7; have f9 := t27; have f10 := b6; have f11 := k10; have g0 := rg32 p3; have g1 := rg32 x32; have z0 : (0 : Int32).toInt = 0 := (by decide); have zl0 : (0 : Int64).toInt = 0 := (by decide); have zl1 : (1 : Int64).toInt = 1 := (by decide); have z2 : (2 : Int32).toInt = 2 := (by decide); have w18 := t64 (a := p3); omega))) (va_cwS 3 hts (gd_S q2109 q2110 q134 q2111) rfl rfl rfl (by decide +kernel) ⟨Nat.le_of_ble_eq_true rfl, Nat.le_of_ble_eq_true rfl⟩) (ps9 hP hK hD hC hS) rfl rfl hl.1 rfl (lv_room (Nat.le_of_ble_eq_true rfl)) dX9_slur_48 ⟨Nat.le_of_ble_eq_true rfl, Nat.le_of_ble_eq_true rfl⟩) hS (fun q _ h => up9 hS q h) (up9 hS) (fun r34 σ35 tS H1 locs ht hvm hw36 hB hz1 hk1 hS => ?_)
        have hP : va_P D clz (WD9 cy g σ35) H1 := by rw [← ht]; exact hB
        clear hB hz1 hk1 hvm ht
        generalize H1 = H at hP hS ⊢
        have hF37 : Fr (fL [21]) σ1 σ35 := hw36.1
        have hJ38 : J9 (σ35 9) := hw36.2.1
        have b39 : ((σ35 9)).2.2.1 21 = upd (((σ1 9)).2.2.1 21) x32.toInt.toNat p3 := hw36.2.2.1
        refine lv_goto (tgt := 56) hx hb dX9_slur_51 (by decide) ?_
        exact W.iret (v := r34) hx hb hr (fun tS ht hW => ⟨⟨r34, σ35, rfl, ⟨Fr.tr (Fr.tr (Fr.rf) (sI_f eσ1) (fN_L rfl)) hF37 (fL_sub rfl), hJ38, trivial⟩, (show va_P D clz (WD9 cy g σ35) tS.heap by rw [ht]; exact hP)⟩, hS.F ht⟩) hS.2.2 dX9_slur_56

