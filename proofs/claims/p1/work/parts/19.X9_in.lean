theorem q1552 : Cond.code yX9_in cX9_in 6 (some .boolean) ∈ lw_g := lw_gm (List.mem_of_getElem? (i := 1552) (by decide +kernel)) rfl
theorem dX9_in_0 : decode cX9_in 0 = .ok (.lload_n 0, 1) := by decide +kernel
theorem dX9_in_1 : decode cX9_in 1 = .ok (.lload_n 2, 1) := by decide +kernel
theorem dX9_in_2 : decode cX9_in 2 = .ok (.lcmp, 1) := by decide +kernel
theorem dX9_in_3 : decode cX9_in 3 = .ok (.ifCond .lt 14, 3) := by decide +kernel
theorem dX9_in_6 : decode cX9_in 6 = .ok (.lload_n 0, 1) := by decide +kernel
theorem dX9_in_7 : decode cX9_in 7 = .ok (.lload 4, 2) := by decide +kernel
theorem dX9_in_9 : decode cX9_in 9 = .ok (.lcmp, 1) := by decide +kernel
theorem dX9_in_10 : decode cX9_in 10 = .ok (.ifCond .gt 7, 3) := by decide +kernel
theorem dX9_in_13 : decode cX9_in 13 = .ok (.iconst 1, 1) := by decide +kernel
theorem dX9_in_14 : decode cX9_in 14 = .ok (.goto 4, 3) := by decide +kernel
theorem dX9_in_17 : decode cX9_in 17 = .ok (.iconst 0, 1) := by decide +kernel
theorem dX9_in_18 : decode cX9_in 18 = .ok (.ireturn, 1) := by decide +kernel
set_option maxHeartbeats 4000000 in
set_option maxRecDepth 100000 in
theorem c_X9_in (l : Launch) (D : va_G) (cy : Nat → ClassId) (v : Int64) (lo : Int64) (hi : Int64) (sz : Nat) : Met l yX9_in (ww yX9_in cX9_in 6 (some .boolean)) ({ frames := 1, cells := 0, slots := 0, locals := 64 }) (va_Pc [.long v, .long lo, .long hi] (pre D cy [] sz)) (qi D cy (va_A [] sz) (fun (r : Int32) (_ : Unit) => r = if (lo ≤ v ∧ v ≤ hi) then 1 else 0) (fun (_ : Unit) => [])) 0 0 (va_A [] sz) := by
  refine Met.ofW (cc := cX9_in) (maxL := 6) (ret := (some .boolean)) (by decide) rfl ?_
  intro p e s m args below meth c s₁ B hml hv
  obtain ⟨rfl, hsz, hP, hK, hD0⟩ := hv
  have hx := B.exec
  have hb := B.bytes
  have hr := B.returns
  have hts := hts_g (atoms_spec (ws := ww yX9_in cX9_in 6 (some .boolean)) B.pre)
  have hown : s.vm.findClass RX9 = some m.cls := findClass_of_methodNamed B.named
  have hlocks := B.notSynchronized
  subst hsz
  have hD := hD0.self (sz := s.heap.size)
  generalize hAe : va_A [] s.heap.size = A at hD ⊢
  have hA : ∀ q : Nat, s.heap.size ≤ q → A q := fun q h => by rw [← hAe]; exact Or.inr h
  have hS : va_S A s.heap s.heap [] := va_S.rf
  have hl := lv_entry ([.long v, .long lo, .long hi]) (n := 6) (Nat.le_of_ble_eq_true rfl)
  rw [lg_entry_eq]
  generalize (lg_sl ([.long v, .long lo, .long hi]) ++ List.replicate (6 - (lg_sl ([.long v, .long lo, .long hi])).length) Slot.unset).toArray = ls at hl ⊢
  have hl : lv_has ls 6 [(0, .long v), (2, .long lo), (4, .long hi)] := hl
  refine lv_lload_n hx hb dX9_in_0 rfl (lv_at hl 0 rfl) ?_
  refine lv_lload_n hx hb dX9_in_1 rfl (lv_at hl 1 rfl) ?_
  refine W.lcmp hx hb dX9_in_2 ?_
  refine lv_if_lt (tgt := 17) hx hb dX9_in_3 (by decide) (fun c_1 => ?_) (fun c_1 => ?_)
  ·
    refine lv_iconst (v := 0) hx hb dX9_in_17 (by decide) ?_
    have hP9 := hP.sub (ws' := []) [] rfl
    have hD9 := hD.sub (ws' := []) [] (by decide) rfl
    exact W.zret (v := 0) hx hb hr rfl (fun tS ht hW => ⟨⟨0, (), rfl, (if_neg (by have f0 := plt64 ((lg_cmp_lt v lo).mp c_1); exact bn64r (by omega))).symm, by rw [ht]; exact hP9, va_K.moved hW.alike hK, hD9⟩, hS.F ht⟩) hS.2.2 dX9_in_18
  ·
    refine lv_lload_n hx hb dX9_in_6 rfl (lv_at hl 0 rfl) ?_
    refine lv_lload hx hb dX9_in_7 (lv_at hl 2 rfl) ?_
    refine W.lcmp hx hb dX9_in_9 ?_
    refine lv_if_gt (tgt := 17) hx hb dX9_in_10 (by decide) (fun c_2 => ?_) (fun c_2 => ?_)
    ·
      refine lv_iconst (v := 0) hx hb dX9_in_17 (by decide) ?_
      have hP9 := hP.sub (ws' := []) [] rfl
      have hD9 := hD.sub (ws' := []) [] (by decide) rfl
      exact W.zret (v := 0) hx hb hr rfl (fun tS ht hW => ⟨⟨0, (), rfl, (if_neg (by have f0 := nlt64 (fun q => c_1 ((lg_cmp_lt v lo).mpr q)); have f1 := plt64 ((lg_cmp_gt v hi).mp c_2); exact bn64r (by omega))).symm, by rw [ht]; exact hP9, va_K.moved hW.alike hK, hD9⟩, hS.F ht⟩) hS.2.2 dX9_in_18
    ·
      refine lv_iconst (v := 1) hx hb dX9_in_13 (by decide) ?_
      refine lv_goto (tgt := 18) hx hb dX9_in_14 (by decide) ?_
      have hP9 := hP.sub (ws' := []) [] rfl
      have hD9 := hD.sub (ws' := []) [] (by decide) rfl
      exact W.zret (v := 1) hx hb hr rfl (fun tS ht hW => ⟨⟨1, (), rfl, (if_pos (by have f0 := nlt64 (fun q => c_1 ((lg_cmp_lt v lo).mpr q)); have f1 := nlt64 (fun q => c_2 ((lg_cmp_gt v hi).mpr q)); exact bp64r (by omega))).symm, by rw [ht]; exact hP9, va_K.moved hW.alike hK, hD9⟩, hS.F ht⟩) hS.2.2 dX9_in_18

theorem q1548 : Cond.code yX9_isSlot cX9_isSlot 1 (some .boolean) ∈ lw_g := lw_gm (List.mem_of_getElem? (i := 1548) (by decide +kernel)) rfl
theorem q1549 : Cond.constantLong RX9 132 (3) ∈ lw_g := lw_gm (List.mem_of_getElem? (i := 1549) (by decide +kernel)) rfl
theorem q1550 : Cond.methodLink RX9 134 yX9_in ∈ lw_g := lw_gm (List.mem_of_getElem? (i := 1550) (by decide +kernel)) rfl
theorem q1551 : Cond.static yX9_in ∈ lw_g := lw_gm (List.mem_of_getElem? (i := 1551) (by decide +kernel)) rfl
theorem q134 : Cond.initialized RX9 ∈ lw_g := lw_gm (List.mem_of_getElem? (i := 134) (by decide +kernel)) rfl
theorem dX9_isSlot_0 : decode cX9_isSlot 0 = .ok (.iload_n 0, 1) := by decide +kernel
theorem dX9_isSlot_1 : decode cX9_isSlot 1 = .ok (.i2l, 1) := by decide +kernel
theorem dX9_isSlot_2 : decode cX9_isSlot 2 = .ok (.lconst 0, 1) := by decide +kernel
theorem dX9_isSlot_3 : decode cX9_isSlot 3 = .ok (.ldc2_w 132, 3) := by decide +kernel
theorem dX9_isSlot_6 : decode cX9_isSlot 6 = .ok (.invokestatic 134, 3) := by decide +kernel
theorem dX9_isSlot_9 : decode cX9_isSlot 9 = .ok (.ireturn, 1) := by decide +kernel
set_option maxHeartbeats 4000000 in
set_option maxRecDepth 100000 in
theorem c_X9_isSlot (l : Launch) (D : va_G) (cy : Nat → ClassId) (p1 : Int32) (sz : Nat) : Met l yX9_isSlot (ww yX9_isSlot cX9_isSlot 1 (some .boolean)) ({ frames := 2, cells := 0, slots := 0, locals := 128 }) (va_Pc [.int p1] (pre D cy [] sz)) (qi D cy (va_A [] sz) (fun (r : Int32) (_ : Unit) => r = if ((0 : Int32) ≤ p1 ∧ p1 ≤ (3 : Int32)) then 1 else 0) (fun (_ : Unit) => [])) 0 0 (va_A [] sz) := by
  refine Met.ofW (cc := cX9_isSlot) (maxL := 1) (ret := (some .boolean)) (by decide) rfl ?_
  intro p e s m args below meth c s₁ B hml hv
  obtain ⟨rfl, hsz, hP, hK, hD0⟩ := hv
  have hx := B.exec
  have hb := B.bytes
  have hr := B.returns
  have hts := hts_g (atoms_spec (ws := ww yX9_isSlot cX9_isSlot 1 (some .boolean)) B.pre)
  have hown : s.vm.findClass RX9 = some m.cls := findClass_of_methodNamed B.named
  have hlocks := B.notSynchronized
  subst hsz
  have hD := hD0.self (sz := s.heap.size)
  generalize hAe : va_A [] s.heap.size = A at hD ⊢
  have hA : ∀ q : Nat, s.heap.size ≤ q → A q := fun q h => by rw [← hAe]; exact Or.inr h
  have hS : va_S A s.heap s.heap [] := va_S.rf
  have hl := lv_entry ([.int p1]) (n := 1) (Nat.le_of_ble_eq_true rfl)
  rw [lg_entry_eq]
  generalize (lg_sl ([.int p1]) ++ List.replicate (1 - (lg_sl ([.int p1])).length) Slot.unset).toArray = ls at hl ⊢
  have hl : lv_has ls 1 [(0, .int p1)] := hl
  refine lv_iload_n hx hb dX9_isSlot_0 rfl (lv_at hl 0 rfl) ?_
  refine lv_i2l (v := p1.toInt64) hx hb dX9_isSlot_1 rfl ?_
  refine lv_lconst (v := 0) hx hb dX9_isSlot_2 (by decide) ?_
  refine lv_ldc2 (v := 3) hx hb hown (hts _ q1549) dX9_isSlot_3 ?_
  have hPc := hP.sub (ws' := []) [] rfl
  have hDc := hD.sub (ws' := []) [] (by decide) rfl
  have hFc := va_free (wc := []) hD hS hA [] rfl
  refine va_calli (va_runS (As := [.long p1.toInt64, .long 0, .long 3]) (rest := []) ⟨hx, hb, hml, hown, hts⟩ (c_X9_in l D cy p1.toInt64 0 3 s.heap.size) (va_cwS 3 hts (gd_S q1550 q1551 q134 q1552) rfl rfl rfl (by decide +kernel) ⟨Nat.le_of_ble_eq_true rfl, Nat.le_of_ble_eq_true rfl⟩) (pr_S hPc hK hDc) rfl rfl hl.1 rfl (lv_room (Nat.le_of_ble_eq_true rfl)) dX9_isSlot_6 ⟨Nat.le_of_ble_eq_true rfl, Nat.le_of_ble_eq_true rfl⟩) hS (fun q _ h => hFc q h) hFc (fun r_1 u tS H1 locs ht hvm hw hB hz1 hk1 hS => ?_)
  obtain ⟨hP1, hK1, hD1⟩ := hB
  rw [ht] at hP1
  try dsimp only at hw
  obtain ⟨hP, hD⟩ := va_join (wr := []) (w1 := []) hP hD [] [] rfl rfl (by decide) (by decide) hk1 hFc hP1 hD1
  generalize H1 = H at hP hS ⊢
  have hP : va_P D clz [] H := hP
  have hD : va_D A [] := hD
  by_cases hc_2 : ((0 : Int64) ≤ p1.toInt64 ∧ p1.toInt64 ≤ (3 : Int64))
  ·
    rw [if_pos hc_2] at hw
    subst hw
    have hP9 := hP.sub (ws' := []) [] rfl
    have hD9 := hD.sub (ws' := []) [] (by decide) rfl
    exact W.zret (v := 1) hx hb hr rfl (fun tS ht hW => ⟨⟨1, (), rfl, (if_pos (by have f0 := bp64 hc_2; have z320 : (0 : Int32).toInt = 0 := (by decide); have z323 : (3 : Int32).toInt = 3 := (by decide); have z640 : (0 : Int64).toInt = 0 := (by decide); have z643 : (3 : Int64).toInt = 3 := (by decide); have wp1 : p1.toInt64.toInt = p1.toInt := Int32.toInt_toInt64 p1; exact bp32r (by omega))).symm, by rw [ht]; exact hP9, va_K.moved hW.alike hK, hD9⟩, hS.F ht⟩) hS.2.2 dX9_isSlot_9
  ·
    rw [if_neg hc_2] at hw
    subst hw
    have hP9 := hP.sub (ws' := []) [] rfl
    have hD9 := hD.sub (ws' := []) [] (by decide) rfl
    exact W.zret (v := 0) hx hb hr rfl (fun tS ht hW => ⟨⟨0, (), rfl, (if_neg (by have f0 := bn64 hc_2; have z320 : (0 : Int32).toInt = 0 := (by decide); have z323 : (3 : Int32).toInt = 3 := (by decide); have z640 : (0 : Int64).toInt = 0 := (by decide); have z643 : (3 : Int64).toInt = 3 := (by decide); have wp1 : p1.toInt64.toInt = p1.toInt := Int32.toInt_toInt64 p1; exact bn32r (by omega))).symm, by rw [ht]; exact hP9, va_K.moved hW.alike hK, hD9⟩, hS.F ht⟩) hS.2.2 dX9_isSlot_9

theorem q2082 : Cond.code yX9_isSeed cX9_isSeed 1 (some .boolean) ∈ lw_g := lw_gm (List.mem_of_getElem? (i := 2082) (by decide +kernel)) rfl
theorem q2083 : Cond.constantLong RX9 539 (2000000000) ∈ lw_g := lw_gm (List.mem_of_getElem? (i := 2083) (by decide +kernel)) rfl
theorem dX9_isSeed_0 : decode cX9_isSeed 0 = .ok (.iload_n 0, 1) := by decide +kernel
theorem dX9_isSeed_1 : decode cX9_isSeed 1 = .ok (.i2l, 1) := by decide +kernel
theorem dX9_isSeed_2 : decode cX9_isSeed 2 = .ok (.lconst 0, 1) := by decide +kernel
theorem dX9_isSeed_3 : decode cX9_isSeed 3 = .ok (.ldc2_w 539, 3) := by decide +kernel
theorem dX9_isSeed_6 : decode cX9_isSeed 6 = .ok (.invokestatic 134, 3) := by decide +kernel
theorem dX9_isSeed_9 : decode cX9_isSeed 9 = .ok (.ireturn, 1) := by decide +kernel
set_option maxHeartbeats 4000000 in
set_option maxRecDepth 100000 in
theorem c_X9_isSeed (l : Launch) (D : va_G) (cy : Nat → ClassId) (p1 : Int32) (sz : Nat) : Met l yX9_isSeed (ww yX9_isSeed cX9_isSeed 1 (some .boolean)) ({ frames := 2, cells := 0, slots := 0, locals := 128 }) (va_Pc [.int p1] (pre D cy [] sz)) (qi D cy (va_A [] sz) (fun (r : Int32) (_ : Unit) => r = if ((0 : Int32) ≤ p1 ∧ p1 ≤ (2000000000 : Int32)) then 1 else 0) (fun (_ : Unit) => [])) 0 0 (va_A [] sz) := by
  refine Met.ofW (cc := cX9_isSeed) (maxL := 1) (ret := (some .boolean)) (by decide) rfl ?_
  intro p e s m args below meth c s₁ B hml hv
  obtain ⟨rfl, hsz, hP, hK, hD0⟩ := hv
  have hx := B.exec
  have hb := B.bytes
  have hr := B.returns
  have hts := hts_g (atoms_spec (ws := ww yX9_isSeed cX9_isSeed 1 (some .boolean)) B.pre)
  have hown : s.vm.findClass RX9 = some m.cls := findClass_of_methodNamed B.named
  have hlocks := B.notSynchronized
  subst hsz
  have hD := hD0.self (sz := s.heap.size)
  generalize hAe : va_A [] s.heap.size = A at hD ⊢
  have hA : ∀ q : Nat, s.heap.size ≤ q → A q := fun q h => by rw [← hAe]; exact Or.inr h
  have hS : va_S A s.heap s.heap [] := va_S.rf
  have hl := lv_entry ([.int p1]) (n := 1) (Nat.le_of_ble_eq_true rfl)
  rw [lg_entry_eq]
  generalize (lg_sl ([.int p1]) ++ List.replicate (1 - (lg_sl ([.int p1])).length) Slot.unset).toArray = ls at hl ⊢
  have hl : lv_has ls 1 [(0, .int p1)] := hl
  refine lv_iload_n hx hb dX9_isSeed_0 rfl (lv_at hl 0 rfl) ?_
  refine lv_i2l (v := p1.toInt64) hx hb dX9_isSeed_1 rfl ?_
  refine lv_lconst (v := 0) hx hb dX9_isSeed_2 (by decide) ?_
  refine lv_ldc2 (v := 2000000000) hx hb hown (hts _ q2083) dX9_isSeed_3 ?_
  have hPc := hP.sub (ws' := []) [] rfl
  have hDc := hD.sub (ws' := []) [] (by decide) rfl
  have hFc := va_free (wc := []) hD hS hA [] rfl
  refine va_calli (va_runS (As := [.long p1.toInt64, .long 0, .long 2000000000]) (rest := []) ⟨hx, hb, hml, hown, hts⟩ (c_X9_in l D cy p1.toInt64 0 2000000000 s.heap.size) (va_cwS 3 hts (gd_S q1550 q1551 q134 q1552) rfl rfl rfl (by decide +kernel) ⟨Nat.le_of_ble_eq_true rfl, Nat.le_of_ble_eq_true rfl⟩) (pr_S hPc hK hDc) rfl rfl hl.1 rfl (lv_room (Nat.le_of_ble_eq_true rfl)) dX9_isSeed_6 ⟨Nat.le_of_ble_eq_true rfl, Nat.le_of_ble_eq_true rfl⟩) hS (fun q _ h => hFc q h) hFc (fun r_1 u tS H1 locs ht hvm hw hB hz1 hk1 hS => ?_)
  obtain ⟨hP1, hK1, hD1⟩ := hB
  rw [ht] at hP1
  try dsimp only at hw
  obtain ⟨hP, hD⟩ := va_join (wr := []) (w1 := []) hP hD [] [] rfl rfl (by decide) (by decide) hk1 hFc hP1 hD1
  generalize H1 = H at hP hS ⊢
  have hP : va_P D clz [] H := hP
  have hD : va_D A [] := hD
  by_cases hc_2 : ((0 : Int64) ≤ p1.toInt64 ∧ p1.toInt64 ≤ (2000000000 : Int64))
  ·
    rw [if_pos hc_2] at hw
    subst hw
    have hP9 := hP.sub (ws' := []) [] rfl
    have hD9 := hD.sub (ws' := []) [] (by decide) rfl
    exact W.zret (v := 1) hx hb hr rfl (fun tS ht hW => ⟨⟨1, (), rfl, (if_pos (by have f0 := bp64 hc_2; have z320 : (0 : Int32).toInt = 0 := (by decide); have z322000000000 : (2000000000 : Int32).toInt = 2000000000 := (by decide); have z640 : (0 : Int64).toInt = 0 := (by decide); have z642000000000 : (2000000000 : Int64).toInt = 2000000000 := (by decide); have wp1 : p1.toInt64.toInt = p1.toInt := Int32.toInt_toInt64 p1; exact bp32r (by omega))).symm, by rw [ht]; exact hP9, va_K.moved hW.alike hK, hD9⟩, hS.F ht⟩) hS.2.2 dX9_isSeed_9
  ·
    rw [if_neg hc_2] at hw
    subst hw
    have hP9 := hP.sub (ws' := []) [] rfl
    have hD9 := hD.sub (ws' := []) [] (by decide) rfl
    exact W.zret (v := 0) hx hb hr rfl (fun tS ht hW => ⟨⟨0, (), rfl, (if_neg (by have f0 := bn64 hc_2; have z320 : (0 : Int32).toInt = 0 := (by decide); have z322000000000 : (2000000000 : Int32).toInt = 2000000000 := (by decide); have z640 : (0 : Int64).toInt = 0 := (by decide); have z642000000000 : (2000000000 : Int64).toInt = 2000000000 := (by decide); have wp1 : p1.toInt64.toInt = p1.toInt := Int32.toInt_toInt64 p1; exact bn32r (by omega))).symm, by rw [ht]; exact hP9, va_K.moved hW.alike hK, hD9⟩, hS.F ht⟩) hS.2.2 dX9_isSeed_9

theorem q1704 : Cond.code yX9_isBrass cX9_isBrass 2 (some .boolean) ∈ lw_g := lw_gm (List.mem_of_getElem? (i := 1704) (by decide +kernel)) rfl
theorem q1377 : Cond.fieldLink RX9 34 "LipsAndSlidesModel" "has" "[I" ∈ lw_g := lw_gm (List.mem_of_getElem? (i := 1377) (by decide +kernel)) rfl
theorem dX9_isBrass_0 : decode cX9_isBrass 0 = .ok (.iload_n 1, 1) := by decide +kernel
theorem dX9_isBrass_1 : decode cX9_isBrass 1 = .ok (.i2l, 1) := by decide +kernel
theorem dX9_isBrass_2 : decode cX9_isBrass 2 = .ok (.lconst 0, 1) := by decide +kernel
theorem dX9_isBrass_3 : decode cX9_isBrass 3 = .ok (.aload_n 0, 1) := by decide +kernel
theorem dX9_isBrass_4 : decode cX9_isBrass 4 = .ok (.getfield 34, 3) := by decide +kernel
theorem dX9_isBrass_7 : decode cX9_isBrass 7 = .ok (.iconst 2, 1) := by decide +kernel
theorem dX9_isBrass_8 : decode cX9_isBrass 8 = .ok (.iaload, 1) := by decide +kernel
theorem dX9_isBrass_9 : decode cX9_isBrass 9 = .ok (.iconst 1, 1) := by decide +kernel
theorem dX9_isBrass_10 : decode cX9_isBrass 10 = .ok (.isub, 1) := by decide +kernel
theorem dX9_isBrass_11 : decode cX9_isBrass 11 = .ok (.i2l, 1) := by decide +kernel
theorem dX9_isBrass_12 : decode cX9_isBrass 12 = .ok (.invokestatic 134, 3) := by decide +kernel
theorem dX9_isBrass_15 : decode cX9_isBrass 15 = .ok (.ireturn, 1) := by decide +kernel
set_option maxHeartbeats 4000000 in
set_option maxRecDepth 100000 in
theorem c_X9_isBrass (l : Launch) (D : va_G) (cy : Nat → ClassId) (g : Nat → Nat) (p1 : Int32) (sz : Nat) : Met l yX9_isBrass (ww yX9_isBrass cX9_isBrass 2 (some .boolean)) ({ frames := 2, cells := 0, slots := 0, locals := 128 }) (va_Pc [.ref (g 60), .int p1] (pre D cy [(g 60, .inr (9, mF g)), (g 17, .inl (cy 0, 25, .inl (fun _ => 0)))] sz)) (qi D cy (va_A [(g 60, .inr (9, mF g)), (g 17, .inl (cy 0, 25, .inl (fun _ => 0)))] sz) (fun (r : Int32) (_ : Unit) => r = 0) (fun (_ : Unit) => [(g 60, .inr (9, mF g)), (g 17, .inl (cy 0, 25, .inl (fun _ => 0)))])) 0 0 (va_A [(g 60, .inr (9, mF g)), (g 17, .inl (cy 0, 25, .inl (fun _ => 0)))] sz) := by
  refine Met.ofW (cc := cX9_isBrass) (maxL := 2) (ret := (some .boolean)) (by decide) rfl ?_
  intro p e s m args below meth c s₁ B hml hv
  obtain ⟨rfl, hsz, hP, hK, hD0⟩ := hv
  have hx := B.exec
  have hb := B.bytes
  have hr := B.returns
  have hts := hts_g (atoms_spec (ws := ww yX9_isBrass cX9_isBrass 2 (some .boolean)) B.pre)
  have hown : s.vm.findClass RX9 = some m.cls := findClass_of_methodNamed B.named
  have hlocks := B.notSynchronized
  subst hsz
  have hD := hD0.self (sz := s.heap.size)
  generalize hAe : va_A [(g 60, .inr (9, mF g)), (g 17, .inl (cy 0, 25, .inl (fun _ => 0)))] s.heap.size = A at hD ⊢
  have hA : ∀ q : Nat, s.heap.size ≤ q → A q := fun q h => by rw [← hAe]; exact Or.inr h
  have hS : va_S A s.heap s.heap [] := va_S.rf
  have hl := lv_entry ([.ref (g 60), .int p1]) (n := 2) (Nat.le_of_ble_eq_true rfl)
  rw [lg_entry_eq]
  generalize (lg_sl ([.ref (g 60), .int p1]) ++ List.replicate (2 - (lg_sl ([.ref (g 60), .int p1])).length) Slot.unset).toArray = ls at hl ⊢
  have hl : lv_has ls 2 [(0, .ref (g 60)), (1, .int p1)] := hl
  refine lv_iload_n hx hb dX9_isBrass_0 rfl (lv_at hl 1 rfl) ?_
  refine lv_i2l (v := p1.toInt64) hx hb dX9_isBrass_1 rfl ?_
  refine lv_lconst (v := 0) hx hb dX9_isBrass_2 (by decide) ?_
  refine lv_aload_n hx hb dX9_isBrass_3 rfl (lv_at hl 0 rfl) ?_
  refine va_get (D := D) (ci := 9) (v := .ref (g 17)) (C := RX9) (T := TX9) (N := 60) hx hb hts iX9 hown hK hP 0 rfl rfl 17 (by decide) (hts _ q1377) (fun _ h9 => h9) rfl dX9_isBrass_4 ?_
  refine lv_iconst (v := 2) hx hb dX9_isBrass_7 (by decide) ?_
  refine va_iald hx hb hK hP 1 0 rfl rfl (vpi (by decide)) dX9_isBrass_8 ?_
  refine lv_topi (fun x_1 ex_1 => ?_)
  obtain rfl : x_1 = 0 := ex_1.trans (by decide)
  refine lv_iconst (v := 1) hx hb dX9_isBrass_9 (by decide) ?_
  refine lv_isub hx hb dX9_isBrass_10 ?_
  refine lv_topi (fun x_2 ex_2 => ?_)
  obtain rfl : x_2 = (-1) := ex_2.trans (by decide)
  refine lv_i2l (v := (-1)) hx hb dX9_isBrass_11 (by decide) ?_
  have hPc := hP.sub (ws' := []) [] rfl
  have hDc := hD.sub (ws' := []) [] (by decide) rfl
  have hFc := va_free (wc := []) hD hS hA [] rfl
  refine va_calli (va_runS (As := [.long p1.toInt64, .long 0, .long (-1)]) (rest := []) ⟨hx, hb, hml, hown, hts⟩ (c_X9_in l D cy p1.toInt64 0 (-1) s.heap.size) (va_cwS 3 hts (gd_S q1550 q1551 q134 q1552) rfl rfl rfl (by decide +kernel) ⟨Nat.le_of_ble_eq_true rfl, Nat.le_of_ble_eq_true rfl⟩) (pr_S hPc hK hDc) rfl rfl hl.1 rfl (lv_room (Nat.le_of_ble_eq_true rfl)) dX9_isBrass_12 ⟨Nat.le_of_ble_eq_true rfl, Nat.le_of_ble_eq_true rfl⟩) hS (fun q _ h => hFc q h) hFc (fun r_3 u tS H1 locs ht hvm hw hB hz1 hk1 hS => ?_)
  obtain ⟨hP1, hK1, hD1⟩ := hB
  rw [ht] at hP1
  try dsimp only at hw
  obtain ⟨hP, hD⟩ := va_join (wr := [(g 60, .inr (9, mF g)), (g 17, .inl (cy 0, 25, .inl (fun _ => 0)))]) (w1 := []) hP hD [] [0, 1] rfl rfl (by decide) (by decide) hk1 hFc hP1 hD1
  generalize H1 = H at hP hS ⊢
  have hP : va_P D clz [(g 60, .inr (9, mF g)), (g 17, .inl (cy 0, 25, .inl (fun _ => 0)))] H := hP
  have hD : va_D A [(g 60, .inr (9, mF g)), (g 17, .inl (cy 0, 25, .inl (fun _ => 0)))] := hD
  by_cases hc_4 : ((0 : Int64) ≤ p1.toInt64 ∧ p1.toInt64 ≤ ((-1) : Int64))
  ·
    rw [if_pos hc_4] at hw
    subst hw
    exact False.elim (by have f0 := bp64 hc_4; have z64m1 : ((-1) : Int64).toInt = (-1) := (by decide); have z640 : (0 : Int64).toInt = 0 := (by decide); have wp1 : p1.toInt64.toInt = p1.toInt := Int32.toInt_toInt64 p1; omega)
  ·
    rw [if_neg hc_4] at hw
    subst hw
    have hP9 := hP.sub (ws' := [(g 60, .inr (9, mF g)), (g 17, .inl (cy 0, 25, .inl (fun _ => 0)))]) [0, 1] rfl
    have hD9 := hD.sub (ws' := [(g 60, .inr (9, mF g)), (g 17, .inl (cy 0, 25, .inl (fun _ => 0)))]) [0, 1] (by decide) rfl
    exact W.zret (v := 0) hx hb hr rfl (fun tS ht hW => ⟨⟨0, (), rfl, rfl, by rw [ht]; exact hP9, va_K.moved hW.alike hK, hD9⟩, hS.F ht⟩) hS.2.2 dX9_isBrass_15

theorem q1713 : Cond.code yX9_isPlayer cX9_isPlayer 2 (some .boolean) ∈ lw_g := lw_gm (List.mem_of_getElem? (i := 1713) (by decide +kernel)) rfl
theorem dX9_isPlayer_0 : decode cX9_isPlayer 0 = .ok (.iload_n 1, 1) := by decide +kernel
theorem dX9_isPlayer_1 : decode cX9_isPlayer 1 = .ok (.i2l, 1) := by decide +kernel
theorem dX9_isPlayer_2 : decode cX9_isPlayer 2 = .ok (.lconst 0, 1) := by decide +kernel
theorem dX9_isPlayer_3 : decode cX9_isPlayer 3 = .ok (.aload_n 0, 1) := by decide +kernel
theorem dX9_isPlayer_4 : decode cX9_isPlayer 4 = .ok (.getfield 34, 3) := by decide +kernel
theorem dX9_isPlayer_7 : decode cX9_isPlayer 7 = .ok (.iconst 3, 1) := by decide +kernel
theorem dX9_isPlayer_8 : decode cX9_isPlayer 8 = .ok (.iaload, 1) := by decide +kernel
theorem dX9_isPlayer_9 : decode cX9_isPlayer 9 = .ok (.iconst 1, 1) := by decide +kernel
theorem dX9_isPlayer_10 : decode cX9_isPlayer 10 = .ok (.isub, 1) := by decide +kernel
theorem dX9_isPlayer_11 : decode cX9_isPlayer 11 = .ok (.i2l, 1) := by decide +kernel
theorem dX9_isPlayer_12 : decode cX9_isPlayer 12 = .ok (.invokestatic 134, 3) := by decide +kernel
theorem dX9_isPlayer_15 : decode cX9_isPlayer 15 = .ok (.ireturn, 1) := by decide +kernel
set_option maxHeartbeats 4000000 in
set_option maxRecDepth 100000 in
theorem c_X9_isPlayer (l : Launch) (D : va_G) (cy : Nat → ClassId) (g : Nat → Nat) (p1 : Int32) (sz : Nat) : Met l yX9_isPlayer (ww yX9_isPlayer cX9_isPlayer 2 (some .boolean)) ({ frames := 2, cells := 0, slots := 0, locals := 128 }) (va_Pc [.ref (g 60), .int p1] (pre D cy [(g 60, .inr (9, mF g)), (g 17, .inl (cy 0, 25, .inl (fun _ => 0)))] sz)) (qi D cy (va_A [(g 60, .inr (9, mF g)), (g 17, .inl (cy 0, 25, .inl (fun _ => 0)))] sz) (fun (r : Int32) (_ : Unit) => r = 0) (fun (_ : Unit) => [(g 60, .inr (9, mF g)), (g 17, .inl (cy 0, 25, .inl (fun _ => 0)))])) 0 0 (va_A [(g 60, .inr (9, mF g)), (g 17, .inl (cy 0, 25, .inl (fun _ => 0)))] sz) := by
  refine Met.ofW (cc := cX9_isPlayer) (maxL := 2) (ret := (some .boolean)) (by decide) rfl ?_
  intro p e s m args below meth c s₁ B hml hv
  obtain ⟨rfl, hsz, hP, hK, hD0⟩ := hv
  have hx := B.exec
  have hb := B.bytes
  have hr := B.returns
  have hts := hts_g (atoms_spec (ws := ww yX9_isPlayer cX9_isPlayer 2 (some .boolean)) B.pre)
  have hown : s.vm.findClass RX9 = some m.cls := findClass_of_methodNamed B.named
  have hlocks := B.notSynchronized
  subst hsz
  have hD := hD0.self (sz := s.heap.size)
  generalize hAe : va_A [(g 60, .inr (9, mF g)), (g 17, .inl (cy 0, 25, .inl (fun _ => 0)))] s.heap.size = A at hD ⊢
  have hA : ∀ q : Nat, s.heap.size ≤ q → A q := fun q h => by rw [← hAe]; exact Or.inr h
  have hS : va_S A s.heap s.heap [] := va_S.rf
  have hl := lv_entry ([.ref (g 60), .int p1]) (n := 2) (Nat.le_of_ble_eq_true rfl)
  rw [lg_entry_eq]
  generalize (lg_sl ([.ref (g 60), .int p1]) ++ List.replicate (2 - (lg_sl ([.ref (g 60), .int p1])).length) Slot.unset).toArray = ls at hl ⊢
  have hl : lv_has ls 2 [(0, .ref (g 60)), (1, .int p1)] := hl
  refine lv_iload_n hx hb dX9_isPlayer_0 rfl (lv_at hl 1 rfl) ?_
  refine lv_i2l (v := p1.toInt64) hx hb dX9_isPlayer_1 rfl ?_
  refine lv_lconst (v := 0) hx hb dX9_isPlayer_2 (by decide) ?_
  refine lv_aload_n hx hb dX9_isPlayer_3 rfl (lv_at hl 0 rfl) ?_
  refine va_get (D := D) (ci := 9) (v := .ref (g 17)) (C := RX9) (T := TX9) (N := 60) hx hb hts iX9 hown hK hP 0 rfl rfl 17 (by decide) (hts _ q1377) (fun _ h9 => h9) rfl dX9_isPlayer_4 ?_
  refine lv_iconst (v := 3) hx hb dX9_isPlayer_7 (by decide) ?_
  refine va_iald hx hb hK hP 1 0 rfl rfl (vpi (by decide)) dX9_isPlayer_8 ?_
  refine lv_topi (fun x_1 ex_1 => ?_)
  obtain rfl : x_1 = 0 := ex_1.trans (by decide)
  refine lv_iconst (v := 1) hx hb dX9_isPlayer_9 (by decide) ?_
  refine lv_isub hx hb dX9_isPlayer_10 ?_
  refine lv_topi (fun x_2 ex_2 => ?_)
  obtain rfl : x_2 = (-1) := ex_2.trans (by decide)
  refine lv_i2l (v := (-1)) hx hb dX9_isPlayer_11 (by decide) ?_
  have hPc := hP.sub (ws' := []) [] rfl
  have hDc := hD.sub (ws' := []) [] (by decide) rfl
  have hFc := va_free (wc := []) hD hS hA [] rfl
  refine va_calli (va_runS (As := [.long p1.toInt64, .long 0, .long (-1)]) (rest := []) ⟨hx, hb, hml, hown, hts⟩ (c_X9_in l D cy p1.toInt64 0 (-1) s.heap.size) (va_cwS 3 hts (gd_S q1550 q1551 q134 q1552) rfl rfl rfl (by decide +kernel) ⟨Nat.le_of_ble_eq_true rfl, Nat.le_of_ble_eq_true rfl⟩) (pr_S hPc hK hDc) rfl rfl hl.1 rfl (lv_room (Nat.le_of_ble_eq_true rfl)) dX9_isPlayer_12 ⟨Nat.le_of_ble_eq_true rfl, Nat.le_of_ble_eq_true rfl⟩) hS (fun q _ h => hFc q h) hFc (fun r_3 u tS H1 locs ht hvm hw hB hz1 hk1 hS => ?_)
  obtain ⟨hP1, hK1, hD1⟩ := hB
  rw [ht] at hP1
  try dsimp only at hw
  obtain ⟨hP, hD⟩ := va_join (wr := [(g 60, .inr (9, mF g)), (g 17, .inl (cy 0, 25, .inl (fun _ => 0)))]) (w1 := []) hP hD [] [0, 1] rfl rfl (by decide) (by decide) hk1 hFc hP1 hD1
  generalize H1 = H at hP hS ⊢
  have hP : va_P D clz [(g 60, .inr (9, mF g)), (g 17, .inl (cy 0, 25, .inl (fun _ => 0)))] H := hP
  have hD : va_D A [(g 60, .inr (9, mF g)), (g 17, .inl (cy 0, 25, .inl (fun _ => 0)))] := hD
  by_cases hc_4 : ((0 : Int64) ≤ p1.toInt64 ∧ p1.toInt64 ≤ ((-1) : Int64))
  ·
    rw [if_pos hc_4] at hw
    subst hw
    exact False.elim (by have f0 := bp64 hc_4; have z64m1 : ((-1) : Int64).toInt = (-1) := (by decide); have z640 : (0 : Int64).toInt = 0 := (by decide); have wp1 : p1.toInt64.toInt = p1.toInt := Int32.toInt_toInt64 p1; omega)
  ·
    rw [if_neg hc_4] at hw
    subst hw
    have hP9 := hP.sub (ws' := [(g 60, .inr (9, mF g)), (g 17, .inl (cy 0, 25, .inl (fun _ => 0)))]) [0, 1] rfl
    have hD9 := hD.sub (ws' := [(g 60, .inr (9, mF g)), (g 17, .inl (cy 0, 25, .inl (fun _ => 0)))]) [0, 1] (by decide) rfl
    exact W.zret (v := 0) hx hb hr rfl (fun tS ht hW => ⟨⟨0, (), rfl, rfl, by rw [ht]; exact hP9, va_K.moved hW.alike hK, hD9⟩, hS.F ht⟩) hS.2.2 dX9_isPlayer_15

theorem q1725 : Cond.code yX9_isPart cX9_isPart 2 (some .boolean) ∈ lw_g := lw_gm (List.mem_of_getElem? (i := 1725) (by decide +kernel)) rfl
theorem dX9_isPart_0 : decode cX9_isPart 0 = .ok (.iload_n 1, 1) := by decide +kernel
theorem dX9_isPart_1 : decode cX9_isPart 1 = .ok (.i2l, 1) := by decide +kernel
theorem dX9_isPart_2 : decode cX9_isPart 2 = .ok (.lconst 0, 1) := by decide +kernel
theorem dX9_isPart_3 : decode cX9_isPart 3 = .ok (.aload_n 0, 1) := by decide +kernel
theorem dX9_isPart_4 : decode cX9_isPart 4 = .ok (.getfield 34, 3) := by decide +kernel
theorem dX9_isPart_7 : decode cX9_isPart 7 = .ok (.iconst 4, 1) := by decide +kernel
theorem dX9_isPart_8 : decode cX9_isPart 8 = .ok (.iaload, 1) := by decide +kernel
theorem dX9_isPart_9 : decode cX9_isPart 9 = .ok (.iconst 1, 1) := by decide +kernel
theorem dX9_isPart_10 : decode cX9_isPart 10 = .ok (.isub, 1) := by decide +kernel
theorem dX9_isPart_11 : decode cX9_isPart 11 = .ok (.i2l, 1) := by decide +kernel
theorem dX9_isPart_12 : decode cX9_isPart 12 = .ok (.invokestatic 134, 3) := by decide +kernel
theorem dX9_isPart_15 : decode cX9_isPart 15 = .ok (.ireturn, 1) := by decide +kernel
set_option maxHeartbeats 4000000 in
set_option maxRecDepth 100000 in
theorem c_X9_isPart (l : Launch) (D : va_G) (cy : Nat → ClassId) (g : Nat → Nat) (p1 : Int32) (sz : Nat) : Met l yX9_isPart (ww yX9_isPart cX9_isPart 2 (some .boolean)) ({ frames := 2, cells := 0, slots := 0, locals := 128 }) (va_Pc [.ref (g 60), .int p1] (pre D cy [(g 60, .inr (9, mF g)), (g 17, .inl (cy 0, 25, .inl (fun _ => 0)))] sz)) (qi D cy (va_A [(g 60, .inr (9, mF g)), (g 17, .inl (cy 0, 25, .inl (fun _ => 0)))] sz) (fun (r : Int32) (_ : Unit) => r = 0) (fun (_ : Unit) => [(g 60, .inr (9, mF g)), (g 17, .inl (cy 0, 25, .inl (fun _ => 0)))])) 0 0 (va_A [(g 60, .inr (9, mF g)), (g 17, .inl (cy 0, 25, .inl (fun _ => 0)))] sz) := by
  refine Met.ofW (cc := cX9_isPart) (maxL := 2) (ret := (some .boolean)) (by decide) rfl ?_
  intro p e s m args below meth c s₁ B hml hv
  obtain ⟨rfl, hsz, hP, hK, hD0⟩ := hv
  have hx := B.exec
  have hb := B.bytes
  have hr := B.returns
  have hts := hts_g (atoms_spec (ws := ww yX9_isPart cX9_isPart 2 (some .boolean)) B.pre)
  have hown : s.vm.findClass RX9 = some m.cls := findClass_of_methodNamed B.named
  have hlocks := B.notSynchronized
  subst hsz
  have hD := hD0.self (sz := s.heap.size)
  generalize hAe : va_A [(g 60, .inr (9, mF g)), (g 17, .inl (cy 0, 25, .inl (fun _ => 0)))] s.heap.size = A at hD ⊢
  have hA : ∀ q : Nat, s.heap.size ≤ q → A q := fun q h => by rw [← hAe]; exact Or.inr h
  have hS : va_S A s.heap s.heap [] := va_S.rf
  have hl := lv_entry ([.ref (g 60), .int p1]) (n := 2) (Nat.le_of_ble_eq_true rfl)
  rw [lg_entry_eq]
  generalize (lg_sl ([.ref (g 60), .int p1]) ++ List.replicate (2 - (lg_sl ([.ref (g 60), .int p1])).length) Slot.unset).toArray = ls at hl ⊢
  have hl : lv_has ls 2 [(0, .ref (g 60)), (1, .int p1)] := hl
  refine lv_iload_n hx hb dX9_isPart_0 rfl (lv_at hl 1 rfl) ?_
  refine lv_i2l (v := p1.toInt64) hx hb dX9_isPart_1 rfl ?_
  refine lv_lconst (v := 0) hx hb dX9_isPart_2 (by decide) ?_
  refine lv_aload_n hx hb dX9_isPart_3 rfl (lv_at hl 0 rfl) ?_
  refine va_get (D := D) (ci := 9) (v := .ref (g 17)) (C := RX9) (T := TX9) (N := 60) hx hb hts iX9 hown hK hP 0 rfl rfl 17 (by decide) (hts _ q1377) (fun _ h9 => h9) rfl dX9_isPart_4 ?_
  refine lv_iconst (v := 4) hx hb dX9_isPart_7 (by decide) ?_
  refine va_iald hx hb hK hP 1 0 rfl rfl (vpi (by decide)) dX9_isPart_8 ?_
  refine lv_topi (fun x_1 ex_1 => ?_)
  obtain rfl : x_1 = 0 := ex_1.trans (by decide)
  refine lv_iconst (v := 1) hx hb dX9_isPart_9 (by decide) ?_
  refine lv_isub hx hb dX9_isPart_10 ?_
  refine lv_topi (fun x_2 ex_2 => ?_)
  obtain rfl : x_2 = (-1) := ex_2.trans (by decide)
  refine lv_i2l (v := (-1)) hx hb dX9_isPart_11 (by decide) ?_
  have hPc := hP.sub (ws' := []) [] rfl
  have hDc := hD.sub (ws' := []) [] (by decide) rfl
  have hFc := va_free (wc := []) hD hS hA [] rfl
  refine va_calli (va_runS (As := [.long p1.toInt64, .long 0, .long (-1)]) (rest := []) ⟨hx, hb, hml, hown, hts⟩ (c_X9_in l D cy p1.toInt64 0 (-1) s.heap.size) (va_cwS 3 hts (gd_S q1550 q1551 q134 q1552) rfl rfl rfl (by decide +kernel) ⟨Nat.le_of_ble_eq_true rfl, Nat.le_of_ble_eq_true rfl⟩) (pr_S hPc hK hDc) rfl rfl hl.1 rfl (lv_room (Nat.le_of_ble_eq_true rfl)) dX9_isPart_12 ⟨Nat.le_of_ble_eq_true rfl, Nat.le_of_ble_eq_true rfl⟩) hS (fun q _ h => hFc q h) hFc (fun r_3 u tS H1 locs ht hvm hw hB hz1 hk1 hS => ?_)
  obtain ⟨hP1, hK1, hD1⟩ := hB
  rw [ht] at hP1
  try dsimp only at hw
  obtain ⟨hP, hD⟩ := va_join (wr := [(g 60, .inr (9, mF g)), (g 17, .inl (cy 0, 25, .inl (fun _ => 0)))]) (w1 := []) hP hD [] [0, 1] rfl rfl (by decide) (by decide) hk1 hFc hP1 hD1
  generalize H1 = H at hP hS ⊢
  have hP : va_P D clz [(g 60, .inr (9, mF g)), (g 17, .inl (cy 0, 25, .inl (fun _ => 0)))] H := hP
  have hD : va_D A [(g 60, .inr (9, mF g)), (g 17, .inl (cy 0, 25, .inl (fun _ => 0)))] := hD
  by_cases hc_4 : ((0 : Int64) ≤ p1.toInt64 ∧ p1.toInt64 ≤ ((-1) : Int64))
  ·
    rw [if_pos hc_4] at hw
    subst hw
    exact False.elim (by have f0 := bp64 hc_4; have z64m1 : ((-1) : Int64).toInt = (-1) := (by decide); have z640 : (0 : Int64).toInt = 0 := (by decide); have wp1 : p1.toInt64.toInt = p1.toInt := Int32.toInt_toInt64 p1; omega)
  ·
    rw [if_neg hc_4] at hw
    subst hw
    have hP9 := hP.sub (ws' := [(g 60, .inr (9, mF g)), (g 17, .inl (cy 0, 25, .inl (fun _ => 0)))]) [0, 1] rfl
    have hD9 := hD.sub (ws' := [(g 60, .inr (9, mF g)), (g 17, .inl (cy 0, 25, .inl (fun _ => 0)))]) [0, 1] (by decide) rfl
    exact W.zret (v := 0) hx hb hr rfl (fun tS ht hW => ⟨⟨0, (), rfl, rfl, by rw [ht]; exact hP9, va_K.moved hW.alike hK, hD9⟩, hS.F ht⟩) hS.2.2 dX9_isPart_15

theorem q1721 : Cond.code yX9_isTone cX9_isTone 3 (some .boolean) ∈ lw_g := lw_gm (List.mem_of_getElem? (i := 1721) (by decide +kernel)) rfl
theorem q1722 : Cond.methodLink RX9 303 yX9_isPart ∈ lw_g := lw_gm (List.mem_of_getElem? (i := 1722) (by decide +kernel)) rfl
theorem q1724 : Cond.instanceMethod yX9_isPart ∈ lw_g := lw_gm (List.mem_of_getElem? (i := 1724) (by decide +kernel)) rfl
theorem q74 : Cond.selects RX9 yX9_isPart yX9_isPart ∈ lw_g := lw_gm (List.mem_of_getElem? (i := 74) (by decide +kernel)) rfl
theorem dX9_isTone_0 : decode cX9_isTone 0 = .ok (.aload_n 0, 1) := by decide +kernel
theorem dX9_isTone_1 : decode cX9_isTone 1 = .ok (.iload_n 1, 1) := by decide +kernel
theorem dX9_isTone_2 : decode cX9_isTone 2 = .ok (.invokevirtual 303, 3) := by decide +kernel
theorem dX9_isTone_5 : decode cX9_isTone 5 = .ok (.ifCond .eq 25, 3) := by decide +kernel
theorem dX9_isTone_30 : decode cX9_isTone 30 = .ok (.iconst 0, 1) := by decide +kernel
theorem dX9_isTone_31 : decode cX9_isTone 31 = .ok (.ireturn, 1) := by decide +kernel
set_option maxHeartbeats 4000000 in
set_option maxRecDepth 100000 in
theorem c_X9_isTone (l : Launch) (D : va_G) (cy : Nat → ClassId) (g : Nat → Nat) (p1 : Int32) (p2 : Int32) (sz : Nat) : Met l yX9_isTone (ww yX9_isTone cX9_isTone 3 (some .boolean)) ({ frames := 3, cells := 0, slots := 0, locals := 192 }) (va_Pc [.ref (g 60), .int p1, .int p2] (pre D cy [(g 60, .inr (9, mF g)), (g 17, .inl (cy 0, 25, .inl (fun _ => 0)))] sz)) (qi D cy (va_A [(g 60, .inr (9, mF g)), (g 17, .inl (cy 0, 25, .inl (fun _ => 0)))] sz) (fun (r : Int32) (_ : Unit) => r = 0) (fun (_ : Unit) => [(g 60, .inr (9, mF g)), (g 17, .inl (cy 0, 25, .inl (fun _ => 0)))])) 0 0 (va_A [(g 60, .inr (9, mF g)), (g 17, .inl (cy 0, 25, .inl (fun _ => 0)))] sz) := by
  refine Met.ofW (cc := cX9_isTone) (maxL := 3) (ret := (some .boolean)) (by decide) rfl ?_
  intro p e s m args below meth c s₁ B hml hv
  obtain ⟨rfl, hsz, hP, hK, hD0⟩ := hv
  have hx := B.exec
  have hb := B.bytes
  have hr := B.returns
  have hts := hts_g (atoms_spec (ws := ww yX9_isTone cX9_isTone 3 (some .boolean)) B.pre)
  have hown : s.vm.findClass RX9 = some m.cls := findClass_of_methodNamed B.named
  have hlocks := B.notSynchronized
  subst hsz
  have hD := hD0.self (sz := s.heap.size)
  generalize hAe : va_A [(g 60, .inr (9, mF g)), (g 17, .inl (cy 0, 25, .inl (fun _ => 0)))] s.heap.size = A at hD ⊢
  have hA : ∀ q : Nat, s.heap.size ≤ q → A q := fun q h => by rw [← hAe]; exact Or.inr h
  have hS : va_S A s.heap s.heap [] := va_S.rf
  have hl := lv_entry ([.ref (g 60), .int p1, .int p2]) (n := 3) (Nat.le_of_ble_eq_true rfl)
  rw [lg_entry_eq]
  generalize (lg_sl ([.ref (g 60), .int p1, .int p2]) ++ List.replicate (3 - (lg_sl ([.ref (g 60), .int p1, .int p2])).length) Slot.unset).toArray = ls at hl ⊢
  have hl : lv_has ls 3 [(0, .ref (g 60)), (1, .int p1), (2, .int p2)] := hl
  refine lv_aload_n hx hb dX9_isTone_0 rfl (lv_at hl 0 rfl) ?_
  refine lv_iload_n hx hb dX9_isTone_1 rfl (lv_at hl 1 rfl) ?_
  have hPc := hP.sub (ws' := [(g 60, .inr (9, mF g)), (g 17, .inl (cy 0, 25, .inl (fun _ => 0)))]) [0, 1] rfl
  have hDc := hD.sub (ws' := [(g 60, .inr (9, mF g)), (g 17, .inl (cy 0, 25, .inl (fun _ => 0)))]) [0, 1] (by decide) rfl
  have hFc := va_free (wc := [(g 60, .inr (9, mF g)), (g 17, .inl (cy 0, 25, .inl (fun _ => 0)))]) hD hS hA [0, 1] rfl
  refine va_calli (va_runV (As := [.int p1]) (rest := []) ⟨hx, hb, hml, hown, hts⟩ (c_X9_isPart l D cy g p1 s.heap.size) (cwV 1 hts (gd_V q1722 q1724 q74 q134 q1725) rfl rfl rfl (by decide +kernel) ⟨Nat.le_of_ble_eq_true rfl, Nat.le_of_ble_eq_true rfl⟩) (pr_V hPc hK hDc (va_recv hK hPc (ci := 9) (q0 := 0) rfl rfl)) rfl rfl hl.1 rfl (lv_room (Nat.le_of_ble_eq_true rfl)) dX9_isTone_2 ⟨Nat.le_of_ble_eq_true rfl, Nat.le_of_ble_eq_true rfl⟩) hS (fun q _ h => hFc q h) hFc (fun r_1 u tS H1 locs ht hvm hw hB hz1 hk1 hS => ?_)
  obtain ⟨hP1, hK1, hD1⟩ := hB
  rw [ht] at hP1
  try dsimp only at hw
  obtain ⟨hP, hD⟩ := va_join (wr := []) (w1 := [(g 60, .inr (9, mF g)), (g 17, .inl (cy 0, 25, .inl (fun _ => 0)))]) hP hD [0, 1] [] rfl rfl (by decide) (by decide) hk1 hFc hP1 hD1
  generalize H1 = H at hP hS ⊢
  have hP : va_P D clz [(g 60, .inr (9, mF g)), (g 17, .inl (cy 0, 25, .inl (fun _ => 0)))] H := hP
  have hD : va_D A [(g 60, .inr (9, mF g)), (g 17, .inl (cy 0, 25, .inl (fun _ => 0)))] := hD
  subst hw
  refine lv_if_eq (tgt := 30) hx hb dX9_isTone_5 (by decide) (fun _ => ?_) (fun c9 => absurd c9 (by decide))
  refine lv_iconst (v := 0) hx hb dX9_isTone_30 (by decide) ?_
  have hP9 := hP.sub (ws' := [(g 60, .inr (9, mF g)), (g 17, .inl (cy 0, 25, .inl (fun _ => 0)))]) [0, 1] rfl
  have hD9 := hD.sub (ws' := [(g 60, .inr (9, mF g)), (g 17, .inl (cy 0, 25, .inl (fun _ => 0)))]) [0, 1] (by decide) rfl
  exact W.zret (v := 0) hx hb hr rfl (fun tS ht hW => ⟨⟨0, (), rfl, rfl, by rw [ht]; exact hP9, va_K.moved hW.alike hK, hD9⟩, hS.F ht⟩) hS.2.2 dX9_isTone_31

theorem q1825 : Cond.code yX9_isPlaying cX9_isPlaying 3 (some .boolean) ∈ lw_g := lw_gm (List.mem_of_getElem? (i := 1825) (by decide +kernel)) rfl
theorem q1710 : Cond.methodLink RX9 317 yX9_isPlayer ∈ lw_g := lw_gm (List.mem_of_getElem? (i := 1710) (by decide +kernel)) rfl
theorem q1712 : Cond.instanceMethod yX9_isPlayer ∈ lw_g := lw_gm (List.mem_of_getElem? (i := 1712) (by decide +kernel)) rfl
theorem q72 : Cond.selects RX9 yX9_isPlayer yX9_isPlayer ∈ lw_g := lw_gm (List.mem_of_getElem? (i := 72) (by decide +kernel)) rfl
theorem dX9_isPlaying_0 : decode cX9_isPlaying 0 = .ok (.aload_n 0, 1) := by decide +kernel
theorem dX9_isPlaying_1 : decode cX9_isPlaying 1 = .ok (.iload_n 1, 1) := by decide +kernel
theorem dX9_isPlaying_2 : decode cX9_isPlaying 2 = .ok (.invokevirtual 317, 3) := by decide +kernel
theorem dX9_isPlaying_5 : decode cX9_isPlaying 5 = .ok (.ifCond .eq 15, 3) := by decide +kernel
theorem dX9_isPlaying_20 : decode cX9_isPlaying 20 = .ok (.iconst 0, 1) := by decide +kernel
theorem dX9_isPlaying_21 : decode cX9_isPlaying 21 = .ok (.ireturn, 1) := by decide +kernel
set_option maxHeartbeats 4000000 in
set_option maxRecDepth 100000 in
theorem c_X9_isPlaying (l : Launch) (D : va_G) (cy : Nat → ClassId) (g : Nat → Nat) (p1 : Int32) (p2 : Int32) (sz : Nat) : Met l yX9_isPlaying (ww yX9_isPlaying cX9_isPlaying 3 (some .boolean)) ({ frames := 3, cells := 0, slots := 0, locals := 192 }) (va_Pc [.ref (g 60), .int p1, .int p2] (pre D cy [(g 60, .inr (9, mF g)), (g 17, .inl (cy 0, 25, .inl (fun _ => 0)))] sz)) (qi D cy (va_A [(g 60, .inr (9, mF g)), (g 17, .inl (cy 0, 25, .inl (fun _ => 0)))] sz) (fun (r : Int32) (_ : Unit) => r = 0) (fun (_ : Unit) => [(g 60, .inr (9, mF g)), (g 17, .inl (cy 0, 25, .inl (fun _ => 0)))])) 0 0 (va_A [(g 60, .inr (9, mF g)), (g 17, .inl (cy 0, 25, .inl (fun _ => 0)))] sz) := by
  refine Met.ofW (cc := cX9_isPlaying) (maxL := 3) (ret := (some .boolean)) (by decide) rfl ?_
  intro p e s m args below meth c s₁ B hml hv
  obtain ⟨rfl, hsz, hP, hK, hD0⟩ := hv
  have hx := B.exec
  have hb := B.bytes
  have hr := B.returns
  have hts := hts_g (atoms_spec (ws := ww yX9_isPlaying cX9_isPlaying 3 (some .boolean)) B.pre)
  have hown : s.vm.findClass RX9 = some m.cls := findClass_of_methodNamed B.named
  have hlocks := B.notSynchronized
  subst hsz
  have hD := hD0.self (sz := s.heap.size)
  generalize hAe : va_A [(g 60, .inr (9, mF g)), (g 17, .inl (cy 0, 25, .inl (fun _ => 0)))] s.heap.size = A at hD ⊢
  have hA : ∀ q : Nat, s.heap.size ≤ q → A q := fun q h => by rw [← hAe]; exact Or.inr h
  have hS : va_S A s.heap s.heap [] := va_S.rf
  have hl := lv_entry ([.ref (g 60), .int p1, .int p2]) (n := 3) (Nat.le_of_ble_eq_true rfl)
  rw [lg_entry_eq]
  generalize (lg_sl ([.ref (g 60), .int p1, .int p2]) ++ List.replicate (3 - (lg_sl ([.ref (g 60), .int p1, .int p2])).length) Slot.unset).toArray = ls at hl ⊢
  have hl : lv_has ls 3 [(0, .ref (g 60)), (1, .int p1), (2, .int p2)] := hl
  refine lv_aload_n hx hb dX9_isPlaying_0 rfl (lv_at hl 0 rfl) ?_
  refine lv_iload_n hx hb dX9_isPlaying_1 rfl (lv_at hl 1 rfl) ?_
  have hPc := hP.sub (ws' := [(g 60, .inr (9, mF g)), (g 17, .inl (cy 0, 25, .inl (fun _ => 0)))]) [0, 1] rfl
  have hDc := hD.sub (ws' := [(g 60, .inr (9, mF g)), (g 17, .inl (cy 0, 25, .inl (fun _ => 0)))]) [0, 1] (by decide) rfl
  have hFc := va_free (wc := [(g 60, .inr (9, mF g)), (g 17, .inl (cy 0, 25, .inl (fun _ => 0)))]) hD hS hA [0, 1] rfl
  refine va_calli (va_runV (As := [.int p1]) (rest := []) ⟨hx, hb, hml, hown, hts⟩ (c_X9_isPlayer l D cy g p1 s.heap.size) (cwV 1 hts (gd_V q1710 q1712 q72 q134 q1713) rfl rfl rfl (by decide +kernel) ⟨Nat.le_of_ble_eq_true rfl, Nat.le_of_ble_eq_true rfl⟩) (pr_V hPc hK hDc (va_recv hK hPc (ci := 9) (q0 := 0) rfl rfl)) rfl rfl hl.1 rfl (lv_room (Nat.le_of_ble_eq_true rfl)) dX9_isPlaying_2 ⟨Nat.le_of_ble_eq_true rfl, Nat.le_of_ble_eq_true rfl⟩) hS (fun q _ h => hFc q h) hFc (fun r_1 u tS H1 locs ht hvm hw hB hz1 hk1 hS => ?_)
  obtain ⟨hP1, hK1, hD1⟩ := hB
  rw [ht] at hP1
  try dsimp only at hw
  obtain ⟨hP, hD⟩ := va_join (wr := []) (w1 := [(g 60, .inr (9, mF g)), (g 17, .inl (cy 0, 25, .inl (fun _ => 0)))]) hP hD [0, 1] [] rfl rfl (by decide) (by decide) hk1 hFc hP1 hD1
  generalize H1 = H at hP hS ⊢
  have hP : va_P D clz [(g 60, .inr (9, mF g)), (g 17, .inl (cy 0, 25, .inl (fun _ => 0)))] H := hP
  have hD : va_D A [(g 60, .inr (9, mF g)), (g 17, .inl (cy 0, 25, .inl (fun _ => 0)))] := hD
  subst hw
  refine lv_if_eq (tgt := 20) hx hb dX9_isPlaying_5 (by decide) (fun _ => ?_) (fun c9 => absurd c9 (by decide))
  refine lv_iconst (v := 0) hx hb dX9_isPlaying_20 (by decide) ?_
  have hP9 := hP.sub (ws' := [(g 60, .inr (9, mF g)), (g 17, .inl (cy 0, 25, .inl (fun _ => 0)))]) [0, 1] rfl
  have hD9 := hD.sub (ws' := [(g 60, .inr (9, mF g)), (g 17, .inl (cy 0, 25, .inl (fun _ => 0)))]) [0, 1] (by decide) rfl
  exact W.zret (v := 0) hx hb hr rfl (fun tS ht hW => ⟨⟨0, (), rfl, rfl, by rw [ht]; exact hP9, va_K.moved hW.alike hK, hD9⟩, hS.F ht⟩) hS.2.2 dX9_isPlaying_21

theorem q1762 : Cond.code yX9_isAsked cX9_isAsked 5 (some .boolean) ∈ lw_g := lw_gm (List.mem_of_getElem? (i := 1762) (by decide +kernel)) rfl
theorem q1701 : Cond.methodLink RX9 312 yX9_isBrass ∈ lw_g := lw_gm (List.mem_of_getElem? (i := 1701) (by decide +kernel)) rfl
theorem q1703 : Cond.instanceMethod yX9_isBrass ∈ lw_g := lw_gm (List.mem_of_getElem? (i := 1703) (by decide +kernel)) rfl
theorem q71 : Cond.selects RX9 yX9_isBrass yX9_isBrass ∈ lw_g := lw_gm (List.mem_of_getElem? (i := 71) (by decide +kernel)) rfl
theorem dX9_isAsked_0 : decode cX9_isAsked 0 = .ok (.aload_n 0, 1) := by decide +kernel
theorem dX9_isAsked_1 : decode cX9_isAsked 1 = .ok (.iload_n 1, 1) := by decide +kernel
theorem dX9_isAsked_2 : decode cX9_isAsked 2 = .ok (.invokevirtual 312, 3) := by decide +kernel
theorem dX9_isAsked_5 : decode cX9_isAsked 5 = .ok (.ifCond .eq 34, 3) := by decide +kernel
theorem dX9_isAsked_39 : decode cX9_isAsked 39 = .ok (.iconst 0, 1) := by decide +kernel
theorem dX9_isAsked_40 : decode cX9_isAsked 40 = .ok (.ireturn, 1) := by decide +kernel
set_option maxHeartbeats 4000000 in
set_option maxRecDepth 100000 in
theorem c_X9_isAsked (l : Launch) (D : va_G) (cy : Nat → ClassId) (g : Nat → Nat) (p1 : Int32) (p2 : Int32) (p3 : Int32) (p4 : Int32) (sz : Nat) : Met l yX9_isAsked (ww yX9_isAsked cX9_isAsked 5 (some .boolean)) ({ frames := 3, cells := 0, slots := 0, locals := 192 }) (va_Pc [.ref (g 60), .int p1, .int p2, .int p3, .int p4] (pre D cy [(g 60, .inr (9, mF g)), (g 17, .inl (cy 0, 25, .inl (fun _ => 0)))] sz)) (qi D cy (va_A [(g 60, .inr (9, mF g)), (g 17, .inl (cy 0, 25, .inl (fun _ => 0)))] sz) (fun (r : Int32) (_ : Unit) => r = 0) (fun (_ : Unit) => [(g 60, .inr (9, mF g)), (g 17, .inl (cy 0, 25, .inl (fun _ => 0)))])) 0 0 (va_A [(g 60, .inr (9, mF g)), (g 17, .inl (cy 0, 25, .inl (fun _ => 0)))] sz) := by
  refine Met.ofW (cc := cX9_isAsked) (maxL := 5) (ret := (some .boolean)) (by decide) rfl ?_
  intro p e s m args below meth c s₁ B hml hv
  obtain ⟨rfl, hsz, hP, hK, hD0⟩ := hv
  have hx := B.exec
  have hb := B.bytes
  have hr := B.returns
  have hts := hts_g (atoms_spec (ws := ww yX9_isAsked cX9_isAsked 5 (some .boolean)) B.pre)
  have hown : s.vm.findClass RX9 = some m.cls := findClass_of_methodNamed B.named
  have hlocks := B.notSynchronized
  subst hsz
  have hD := hD0.self (sz := s.heap.size)
  generalize hAe : va_A [(g 60, .inr (9, mF g)), (g 17, .inl (cy 0, 25, .inl (fun _ => 0)))] s.heap.size = A at hD ⊢
  have hA : ∀ q : Nat, s.heap.size ≤ q → A q := fun q h => by rw [← hAe]; exact Or.inr h
  have hS : va_S A s.heap s.heap [] := va_S.rf
  have hl := lv_entry ([.ref (g 60), .int p1, .int p2, .int p3, .int p4]) (n := 5) (Nat.le_of_ble_eq_true rfl)
  rw [lg_entry_eq]
  generalize (lg_sl ([.ref (g 60), .int p1, .int p2, .int p3, .int p4]) ++ List.replicate (5 - (lg_sl ([.ref (g 60), .int p1, .int p2, .int p3, .int p4])).length) Slot.unset).toArray = ls at hl ⊢
  have hl : lv_has ls 5 [(0, .ref (g 60)), (1, .int p1), (2, .int p2), (3, .int p3), (4, .int p4)] := hl
  refine lv_aload_n hx hb dX9_isAsked_0 rfl (lv_at hl 0 rfl) ?_
  refine lv_iload_n hx hb dX9_isAsked_1 rfl (lv_at hl 1 rfl) ?_
  have hPc := hP.sub (ws' := [(g 60, .inr (9, mF g)), (g 17, .inl (cy 0, 25, .inl (fun _ => 0)))]) [0, 1] rfl
  have hDc := hD.sub (ws' := [(g 60, .inr (9, mF g)), (g 17, .inl (cy 0, 25, .inl (fun _ => 0)))]) [0, 1] (by decide) rfl
  have hFc := va_free (wc := [(g 60, .inr (9, mF g)), (g 17, .inl (cy 0, 25, .inl (fun _ => 0)))]) hD hS hA [0, 1] rfl
  refine va_calli (va_runV (As := [.int p1]) (rest := []) ⟨hx, hb, hml, hown, hts⟩ (c_X9_isBrass l D cy g p1 s.heap.size) (cwV 1 hts (gd_V q1701 q1703 q71 q134 q1704) rfl rfl rfl (by decide +kernel) ⟨Nat.le_of_ble_eq_true rfl, Nat.le_of_ble_eq_true rfl⟩) (pr_V hPc hK hDc (va_recv hK hPc (ci := 9) (q0 := 0) rfl rfl)) rfl rfl hl.1 rfl (lv_room (Nat.le_of_ble_eq_true rfl)) dX9_isAsked_2 ⟨Nat.le_of_ble_eq_true rfl, Nat.le_of_ble_eq_true rfl⟩) hS (fun q _ h => hFc q h) hFc (fun r_1 u tS H1 locs ht hvm hw hB hz1 hk1 hS => ?_)
  obtain ⟨hP1, hK1, hD1⟩ := hB
  rw [ht] at hP1
  try dsimp only at hw
  obtain ⟨hP, hD⟩ := va_join (wr := []) (w1 := [(g 60, .inr (9, mF g)), (g 17, .inl (cy 0, 25, .inl (fun _ => 0)))]) hP hD [0, 1] [] rfl rfl (by decide) (by decide) hk1 hFc hP1 hD1
  generalize H1 = H at hP hS ⊢
  have hP : va_P D clz [(g 60, .inr (9, mF g)), (g 17, .inl (cy 0, 25, .inl (fun _ => 0)))] H := hP
  have hD : va_D A [(g 60, .inr (9, mF g)), (g 17, .inl (cy 0, 25, .inl (fun _ => 0)))] := hD
  subst hw
  refine lv_if_eq (tgt := 39) hx hb dX9_isAsked_5 (by decide) (fun _ => ?_) (fun c9 => absurd c9 (by decide))
  refine lv_iconst (v := 0) hx hb dX9_isAsked_39 (by decide) ?_
  have hP9 := hP.sub (ws' := [(g 60, .inr (9, mF g)), (g 17, .inl (cy 0, 25, .inl (fun _ => 0)))]) [0, 1] rfl
  have hD9 := hD.sub (ws' := [(g 60, .inr (9, mF g)), (g 17, .inl (cy 0, 25, .inl (fun _ => 0)))]) [0, 1] (by decide) rfl
  exact W.zret (v := 0) hx hb hr rfl (fun tS ht hW => ⟨⟨0, (), rfl, rfl, by rw [ht]; exact hP9, va_K.moved hW.alike hK, hD9⟩, hS.F ht⟩) hS.2.2 dX9_isAsked_40

theorem q1999 : Cond.code yX9_areDoubles cX9_areDoubles 3 (some .boolean) ∈ lw_g := lw_gm (List.mem_of_getElem? (i := 1999) (by decide +kernel)) rfl
theorem dX9_areDoubles_0 : decode cX9_areDoubles 0 = .ok (.aload_n 0, 1) := by decide +kernel
theorem dX9_areDoubles_1 : decode cX9_areDoubles 1 = .ok (.iload_n 2, 1) := by decide +kernel
theorem dX9_areDoubles_2 : decode cX9_areDoubles 2 = .ok (.invokevirtual 303, 3) := by decide +kernel
theorem dX9_areDoubles_5 : decode cX9_areDoubles 5 = .ok (.ifCond .eq 31, 3) := by decide +kernel
theorem dX9_areDoubles_36 : decode cX9_areDoubles 36 = .ok (.iconst 0, 1) := by decide +kernel
theorem dX9_areDoubles_37 : decode cX9_areDoubles 37 = .ok (.ireturn, 1) := by decide +kernel
set_option maxHeartbeats 4000000 in
set_option maxRecDepth 100000 in
theorem c_X9_areDoubles (l : Launch) (D : va_G) (cy : Nat → ClassId) (g : Nat → Nat) (p1 : Int32) (p2 : Int32) (sz : Nat) : Met l yX9_areDoubles (ww yX9_areDoubles cX9_areDoubles 3 (some .boolean)) ({ frames := 3, cells := 0, slots := 0, locals := 192 }) (va_Pc [.ref (g 60), .int p1, .int p2] (pre D cy [(g 60, .inr (9, mF g)), (g 17, .inl (cy 0, 25, .inl (fun _ => 0)))] sz)) (qi D cy (va_A [(g 60, .inr (9, mF g)), (g 17, .inl (cy 0, 25, .inl (fun _ => 0)))] sz) (fun (r : Int32) (_ : Unit) => r = 0) (fun (_ : Unit) => [(g 60, .inr (9, mF g)), (g 17, .inl (cy 0, 25, .inl (fun _ => 0)))])) 0 0 (va_A [(g 60, .inr (9, mF g)), (g 17, .inl (cy 0, 25, .inl (fun _ => 0)))] sz) := by
  refine Met.ofW (cc := cX9_areDoubles) (maxL := 3) (ret := (some .boolean)) (by decide) rfl ?_
  intro p e s m args below meth c s₁ B hml hv
  obtain ⟨rfl, hsz, hP, hK, hD0⟩ := hv
  have hx := B.exec
  have hb := B.bytes
  have hr := B.returns
  have hts := hts_g (atoms_spec (ws := ww yX9_areDoubles cX9_areDoubles 3 (some .boolean)) B.pre)
  have hown : s.vm.findClass RX9 = some m.cls := findClass_of_methodNamed B.named
  have hlocks := B.notSynchronized
  subst hsz
  have hD := hD0.self (sz := s.heap.size)
  generalize hAe : va_A [(g 60, .inr (9, mF g)), (g 17, .inl (cy 0, 25, .inl (fun _ => 0)))] s.heap.size = A at hD ⊢
  have hA : ∀ q : Nat, s.heap.size ≤ q → A q := fun q h => by rw [← hAe]; exact Or.inr h
  have hS : va_S A s.heap s.heap [] := va_S.rf
  have hl := lv_entry ([.ref (g 60), .int p1, .int p2]) (n := 3) (Nat.le_of_ble_eq_true rfl)
  rw [lg_entry_eq]
  generalize (lg_sl ([.ref (g 60), .int p1, .int p2]) ++ List.replicate (3 - (lg_sl ([.ref (g 60), .int p1, .int p2])).length) Slot.unset).toArray = ls at hl ⊢
  have hl : lv_has ls 3 [(0, .ref (g 60)), (1, .int p1), (2, .int p2)] := hl
  refine lv_aload_n hx hb dX9_areDoubles_0 rfl (lv_at hl 0 rfl) ?_
  refine lv_iload_n hx hb dX9_areDoubles_1 rfl (lv_at hl 2 rfl) ?_
  have hPc := hP.sub (ws' := [(g 60, .inr (9, mF g)), (g 17, .inl (cy 0, 25, .inl (fun _ => 0)))]) [0, 1] rfl
  have hDc := hD.sub (ws' := [(g 60, .inr (9, mF g)), (g 17, .inl (cy 0, 25, .inl (fun _ => 0)))]) [0, 1] (by decide) rfl
  have hFc := va_free (wc := [(g 60, .inr (9, mF g)), (g 17, .inl (cy 0, 25, .inl (fun _ => 0)))]) hD hS hA [0, 1] rfl
  refine va_calli (va_runV (As := [.int p2]) (rest := []) ⟨hx, hb, hml, hown, hts⟩ (c_X9_isPart l D cy g p2 s.heap.size) (cwV 1 hts (gd_V q1722 q1724 q74 q134 q1725) rfl rfl rfl (by decide +kernel) ⟨Nat.le_of_ble_eq_true rfl, Nat.le_of_ble_eq_true rfl⟩) (pr_V hPc hK hDc (va_recv hK hPc (ci := 9) (q0 := 0) rfl rfl)) rfl rfl hl.1 rfl (lv_room (Nat.le_of_ble_eq_true rfl)) dX9_areDoubles_2 ⟨Nat.le_of_ble_eq_true rfl, Nat.le_of_ble_eq_true rfl⟩) hS (fun q _ h => hFc q h) hFc (fun r_1 u tS H1 locs ht hvm hw hB hz1 hk1 hS => ?_)
  obtain ⟨hP1, hK1, hD1⟩ := hB
  rw [ht] at hP1
  try dsimp only at hw
  obtain ⟨hP, hD⟩ := va_join (wr := []) (w1 := [(g 60, .inr (9, mF g)), (g 17, .inl (cy 0, 25, .inl (fun _ => 0)))]) hP hD [0, 1] [] rfl rfl (by decide) (by decide) hk1 hFc hP1 hD1
  generalize H1 = H at hP hS ⊢
  have hP : va_P D clz [(g 60, .inr (9, mF g)), (g 17, .inl (cy 0, 25, .inl (fun _ => 0)))] H := hP
  have hD : va_D A [(g 60, .inr (9, mF g)), (g 17, .inl (cy 0, 25, .inl (fun _ => 0)))] := hD
  subst hw
  refine lv_if_eq (tgt := 36) hx hb dX9_areDoubles_5 (by decide) (fun _ => ?_) (fun c9 => absurd c9 (by decide))
  refine lv_iconst (v := 0) hx hb dX9_areDoubles_36 (by decide) ?_
  have hP9 := hP.sub (ws' := [(g 60, .inr (9, mF g)), (g 17, .inl (cy 0, 25, .inl (fun _ => 0)))]) [0, 1] rfl
  have hD9 := hD.sub (ws' := [(g 60, .inr (9, mF g)), (g 17, .inl (cy 0, 25, .inl (fun _ => 0)))]) [0, 1] (by decide) rfl
  exact W.zret (v := 0) hx hb hr rfl (fun tS ht hW => ⟨⟨0, (), rfl, rfl, by rw [ht]; exact hP9, va_K.moved hW.alike hK, hD9⟩, hS.F ht⟩) hS.2.2 dX9_areDoubles_37

theorem q2035 : Cond.code yX9_isDesk cX9_isDesk 1 (some .boolean) ∈ lw_g := lw_gm (List.mem_of_getElem? (i := 2035) (by decide +kernel)) rfl
theorem q1376 : Cond.fieldLink RX9 31 "LipsAndSlidesModel" "lines" "[I" ∈ lw_g := lw_gm (List.mem_of_getElem? (i := 1376) (by decide +kernel)) rfl
theorem dX9_isDesk_0 : decode cX9_isDesk 0 = .ok (.aload_n 0, 1) := by decide +kernel
theorem dX9_isDesk_1 : decode cX9_isDesk 1 = .ok (.getfield 31, 3) := by decide +kernel
theorem dX9_isDesk_4 : decode cX9_isDesk 4 = .ok (.iconst 0, 1) := by decide +kernel
theorem dX9_isDesk_5 : decode cX9_isDesk 5 = .ok (.iaload, 1) := by decide +kernel
theorem dX9_isDesk_6 : decode cX9_isDesk 6 = .ok (.ifCond .le 7, 3) := by decide +kernel
theorem dX9_isDesk_13 : decode cX9_isDesk 13 = .ok (.iconst 0, 1) := by decide +kernel
theorem dX9_isDesk_14 : decode cX9_isDesk 14 = .ok (.ireturn, 1) := by decide +kernel
set_option maxHeartbeats 4000000 in
set_option maxRecDepth 100000 in
theorem c_X9_isDesk (l : Launch) (D : va_G) (cy : Nat → ClassId) (g : Nat → Nat) (sz : Nat) : Met l yX9_isDesk (ww yX9_isDesk cX9_isDesk 1 (some .boolean)) ({ frames := 1, cells := 0, slots := 0, locals := 64 }) (va_Pc [.ref (g 60)] (pre D cy [(g 60, .inr (9, mF g)), (g 16, .inl (cy 0, 5, .inl (fun _ => 0)))] sz)) (qi D cy (va_A [(g 60, .inr (9, mF g)), (g 16, .inl (cy 0, 5, .inl (fun _ => 0)))] sz) (fun (r : Int32) (_ : Unit) => r = 0) (fun (_ : Unit) => [(g 60, .inr (9, mF g)), (g 16, .inl (cy 0, 5, .inl (fun _ => 0)))])) 0 0 (va_A [(g 60, .inr (9, mF g)), (g 16, .inl (cy 0, 5, .inl (fun _ => 0)))] sz) := by
  refine Met.ofW (cc := cX9_isDesk) (maxL := 1) (ret := (some .boolean)) (by decide) rfl ?_
  intro p e s m args below meth c s₁ B hml hv
  obtain ⟨rfl, hsz, hP, hK, hD0⟩ := hv
  have hx := B.exec
  have hb := B.bytes
  have hr := B.returns
  have hts := hts_g (atoms_spec (ws := ww yX9_isDesk cX9_isDesk 1 (some .boolean)) B.pre)
  have hown : s.vm.findClass RX9 = some m.cls := findClass_of_methodNamed B.named
  have hlocks := B.notSynchronized
  subst hsz
  have hD := hD0.self (sz := s.heap.size)
  generalize hAe : va_A [(g 60, .inr (9, mF g)), (g 16, .inl (cy 0, 5, .inl (fun _ => 0)))] s.heap.size = A at hD ⊢
  have hA : ∀ q : Nat, s.heap.size ≤ q → A q := fun q h => by rw [← hAe]; exact Or.inr h
  have hS : va_S A s.heap s.heap [] := va_S.rf
  have hl := lv_entry ([.ref (g 60)]) (n := 1) (Nat.le_of_ble_eq_true rfl)
  rw [lg_entry_eq]
  generalize (lg_sl ([.ref (g 60)]) ++ List.replicate (1 - (lg_sl ([.ref (g 60)])).length) Slot.unset).toArray = ls at hl ⊢
  have hl : lv_has ls 1 [(0, .ref (g 60))] := hl
  refine lv_aload_n hx hb dX9_isDesk_0 rfl (lv_at hl 0 rfl) ?_
  refine va_get (D := D) (ci := 9) (v := .ref (g 16)) (C := RX9) (T := TX9) (N := 60) hx hb hts iX9 hown hK hP 0 rfl rfl 16 (by decide) (hts _ q1376) (fun _ h9 => h9) rfl dX9_isDesk_1 ?_
  refine lv_iconst (v := 0) hx hb dX9_isDesk_4 (by decide) ?_
  refine va_iald hx hb hK hP 1 0 rfl rfl (vpi (by decide)) dX9_isDesk_5 ?_
  refine lv_topi (fun x_1 ex_1 => ?_)
  obtain rfl : x_1 = 0 := ex_1.trans (by decide)
  refine lv_if_le (tgt := 13) hx hb dX9_isDesk_6 (by decide) (fun _ => ?_) (fun c9 => absurd c9 (by decide))
  refine lv_iconst (v := 0) hx hb dX9_isDesk_13 (by decide) ?_
  have hP9 := hP.sub (ws' := [(g 60, .inr (9, mF g)), (g 16, .inl (cy 0, 5, .inl (fun _ => 0)))]) [0, 1] rfl
  have hD9 := hD.sub (ws' := [(g 60, .inr (9, mF g)), (g 16, .inl (cy 0, 5, .inl (fun _ => 0)))]) [0, 1] (by decide) rfl
  exact W.zret (v := 0) hx hb hr rfl (fun tS ht hW => ⟨⟨0, (), rfl, rfl, by rw [ht]; exact hP9, va_K.moved hW.alike hK, hD9⟩, hS.F ht⟩) hS.2.2 dX9_isDesk_14

theorem q2055 : Cond.code yX9_whyNot cX9_whyNot 4 (some .int) ∈ lw_g := lw_gm (List.mem_of_getElem? (i := 2055) (by decide +kernel)) rfl
theorem q1546 : Cond.methodLink RX9 138 yX9_isSlot ∈ lw_g := lw_gm (List.mem_of_getElem? (i := 1546) (by decide +kernel)) rfl
theorem q1547 : Cond.static yX9_isSlot ∈ lw_g := lw_gm (List.mem_of_getElem? (i := 1547) (by decide +kernel)) rfl
theorem q1822 : Cond.methodLink RX9 433 yX9_isPlaying ∈ lw_g := lw_gm (List.mem_of_getElem? (i := 1822) (by decide +kernel)) rfl
theorem q1824 : Cond.instanceMethod yX9_isPlaying ∈ lw_g := lw_gm (List.mem_of_getElem? (i := 1824) (by decide +kernel)) rfl
theorem q87 : Cond.selects RX9 yX9_isPlaying yX9_isPlaying ∈ lw_g := lw_gm (List.mem_of_getElem? (i := 87) (by decide +kernel)) rfl
theorem dX9_whyNot_0 : decode cX9_whyNot 0 = .ok (.iload_n 1, 1) := by decide +kernel
theorem dX9_whyNot_1 : decode cX9_whyNot 1 = .ok (.invokestatic 138, 3) := by decide +kernel
theorem dX9_whyNot_4 : decode cX9_whyNot 4 = .ok (.ifCond .eq 12, 3) := by decide +kernel
theorem dX9_whyNot_7 : decode cX9_whyNot 7 = .ok (.aload_n 0, 1) := by decide +kernel
theorem dX9_whyNot_8 : decode cX9_whyNot 8 = .ok (.iload_n 2, 1) := by decide +kernel
theorem dX9_whyNot_9 : decode cX9_whyNot 9 = .ok (.iload_n 3, 1) := by decide +kernel
theorem dX9_whyNot_10 : decode cX9_whyNot 10 = .ok (.invokevirtual 433, 3) := by decide +kernel
theorem dX9_whyNot_13 : decode cX9_whyNot 13 = .ok (.ifCond .ne 6, 3) := by decide +kernel
theorem dX9_whyNot_16 : decode cX9_whyNot 16 = .ok (.bipush (-2), 2) := by decide +kernel
theorem dX9_whyNot_18 : decode cX9_whyNot 18 = .ok (.ireturn, 1) := by decide +kernel
set_option maxHeartbeats 4000000 in
set_option maxRecDepth 100000 in
theorem c_X9_whyNot (l : Launch) (D : va_G) (cy : Nat → ClassId) (g : Nat → Nat) (p1 : Int32) (p2 : Int32) (p3 : Int32) (sz : Nat) : Met l yX9_whyNot (ww yX9_whyNot cX9_whyNot 4 (some .int)) ({ frames := 4, cells := 0, slots := 0, locals := 256 }) (va_Pc [.ref (g 60), .int p1, .int p2, .int p3] (pre D cy [(g 60, .inr (9, mF g)), (g 17, .inl (cy 0, 25, .inl (fun _ => 0)))] sz)) (qi D cy (va_A [(g 60, .inr (9, mF g)), (g 17, .inl (cy 0, 25, .inl (fun _ => 0)))] sz) (fun (r : Int32) (_ : Unit) => r = (-2)) (fun (_ : Unit) => [(g 60, .inr (9, mF g)), (g 17, .inl (cy 0, 25, .inl (fun _ => 0)))])) 0 0 (va_A [(g 60, .inr (9, mF g)), (g 17, .inl (cy 0, 25, .inl (fun _ => 0)))] sz) := by
  refine Met.ofW (cc := cX9_whyNot) (maxL := 4) (ret := (some .int)) (by decide) rfl ?_
  intro p e s m args below meth c s₁ B hml hv
  obtain ⟨rfl, hsz, hP, hK, hD0⟩ := hv
  have hx := B.exec
  have hb := B.bytes
  have hr := B.returns
  have hts := hts_g (atoms_spec (ws := ww yX9_whyNot cX9_whyNot 4 (some .int)) B.pre)
  have hown : s.vm.findClass RX9 = some m.cls := findClass_of_methodNamed B.named
  have hlocks := B.notSynchronized
  subst hsz
  have hD := hD0.self (sz := s.heap.size)
  generalize hAe : va_A [(g 60, .inr (9, mF g)), (g 17, .inl (cy 0, 25, .inl (fun _ => 0)))] s.heap.size = A at hD ⊢
  have hA : ∀ q : Nat, s.heap.size ≤ q → A q := fun q h => by rw [← hAe]; exact Or.inr h
  have hS : va_S A s.heap s.heap [] := va_S.rf
  have hl := lv_entry ([.ref (g 60), .int p1, .int p2, .int p3]) (n := 4) (Nat.le_of_ble_eq_true rfl)
  rw [lg_entry_eq]
  generalize (lg_sl ([.ref (g 60), .int p1, .int p2, .int p3]) ++ List.replicate (4 - (lg_sl ([.ref (g 60), .int p1, .int p2, .int p3])).length) Slot.unset).toArray = ls at hl ⊢
  have hl : lv_has ls 4 [(0, .ref (g 60)), (1, .int p1), (2, .int p2), (3, .int p3)] := hl
  refine lv_iload_n hx hb dX9_whyNot_0 rfl (lv_at hl 1 rfl) ?_
  have hPc := hP.sub (ws' := []) [] rfl
  have hDc := hD.sub (ws' := []) [] (by decide) rfl
  have hFc := va_free (wc := []) hD hS hA [] rfl
  refine va_calli (va_runS (As := [.int p1]) (rest := []) ⟨hx, hb, hml, hown, hts⟩ (c_X9_isSlot l D cy p1 s.heap.size) (va_cwS 1 hts (gd_S q1546 q1547 q134 q1548) rfl rfl rfl (by decide +kernel) ⟨Nat.le_of_ble_eq_true rfl, Nat.le_of_ble_eq_true rfl⟩) (pr_S hPc hK hDc) rfl rfl hl.1 rfl (lv_room (Nat.le_of_ble_eq_true rfl)) dX9_whyNot_1 ⟨Nat.le_of_ble_eq_true rfl, Nat.le_of_ble_eq_true rfl⟩) hS (fun q _ h => hFc q h) hFc (fun r_1 u tS H1 locs ht hvm hw hB hz1 hk1 hS => ?_)
  obtain ⟨hP1, hK1, hD1⟩ := hB
  rw [ht] at hP1
  try dsimp only at hw
  obtain ⟨hP, hD⟩ := va_join (wr := [(g 60, .inr (9, mF g)), (g 17, .inl (cy 0, 25, .inl (fun _ => 0)))]) (w1 := []) hP hD [] [0, 1] rfl rfl (by decide) (by decide) hk1 hFc hP1 hD1
  generalize H1 = H at hP hS ⊢
  have hP : va_P D clz [(g 60, .inr (9, mF g)), (g 17, .inl (cy 0, 25, .inl (fun _ => 0)))] H := hP
  have hD : va_D A [(g 60, .inr (9, mF g)), (g 17, .inl (cy 0, 25, .inl (fun _ => 0)))] := hD
  by_cases hc_2 : ((0 : Int32) ≤ p1 ∧ p1 ≤ (3 : Int32))
  ·
    rw [if_pos hc_2] at hw
    subst hw
    refine lv_if_eq (tgt := 16) hx hb dX9_whyNot_4 (by decide) (fun c9 => absurd c9 (by decide)) (fun _ => ?_)
    refine lv_aload_n hx hb dX9_whyNot_7 rfl (lv_at hl 0 rfl) ?_
    refine lv_iload_n hx hb dX9_whyNot_8 rfl (lv_at hl 2 rfl) ?_
    refine lv_iload_n hx hb dX9_whyNot_9 rfl (lv_at hl 3 rfl) ?_
    have hPc := hP.sub (ws' := [(g 60, .inr (9, mF g)), (g 17, .inl (cy 0, 25, .inl (fun _ => 0)))]) [0, 1] rfl
    have hDc := hD.sub (ws' := [(g 60, .inr (9, mF g)), (g 17, .inl (cy 0, 25, .inl (fun _ => 0)))]) [0, 1] (by decide) rfl
    have hFc := va_free (wc := [(g 60, .inr (9, mF g)), (g 17, .inl (cy 0, 25, .inl (fun _ => 0)))]) hD hS hA [0, 1] rfl
    refine va_calli (va_runV (As := [.int p2, .int p3]) (rest := []) ⟨hx, hb, hml, hown, hts⟩ (c_X9_isPlaying l D cy g p2 p3 H.size) (cwV 2 hts (gd_V q1822 q1824 q87 q134 q1825) rfl rfl rfl (by decide +kernel) ⟨Nat.le_of_ble_eq_true rfl, Nat.le_of_ble_eq_true rfl⟩) (pr_V hPc hK hDc (va_recv hK hPc (ci := 9) (q0 := 0) rfl rfl)) rfl rfl hl.1 rfl (lv_room (Nat.le_of_ble_eq_true rfl)) dX9_whyNot_10 ⟨Nat.le_of_ble_eq_true rfl, Nat.le_of_ble_eq_true rfl⟩) hS (fun q _ h => hFc q h) hFc (fun r_3 u tS H1 locs ht hvm hw hB hz1 hk1 hS => ?_)
    obtain ⟨hP1, hK1, hD1⟩ := hB
    rw [ht] at hP1
    try dsimp only at hw
    obtain ⟨hP, hD⟩ := va_join (wr := []) (w1 := [(g 60, .inr (9, mF g)), (g 17, .inl (cy 0, 25, .inl (fun _ => 0)))]) hP hD [0, 1] [] rfl rfl (by decide) (by decide) hk1 hFc hP1 hD1
    generalize H1 = H at hP hS ⊢
    have hP : va_P D clz [(g 60, .inr (9, mF g)), (g 17, .inl (cy 0, 25, .inl (fun _ => 0)))] H := hP
    have hD : va_D A [(g 60, .inr (9, mF g)), (g 17, .inl (cy 0, 25, .inl (fun _ => 0)))] := hD
    subst hw
    refine lv_if_ne (tgt := 19) hx hb dX9_whyNot_13 (by decide) (fun c9 => absurd c9 (by decide)) (fun _ => ?_)
    refine lv_bipush (v := (-2)) hx hb dX9_whyNot_16 (by decide) ?_
    have hP9 := hP.sub (ws' := [(g 60, .inr (9, mF g)), (g 17, .inl (cy 0, 25, .inl (fun _ => 0)))]) [0, 1] rfl
    have hD9 := hD.sub (ws' := [(g 60, .inr (9, mF g)), (g 17, .inl (cy 0, 25, .inl (fun _ => 0)))]) [0, 1] (by decide) rfl
    exact W.iret (v := (-2)) hx hb hr (fun tS ht hW => ⟨⟨(-2), (), rfl, rfl, by rw [ht]; exact hP9, va_K.moved hW.alike hK, hD9⟩, hS.F ht⟩) hS.2.2 dX9_whyNot_18
  ·
    rw [if_neg hc_2] at hw
    subst hw
    refine lv_if_eq (tgt := 16) hx hb dX9_whyNot_4 (by decide) (fun _ => ?_) (fun c9 => absurd c9 (by decide))
    refine lv_bipush (v := (-2)) hx hb dX9_whyNot_16 (by decide) ?_
    have hP9 := hP.sub (ws' := [(g 60, .inr (9, mF g)), (g 17, .inl (cy 0, 25, .inl (fun _ => 0)))]) [0, 1] rfl
    have hD9 := hD.sub (ws' := [(g 60, .inr (9, mF g)), (g 17, .inl (cy 0, 25, .inl (fun _ => 0)))]) [0, 1] (by decide) rfl
    exact W.iret (v := (-2)) hx hb hr (fun tS ht hW => ⟨⟨(-2), (), rfl, rfl, by rw [ht]; exact hP9, va_K.moved hW.alike hK, hD9⟩, hS.F ht⟩) hS.2.2 dX9_whyNot_18

theorem q1700 : Cond.code yX9_brass cX9_brass 3 (some .int) ∈ lw_g := lw_gm (List.mem_of_getElem? (i := 1700) (by decide +kernel)) rfl
theorem q1360 : Cond.fieldLink RX9 129 "LipsAndSlidesModel" "thrown" "I" ∈ lw_g := lw_gm (List.mem_of_getElem? (i := 1360) (by decide +kernel)) rfl
theorem dX9_brass_0 : decode cX9_brass 0 = .ok (.aload_n 0, 1) := by decide +kernel
theorem dX9_brass_1 : decode cX9_brass 1 = .ok (.iconst 0, 1) := by decide +kernel
theorem dX9_brass_2 : decode cX9_brass 2 = .ok (.putfield 129, 3) := by decide +kernel
theorem dX9_brass_5 : decode cX9_brass 5 = .ok (.aload_n 0, 1) := by decide +kernel
theorem dX9_brass_6 : decode cX9_brass 6 = .ok (.iload_n 1, 1) := by decide +kernel
theorem dX9_brass_7 : decode cX9_brass 7 = .ok (.invokevirtual 312, 3) := by decide +kernel
theorem dX9_brass_10 : decode cX9_brass 10 = .ok (.ifCond .eq 29, 3) := by decide +kernel
theorem dX9_brass_39 : decode cX9_brass 39 = .ok (.bipush (-2), 2) := by decide +kernel
theorem dX9_brass_41 : decode cX9_brass 41 = .ok (.ireturn, 1) := by decide +kernel
set_option maxHeartbeats 4000000 in
set_option maxRecDepth 100000 in
theorem c_X9_brass (l : Launch) (D : va_G) (cy : Nat → ClassId) (g : Nat → Nat) (p1 : Int32) (p2 : Int32) (sz : Nat) : Met l yX9_brass (ww yX9_brass cX9_brass 3 (some .int)) ({ frames := 3, cells := 0, slots := 0, locals := 192 }) (va_Pc [.ref (g 60), .int p1, .int p2] (pre D cy [(g 60, .inr (9, mF g)), (g 17, .inl (cy 0, 25, .inl (fun _ => 0)))] sz)) (qi D cy (va_A [(g 60, .inr (9, mF g)), (g 17, .inl (cy 0, 25, .inl (fun _ => 0)))] sz) (fun (r : Int32) (_ : Unit) => r = (-2)) (fun (_ : Unit) => [(g 60, .inr (9, mF g)), (g 17, .inl (cy 0, 25, .inl (fun _ => 0)))])) 0 0 (va_A [(g 60, .inr (9, mF g)), (g 17, .inl (cy 0, 25, .inl (fun _ => 0)))] sz) := by
  refine Met.ofW (cc := cX9_brass) (maxL := 3) (ret := (some .int)) (by decide) rfl ?_
  intro p e s m args below meth c s₁ B hml hv
  obtain ⟨rfl, hsz, hP, hK, hD0⟩ := hv
  have hx := B.exec
  have hb := B.bytes
  have hr := B.returns
  have hts := hts_g (atoms_spec (ws := ww yX9_brass cX9_brass 3 (some .int)) B.pre)
  have hown : s.vm.findClass RX9 = some m.cls := findClass_of_methodNamed B.named
  have hlocks := B.notSynchronized
  subst hsz
  have hD := hD0.self (sz := s.heap.size)
  generalize hAe : va_A [(g 60, .inr (9, mF g)), (g 17, .inl (cy 0, 25, .inl (fun _ => 0)))] s.heap.size = A at hD ⊢
  have hA : ∀ q : Nat, s.heap.size ≤ q → A q := fun q h => by rw [← hAe]; exact Or.inr h
  have hS : va_S A s.heap s.heap [] := va_S.rf
  have hl := lv_entry ([.ref (g 60), .int p1, .int p2]) (n := 3) (Nat.le_of_ble_eq_true rfl)
  rw [lg_entry_eq]
  generalize (lg_sl ([.ref (g 60), .int p1, .int p2]) ++ List.replicate (3 - (lg_sl ([.ref (g 60), .int p1, .int p2])).length) Slot.unset).toArray = ls at hl ⊢
  have hl : lv_has ls 3 [(0, .ref (g 60)), (1, .int p1), (2, .int p2)] := hl
  refine lv_aload_n hx hb dX9_brass_0 rfl (lv_at hl 0 rfl) ?_
  refine lv_iconst (v := 0) hx hb dX9_brass_1 (by decide) ?_
  refine va_put (D := D) (ci := 9) (v := .int 0) (ty := .int) (C := RX9) (T := TX9) (N := 60) hx hb hts iX9 tyX9 tyX9_ok nmX9 hown hK hP hD hS 0 rfl rfl 0 (by decide) (hts _ q1360) (fun _ h9 => h9) rfl (by decide +kernel) rfl rfl (Nat.le_of_ble_eq_true rfl) dX9_brass_2 (fun H locs hP hD hS => ?_)
  have hP : va_P D clz [(g 60, .inr (9, mF g)), (g 17, .inl (cy 0, 25, .inl (fun _ => 0)))] H := hP
  have hD : va_D A [(g 60, .inr (9, mF g)), (g 17, .inl (cy 0, 25, .inl (fun _ => 0)))] := hD
  refine lv_aload_n hx hb dX9_brass_5 rfl (lv_at hl 0 rfl) ?_
  refine lv_iload_n hx hb dX9_brass_6 rfl (lv_at hl 1 rfl) ?_
  have hPc := hP.sub (ws' := [(g 60, .inr (9, mF g)), (g 17, .inl (cy 0, 25, .inl (fun _ => 0)))]) [0, 1] rfl
  have hDc := hD.sub (ws' := [(g 60, .inr (9, mF g)), (g 17, .inl (cy 0, 25, .inl (fun _ => 0)))]) [0, 1] (by decide) rfl
  have hFc := va_free (wc := [(g 60, .inr (9, mF g)), (g 17, .inl (cy 0, 25, .inl (fun _ => 0)))]) hD hS hA [0, 1] rfl
  refine va_calli (va_runV (As := [.int p1]) (rest := []) ⟨hx, hb, hml, hown, hts⟩ (c_X9_isBrass l D cy g p1 H.size) (cwV 1 hts (gd_V q1701 q1703 q71 q134 q1704) rfl rfl rfl (by decide +kernel) ⟨Nat.le_of_ble_eq_true rfl, Nat.le_of_ble_eq_true rfl⟩) (pr_V hPc hK hDc (va_recv hK hPc (ci := 9) (q0 := 0) rfl rfl)) rfl rfl hl.1 rfl (lv_room (Nat.le_of_ble_eq_true rfl)) dX9_brass_7 ⟨Nat.le_of_ble_eq_true rfl, Nat.le_of_ble_eq_true rfl⟩) hS (fun q _ h => hFc q h) hFc (fun r_1 u tS H1 locs ht hvm hw hB hz1 hk1 hS => ?_)
  obtain ⟨hP1, hK1, hD1⟩ := hB
  rw [ht] at hP1
  try dsimp only at hw
  obtain ⟨hP, hD⟩ := va_join (wr := []) (w1 := [(g 60, .inr (9, mF g)), (g 17, .inl (cy 0, 25, .inl (fun _ => 0)))]) hP hD [0, 1] [] rfl rfl (by decide) (by decide) hk1 hFc hP1 hD1
  generalize H1 = H at hP hS ⊢
  have hP : va_P D clz [(g 60, .inr (9, mF g)), (g 17, .inl (cy 0, 25, .inl (fun _ => 0)))] H := hP
  have hD : va_D A [(g 60, .inr (9, mF g)), (g 17, .inl (cy 0, 25, .inl (fun _ => 0)))] := hD
  subst hw
  refine lv_if_eq (tgt := 39) hx hb dX9_brass_10 (by decide) (fun _ => ?_) (fun c9 => absurd c9 (by decide))
  refine lv_bipush (v := (-2)) hx hb dX9_brass_39 (by decide) ?_
  have hP9 := hP.sub (ws' := [(g 60, .inr (9, mF g)), (g 17, .inl (cy 0, 25, .inl (fun _ => 0)))]) [0, 1] rfl
  have hD9 := hD.sub (ws' := [(g 60, .inr (9, mF g)), (g 17, .inl (cy 0, 25, .inl (fun _ => 0)))]) [0, 1] (by decide) rfl
  exact W.iret (v := (-2)) hx hb hr (fun tS ht hW => ⟨⟨(-2), (), rfl, rfl, by rw [ht]; exact hP9, va_K.moved hW.alike hK, hD9⟩, hS.F ht⟩) hS.2.2 dX9_brass_41

theorem q1709 : Cond.code yX9_player cX9_player 3 (some .int) ∈ lw_g := lw_gm (List.mem_of_getElem? (i := 1709) (by decide +kernel)) rfl
theorem dX9_player_0 : decode cX9_player 0 = .ok (.aload_n 0, 1) := by decide +kernel
theorem dX9_player_1 : decode cX9_player 1 = .ok (.iconst 0, 1) := by decide +kernel
theorem dX9_player_2 : decode cX9_player 2 = .ok (.putfield 129, 3) := by decide +kernel
theorem dX9_player_5 : decode cX9_player 5 = .ok (.aload_n 0, 1) := by decide +kernel
theorem dX9_player_6 : decode cX9_player 6 = .ok (.iload_n 1, 1) := by decide +kernel
theorem dX9_player_7 : decode cX9_player 7 = .ok (.invokevirtual 317, 3) := by decide +kernel
theorem dX9_player_10 : decode cX9_player 10 = .ok (.ifCond .eq 28, 3) := by decide +kernel
theorem dX9_player_38 : decode cX9_player 38 = .ok (.bipush (-2), 2) := by decide +kernel
theorem dX9_player_40 : decode cX9_player 40 = .ok (.ireturn, 1) := by decide +kernel
set_option maxHeartbeats 4000000 in
set_option maxRecDepth 100000 in
theorem c_X9_player (l : Launch) (D : va_G) (cy : Nat → ClassId) (g : Nat → Nat) (p1 : Int32) (p2 : Int32) (sz : Nat) : Met l yX9_player (ww yX9_player cX9_player 3 (some .int)) ({ frames := 3, cells := 0, slots := 0, locals := 192 }) (va_Pc [.ref (g 60), .int p1, .int p2] (pre D cy [(g 60, .inr (9, mF g)), (g 17, .inl (cy 0, 25, .inl (fun _ => 0)))] sz)) (qi D cy (va_A [(g 60, .inr (9, mF g)), (g 17, .inl (cy 0, 25, .inl (fun _ => 0)))] sz) (fun (r : Int32) (_ : Unit) => r = (-2)) (fun (_ : Unit) => [(g 60, .inr (9, mF g)), (g 17, .inl (cy 0, 25, .inl (fun _ => 0)))])) 0 0 (va_A [(g 60, .inr (9, mF g)), (g 17, .inl (cy 0, 25, .inl (fun _ => 0)))] sz) := by
  refine Met.ofW (cc := cX9_player) (maxL := 3) (ret := (some .int)) (by decide) rfl ?_
  intro p e s m args below meth c s₁ B hml hv
  obtain ⟨rfl, hsz, hP, hK, hD0⟩ := hv
  have hx := B.exec
  have hb := B.bytes
  have hr := B.returns
  have hts := hts_g (atoms_spec (ws := ww yX9_player cX9_player 3 (some .int)) B.pre)
  have hown : s.vm.findClass RX9 = some m.cls := findClass_of_methodNamed B.named
  have hlocks := B.notSynchronized
  subst hsz
  have hD := hD0.self (sz := s.heap.size)
  generalize hAe : va_A [(g 60, .inr (9, mF g)), (g 17, .inl (cy 0, 25, .inl (fun _ => 0)))] s.heap.size = A at hD ⊢
  have hA : ∀ q : Nat, s.heap.size ≤ q → A q := fun q h => by rw [← hAe]; exact Or.inr h
  have hS : va_S A s.heap s.heap [] := va_S.rf
  have hl := lv_entry ([.ref (g 60), .int p1, .int p2]) (n := 3) (Nat.le_of_ble_eq_true rfl)
  rw [lg_entry_eq]
  generalize (lg_sl ([.ref (g 60), .int p1, .int p2]) ++ List.replicate (3 - (lg_sl ([.ref (g 60), .int p1, .int p2])).length) Slot.unset).toArray = ls at hl ⊢
  have hl : lv_has ls 3 [(0, .ref (g 60)), (1, .int p1), (2, .int p2)] := hl
  refine lv_aload_n hx hb dX9_player_0 rfl (lv_at hl 0 rfl) ?_
  refine lv_iconst (v := 0) hx hb dX9_player_1 (by decide) ?_
  refine va_put (D := D) (ci := 9) (v := .int 0) (ty := .int) (C := RX9) (T := TX9) (N := 60) hx hb hts iX9 tyX9 tyX9_ok nmX9 hown hK hP hD hS 0 rfl rfl 0 (by decide) (hts _ q1360) (fun _ h9 => h9) rfl (by decide +kernel) rfl rfl (Nat.le_of_ble_eq_true rfl) dX9_player_2 (fun H locs hP hD hS => ?_)
  have hP : va_P D clz [(g 60, .inr (9, mF g)), (g 17, .inl (cy 0, 25, .inl (fun _ => 0)))] H := hP
  have hD : va_D A [(g 60, .inr (9, mF g)), (g 17, .inl (cy 0, 25, .inl (fun _ => 0)))] := hD
  refine lv_aload_n hx hb dX9_player_5 rfl (lv_at hl 0 rfl) ?_
  refine lv_iload_n hx hb dX9_player_6 rfl (lv_at hl 1 rfl) ?_
  have hPc := hP.sub (ws' := [(g 60, .inr (9, mF g)), (g 17, .inl (cy 0, 25, .inl (fun _ => 0)))]) [0, 1] rfl
  have hDc := hD.sub (ws' := [(g 60, .inr (9, mF g)), (g 17, .inl (cy 0, 25, .inl (fun _ => 0)))]) [0, 1] (by decide) rfl
  have hFc := va_free (wc := [(g 60, .inr (9, mF g)), (g 17, .inl (cy 0, 25, .inl (fun _ => 0)))]) hD hS hA [0, 1] rfl
  refine va_calli (va_runV (As := [.int p1]) (rest := []) ⟨hx, hb, hml, hown, hts⟩ (c_X9_isPlayer l D cy g p1 H.size) (cwV 1 hts (gd_V q1710 q1712 q72 q134 q1713) rfl rfl rfl (by decide +kernel) ⟨Nat.le_of_ble_eq_true rfl, Nat.le_of_ble_eq_true rfl⟩) (pr_V hPc hK hDc (va_recv hK hPc (ci := 9) (q0 := 0) rfl rfl)) rfl rfl hl.1 rfl (lv_room (Nat.le_of_ble_eq_true rfl)) dX9_player_7 ⟨Nat.le_of_ble_eq_true rfl, Nat.le_of_ble_eq_true rfl⟩) hS (fun q _ h => hFc q h) hFc (fun r_1 u tS H1 locs ht hvm hw hB hz1 hk1 hS => ?_)
  obtain ⟨hP1, hK1, hD1⟩ := hB
  rw [ht] at hP1
  try dsimp only at hw
  obtain ⟨hP, hD⟩ := va_join (wr := []) (w1 := [(g 60, .inr (9, mF g)), (g 17, .inl (cy 0, 25, .inl (fun _ => 0)))]) hP hD [0, 1] [] rfl rfl (by decide) (by decide) hk1 hFc hP1 hD1
  generalize H1 = H at hP hS ⊢
  have hP : va_P D clz [(g 60, .inr (9, mF g)), (g 17, .inl (cy 0, 25, .inl (fun _ => 0)))] H := hP
  have hD : va_D A [(g 60, .inr (9, mF g)), (g 17, .inl (cy 0, 25, .inl (fun _ => 0)))] := hD
  subst hw
  refine lv_if_eq (tgt := 38) hx hb dX9_player_10 (by decide) (fun _ => ?_) (fun c9 => absurd c9 (by decide))
  refine lv_bipush (v := (-2)) hx hb dX9_player_38 (by decide) ?_
  have hP9 := hP.sub (ws' := [(g 60, .inr (9, mF g)), (g 17, .inl (cy 0, 25, .inl (fun _ => 0)))]) [0, 1] rfl
  have hD9 := hD.sub (ws' := [(g 60, .inr (9, mF g)), (g 17, .inl (cy 0, 25, .inl (fun _ => 0)))]) [0, 1] (by decide) rfl
  exact W.iret (v := (-2)) hx hb hr (fun tS ht hW => ⟨⟨(-2), (), rfl, rfl, by rw [ht]; exact hP9, va_K.moved hW.alike hK, hD9⟩, hS.F ht⟩) hS.2.2 dX9_player_40

theorem q1717 : Cond.code yX9_tone cX9_tone 4 (some .int) ∈ lw_g := lw_gm (List.mem_of_getElem? (i := 1717) (by decide +kernel)) rfl
theorem q1718 : Cond.methodLink RX9 320 yX9_isTone ∈ lw_g := lw_gm (List.mem_of_getElem? (i := 1718) (by decide +kernel)) rfl
theorem q1720 : Cond.instanceMethod yX9_isTone ∈ lw_g := lw_gm (List.mem_of_getElem? (i := 1720) (by decide +kernel)) rfl
theorem q73 : Cond.selects RX9 yX9_isTone yX9_isTone ∈ lw_g := lw_gm (List.mem_of_getElem? (i := 73) (by decide +kernel)) rfl
theorem dX9_tone_0 : decode cX9_tone 0 = .ok (.aload_n 0, 1) := by decide +kernel
theorem dX9_tone_1 : decode cX9_tone 1 = .ok (.iconst 0, 1) := by decide +kernel
theorem dX9_tone_2 : decode cX9_tone 2 = .ok (.putfield 129, 3) := by decide +kernel
theorem dX9_tone_5 : decode cX9_tone 5 = .ok (.aload_n 0, 1) := by decide +kernel
theorem dX9_tone_6 : decode cX9_tone 6 = .ok (.iload_n 1, 1) := by decide +kernel
theorem dX9_tone_7 : decode cX9_tone 7 = .ok (.iload_n 2, 1) := by decide +kernel
theorem dX9_tone_8 : decode cX9_tone 8 = .ok (.invokevirtual 320, 3) := by decide +kernel
theorem dX9_tone_11 : decode cX9_tone 11 = .ok (.ifCond .eq 15, 3) := by decide +kernel
theorem dX9_tone_26 : decode cX9_tone 26 = .ok (.bipush (-2), 2) := by decide +kernel
theorem dX9_tone_28 : decode cX9_tone 28 = .ok (.ireturn, 1) := by decide +kernel
set_option maxHeartbeats 4000000 in
set_option maxRecDepth 100000 in
theorem c_X9_tone (l : Launch) (D : va_G) (cy : Nat → ClassId) (g : Nat → Nat) (p1 : Int32) (p2 : Int32) (p3 : Int32) (sz : Nat) : Met l yX9_tone (ww yX9_tone cX9_tone 4 (some .int)) ({ frames := 4, cells := 0, slots := 0, locals := 256 }) (va_Pc [.ref (g 60), .int p1, .int p2, .int p3] (pre D cy [(g 60, .inr (9, mF g)), (g 17, .inl (cy 0, 25, .inl (fun _ => 0)))] sz)) (qi D cy (va_A [(g 60, .inr (9, mF g)), (g 17, .inl (cy 0, 25, .inl (fun _ => 0)))] sz) (fun (r : Int32) (_ : Unit) => r = (-2)) (fun (_ : Unit) => [(g 60, .inr (9, mF g)), (g 17, .inl (cy 0, 25, .inl (fun _ => 0)))])) 0 0 (va_A [(g 60, .inr (9, mF g)), (g 17, .inl (cy 0, 25, .inl (fun _ => 0)))] sz) := by
  refine Met.ofW (cc := cX9_tone) (maxL := 4) (ret := (some .int)) (by decide) rfl ?_
  intro p e s m args below meth c s₁ B hml hv
  obtain ⟨rfl, hsz, hP, hK, hD0⟩ := hv
  have hx := B.exec
  have hb := B.bytes
  have hr := B.returns
  have hts := hts_g (atoms_spec (ws := ww yX9_tone cX9_tone 4 (some .int)) B.pre)
  have hown : s.vm.findClass RX9 = some m.cls := findClass_of_methodNamed B.named
  have hlocks := B.notSynchronized
  subst hsz
  have hD := hD0.self (sz := s.heap.size)
  generalize hAe : va_A [(g 60, .inr (9, mF g)), (g 17, .inl (cy 0, 25, .inl (fun _ => 0)))] s.heap.size = A at hD ⊢
  have hA : ∀ q : Nat, s.heap.size ≤ q → A q := fun q h => by rw [← hAe]; exact Or.inr h
  have hS : va_S A s.heap s.heap [] := va_S.rf
  have hl := lv_entry ([.ref (g 60), .int p1, .int p2, .int p3]) (n := 4) (Nat.le_of_ble_eq_true rfl)
  rw [lg_entry_eq]
  generalize (lg_sl ([.ref (g 60), .int p1, .int p2, .int p3]) ++ List.replicate (4 - (lg_sl ([.ref (g 60), .int p1, .int p2, .int p3])).length) Slot.unset).toArray = ls at hl ⊢
  have hl : lv_has ls 4 [(0, .ref (g 60)), (1, .int p1), (2, .int p2), (3, .int p3)] := hl
  refine lv_aload_n hx hb dX9_tone_0 rfl (lv_at hl 0 rfl) ?_
  refine lv_iconst (v := 0) hx hb dX9_tone_1 (by decide) ?_
  refine va_put (D := D) (ci := 9) (v := .int 0) (ty := .int) (C := RX9) (T := TX9) (N := 60) hx hb hts iX9 tyX9 tyX9_ok nmX9 hown hK hP hD hS 0 rfl rfl 0 (by decide) (hts _ q1360) (fun _ h9 => h9) rfl (by decide +kernel) rfl rfl (Nat.le_of_ble_eq_true rfl) dX9_tone_2 (fun H locs hP hD hS => ?_)
  have hP : va_P D clz [(g 60, .inr (9, mF g)), (g 17, .inl (cy 0, 25, .inl (fun _ => 0)))] H := hP
  have hD : va_D A [(g 60, .inr (9, mF g)), (g 17, .inl (cy 0, 25, .inl (fun _ => 0)))] := hD
  refine lv_aload_n hx hb dX9_tone_5 rfl (lv_at hl 0 rfl) ?_
  refine lv_iload_n hx hb dX9_tone_6 rfl (lv_at hl 1 rfl) ?_
  refine lv_iload_n hx hb dX9_tone_7 rfl (lv_at hl 2 rfl) ?_
  have hPc := hP.sub (ws' := [(g 60, .inr (9, mF g)), (g 17, .inl (cy 0, 25, .inl (fun _ => 0)))]) [0, 1] rfl
  have hDc := hD.sub (ws' := [(g 60, .inr (9, mF g)), (g 17, .inl (cy 0, 25, .inl (fun _ => 0)))]) [0, 1] (by decide) rfl
  have hFc := va_free (wc := [(g 60, .inr (9, mF g)), (g 17, .inl (cy 0, 25, .inl (fun _ => 0)))]) hD hS hA [0, 1] rfl
  refine va_calli (va_runV (As := [.int p1, .int p2]) (rest := []) ⟨hx, hb, hml, hown, hts⟩ (c_X9_isTone l D cy g p1 p2 H.size) (cwV 2 hts (gd_V q1718 q1720 q73 q134 q1721) rfl rfl rfl (by decide +kernel) ⟨Nat.le_of_ble_eq_true rfl, Nat.le_of_ble_eq_true rfl⟩) (pr_V hPc hK hDc (va_recv hK hPc (ci := 9) (q0 := 0) rfl rfl)) rfl rfl hl.1 rfl (lv_room (Nat.le_of_ble_eq_true rfl)) dX9_tone_8 ⟨Nat.le_of_ble_eq_true rfl, Nat.le_of_ble_eq_true rfl⟩) hS (fun q _ h => hFc q h) hFc (fun r_1 u tS H1 locs ht hvm hw hB hz1 hk1 hS => ?_)
  obtain ⟨hP1, hK1, hD1⟩ := hB
  rw [ht] at hP1
  try dsimp only at hw
  obtain ⟨hP, hD⟩ := va_join (wr := []) (w1 := [(g 60, .inr (9, mF g)), (g 17, .inl (cy 0, 25, .inl (fun _ => 0)))]) hP hD [0, 1] [] rfl rfl (by decide) (by decide) hk1 hFc hP1 hD1
  generalize H1 = H at hP hS ⊢
  have hP : va_P D clz [(g 60, .inr (9, mF g)), (g 17, .inl (cy 0, 25, .inl (fun _ => 0)))] H := hP
  have hD : va_D A [(g 60, .inr (9, mF g)), (g 17, .inl (cy 0, 25, .inl (fun _ => 0)))] := hD
  subst hw
  refine lv_if_eq (tgt := 26) hx hb dX9_tone_11 (by decide) (fun _ => ?_) (fun c9 => absurd c9 (by decide))
  refine lv_bipush (v := (-2)) hx hb dX9_tone_26 (by decide) ?_
  have hP9 := hP.sub (ws' := [(g 60, .inr (9, mF g)), (g 17, .inl (cy 0, 25, .inl (fun _ => 0)))]) [0, 1] rfl
  have hD9 := hD.sub (ws' := [(g 60, .inr (9, mF g)), (g 17, .inl (cy 0, 25, .inl (fun _ => 0)))]) [0, 1] (by decide) rfl
  exact W.iret (v := (-2)) hx hb hr (fun tS ht hW => ⟨⟨(-2), (), rfl, rfl, by rw [ht]; exact hP9, va_K.moved hW.alike hK, hD9⟩, hS.F ht⟩) hS.2.2 dX9_tone_28

theorem q2143 : Cond.code yX9_tones cX9_tones 2 (some .int) ∈ lw_g := lw_gm (List.mem_of_getElem? (i := 2143) (by decide +kernel)) rfl
theorem dX9_tones_0 : decode cX9_tones 0 = .ok (.aload_n 0, 1) := by decide +kernel
theorem dX9_tones_1 : decode cX9_tones 1 = .ok (.iconst 0, 1) := by decide +kernel
theorem dX9_tones_2 : decode cX9_tones 2 = .ok (.putfield 129, 3) := by decide +kernel
theorem dX9_tones_5 : decode cX9_tones 5 = .ok (.aload_n 0, 1) := by decide +kernel
theorem dX9_tones_6 : decode cX9_tones 6 = .ok (.iload_n 1, 1) := by decide +kernel
theorem dX9_tones_7 : decode cX9_tones 7 = .ok (.invokevirtual 303, 3) := by decide +kernel
theorem dX9_tones_10 : decode cX9_tones 10 = .ok (.ifCond .eq 12, 3) := by decide +kernel
theorem dX9_tones_22 : decode cX9_tones 22 = .ok (.bipush (-2), 2) := by decide +kernel
theorem dX9_tones_24 : decode cX9_tones 24 = .ok (.ireturn, 1) := by decide +kernel
set_option maxHeartbeats 4000000 in
set_option maxRecDepth 100000 in
theorem c_X9_tones (l : Launch) (D : va_G) (cy : Nat → ClassId) (g : Nat → Nat) (p1 : Int32) (sz : Nat) : Met l yX9_tones (ww yX9_tones cX9_tones 2 (some .int)) ({ frames := 3, cells := 0, slots := 0, locals := 192 }) (va_Pc [.ref (g 60), .int p1] (pre D cy [(g 60, .inr (9, mF g)), (g 17, .inl (cy 0, 25, .inl (fun _ => 0)))] sz)) (qi D cy (va_A [(g 60, .inr (9, mF g)), (g 17, .inl (cy 0, 25, .inl (fun _ => 0)))] sz) (fun (r : Int32) (_ : Unit) => r = (-2)) (fun (_ : Unit) => [(g 60, .inr (9, mF g)), (g 17, .inl (cy 0, 25, .inl (fun _ => 0)))])) 0 0 (va_A [(g 60, .inr (9, mF g)), (g 17, .inl (cy 0, 25, .inl (fun _ => 0)))] sz) := by
  refine Met.ofW (cc := cX9_tones) (maxL := 2) (ret := (some .int)) (by decide) rfl ?_
  intro p e s m args below meth c s₁ B hml hv
  obtain ⟨rfl, hsz, hP, hK, hD0⟩ := hv
  have hx := B.exec
  have hb := B.bytes
  have hr := B.returns
  have hts := hts_g (atoms_spec (ws := ww yX9_tones cX9_tones 2 (some .int)) B.pre)
  have hown : s.vm.findClass RX9 = some m.cls := findClass_of_methodNamed B.named
  have hlocks := B.notSynchronized
  subst hsz
  have hD := hD0.self (sz := s.heap.size)
  generalize hAe : va_A [(g 60, .inr (9, mF g)), (g 17, .inl (cy 0, 25, .inl (fun _ => 0)))] s.heap.size = A at hD ⊢
  have hA : ∀ q : Nat, s.heap.size ≤ q → A q := fun q h => by rw [← hAe]; exact Or.inr h
  have hS : va_S A s.heap s.heap [] := va_S.rf
  have hl := lv_entry ([.ref (g 60), .int p1]) (n := 2) (Nat.le_of_ble_eq_true rfl)
  rw [lg_entry_eq]
  generalize (lg_sl ([.ref (g 60), .int p1]) ++ List.replicate (2 - (lg_sl ([.ref (g 60), .int p1])).length) Slot.unset).toArray = ls at hl ⊢
  have hl : lv_has ls 2 [(0, .ref (g 60)), (1, .int p1)] := hl
  refine lv_aload_n hx hb dX9_tones_0 rfl (lv_at hl 0 rfl) ?_
  refine lv_iconst (v := 0) hx hb dX9_tones_1 (by decide) ?_
  refine va_put (D := D) (ci := 9) (v := .int 0) (ty := .int) (C := RX9) (T := TX9) (N := 60) hx hb hts iX9 tyX9 tyX9_ok nmX9 hown hK hP hD hS 0 rfl rfl 0 (by decide) (hts _ q1360) (fun _ h9 => h9) rfl (by decide +kernel) rfl rfl (Nat.le_of_ble_eq_true rfl) dX9_tones_2 (fun H locs hP hD hS => ?_)
  have hP : va_P D clz [(g 60, .inr (9, mF g)), (g 17, .inl (cy 0, 25, .inl (fun _ => 0)))] H := hP
  have hD : va_D A [(g 60, .inr (9, mF g)), (g 17, .inl (cy 0, 25, .inl (fun _ => 0)))] := hD
  refine lv_aload_n hx hb dX9_tones_5 rfl (lv_at hl 0 rfl) ?_
  refine lv_iload_n hx hb dX9_tones_6 rfl (lv_at hl 1 rfl) ?_
  have hPc := hP.sub (ws' := [(g 60, .inr (9, mF g)), (g 17, .inl (cy 0, 25, .inl (fun _ => 0)))]) [0, 1] rfl
  have hDc := hD.sub (ws' := [(g 60, .inr (9, mF g)), (g 17, .inl (cy 0, 25, .inl (fun _ => 0)))]) [0, 1] (by decide) rfl
  have hFc := va_free (wc := [(g 60, .inr (9, mF g)), (g 17, .inl (cy 0, 25, .inl (fun _ => 0)))]) hD hS hA [0, 1] rfl
  refine va_calli (va_runV (As := [.int p1]) (rest := []) ⟨hx, hb, hml, hown, hts⟩ (c_X9_isPart l D cy g p1 H.size) (cwV 1 hts (gd_V q1722 q1724 q74 q134 q1725) rfl rfl rfl (by decide +kernel) ⟨Nat.le_of_ble_eq_true rfl, Nat.le_of_ble_eq_true rfl⟩) (pr_V hPc hK hDc (va_recv hK hPc (ci := 9) (q0 := 0) rfl rfl)) rfl rfl hl.1 rfl (lv_room (Nat.le_of_ble_eq_true rfl)) dX9_tones_7 ⟨Nat.le_of_ble_eq_true rfl, Nat.le_of_ble_eq_true rfl⟩) hS (fun q _ h => hFc q h) hFc (fun r_1 u tS H1 locs ht hvm hw hB hz1 hk1 hS => ?_)
  obtain ⟨hP1, hK1, hD1⟩ := hB
  rw [ht] at hP1
  try dsimp only at hw
  obtain ⟨hP, hD⟩ := va_join (wr := []) (w1 := [(g 60, .inr (9, mF g)), (g 17, .inl (cy 0, 25, .inl (fun _ => 0)))]) hP hD [0, 1] [] rfl rfl (by decide) (by decide) hk1 hFc hP1 hD1
  generalize H1 = H at hP hS ⊢
  have hP : va_P D clz [(g 60, .inr (9, mF g)), (g 17, .inl (cy 0, 25, .inl (fun _ => 0)))] H := hP
  have hD : va_D A [(g 60, .inr (9, mF g)), (g 17, .inl (cy 0, 25, .inl (fun _ => 0)))] := hD
  subst hw
  refine lv_if_eq (tgt := 22) hx hb dX9_tones_10 (by decide) (fun _ => ?_) (fun c9 => absurd c9 (by decide))
  refine lv_bipush (v := (-2)) hx hb dX9_tones_22 (by decide) ?_
  have hP9 := hP.sub (ws' := [(g 60, .inr (9, mF g)), (g 17, .inl (cy 0, 25, .inl (fun _ => 0)))]) [0, 1] rfl
  have hD9 := hD.sub (ws' := [(g 60, .inr (9, mF g)), (g 17, .inl (cy 0, 25, .inl (fun _ => 0)))]) [0, 1] (by decide) rfl
  exact W.iret (v := (-2)) hx hb hr (fun tS ht hW => ⟨⟨(-2), (), rfl, rfl, by rw [ht]; exact hP9, va_K.moved hW.alike hK, hD9⟩, hS.F ht⟩) hS.2.2 dX9_tones_24

theorem q2127 : Cond.code yX9_beats cX9_beats 2 (some .int) ∈ lw_g := lw_gm (List.mem_of_getElem? (i := 2127) (by decide +kernel)) rfl
theorem dX9_beats_0 : decode cX9_beats 0 = .ok (.aload_n 0, 1) := by decide +kernel
theorem dX9_beats_1 : decode cX9_beats 1 = .ok (.iconst 0, 1) := by decide +kernel
theorem dX9_beats_2 : decode cX9_beats 2 = .ok (.putfield 129, 3) := by decide +kernel
theorem dX9_beats_5 : decode cX9_beats 5 = .ok (.aload_n 0, 1) := by decide +kernel
theorem dX9_beats_6 : decode cX9_beats 6 = .ok (.iload_n 1, 1) := by decide +kernel
theorem dX9_beats_7 : decode cX9_beats 7 = .ok (.invokevirtual 303, 3) := by decide +kernel
theorem dX9_beats_10 : decode cX9_beats 10 = .ok (.ifCond .eq 17, 3) := by decide +kernel
theorem dX9_beats_27 : decode cX9_beats 27 = .ok (.bipush (-2), 2) := by decide +kernel
theorem dX9_beats_29 : decode cX9_beats 29 = .ok (.ireturn, 1) := by decide +kernel
set_option maxHeartbeats 4000000 in
set_option maxRecDepth 100000 in
theorem c_X9_beats (l : Launch) (D : va_G) (cy : Nat → ClassId) (g : Nat → Nat) (p1 : Int32) (sz : Nat) : Met l yX9_beats (ww yX9_beats cX9_beats 2 (some .int)) ({ frames := 3, cells := 0, slots := 0, locals := 192 }) (va_Pc [.ref (g 60), .int p1] (pre D cy [(g 60, .inr (9, mF g)), (g 17, .inl (cy 0, 25, .inl (fun _ => 0)))] sz)) (qi D cy (va_A [(g 60, .inr (9, mF g)), (g 17, .inl (cy 0, 25, .inl (fun _ => 0)))] sz) (fun (r : Int32) (_ : Unit) => r = (-2)) (fun (_ : Unit) => [(g 60, .inr (9, mF g)), (g 17, .inl (cy 0, 25, .inl (fun _ => 0)))])) 0 0 (va_A [(g 60, .inr (9, mF g)), (g 17, .inl (cy 0, 25, .inl (fun _ => 0)))] sz) := by
  refine Met.ofW (cc := cX9_beats) (maxL := 2) (ret := (some .int)) (by decide) rfl ?_
  intro p e s m args below meth c s₁ B hml hv
  obtain ⟨rfl, hsz, hP, hK, hD0⟩ := hv
  have hx := B.exec
  have hb := B.bytes
  have hr := B.returns
  have hts := hts_g (atoms_spec (ws := ww yX9_beats cX9_beats 2 (some .int)) B.pre)
  have hown : s.vm.findClass RX9 = some m.cls := findClass_of_methodNamed B.named
  have hlocks := B.notSynchronized
  subst hsz
  have hD := hD0.self (sz := s.heap.size)
  generalize hAe : va_A [(g 60, .inr (9, mF g)), (g 17, .inl (cy 0, 25, .inl (fun _ => 0)))] s.heap.size = A at hD ⊢
  have hA : ∀ q : Nat, s.heap.size ≤ q → A q := fun q h => by rw [← hAe]; exact Or.inr h
  have hS : va_S A s.heap s.heap [] := va_S.rf
  have hl := lv_entry ([.ref (g 60), .int p1]) (n := 2) (Nat.le_of_ble_eq_true rfl)
  rw [lg_entry_eq]
  generalize (lg_sl ([.ref (g 60), .int p1]) ++ List.replicate (2 - (lg_sl ([.ref (g 60), .int p1])).length) Slot.unset).toArray = ls at hl ⊢
  have hl : lv_has ls 2 [(0, .ref (g 60)), (1, .int p1)] := hl
  refine lv_aload_n hx hb dX9_beats_0 rfl (lv_at hl 0 rfl) ?_
  refine lv_iconst (v := 0) hx hb dX9_beats_1 (by decide) ?_
  refine va_put (D := D) (ci := 9) (v := .int 0) (ty := .int) (C := RX9) (T := TX9) (N := 60) hx hb hts iX9 tyX9 tyX9_ok nmX9 hown hK hP hD hS 0 rfl rfl 0 (by decide) (hts _ q1360) (fun _ h9 => h9) rfl (by decide +kernel) rfl rfl (Nat.le_of_ble_eq_true rfl) dX9_beats_2 (fun H locs hP hD hS => ?_)
  have hP : va_P D clz [(g 60, .inr (9, mF g)), (g 17, .inl (cy 0, 25, .inl (fun _ => 0)))] H := hP
  have hD : va_D A [(g 60, .inr (9, mF g)), (g 17, .inl (cy 0, 25, .inl (fun _ => 0)))] := hD
  refine lv_aload_n hx hb dX9_beats_5 rfl (lv_at hl 0 rfl) ?_
  refine lv_iload_n hx hb dX9_beats_6 rfl (lv_at hl 1 rfl) ?_
  have hPc := hP.sub (ws' := [(g 60, .inr (9, mF g)), (g 17, .inl (cy 0, 25, .inl (fun _ => 0)))]) [0, 1] rfl
  have hDc := hD.sub (ws' := [(g 60, .inr (9, mF g)), (g 17, .inl (cy 0, 25, .inl (fun _ => 0)))]) [0, 1] (by decide) rfl
  have hFc := va_free (wc := [(g 60, .inr (9, mF g)), (g 17, .inl (cy 0, 25, .inl (fun _ => 0)))]) hD hS hA [0, 1] rfl
  refine va_calli (va_runV (As := [.int p1]) (rest := []) ⟨hx, hb, hml, hown, hts⟩ (c_X9_isPart l D cy g p1 H.size) (cwV 1 hts (gd_V q1722 q1724 q74 q134 q1725) rfl rfl rfl (by decide +kernel) ⟨Nat.le_of_ble_eq_true rfl, Nat.le_of_ble_eq_true rfl⟩) (pr_V hPc hK hDc (va_recv hK hPc (ci := 9) (q0 := 0) rfl rfl)) rfl rfl hl.1 rfl (lv_room (Nat.le_of_ble_eq_true rfl)) dX9_beats_7 ⟨Nat.le_of_ble_eq_true rfl, Nat.le_of_ble_eq_true rfl⟩) hS (fun q _ h => hFc q h) hFc (fun r_1 u tS H1 locs ht hvm hw hB hz1 hk1 hS => ?_)
  obtain ⟨hP1, hK1, hD1⟩ := hB
  rw [ht] at hP1
  try dsimp only at hw
  obtain ⟨hP, hD⟩ := va_join (wr := []) (w1 := [(g 60, .inr (9, mF g)), (g 17, .inl (cy 0, 25, .inl (fun _ => 0)))]) hP hD [0, 1] [] rfl rfl (by decide) (by decide) hk1 hFc hP1 hD1
  generalize H1 = H at hP hS ⊢
  have hP : va_P D clz [(g 60, .inr (9, mF g)), (g 17, .inl (cy 0, 25, .inl (fun _ => 0)))] H := hP
  have hD : va_D A [(g 60, .inr (9, mF g)), (g 17, .inl (cy 0, 25, .inl (fun _ => 0)))] := hD
  subst hw
  refine lv_if_eq (tgt := 27) hx hb dX9_beats_10 (by decide) (fun _ => ?_) (fun c9 => absurd c9 (by decide))
  refine lv_bipush (v := (-2)) hx hb dX9_beats_27 (by decide) ?_
  have hP9 := hP.sub (ws' := [(g 60, .inr (9, mF g)), (g 17, .inl (cy 0, 25, .inl (fun _ => 0)))]) [0, 1] rfl
  have hD9 := hD.sub (ws' := [(g 60, .inr (9, mF g)), (g 17, .inl (cy 0, 25, .inl (fun _ => 0)))]) [0, 1] (by decide) rfl
  exact W.iret (v := (-2)) hx hb hr (fun tS ht hW => ⟨⟨(-2), (), rfl, rfl, by rw [ht]; exact hP9, va_K.moved hW.alike hK, hD9⟩, hS.F ht⟩) hS.2.2 dX9_beats_29

theorem q2131 : Cond.code yX9_phrase cX9_phrase 8 (some .int) ∈ lw_g := lw_gm (List.mem_of_getElem? (i := 2131) (by decide +kernel)) rfl
theorem dX9_phrase_0 : decode cX9_phrase 0 = .ok (.aload_n 0, 1) := by decide +kernel
theorem dX9_phrase_1 : decode cX9_phrase 1 = .ok (.iconst 0, 1) := by decide +kernel
theorem dX9_phrase_2 : decode cX9_phrase 2 = .ok (.putfield 129, 3) := by decide +kernel
theorem dX9_phrase_5 : decode cX9_phrase 5 = .ok (.aload_n 0, 1) := by decide +kernel
theorem dX9_phrase_6 : decode cX9_phrase 6 = .ok (.iload_n 1, 1) := by decide +kernel
theorem dX9_phrase_7 : decode cX9_phrase 7 = .ok (.invokevirtual 303, 3) := by decide +kernel
theorem dX9_phrase_10 : decode cX9_phrase 10 = .ok (.ifCond .eq 13, 3) := by decide +kernel
theorem dX9_phrase_23 : decode cX9_phrase 23 = .ok (.bipush (-2), 2) := by decide +kernel
theorem dX9_phrase_25 : decode cX9_phrase 25 = .ok (.ireturn, 1) := by decide +kernel
set_option maxHeartbeats 4000000 in
set_option maxRecDepth 100000 in
theorem c_X9_phrase (l : Launch) (D : va_G) (cy : Nat → ClassId) (g : Nat → Nat) (p1 : Int32) (p2 : Int32) (sz : Nat) : Met l yX9_phrase (ww yX9_phrase cX9_phrase 8 (some .int)) ({ frames := 3, cells := 0, slots := 0, locals := 192 }) (va_Pc [.ref (g 60), .int p1, .int p2] (pre D cy [(g 60, .inr (9, mF g)), (g 17, .inl (cy 0, 25, .inl (fun _ => 0)))] sz)) (qi D cy (va_A [(g 60, .inr (9, mF g)), (g 17, .inl (cy 0, 25, .inl (fun _ => 0)))] sz) (fun (r : Int32) (_ : Unit) => r = (-2)) (fun (_ : Unit) => [(g 60, .inr (9, mF g)), (g 17, .inl (cy 0, 25, .inl (fun _ => 0)))])) 0 0 (va_A [(g 60, .inr (9, mF g)), (g 17, .inl (cy 0, 25, .inl (fun _ => 0)))] sz) := by
  refine Met.ofW (cc := cX9_phrase) (maxL := 8) (ret := (some .int)) (by decide) rfl ?_
  intro p e s m args below meth c s₁ B hml hv
  obtain ⟨rfl, hsz, hP, hK, hD0⟩ := hv
  have hx := B.exec
  have hb := B.bytes
  have hr := B.returns
  have hts := hts_g (atoms_spec (ws := ww yX9_phrase cX9_phrase 8 (some .int)) B.pre)
  have hown : s.vm.findClass RX9 = some m.cls := findClass_of_methodNamed B.named
  have hlocks := B.notSynchronized
  subst hsz
  have hD := hD0.self (sz := s.heap.size)
  generalize hAe : va_A [(g 60, .inr (9, mF g)), (g 17, .inl (cy 0, 25, .inl (fun _ => 0)))] s.heap.size = A at hD ⊢
  have hA : ∀ q : Nat, s.heap.size ≤ q → A q := fun q h => by rw [← hAe]; exact Or.inr h
  have hS : va_S A s.heap s.heap [] := va_S.rf
  have hl := lv_entry ([.ref (g 60), .int p1, .int p2]) (n := 8) (Nat.le_of_ble_eq_true rfl)
  rw [lg_entry_eq]
  generalize (lg_sl ([.ref (g 60), .int p1, .int p2]) ++ List.replicate (8 - (lg_sl ([.ref (g 60), .int p1, .int p2])).length) Slot.unset).toArray = ls at hl ⊢
  have hl : lv_has ls 8 [(0, .ref (g 60)), (1, .int p1), (2, .int p2)] := hl
  refine lv_aload_n hx hb dX9_phrase_0 rfl (lv_at hl 0 rfl) ?_
  refine lv_iconst (v := 0) hx hb dX9_phrase_1 (by decide) ?_
  refine va_put (D := D) (ci := 9) (v := .int 0) (ty := .int) (C := RX9) (T := TX9) (N := 60) hx hb hts iX9 tyX9 tyX9_ok nmX9 hown hK hP hD hS 0 rfl rfl 0 (by decide) (hts _ q1360) (fun _ h9 => h9) rfl (by decide +kernel) rfl rfl (Nat.le_of_ble_eq_true rfl) dX9_phrase_2 (fun H locs hP hD hS => ?_)
  have hP : va_P D clz [(g 60, .inr (9, mF g)), (g 17, .inl (cy 0, 25, .inl (fun _ => 0)))] H := hP
  have hD : va_D A [(g 60, .inr (9, mF g)), (g 17, .inl (cy 0, 25, .inl (fun _ => 0)))] := hD
  refine lv_aload_n hx hb dX9_phrase_5 rfl (lv_at hl 0 rfl) ?_
  refine lv_iload_n hx hb dX9_phrase_6 rfl (lv_at hl 1 rfl) ?_
  have hPc := hP.sub (ws' := [(g 60, .inr (9, mF g)), (g 17, .inl (cy 0, 25, .inl (fun _ => 0)))]) [0, 1] rfl
  have hDc := hD.sub (ws' := [(g 60, .inr (9, mF g)), (g 17, .inl (cy 0, 25, .inl (fun _ => 0)))]) [0, 1] (by decide) rfl
  have hFc := va_free (wc := [(g 60, .inr (9, mF g)), (g 17, .inl (cy 0, 25, .inl (fun _ => 0)))]) hD hS hA [0, 1] rfl
  refine va_calli (va_runV (As := [.int p1]) (rest := []) ⟨hx, hb, hml, hown, hts⟩ (c_X9_isPart l D cy g p1 H.size) (cwV 1 hts (gd_V q1722 q1724 q74 q134 q1725) rfl rfl rfl (by decide +kernel) ⟨Nat.le_of_ble_eq_true rfl, Nat.le_of_ble_eq_true rfl⟩) (pr_V hPc hK hDc (va_recv hK hPc (ci := 9) (q0 := 0) rfl rfl)) rfl rfl hl.1 rfl (lv_room (Nat.le_of_ble_eq_true rfl)) dX9_phrase_7 ⟨Nat.le_of_ble_eq_true rfl, Nat.le_of_ble_eq_true rfl⟩) hS (fun q _ h => hFc q h) hFc (fun r_1 u tS H1 locs ht hvm hw hB hz1 hk1 hS => ?_)
  obtain ⟨hP1, hK1, hD1⟩ := hB
  rw [ht] at hP1
  try dsimp only at hw
  obtain ⟨hP, hD⟩ := va_join (wr := []) (w1 := [(g 60, .inr (9, mF g)), (g 17, .inl (cy 0, 25, .inl (fun _ => 0)))]) hP hD [0, 1] [] rfl rfl (by decide) (by decide) hk1 hFc hP1 hD1
  generalize H1 = H at hP hS ⊢
  have hP : va_P D clz [(g 60, .inr (9, mF g)), (g 17, .inl (cy 0, 25, .inl (fun _ => 0)))] H := hP
  have hD : va_D A [(g 60, .inr (9, mF g)), (g 17, .inl (cy 0, 25, .inl (fun _ => 0)))] := hD
  subst hw
  refine lv_if_eq (tgt := 23) hx hb dX9_phrase_10 (by decide) (fun _ => ?_) (fun c9 => absurd c9 (by decide))
  refine lv_bipush (v := (-2)) hx hb dX9_phrase_23 (by decide) ?_
  have hP9 := hP.sub (ws' := [(g 60, .inr (9, mF g)), (g 17, .inl (cy 0, 25, .inl (fun _ => 0)))]) [0, 1] rfl
  have hD9 := hD.sub (ws' := [(g 60, .inr (9, mF g)), (g 17, .inl (cy 0, 25, .inl (fun _ => 0)))]) [0, 1] (by decide) rfl
  exact W.iret (v := (-2)) hx hb hr (fun tS ht hW => ⟨⟨(-2), (), rfl, rfl, by rw [ht]; exact hP9, va_K.moved hW.alike hK, hD9⟩, hS.F ht⟩) hS.2.2 dX9_phrase_25

theorem q2135 : Cond.code yX9_pitches cX9_pitches 6 (some .int) ∈ lw_g := lw_gm (List.mem_of_getElem? (i := 2135) (by decide +kernel)) rfl
theorem dX9_pitches_0 : decode cX9_pitches 0 = .ok (.aload_n 0, 1) := by decide +kernel
theorem dX9_pitches_1 : decode cX9_pitches 1 = .ok (.iconst 0, 1) := by decide +kernel
theorem dX9_pitches_2 : decode cX9_pitches 2 = .ok (.putfield 129, 3) := by decide +kernel
theorem dX9_pitches_5 : decode cX9_pitches 5 = .ok (.aload_n 0, 1) := by decide +kernel
theorem dX9_pitches_6 : decode cX9_pitches 6 = .ok (.iload_n 1, 1) := by decide +kernel
theorem dX9_pitches_7 : decode cX9_pitches 7 = .ok (.invokevirtual 303, 3) := by decide +kernel
theorem dX9_pitches_10 : decode cX9_pitches 10 = .ok (.ifCond .ne 6, 3) := by decide +kernel
theorem dX9_pitches_13 : decode cX9_pitches 13 = .ok (.bipush (-2), 2) := by decide +kernel
theorem dX9_pitches_15 : decode cX9_pitches 15 = .ok (.ireturn, 1) := by decide +kernel
set_option maxHeartbeats 4000000 in
set_option maxRecDepth 100000 in
theorem c_X9_pitches (l : Launch) (D : va_G) (cy : Nat → ClassId) (g : Nat → Nat) (p1 : Int32) (sz : Nat) : Met l yX9_pitches (ww yX9_pitches cX9_pitches 6 (some .int)) ({ frames := 3, cells := 0, slots := 0, locals := 192 }) (va_Pc [.ref (g 60), .int p1] (pre D cy [(g 60, .inr (9, mF g)), (g 17, .inl (cy 0, 25, .inl (fun _ => 0)))] sz)) (qi D cy (va_A [(g 60, .inr (9, mF g)), (g 17, .inl (cy 0, 25, .inl (fun _ => 0)))] sz) (fun (r : Int32) (_ : Unit) => r = (-2)) (fun (_ : Unit) => [(g 60, .inr (9, mF g)), (g 17, .inl (cy 0, 25, .inl (fun _ => 0)))])) 0 0 (va_A [(g 60, .inr (9, mF g)), (g 17, .inl (cy 0, 25, .inl (fun _ => 0)))] sz) := by
  refine Met.ofW (cc := cX9_pitches) (maxL := 6) (ret := (some .int)) (by decide) rfl ?_
  intro p e s m args below meth c s₁ B hml hv
  obtain ⟨rfl, hsz, hP, hK, hD0⟩ := hv
  have hx := B.exec
  have hb := B.bytes
  have hr := B.returns
  have hts := hts_g (atoms_spec (ws := ww yX9_pitches cX9_pitches 6 (some .int)) B.pre)
  have hown : s.vm.findClass RX9 = some m.cls := findClass_of_methodNamed B.named
  have hlocks := B.notSynchronized
  subst hsz
  have hD := hD0.self (sz := s.heap.size)
  generalize hAe : va_A [(g 60, .inr (9, mF g)), (g 17, .inl (cy 0, 25, .inl (fun _ => 0)))] s.heap.size = A at hD ⊢
  have hA : ∀ q : Nat, s.heap.size ≤ q → A q := fun q h => by rw [← hAe]; exact Or.inr h
  have hS : va_S A s.heap s.heap [] := va_S.rf
  have hl := lv_entry ([.ref (g 60), .int p1]) (n := 6) (Nat.le_of_ble_eq_true rfl)
  rw [lg_entry_eq]
  generalize (lg_sl ([.ref (g 60), .int p1]) ++ List.replicate (6 - (lg_sl ([.ref (g 60), .int p1])).length) Slot.unset).toArray = ls at hl ⊢
  have hl : lv_has ls 6 [(0, .ref (g 60)), (1, .int p1)] := hl
  refine lv_aload_n hx hb dX9_pitches_0 rfl (lv_at hl 0 rfl) ?_
  refine lv_iconst (v := 0) hx hb dX9_pitches_1 (by decide) ?_
  refine va_put (D := D) (ci := 9) (v := .int 0) (ty := .int) (C := RX9) (T := TX9) (N := 60) hx hb hts iX9 tyX9 tyX9_ok nmX9 hown hK hP hD hS 0 rfl rfl 0 (by decide) (hts _ q1360) (fun _ h9 => h9) rfl (by decide +kernel) rfl rfl (Nat.le_of_ble_eq_true rfl) dX9_pitches_2 (fun H locs hP hD hS => ?_)
  have hP : va_P D clz [(g 60, .inr (9, mF g)), (g 17, .inl (cy 0, 25, .inl (fun _ => 0)))] H := hP
  have hD : va_D A [(g 60, .inr (9, mF g)), (g 17, .inl (cy 0, 25, .inl (fun _ => 0)))] := hD
  refine lv_aload_n hx hb dX9_pitches_5 rfl (lv_at hl 0 rfl) ?_
  refine lv_iload_n hx hb dX9_pitches_6 rfl (lv_at hl 1 rfl) ?_
  have hPc := hP.sub (ws' := [(g 60, .inr (9, mF g)), (g 17, .inl (cy 0, 25, .inl (fun _ => 0)))]) [0, 1] rfl
  have hDc := hD.sub (ws' := [(g 60, .inr (9, mF g)), (g 17, .inl (cy 0, 25, .inl (fun _ => 0)))]) [0, 1] (by decide) rfl
  have hFc := va_free (wc := [(g 60, .inr (9, mF g)), (g 17, .inl (cy 0, 25, .inl (fun _ => 0)))]) hD hS hA [0, 1] rfl
  refine va_calli (va_runV (As := [.int p1]) (rest := []) ⟨hx, hb, hml, hown, hts⟩ (c_X9_isPart l D cy g p1 H.size) (cwV 1 hts (gd_V q1722 q1724 q74 q134 q1725) rfl rfl rfl (by decide +kernel) ⟨Nat.le_of_ble_eq_true rfl, Nat.le_of_ble_eq_true rfl⟩) (pr_V hPc hK hDc (va_recv hK hPc (ci := 9) (q0 := 0) rfl rfl)) rfl rfl hl.1 rfl (lv_room (Nat.le_of_ble_eq_true rfl)) dX9_pitches_7 ⟨Nat.le_of_ble_eq_true rfl, Nat.le_of_ble_eq_true rfl⟩) hS (fun q _ h => hFc q h) hFc (fun r_1 u tS H1 locs ht hvm hw hB hz1 hk1 hS => ?_)
  obtain ⟨hP1, hK1, hD1⟩ := hB
  rw [ht] at hP1
  try dsimp only at hw
  obtain ⟨hP, hD⟩ := va_join (wr := []) (w1 := [(g 60, .inr (9, mF g)), (g 17, .inl (cy 0, 25, .inl (fun _ => 0)))]) hP hD [0, 1] [] rfl rfl (by decide) (by decide) hk1 hFc hP1 hD1
  generalize H1 = H at hP hS ⊢
  have hP : va_P D clz [(g 60, .inr (9, mF g)), (g 17, .inl (cy 0, 25, .inl (fun _ => 0)))] H := hP
  have hD : va_D A [(g 60, .inr (9, mF g)), (g 17, .inl (cy 0, 25, .inl (fun _ => 0)))] := hD
  subst hw
  refine lv_if_ne (tgt := 16) hx hb dX9_pitches_10 (by decide) (fun c9 => absurd c9 (by decide)) (fun _ => ?_)
  refine lv_bipush (v := (-2)) hx hb dX9_pitches_13 (by decide) ?_
  have hP9 := hP.sub (ws' := [(g 60, .inr (9, mF g)), (g 17, .inl (cy 0, 25, .inl (fun _ => 0)))]) [0, 1] rfl
  have hD9 := hD.sub (ws' := [(g 60, .inr (9, mF g)), (g 17, .inl (cy 0, 25, .inl (fun _ => 0)))]) [0, 1] (by decide) rfl
  exact W.iret (v := (-2)) hx hb hr (fun tS ht hW => ⟨⟨(-2), (), rfl, rfl, by rw [ht]; exact hP9, va_K.moved hW.alike hK, hD9⟩, hS.F ht⟩) hS.2.2 dX9_pitches_15

theorem q2105 : Cond.code yX9_train cX9_train 4 (some .int) ∈ lw_g := lw_gm (List.mem_of_getElem? (i := 2105) (by decide +kernel)) rfl
theorem dX9_train_0 : decode cX9_train 0 = .ok (.aload_n 0, 1) := by decide +kernel
theorem dX9_train_1 : decode cX9_train 1 = .ok (.iconst 0, 1) := by decide +kernel
theorem dX9_train_2 : decode cX9_train 2 = .ok (.putfield 129, 3) := by decide +kernel
theorem dX9_train_5 : decode cX9_train 5 = .ok (.aload_n 0, 1) := by decide +kernel
theorem dX9_train_6 : decode cX9_train 6 = .ok (.iload_n 1, 1) := by decide +kernel
theorem dX9_train_7 : decode cX9_train 7 = .ok (.invokevirtual 317, 3) := by decide +kernel
theorem dX9_train_10 : decode cX9_train 10 = .ok (.ifCond .eq 58, 3) := by decide +kernel
theorem dX9_train_68 : decode cX9_train 68 = .ok (.bipush (-2), 2) := by decide +kernel
theorem dX9_train_70 : decode cX9_train 70 = .ok (.ireturn, 1) := by decide +kernel
set_option maxHeartbeats 4000000 in
set_option maxRecDepth 100000 in
theorem c_X9_train (l : Launch) (D : va_G) (cy : Nat → ClassId) (g : Nat → Nat) (p1 : Int32) (p2 : Int32) (p3 : Int32) (sz : Nat) : Met l yX9_train (ww yX9_train cX9_train 4 (some .int)) ({ frames := 3, cells := 0, slots := 0, locals := 192 }) (va_Pc [.ref (g 60), .int p1, .int p2, .int p3] (pre D cy [(g 60, .inr (9, mF g)), (g 17, .inl (cy 0, 25, .inl (fun _ => 0)))] sz)) (qi D cy (va_A [(g 60, .inr (9, mF g)), (g 17, .inl (cy 0, 25, .inl (fun _ => 0)))] sz) (fun (r : Int32) (_ : Unit) => r = (-2)) (fun (_ : Unit) => [(g 60, .inr (9, mF g)), (g 17, .inl (cy 0, 25, .inl (fun _ => 0)))])) 0 0 (va_A [(g 60, .inr (9, mF g)), (g 17, .inl (cy 0, 25, .inl (fun _ => 0)))] sz) := by
  refine Met.ofW (cc := cX9_train) (maxL := 4) (ret := (some .int)) (by decide) rfl ?_
  intro p e s m args below meth c s₁ B hml hv
  obtain ⟨rfl, hsz, hP, hK, hD0⟩ := hv
  have hx := B.exec
  have hb := B.bytes
  have hr := B.returns
  have hts := hts_g (atoms_spec (ws := ww yX9_train cX9_train 4 (some .int)) B.pre)
  have hown : s.vm.findClass RX9 = some m.cls := findClass_of_methodNamed B.named
  have hlocks := B.notSynchronized
  subst hsz
  have hD := hD0.self (sz := s.heap.size)
  generalize hAe : va_A [(g 60, .inr (9, mF g)), (g 17, .inl (cy 0, 25, .inl (fun _ => 0)))] s.heap.size = A at hD ⊢
  have hA : ∀ q : Nat, s.heap.size ≤ q → A q := fun q h => by rw [← hAe]; exact Or.inr h
  have hS : va_S A s.heap s.heap [] := va_S.rf
  have hl := lv_entry ([.ref (g 60), .int p1, .int p2, .int p3]) (n := 4) (Nat.le_of_ble_eq_true rfl)
  rw [lg_entry_eq]
  generalize (lg_sl ([.ref (g 60), .int p1, .int p2, .int p3]) ++ List.replicate (4 - (lg_sl ([.ref (g 60), .int p1, .int p2, .int p3])).length) Slot.unset).toArray = ls at hl ⊢
  have hl : lv_has ls 4 [(0, .ref (g 60)), (1, .int p1), (2, .int p2), (3, .int p3)] := hl
  refine lv_aload_n hx hb dX9_train_0 rfl (lv_at hl 0 rfl) ?_
  refine lv_iconst (v := 0) hx hb dX9_train_1 (by decide) ?_
  refine va_put (D := D) (ci := 9) (v := .int 0) (ty := .int) (C := RX9) (T := TX9) (N := 60) hx hb hts iX9 tyX9 tyX9_ok nmX9 hown hK hP hD hS 0 rfl rfl 0 (by decide) (hts _ q1360) (fun _ h9 => h9) rfl (by decide +kernel) rfl rfl (Nat.le_of_ble_eq_true rfl) dX9_train_2 (fun H locs hP hD hS => ?_)
  have hP : va_P D clz [(g 60, .inr (9, mF g)), (g 17, .inl (cy 0, 25, .inl (fun _ => 0)))] H := hP
  have hD : va_D A [(g 60, .inr (9, mF g)), (g 17, .inl (cy 0, 25, .inl (fun _ => 0)))] := hD
  refine lv_aload_n hx hb dX9_train_5 rfl (lv_at hl 0 rfl) ?_
  refine lv_iload_n hx hb dX9_train_6 rfl (lv_at hl 1 rfl) ?_
  have hPc := hP.sub (ws' := [(g 60, .inr (9, mF g)), (g 17, .inl (cy 0, 25, .inl (fun _ => 0)))]) [0, 1] rfl
  have hDc := hD.sub (ws' := [(g 60, .inr (9, mF g)), (g 17, .inl (cy 0, 25, .inl (fun _ => 0)))]) [0, 1] (by decide) rfl
  have hFc := va_free (wc := [(g 60, .inr (9, mF g)), (g 17, .inl (cy 0, 25, .inl (fun _ => 0)))]) hD hS hA [0, 1] rfl
  refine va_calli (va_runV (As := [.int p1]) (rest := []) ⟨hx, hb, hml, hown, hts⟩ (c_X9_isPlayer l D cy g p1 H.size) (cwV 1 hts (gd_V q1710 q1712 q72 q134 q1713) rfl rfl rfl (by decide +kernel) ⟨Nat.le_of_ble_eq_true rfl, Nat.le_of_ble_eq_true rfl⟩) (pr_V hPc hK hDc (va_recv hK hPc (ci := 9) (q0 := 0) rfl rfl)) rfl rfl hl.1 rfl (lv_room (Nat.le_of_ble_eq_true rfl)) dX9_train_7 ⟨Nat.le_of_ble_eq_true rfl, Nat.le_of_ble_eq_true rfl⟩) hS (fun q _ h => hFc q h) hFc (fun r_1 u tS H1 locs ht hvm hw hB hz1 hk1 hS => ?_)
  obtain ⟨hP1, hK1, hD1⟩ := hB
  rw [ht] at hP1
  try dsimp only at hw
  obtain ⟨hP, hD⟩ := va_join (wr := []) (w1 := [(g 60, .inr (9, mF g)), (g 17, .inl (cy 0, 25, .inl (fun _ => 0)))]) hP hD [0, 1] [] rfl rfl (by decide) (by decide) hk1 hFc hP1 hD1
  generalize H1 = H at hP hS ⊢
  have hP : va_P D clz [(g 60, .inr (9, mF g)), (g 17, .inl (cy 0, 25, .inl (fun _ => 0)))] H := hP
  have hD : va_D A [(g 60, .inr (9, mF g)), (g 17, .inl (cy 0, 25, .inl (fun _ => 0)))] := hD
  subst hw
  refine lv_if_eq (tgt := 68) hx hb dX9_train_10 (by decide) (fun _ => ?_) (fun c9 => absurd c9 (by decide))
  refine lv_bipush (v := (-2)) hx hb dX9_train_68 (by decide) ?_
  have hP9 := hP.sub (ws' := [(g 60, .inr (9, mF g)), (g 17, .inl (cy 0, 25, .inl (fun _ => 0)))]) [0, 1] rfl
  have hD9 := hD.sub (ws' := [(g 60, .inr (9, mF g)), (g 17, .inl (cy 0, 25, .inl (fun _ => 0)))]) [0, 1] (by decide) rfl
  exact W.iret (v := (-2)) hx hb hr (fun tS ht hW => ⟨⟨(-2), (), rfl, rfl, by rw [ht]; exact hP9, va_K.moved hW.alike hK, hD9⟩, hS.F ht⟩) hS.2.2 dX9_train_70

theorem q2115 : Cond.code yX9_tune cX9_tune 3 (some .int) ∈ lw_g := lw_gm (List.mem_of_getElem? (i := 2115) (by decide +kernel)) rfl
theorem dX9_tune_0 : decode cX9_tune 0 = .ok (.aload_n 0, 1) := by decide +kernel
theorem dX9_tune_1 : decode cX9_tune 1 = .ok (.iconst 0, 1) := by decide +kernel
theorem dX9_tune_2 : decode cX9_tune 2 = .ok (.putfield 129, 3) := by decide +kernel
theorem dX9_tune_5 : decode cX9_tune 5 = .ok (.aload_n 0, 1) := by decide +kernel
theorem dX9_tune_6 : decode cX9_tune 6 = .ok (.iload_n 1, 1) := by decide +kernel
theorem dX9_tune_7 : decode cX9_tune 7 = .ok (.invokevirtual 312, 3) := by decide +kernel
theorem dX9_tune_10 : decode cX9_tune 10 = .ok (.ifCond .eq 34, 3) := by decide +kernel
theorem dX9_tune_44 : decode cX9_tune 44 = .ok (.bipush (-2), 2) := by decide +kernel
theorem dX9_tune_46 : decode cX9_tune 46 = .ok (.ireturn, 1) := by decide +kernel
set_option maxHeartbeats 4000000 in
set_option maxRecDepth 100000 in
theorem c_X9_tune (l : Launch) (D : va_G) (cy : Nat → ClassId) (g : Nat → Nat) (p1 : Int32) (p2 : Int32) (sz : Nat) : Met l yX9_tune (ww yX9_tune cX9_tune 3 (some .int)) ({ frames := 3, cells := 0, slots := 0, locals := 192 }) (va_Pc [.ref (g 60), .int p1, .int p2] (pre D cy [(g 60, .inr (9, mF g)), (g 17, .inl (cy 0, 25, .inl (fun _ => 0)))] sz)) (qi D cy (va_A [(g 60, .inr (9, mF g)), (g 17, .inl (cy 0, 25, .inl (fun _ => 0)))] sz) (fun (r : Int32) (_ : Unit) => r = (-2)) (fun (_ : Unit) => [(g 60, .inr (9, mF g)), (g 17, .inl (cy 0, 25, .inl (fun _ => 0)))])) 0 0 (va_A [(g 60, .inr (9, mF g)), (g 17, .inl (cy 0, 25, .inl (fun _ => 0)))] sz) := by
  refine Met.ofW (cc := cX9_tune) (maxL := 3) (ret := (some .int)) (by decide) rfl ?_
  intro p e s m args below meth c s₁ B hml hv
  obtain ⟨rfl, hsz, hP, hK, hD0⟩ := hv
  have hx := B.exec
  have hb := B.bytes
  have hr := B.returns
  have hts := hts_g (atoms_spec (ws := ww yX9_tune cX9_tune 3 (some .int)) B.pre)
  have hown : s.vm.findClass RX9 = some m.cls := findClass_of_methodNamed B.named
  have hlocks := B.notSynchronized
  subst hsz
  have hD := hD0.self (sz := s.heap.size)
  generalize hAe : va_A [(g 60, .inr (9, mF g)), (g 17, .inl (cy 0, 25, .inl (fun _ => 0)))] s.heap.size = A at hD ⊢
  have hA : ∀ q : Nat, s.heap.size ≤ q → A q := fun q h => by rw [← hAe]; exact Or.inr h
  have hS : va_S A s.heap s.heap [] := va_S.rf
  have hl := lv_entry ([.ref (g 60), .int p1, .int p2]) (n := 3) (Nat.le_of_ble_eq_true rfl)
  rw [lg_entry_eq]
  generalize (lg_sl ([.ref (g 60), .int p1, .int p2]) ++ List.replicate (3 - (lg_sl ([.ref (g 60), .int p1, .int p2])).length) Slot.unset).toArray = ls at hl ⊢
  have hl : lv_has ls 3 [(0, .ref (g 60)), (1, .int p1), (2, .int p2)] := hl
  refine lv_aload_n hx hb dX9_tune_0 rfl (lv_at hl 0 rfl) ?_
  refine lv_iconst (v := 0) hx hb dX9_tune_1 (by decide) ?_
  refine va_put (D := D) (ci := 9) (v := .int 0) (ty := .int) (C := RX9) (T := TX9) (N := 60) hx hb hts iX9 tyX9 tyX9_ok nmX9 hown hK hP hD hS 0 rfl rfl 0 (by decide) (hts _ q1360) (fun _ h9 => h9) rfl (by decide +kernel) rfl rfl (Nat.le_of_ble_eq_true rfl) dX9_tune_2 (fun H locs hP hD hS => ?_)
  have hP : va_P D clz [(g 60, .inr (9, mF g)), (g 17, .inl (cy 0, 25, .inl (fun _ => 0)))] H := hP
  have hD : va_D A [(g 60, .inr (9, mF g)), (g 17, .inl (cy 0, 25, .inl (fun _ => 0)))] := hD
  refine lv_aload_n hx hb dX9_tune_5 rfl (lv_at hl 0 rfl) ?_
  refine lv_iload_n hx hb dX9_tune_6 rfl (lv_at hl 1 rfl) ?_
  have hPc := hP.sub (ws' := [(g 60, .inr (9, mF g)), (g 17, .inl (cy 0, 25, .inl (fun _ => 0)))]) [0, 1] rfl
  have hDc := hD.sub (ws' := [(g 60, .inr (9, mF g)), (g 17, .inl (cy 0, 25, .inl (fun _ => 0)))]) [0, 1] (by decide) rfl
  have hFc := va_free (wc := [(g 60, .inr (9, mF g)), (g 17, .inl (cy 0, 25, .inl (fun _ => 0)))]) hD hS hA [0, 1] rfl
  refine va_calli (va_runV (As := [.int p1]) (rest := []) ⟨hx, hb, hml, hown, hts⟩ (c_X9_isBrass l D cy g p1 H.size) (cwV 1 hts (gd_V q1701 q1703 q71 q134 q1704) rfl rfl rfl (by decide +kernel) ⟨Nat.le_of_ble_eq_true rfl, Nat.le_of_ble_eq_true rfl⟩) (pr_V hPc hK hDc (va_recv hK hPc (ci := 9) (q0 := 0) rfl rfl)) rfl rfl hl.1 rfl (lv_room (Nat.le_of_ble_eq_true rfl)) dX9_tune_7 ⟨Nat.le_of_ble_eq_true rfl, Nat.le_of_ble_eq_true rfl⟩) hS (fun q _ h => hFc q h) hFc (fun r_1 u tS H1 locs ht hvm hw hB hz1 hk1 hS => ?_)
  obtain ⟨hP1, hK1, hD1⟩ := hB
  rw [ht] at hP1
  try dsimp only at hw
  obtain ⟨hP, hD⟩ := va_join (wr := []) (w1 := [(g 60, .inr (9, mF g)), (g 17, .inl (cy 0, 25, .inl (fun _ => 0)))]) hP hD [0, 1] [] rfl rfl (by decide) (by decide) hk1 hFc hP1 hD1
  generalize H1 = H at hP hS ⊢
  have hP : va_P D clz [(g 60, .inr (9, mF g)), (g 17, .inl (cy 0, 25, .inl (fun _ => 0)))] H := hP
  have hD : va_D A [(g 60, .inr (9, mF g)), (g 17, .inl (cy 0, 25, .inl (fun _ => 0)))] := hD
  subst hw
  refine lv_if_eq (tgt := 44) hx hb dX9_tune_10 (by decide) (fun _ => ?_) (fun c9 => absurd c9 (by decide))
  refine lv_bipush (v := (-2)) hx hb dX9_tune_44 (by decide) ?_
  have hP9 := hP.sub (ws' := [(g 60, .inr (9, mF g)), (g 17, .inl (cy 0, 25, .inl (fun _ => 0)))]) [0, 1] rfl
  have hD9 := hD.sub (ws' := [(g 60, .inr (9, mF g)), (g 17, .inl (cy 0, 25, .inl (fun _ => 0)))]) [0, 1] (by decide) rfl
  exact W.iret (v := (-2)) hx hb hr (fun tS ht hW => ⟨⟨(-2), (), rfl, rfl, by rw [ht]; exact hP9, va_K.moved hW.alike hK, hD9⟩, hS.F ht⟩) hS.2.2 dX9_tune_46

