theorem q1758 : Cond.code yX9_off cX9_off 5 (some .int) ∈ lw_g := lw_gm (List.mem_of_getElem? (i := 1758) (by decide +kernel)) rfl
theorem q1781 : Cond.constant RX9 367 (-100000) ∈ lw_g := lw_gm (List.mem_of_getElem? (i := 1781) (by decide +kernel)) rfl
theorem dX9_off_0 : decode cX9_off 0 = .ok (.aload_n 0, 1) := by decide +kernel
theorem dX9_off_1 : decode cX9_off 1 = .ok (.iconst 0, 1) := by decide +kernel
theorem dX9_off_2 : decode cX9_off 2 = .ok (.putfield 129, 3) := by decide +kernel
theorem dX9_off_5 : decode cX9_off 5 = .ok (.aload_n 0, 1) := by decide +kernel
theorem dX9_off_6 : decode cX9_off 6 = .ok (.iload_n 1, 1) := by decide +kernel
theorem dX9_off_7 : decode cX9_off 7 = .ok (.iload_n 2, 1) := by decide +kernel
theorem dX9_off_8 : decode cX9_off 8 = .ok (.iload_n 3, 1) := by decide +kernel
theorem dX9_off_9 : decode cX9_off 9 = .ok (.iload 4, 2) := by decide +kernel
theorem dX9_off_11 : decode cX9_off 11 = .ok (.invokevirtual 359, 3) := by decide +kernel
theorem dX9_off_14 : decode cX9_off 14 = .ok (.ifCond .eq 15, 3) := by decide +kernel
theorem dX9_off_29 : decode cX9_off 29 = .ok (.ldc_w 367, 3) := by decide +kernel
theorem dX9_off_32 : decode cX9_off 32 = .ok (.ireturn, 1) := by decide +kernel
set_option maxHeartbeats 4000000 in
set_option maxRecDepth 100000 in
theorem c_X9_off (l : Launch) (D : va_G) (cy : Nat → ClassId) (g : Nat → Nat) (p1 : Int32) (p2 : Int32) (p3 : Int32) (p4 : Int32) (sz : Nat) : Met l yX9_off (ww yX9_off cX9_off 5 (some .int)) ({ frames := 4, cells := 0, slots := 0, locals := 256 }) (va_Pc [.ref (g 60), .int p1, .int p2, .int p3, .int p4] (pre D cy [(g 60, .inr (9, mF g)), (g 17, .inl (cy 0, 25, .inl (fun _ => 0)))] sz)) (qi D cy (va_A [(g 60, .inr (9, mF g)), (g 17, .inl (cy 0, 25, .inl (fun _ => 0)))] sz) (fun (r : Int32) (_ : Unit) => r = (-100000)) (fun (_ : Unit) => [(g 60, .inr (9, mF g)), (g 17, .inl (cy 0, 25, .inl (fun _ => 0)))])) 0 0 (va_A [(g 60, .inr (9, mF g)), (g 17, .inl (cy 0, 25, .inl (fun _ => 0)))] sz) := by
  refine Met.ofW (cc := cX9_off) (maxL := 5) (ret := (some .int)) (by decide) rfl ?_
  intro p e s m args below meth c s₁ B hml hv
  obtain ⟨rfl, hsz, hP, hK, hD0⟩ := hv
  have hx := B.exec
  have hb := B.bytes
  have hr := B.returns
  have hts := hts_g (atoms_spec (ws := ww yX9_off cX9_off 5 (some .int)) B.pre)
  have hown : s.vm.findClass RX9 = some m.cls := findClass_of_methodNamed B.named
  have hlocks := B.notSynchronized
  subst hsz
  have hD := hD0.self (sz := s.heap.size)
  generalize hAe : va_A [(g 60, .inr (9, mF g)), (g 17, .inl (cy 0, 25, .inl (fun _ => 0)))] s.heap.size = A at hD ⊢
  have hA : ∀ q : Nat, s.heap.size ≤ q → A q := fun q h => by rw [← hAe]; exact Or.inr h
  have hS : va_S A s.heap s.heap [] := va_S.rf
  have hl := lv_entry ([.ref (g 60), .int p1, .int p2, .int p3, .int p4]) (n := 5) (Nat.le_of_ble_eq_true rfl)
  rw [lg_entry_eq]
  generalize (lg_sl ([.ref (g 60), .int p1, .int p2, .int p3, .int p4]) ++ List.replicate (5 - (lg_sl ([.ref (g 60), .int p1, .int p2, .int p3, .int p4])).length) Slot.unset).toArray = ls at hl ⊢
  have hl : lv_has ls 5 [(0, .ref (g 60)), (1, .int p1), (2, .int p2), (3, .int p3), (4, .int p4)] := hl
  refine lv_aload_n hx hb dX9_off_0 rfl (lv_at hl 0 rfl) ?_
  refine lv_iconst (v := 0) hx hb dX9_off_1 (by decide) ?_
  refine va_put (D := D) (ci := 9) (v := .int 0) (ty := .int) (C := RX9) (T := TX9) (N := 60) hx hb hts iX9 tyX9 tyX9_ok nmX9 hown hK hP hD hS 0 rfl rfl 0 (by decide) (hts _ q1360) (fun _ h9 => h9) rfl (by decide +kernel) rfl rfl (Nat.le_of_ble_eq_true rfl) dX9_off_2 (fun H locs hP hD hS => ?_)
  have hP : va_P D clz [(g 60, .inr (9, mF g)), (g 17, .inl (cy 0, 25, .inl (fun _ => 0)))] H := hP
  have hD : va_D A [(g 60, .inr (9, mF g)), (g 17, .inl (cy 0, 25, .inl (fun _ => 0)))] := hD
  refine lv_aload_n hx hb dX9_off_5 rfl (lv_at hl 0 rfl) ?_
  refine lv_iload_n hx hb dX9_off_6 rfl (lv_at hl 1 rfl) ?_
  refine lv_iload_n hx hb dX9_off_7 rfl (lv_at hl 2 rfl) ?_
  refine lv_iload_n hx hb dX9_off_8 rfl (lv_at hl 3 rfl) ?_
  refine lv_iload hx hb dX9_off_9 (lv_at hl 4 rfl) ?_
  have hPc := hP.sub (ws' := [(g 60, .inr (9, mF g)), (g 17, .inl (cy 0, 25, .inl (fun _ => 0)))]) [0, 1] rfl
  have hDc := hD.sub (ws' := [(g 60, .inr (9, mF g)), (g 17, .inl (cy 0, 25, .inl (fun _ => 0)))]) [0, 1] (by decide) rfl
  have hFc := va_free (wc := [(g 60, .inr (9, mF g)), (g 17, .inl (cy 0, 25, .inl (fun _ => 0)))]) hD hS hA [0, 1] rfl
  refine va_calli (va_runV (As := [.int p1, .int p2, .int p3, .int p4]) (rest := []) ⟨hx, hb, hml, hown, hts⟩ (c_X9_isAsked l D cy g p1 p2 p3 p4 H.size) (cwV 4 hts (gd_V q1759 q1761 q81 q134 q1762) rfl rfl rfl (by decide +kernel) ⟨Nat.le_of_ble_eq_true rfl, Nat.le_of_ble_eq_true rfl⟩) (pr_V hPc hK hDc (va_recv hK hPc (ci := 9) (q0 := 0) rfl rfl)) rfl rfl hl.1 rfl (lv_room (Nat.le_of_ble_eq_true rfl)) dX9_off_11 ⟨Nat.le_of_ble_eq_true rfl, Nat.le_of_ble_eq_true rfl⟩) hS (fun q _ h => hFc q h) hFc (fun r_1 u tS H1 locs ht hvm hw hB hz1 hk1 hS => ?_)
  obtain ⟨hP1, hK1, hD1⟩ := hB
  rw [ht] at hP1
  try dsimp only at hw
  obtain ⟨hP, hD⟩ := va_join (wr := []) (w1 := [(g 60, .inr (9, mF g)), (g 17, .inl (cy 0, 25, .inl (fun _ => 0)))]) hP hD [0, 1] [] rfl rfl (by decide) (by decide) hk1 hFc hP1 hD1
  generalize H1 = H at hP hS ⊢
  have hP : va_P D clz [(g 60, .inr (9, mF g)), (g 17, .inl (cy 0, 25, .inl (fun _ => 0)))] H := hP
  have hD : va_D A [(g 60, .inr (9, mF g)), (g 17, .inl (cy 0, 25, .inl (fun _ => 0)))] := hD
  subst hw
  refine lv_if_eq (tgt := 29) hx hb dX9_off_14 (by decide) (fun _ => ?_) (fun c9 => absurd c9 (by decide))
  refine lv_ldcw (v := (-100000)) hx hb hown (hts _ q1781) dX9_off_29 ?_
  have hP9 := hP.sub (ws' := [(g 60, .inr (9, mF g)), (g 17, .inl (cy 0, 25, .inl (fun _ => 0)))]) [0, 1] rfl
  have hD9 := hD.sub (ws' := [(g 60, .inr (9, mF g)), (g 17, .inl (cy 0, 25, .inl (fun _ => 0)))]) [0, 1] (by decide) rfl
  exact W.iret (v := (-100000)) hx hb hr (fun tS ht hW => ⟨⟨(-100000), (), rfl, rfl, by rw [ht]; exact hP9, va_K.moved hW.alike hK, hD9⟩, hS.F ht⟩) hS.2.2 dX9_off_32

theorem q1575 : Cond.code yX9_end cX9_end 2 (some .int) ∈ lw_g := lw_gm (List.mem_of_getElem? (i := 1575) (by decide +kernel)) rfl
theorem q1366 : Cond.fieldLink RX9 146 "LipsAndSlidesModel" "taped" "I" ∈ lw_g := lw_gm (List.mem_of_getElem? (i := 1366) (by decide +kernel)) rfl
theorem dX9_end_0 : decode cX9_end 0 = .ok (.aload_n 0, 1) := by decide +kernel
theorem dX9_end_1 : decode cX9_end 1 = .ok (.iconst 0, 1) := by decide +kernel
theorem dX9_end_2 : decode cX9_end 2 = .ok (.putfield 129, 3) := by decide +kernel
theorem dX9_end_5 : decode cX9_end 5 = .ok (.iload_n 1, 1) := by decide +kernel
theorem dX9_end_6 : decode cX9_end 6 = .ok (.i2l, 1) := by decide +kernel
theorem dX9_end_7 : decode cX9_end 7 = .ok (.lconst 0, 1) := by decide +kernel
theorem dX9_end_8 : decode cX9_end 8 = .ok (.aload_n 0, 1) := by decide +kernel
theorem dX9_end_9 : decode cX9_end 9 = .ok (.getfield 146, 3) := by decide +kernel
theorem dX9_end_12 : decode cX9_end 12 = .ok (.i2l, 1) := by decide +kernel
theorem dX9_end_13 : decode cX9_end 13 = .ok (.invokestatic 134, 3) := by decide +kernel
theorem dX9_end_16 : decode cX9_end 16 = .ok (.ifCond .ne 5, 3) := by decide +kernel
theorem dX9_end_19 : decode cX9_end 19 = .ok (.iconst (-1), 1) := by decide +kernel
theorem dX9_end_20 : decode cX9_end 20 = .ok (.ireturn, 1) := by decide +kernel
theorem dX9_end_21 : decode cX9_end 21 = .ok (.aload_n 0, 1) := by decide +kernel
theorem dX9_end_22 : decode cX9_end 22 = .ok (.iload_n 1, 1) := by decide +kernel
theorem dX9_end_23 : decode cX9_end 23 = .ok (.putfield 146, 3) := by decide +kernel
theorem dX9_end_26 : decode cX9_end 26 = .ok (.iload_n 1, 1) := by decide +kernel
theorem dX9_end_27 : decode cX9_end 27 = .ok (.ireturn, 1) := by decide +kernel
set_option maxHeartbeats 4000000 in
set_option maxRecDepth 100000 in
theorem c_X9_end (l : Launch) (D : va_G) (cy : Nat → ClassId) (g : Nat → Nat) (p1 : Int32) (sz : Nat) : Met l yX9_end (ww yX9_end cX9_end 2 (some .int)) ({ frames := 2, cells := 0, slots := 0, locals := 128 }) (va_Pc [.ref (g 60), .int p1] (pre D cy [(g 60, .inr (9, mF g))] sz)) (qi D cy (va_A [(g 60, .inr (9, mF g))] sz) (fun (r : Int32) (_ : Unit) => r = sp_end2 p1) (fun (_ : Unit) => [])) 0 0 (va_A [(g 60, .inr (9, mF g))] sz) := by
  refine Met.ofW (cc := cX9_end) (maxL := 2) (ret := (some .int)) (by decide) rfl ?_
  intro p e s m args below meth c s₁ B hml hv
  obtain ⟨rfl, hsz, hP, hK, hD0⟩ := hv
  have hx := B.exec
  have hb := B.bytes
  have hr := B.returns
  have hts := hts_g (atoms_spec (ws := ww yX9_end cX9_end 2 (some .int)) B.pre)
  have hown : s.vm.findClass RX9 = some m.cls := findClass_of_methodNamed B.named
  have hlocks := B.notSynchronized
  subst hsz
  have hD := hD0.self (sz := s.heap.size)
  generalize hAe : va_A [(g 60, .inr (9, mF g))] s.heap.size = A at hD ⊢
  have hA : ∀ q : Nat, s.heap.size ≤ q → A q := fun q h => by rw [← hAe]; exact Or.inr h
  have hS : va_S A s.heap s.heap [] := va_S.rf
  have hl := lv_entry ([.ref (g 60), .int p1]) (n := 2) (Nat.le_of_ble_eq_true rfl)
  rw [lg_entry_eq]
  generalize (lg_sl ([.ref (g 60), .int p1]) ++ List.replicate (2 - (lg_sl ([.ref (g 60), .int p1])).length) Slot.unset).toArray = ls at hl ⊢
  have hl : lv_has ls 2 [(0, .ref (g 60)), (1, .int p1)] := hl
  refine lv_aload_n hx hb dX9_end_0 rfl (lv_at hl 0 rfl) ?_
  refine lv_iconst (v := 0) hx hb dX9_end_1 (by decide) ?_
  refine va_put (D := D) (ci := 9) (v := .int 0) (ty := .int) (C := RX9) (T := TX9) (N := 60) hx hb hts iX9 tyX9 tyX9_ok nmX9 hown hK hP hD hS 0 rfl rfl 0 (by decide) (hts _ q1360) (fun _ h9 => h9) rfl (by decide +kernel) rfl rfl (Nat.le_of_ble_eq_true rfl) dX9_end_2 (fun H locs hP hD hS => ?_)
  have hP : va_P D clz [(g 60, .inr (9, mF g))] H := hP
  have hD : va_D A [(g 60, .inr (9, mF g))] := hD
  refine lv_iload_n hx hb dX9_end_5 rfl (lv_at hl 1 rfl) ?_
  refine lv_i2l (v := p1.toInt64) hx hb dX9_end_6 rfl ?_
  refine lv_lconst (v := 0) hx hb dX9_end_7 (by decide) ?_
  refine lv_aload_n hx hb dX9_end_8 rfl (lv_at hl 0 rfl) ?_
  refine va_get (D := D) (ci := 9) (v := .int 0) (C := RX9) (T := TX9) (N := 60) hx hb hts iX9 hown hK hP 0 rfl rfl 6 (by decide) (hts _ q1366) (fun _ h9 => h9) rfl dX9_end_9 ?_
  refine lv_i2l (v := 0) hx hb dX9_end_12 (by decide) ?_
  have hPc := hP.sub (ws' := []) [] rfl
  have hDc := hD.sub (ws' := []) [] (by decide) rfl
  have hFc := va_free (wc := []) hD hS hA [] rfl
  refine va_calli (va_runS (As := [.long p1.toInt64, .long 0, .long 0]) (rest := []) ⟨hx, hb, hml, hown, hts⟩ (c_X9_in l D cy p1.toInt64 0 0 H.size) (va_cwS 3 hts (gd_S q1550 q1551 q134 q1552) rfl rfl rfl (by decide +kernel) ⟨Nat.le_of_ble_eq_true rfl, Nat.le_of_ble_eq_true rfl⟩) (pr_S hPc hK hDc) rfl rfl hl.1 rfl (lv_room (Nat.le_of_ble_eq_true rfl)) dX9_end_13 ⟨Nat.le_of_ble_eq_true rfl, Nat.le_of_ble_eq_true rfl⟩) hS (fun q _ h => hFc q h) hFc (fun r_1 u tS H1 locs ht hvm hw hB hz1 hk1 hS => ?_)
  obtain ⟨hP1, hK1, hD1⟩ := hB
  rw [ht] at hP1
  try dsimp only at hw
  obtain ⟨hP, hD⟩ := va_join (wr := [(g 60, .inr (9, mF g))]) (w1 := []) hP hD [] [0] rfl rfl (by decide) (by decide) hk1 hFc hP1 hD1
  generalize H1 = H at hP hS ⊢
  have hP : va_P D clz [(g 60, .inr (9, mF g))] H := hP
  have hD : va_D A [(g 60, .inr (9, mF g))] := hD
  by_cases hc_2 : ((0 : Int64) ≤ p1.toInt64 ∧ p1.toInt64 ≤ (0 : Int64))
  ·
    rw [if_pos hc_2] at hw
    subst hw
    refine lv_if_ne (tgt := 21) hx hb dX9_end_16 (by decide) (fun _ => ?_) (fun c9 => absurd c9 (by decide))
    refine lv_aload_n hx hb dX9_end_21 rfl (lv_at hl 0 rfl) ?_
    refine lv_iload_n hx hb dX9_end_22 rfl (lv_at hl 1 rfl) ?_
    refine va_put (D := D) (ci := 9) (v := .int p1) (ty := .int) (C := RX9) (T := TX9) (N := 60) hx hb hts iX9 tyX9 tyX9_ok nmX9 hown hK hP hD hS 0 rfl rfl 6 (by decide) (hts _ q1366) (fun _ h9 => h9) rfl (by decide +kernel) rfl rfl (Nat.le_of_ble_eq_true rfl) dX9_end_23 (fun H locs hP hD hS => ?_)
    have hP : va_P D clz [(g 60, .inr (9, [.int 0, .ref (g 1), .ref (g 2), .ref (g 3), .ref (g 4), .ref (g 5), .int p1, .int 0, .int 0, .int 0, .int 0, .long 0, .int 0, .int 0, .int 0, .int (-1), .ref (g 16), .ref (g 17), .ref (g 18), .ref (g 19), .ref (g 20), .ref (g 21), .ref (g 22), .int 0, .ref (g 24), .ref (g 25), .ref (g 26), .ref (g 27), .int 0, .int 0, .int 0, .int 0, .ref (g 32), .ref (g 33), .ref (g 34), .ref (g 35), .ref (g 36), .ref (g 37), .ref (g 38), .int 0, .int 0, .long 0, .ref (g 42), .ref (g 43), .ref (g 44), .ref (g 45), .ref (g 46), .ref (g 47), .ref (g 48), .ref (g 49), .ref (g 50), .int 0, .int 0, .ref (g 53), .ref (g 54), .ref (g 55), .ref (g 56), .ref (g 57), .int 0, .int 0]))] H := hP
    have hD : va_D A [(g 60, .inr (9, [.int 0, .ref (g 1), .ref (g 2), .ref (g 3), .ref (g 4), .ref (g 5), .int p1, .int 0, .int 0, .int 0, .int 0, .long 0, .int 0, .int 0, .int 0, .int (-1), .ref (g 16), .ref (g 17), .ref (g 18), .ref (g 19), .ref (g 20), .ref (g 21), .ref (g 22), .int 0, .ref (g 24), .ref (g 25), .ref (g 26), .ref (g 27), .int 0, .int 0, .int 0, .int 0, .ref (g 32), .ref (g 33), .ref (g 34), .ref (g 35), .ref (g 36), .ref (g 37), .ref (g 38), .int 0, .int 0, .long 0, .ref (g 42), .ref (g 43), .ref (g 44), .ref (g 45), .ref (g 46), .ref (g 47), .ref (g 48), .ref (g 49), .ref (g 50), .int 0, .int 0, .ref (g 53), .ref (g 54), .ref (g 55), .ref (g 56), .ref (g 57), .int 0, .int 0]))] := hD
    refine lv_iload_n hx hb dX9_end_26 rfl (lv_at hl 1 rfl) ?_
    have hP9 := hP.sub (ws' := []) [] rfl
    have hD9 := hD.sub (ws' := []) [] (by decide) rfl
    exact W.iret (v := p1) hx hb hr (fun tS ht hW => ⟨⟨p1, (), rfl, (by have f0 := bp64 hc_2; have z640 : (0 : Int64).toInt = 0 := (by decide); have wp1 : p1.toInt64.toInt = p1.toInt := Int32.toInt_toInt64 p1; unfold sp_end2; (repeat' split) <;> first | rfl | (exfalso; omega)), by rw [ht]; exact hP9, va_K.moved hW.alike hK, hD9⟩, hS.F ht⟩) hS.2.2 dX9_end_27
  ·
    rw [if_neg hc_2] at hw
    subst hw
    refine lv_if_ne (tgt := 21) hx hb dX9_end_16 (by decide) (fun c9 => absurd c9 (by decide)) (fun _ => ?_)
    refine lv_iconst (v := (-1)) hx hb dX9_end_19 (by decide) ?_
    have hP9 := hP.sub (ws' := []) [] rfl
    have hD9 := hD.sub (ws' := []) [] (by decide) rfl
    exact W.iret (v := (-1)) hx hb hr (fun tS ht hW => ⟨⟨(-1), (), rfl, (by have f0 := bn64 hc_2; have z640 : (0 : Int64).toInt = 0 := (by decide); have wp1 : p1.toInt64.toInt = p1.toInt := Int32.toInt_toInt64 p1; unfold sp_end2; (repeat' split) <;> first | rfl | (exfalso; omega)), by rw [ht]; exact hP9, va_K.moved hW.alike hK, hD9⟩, hS.F ht⟩) hS.2.2 dX9_end_20

theorem q1579 : Cond.code yX9_fault cX9_fault 2 (some .int) ∈ lw_g := lw_gm (List.mem_of_getElem? (i := 1579) (by decide +kernel)) rfl
theorem q1375 : Cond.fieldLink RX9 27 "LipsAndSlidesModel" "faultPlace" "I" ∈ lw_g := lw_gm (List.mem_of_getElem? (i := 1375) (by decide +kernel)) rfl
theorem q1374 : Cond.fieldLink RX9 208 "LipsAndSlidesModel" "fault" "I" ∈ lw_g := lw_gm (List.mem_of_getElem? (i := 1374) (by decide +kernel)) rfl
theorem dX9_fault_0 : decode cX9_fault 0 = .ok (.aload_n 0, 1) := by decide +kernel
theorem dX9_fault_1 : decode cX9_fault 1 = .ok (.iconst 0, 1) := by decide +kernel
theorem dX9_fault_2 : decode cX9_fault 2 = .ok (.putfield 129, 3) := by decide +kernel
theorem dX9_fault_5 : decode cX9_fault 5 = .ok (.iload_n 1, 1) := by decide +kernel
theorem dX9_fault_6 : decode cX9_fault 6 = .ok (.ifCond .ne 10, 3) := by decide +kernel
theorem dX9_fault_9 : decode cX9_fault 9 = .ok (.aload_n 0, 1) := by decide +kernel
theorem dX9_fault_10 : decode cX9_fault 10 = .ok (.getfield 208, 3) := by decide +kernel
theorem dX9_fault_13 : decode cX9_fault 13 = .ok (.goto 16, 3) := by decide +kernel
theorem dX9_fault_16 : decode cX9_fault 16 = .ok (.iload_n 1, 1) := by decide +kernel
theorem dX9_fault_17 : decode cX9_fault 17 = .ok (.iconst 1, 1) := by decide +kernel
theorem dX9_fault_18 : decode cX9_fault 18 = .ok (.if_icmp .ne 10, 3) := by decide +kernel
theorem dX9_fault_21 : decode cX9_fault 21 = .ok (.aload_n 0, 1) := by decide +kernel
theorem dX9_fault_22 : decode cX9_fault 22 = .ok (.getfield 27, 3) := by decide +kernel
theorem dX9_fault_25 : decode cX9_fault 25 = .ok (.goto 4, 3) := by decide +kernel
theorem dX9_fault_28 : decode cX9_fault 28 = .ok (.iconst (-1), 1) := by decide +kernel
theorem dX9_fault_29 : decode cX9_fault 29 = .ok (.ireturn, 1) := by decide +kernel
set_option maxHeartbeats 4000000 in
set_option maxRecDepth 100000 in
theorem c_X9_fault (l : Launch) (D : va_G) (cy : Nat → ClassId) (g : Nat → Nat) (p1 : Int32) (sz : Nat) : Met l yX9_fault (ww yX9_fault cX9_fault 2 (some .int)) ({ frames := 1, cells := 0, slots := 0, locals := 64 }) (va_Pc [.ref (g 60), .int p1] (pre D cy [(g 60, .inr (9, mF g))] sz)) (qi D cy (va_A [(g 60, .inr (9, mF g))] sz) (fun (r : Int32) (_ : Unit) => r = sp_fault p1) (fun (_ : Unit) => [])) 0 0 (va_A [(g 60, .inr (9, mF g))] sz) := by
  refine Met.ofW (cc := cX9_fault) (maxL := 2) (ret := (some .int)) (by decide) rfl ?_
  intro p e s m args below meth c s₁ B hml hv
  obtain ⟨rfl, hsz, hP, hK, hD0⟩ := hv
  have hx := B.exec
  have hb := B.bytes
  have hr := B.returns
  have hts := hts_g (atoms_spec (ws := ww yX9_fault cX9_fault 2 (some .int)) B.pre)
  have hown : s.vm.findClass RX9 = some m.cls := findClass_of_methodNamed B.named
  have hlocks := B.notSynchronized
  subst hsz
  have hD := hD0.self (sz := s.heap.size)
  generalize hAe : va_A [(g 60, .inr (9, mF g))] s.heap.size = A at hD ⊢
  have hA : ∀ q : Nat, s.heap.size ≤ q → A q := fun q h => by rw [← hAe]; exact Or.inr h
  have hS : va_S A s.heap s.heap [] := va_S.rf
  have hl := lv_entry ([.ref (g 60), .int p1]) (n := 2) (Nat.le_of_ble_eq_true rfl)
  rw [lg_entry_eq]
  generalize (lg_sl ([.ref (g 60), .int p1]) ++ List.replicate (2 - (lg_sl ([.ref (g 60), .int p1])).length) Slot.unset).toArray = ls at hl ⊢
  have hl : lv_has ls 2 [(0, .ref (g 60)), (1, .int p1)] := hl
  refine lv_aload_n hx hb dX9_fault_0 rfl (lv_at hl 0 rfl) ?_
  refine lv_iconst (v := 0) hx hb dX9_fault_1 (by decide) ?_
  refine va_put (D := D) (ci := 9) (v := .int 0) (ty := .int) (C := RX9) (T := TX9) (N := 60) hx hb hts iX9 tyX9 tyX9_ok nmX9 hown hK hP hD hS 0 rfl rfl 0 (by decide) (hts _ q1360) (fun _ h9 => h9) rfl (by decide +kernel) rfl rfl (Nat.le_of_ble_eq_true rfl) dX9_fault_2 (fun H locs hP hD hS => ?_)
  have hP : va_P D clz [(g 60, .inr (9, mF g))] H := hP
  have hD : va_D A [(g 60, .inr (9, mF g))] := hD
  refine lv_iload_n hx hb dX9_fault_5 rfl (lv_at hl 1 rfl) ?_
  refine lv_if_ne (tgt := 16) hx hb dX9_fault_6 (by decide) (fun c_1 => ?_) (fun c_1 => ?_)
  ·
    refine lv_iload_n hx hb dX9_fault_16 rfl (lv_at hl 1 rfl) ?_
    refine lv_iconst (v := 1) hx hb dX9_fault_17 (by decide) ?_
    refine lv_icmp_ne (tgt := 28) hx hb dX9_fault_18 (by decide) (fun c_2 => ?_) (fun c_2 => ?_)
    ·
      refine lv_iconst (v := (-1)) hx hb dX9_fault_28 (by decide) ?_
      have hP9 := hP.sub (ws' := []) [] rfl
      have hD9 := hD.sub (ws' := []) [] (by decide) rfl
      exact W.iret (v := (-1)) hx hb hr (fun tS ht hW => ⟨⟨(-1), (), rfl, (by have f0 := neq32 c_1; have f1 := neq32 c_2; have z320 : (0 : Int32).toInt = 0 := (by decide); have z321 : (1 : Int32).toInt = 1 := (by decide); unfold sp_fault; (repeat' split) <;> first | rfl | (exfalso; omega)), by rw [ht]; exact hP9, va_K.moved hW.alike hK, hD9⟩, hS.F ht⟩) hS.2.2 dX9_fault_29
    ·
      refine lv_aload_n hx hb dX9_fault_21 rfl (lv_at hl 0 rfl) ?_
      refine va_get (D := D) (ci := 9) (v := .int (-1)) (C := RX9) (T := TX9) (N := 60) hx hb hts iX9 hown hK hP 0 rfl rfl 15 (by decide) (hts _ q1375) (fun _ h9 => h9) rfl dX9_fault_22 ?_
      refine lv_goto (tgt := 29) hx hb dX9_fault_25 (by decide) ?_
      have hP9 := hP.sub (ws' := []) [] rfl
      have hD9 := hD.sub (ws' := []) [] (by decide) rfl
      exact W.iret (v := (-1)) hx hb hr (fun tS ht hW => ⟨⟨(-1), (), rfl, (by have f0 := neq32 c_1; have f1 := peq32 c_2; have z320 : (0 : Int32).toInt = 0 := (by decide); have z321 : (1 : Int32).toInt = 1 := (by decide); unfold sp_fault; (repeat' split) <;> first | rfl | (exfalso; omega)), by rw [ht]; exact hP9, va_K.moved hW.alike hK, hD9⟩, hS.F ht⟩) hS.2.2 dX9_fault_29
  ·
    refine lv_aload_n hx hb dX9_fault_9 rfl (lv_at hl 0 rfl) ?_
    refine va_get (D := D) (ci := 9) (v := .int 0) (C := RX9) (T := TX9) (N := 60) hx hb hts iX9 hown hK hP 0 rfl rfl 14 (by decide) (hts _ q1374) (fun _ h9 => h9) rfl dX9_fault_10 ?_
    refine lv_goto (tgt := 29) hx hb dX9_fault_13 (by decide) ?_
    have hP9 := hP.sub (ws' := []) [] rfl
    have hD9 := hD.sub (ws' := []) [] (by decide) rfl
    exact W.iret (v := 0) hx hb hr (fun tS ht hW => ⟨⟨0, (), rfl, (by have f0 := peq32 c_1; have z320 : (0 : Int32).toInt = 0 := (by decide); unfold sp_fault; (repeat' split) <;> first | rfl | (exfalso; omega)), by rw [ht]; exact hP9, va_K.moved hW.alike hK, hD9⟩, hS.F ht⟩) hS.2.2 dX9_fault_29

theorem q2139 : Cond.code yX9_count cX9_count 4 (some .int) ∈ lw_g := lw_gm (List.mem_of_getElem? (i := 2139) (by decide +kernel)) rfl
theorem q1726 : Cond.constantLong RX9 324 (4) ∈ lw_g := lw_gm (List.mem_of_getElem? (i := 1726) (by decide +kernel)) rfl
theorem q1361 : Cond.fieldLink RX9 7 "LipsAndSlidesModel" "width" "[I" ∈ lw_g := lw_gm (List.mem_of_getElem? (i := 1361) (by decide +kernel)) rfl
theorem dX9_count_0 : decode cX9_count 0 = .ok (.aload_n 0, 1) := by decide +kernel
theorem dX9_count_1 : decode cX9_count 1 = .ok (.iconst 0, 1) := by decide +kernel
theorem dX9_count_2 : decode cX9_count 2 = .ok (.putfield 129, 3) := by decide +kernel
theorem dX9_count_5 : decode cX9_count 5 = .ok (.iload_n 1, 1) := by decide +kernel
theorem dX9_count_6 : decode cX9_count 6 = .ok (.i2l, 1) := by decide +kernel
theorem dX9_count_7 : decode cX9_count 7 = .ok (.lconst 0, 1) := by decide +kernel
theorem dX9_count_8 : decode cX9_count 8 = .ok (.ldc2_w 324, 3) := by decide +kernel
theorem dX9_count_11 : decode cX9_count 11 = .ok (.invokestatic 134, 3) := by decide +kernel
theorem dX9_count_14 : decode cX9_count 14 = .ok (.ifCond .eq 10, 3) := by decide +kernel
theorem dX9_count_17 : decode cX9_count 17 = .ok (.aload_n 0, 1) := by decide +kernel
theorem dX9_count_18 : decode cX9_count 18 = .ok (.getfield 34, 3) := by decide +kernel
theorem dX9_count_21 : decode cX9_count 21 = .ok (.iload_n 1, 1) := by decide +kernel
theorem dX9_count_22 : decode cX9_count 22 = .ok (.iaload, 1) := by decide +kernel
theorem dX9_count_23 : decode cX9_count 23 = .ok (.ireturn, 1) := by decide +kernel
theorem dX9_count_24 : decode cX9_count 24 = .ok (.iconst 0, 1) := by decide +kernel
theorem dX9_count_25 : decode cX9_count 25 = .ok (.istore_n 2, 1) := by decide +kernel
theorem dX9_count_26 : decode cX9_count 26 = .ok (.iload_n 1, 1) := by decide +kernel
theorem dX9_count_27 : decode cX9_count 27 = .ok (.tableswitch 70 5 7 #[25, 32, 37], 25) := by decide +kernel
theorem dX9_count_52 : decode cX9_count 52 = .ok (.aload_n 0, 1) := by decide +kernel
theorem dX9_count_53 : decode cX9_count 53 = .ok (.getfield 31, 3) := by decide +kernel
theorem dX9_count_56 : decode cX9_count 56 = .ok (.iconst 0, 1) := by decide +kernel
theorem dX9_count_57 : decode cX9_count 57 = .ok (.iaload, 1) := by decide +kernel
theorem dX9_count_58 : decode cX9_count 58 = .ok (.ireturn, 1) := by decide +kernel
theorem dX9_count_59 : decode cX9_count 59 = .ok (.aload_n 0, 1) := by decide +kernel
theorem dX9_count_60 : decode cX9_count 60 = .ok (.getfield 146, 3) := by decide +kernel
theorem dX9_count_63 : decode cX9_count 63 = .ok (.ireturn, 1) := by decide +kernel
theorem dX9_count_64 : decode cX9_count 64 = .ok (.iconst 0, 1) := by decide +kernel
theorem dX9_count_65 : decode cX9_count 65 = .ok (.istore_n 3, 1) := by decide +kernel
theorem dX9_count_66 : decode cX9_count 66 = .ok (.iload_n 3, 1) := by decide +kernel
theorem dX9_count_67 : decode cX9_count 67 = .ok (.iconst 4, 1) := by decide +kernel
theorem dX9_count_68 : decode cX9_count 68 = .ok (.if_icmp .ge 27, 3) := by decide +kernel
theorem dX9_count_71 : decode cX9_count 71 = .ok (.iload_n 2, 1) := by decide +kernel
theorem dX9_count_72 : decode cX9_count 72 = .ok (.aload_n 0, 1) := by decide +kernel
theorem dX9_count_73 : decode cX9_count 73 = .ok (.getfield 7, 3) := by decide +kernel
theorem dX9_count_76 : decode cX9_count 76 = .ok (.iload_n 3, 1) := by decide +kernel
theorem dX9_count_77 : decode cX9_count 77 = .ok (.iaload, 1) := by decide +kernel
theorem dX9_count_78 : decode cX9_count 78 = .ok (.iconst (-1), 1) := by decide +kernel
theorem dX9_count_79 : decode cX9_count 79 = .ok (.if_icmp .ne 7, 3) := by decide +kernel
theorem dX9_count_82 : decode cX9_count 82 = .ok (.iconst 0, 1) := by decide +kernel
theorem dX9_count_83 : decode cX9_count 83 = .ok (.goto 4, 3) := by decide +kernel
theorem dX9_count_87 : decode cX9_count 87 = .ok (.iadd, 1) := by decide +kernel
theorem dX9_count_88 : decode cX9_count 88 = .ok (.istore_n 2, 1) := by decide +kernel
theorem dX9_count_89 : decode cX9_count 89 = .ok (.iinc 3 1, 3) := by decide +kernel
theorem dX9_count_92 : decode cX9_count 92 = .ok (.goto (-26), 3) := by decide +kernel
theorem dX9_count_95 : decode cX9_count 95 = .ok (.iload_n 2, 1) := by decide +kernel
theorem dX9_count_96 : decode cX9_count 96 = .ok (.ireturn, 1) := by decide +kernel
theorem dX9_count_97 : decode cX9_count 97 = .ok (.iconst (-1), 1) := by decide +kernel
theorem dX9_count_98 : decode cX9_count 98 = .ok (.ireturn, 1) := by decide +kernel
set_option maxHeartbeats 4000000 in
set_option maxRecDepth 100000 in
theorem c_X9_count (l : Launch) (D : va_G) (cy : Nat → ClassId) (g : Nat → Nat) (p1 : Int32) (sz : Nat) : Met l yX9_count (ww yX9_count cX9_count 4 (some .int)) ({ frames := 2, cells := 0, slots := 0, locals := 128 }) (va_Pc [.ref (g 60), .int p1] (pre D cy [(g 60, .inr (9, mF g)), (g 17, .inl (cy 0, 25, .inl (fun _ => 0))), (g 16, .inl (cy 0, 5, .inl (fun _ => 0))), (g 1, .inl (cy 0, 4, .inl (upd (upd (upd (upd (fun _ => 0) 0 (-1)) 1 (-1)) 2 (-1)) 3 (-1))))] sz)) (qi D cy (va_A [(g 60, .inr (9, mF g)), (g 17, .inl (cy 0, 25, .inl (fun _ => 0))), (g 16, .inl (cy 0, 5, .inl (fun _ => 0))), (g 1, .inl (cy 0, 4, .inl (upd (upd (upd (upd (fun _ => 0) 0 (-1)) 1 (-1)) 2 (-1)) 3 (-1))))] sz) (fun (r : Int32) (_ : Unit) => r = sp_count p1) (fun (_ : Unit) => [(g 60, .inr (9, mF g)), (g 17, .inl (cy 0, 25, .inl (fun _ => 0))), (g 16, .inl (cy 0, 5, .inl (fun _ => 0))), (g 1, .inl (cy 0, 4, .inl (upd (upd (upd (upd (fun _ => 0) 0 (-1)) 1 (-1)) 2 (-1)) 3 (-1))))])) 0 0 (va_A [(g 60, .inr (9, mF g)), (g 17, .inl (cy 0, 25, .inl (fun _ => 0))), (g 16, .inl (cy 0, 5, .inl (fun _ => 0))), (g 1, .inl (cy 0, 4, .inl (upd (upd (upd (upd (fun _ => 0) 0 (-1)) 1 (-1)) 2 (-1)) 3 (-1))))] sz) := by
  refine Met.ofW (cc := cX9_count) (maxL := 4) (ret := (some .int)) (by decide) rfl ?_
  intro p e s m args below meth c s₁ B hml hv
  obtain ⟨rfl, hsz, hP, hK, hD0⟩ := hv
  have hx := B.exec
  have hb := B.bytes
  have hr := B.returns
  have hts := hts_g (atoms_spec (ws := ww yX9_count cX9_count 4 (some .int)) B.pre)
  have hown : s.vm.findClass RX9 = some m.cls := findClass_of_methodNamed B.named
  have hlocks := B.notSynchronized
  subst hsz
  have hD := hD0.self (sz := s.heap.size)
  generalize hAe : va_A [(g 60, .inr (9, mF g)), (g 17, .inl (cy 0, 25, .inl (fun _ => 0))), (g 16, .inl (cy 0, 5, .inl (fun _ => 0))), (g 1, .inl (cy 0, 4, .inl (upd (upd (upd (upd (fun _ => 0) 0 (-1)) 1 (-1)) 2 (-1)) 3 (-1))))] s.heap.size = A at hD ⊢
  have hA : ∀ q : Nat, s.heap.size ≤ q → A q := fun q h => by rw [← hAe]; exact Or.inr h
  have hS : va_S A s.heap s.heap [] := va_S.rf
  have hl := lv_entry ([.ref (g 60), .int p1]) (n := 4) (Nat.le_of_ble_eq_true rfl)
  rw [lg_entry_eq]
  generalize (lg_sl ([.ref (g 60), .int p1]) ++ List.replicate (4 - (lg_sl ([.ref (g 60), .int p1])).length) Slot.unset).toArray = ls at hl ⊢
  have hl : lv_has ls 4 [(0, .ref (g 60)), (1, .int p1)] := hl
  rcases sp8 p1 with rfl | rfl | rfl | rfl | rfl | rfl | rfl | rfl | hs_1
  ·
    refine lv_aload_n hx hb dX9_count_0 rfl (lv_at hl 0 rfl) ?_
    refine lv_iconst (v := 0) hx hb dX9_count_1 (by decide) ?_
    refine va_put (D := D) (ci := 9) (v := .int 0) (ty := .int) (C := RX9) (T := TX9) (N := 60) hx hb hts iX9 tyX9 tyX9_ok nmX9 hown hK hP hD hS 0 rfl rfl 0 (by decide) (hts _ q1360) (fun _ h9 => h9) rfl (by decide +kernel) rfl rfl (Nat.le_of_ble_eq_true rfl) dX9_count_2 (fun H locs hP hD hS => ?_)
    have hP : va_P D clz [(g 60, .inr (9, mF g)), (g 17, .inl (cy 0, 25, .inl (fun _ => 0))), (g 16, .inl (cy 0, 5, .inl (fun _ => 0))), (g 1, .inl (cy 0, 4, .inl (upd (upd (upd (upd (fun _ => 0) 0 (-1)) 1 (-1)) 2 (-1)) 3 (-1))))] H := hP
    have hD : va_D A [(g 60, .inr (9, mF g)), (g 17, .inl (cy 0, 25, .inl (fun _ => 0))), (g 16, .inl (cy 0, 5, .inl (fun _ => 0))), (g 1, .inl (cy 0, 4, .inl (upd (upd (upd (upd (fun _ => 0) 0 (-1)) 1 (-1)) 2 (-1)) 3 (-1))))] := hD
    refine lv_iload_n hx hb dX9_count_5 rfl (lv_at hl 1 rfl) ?_
    refine lv_i2l (v := 0) hx hb dX9_count_6 (by decide) ?_
    refine lv_lconst (v := 0) hx hb dX9_count_7 (by decide) ?_
    refine lv_ldc2 (v := 4) hx hb hown (hts _ q1726) dX9_count_8 ?_
    have hPc := hP.sub (ws' := []) [] rfl
    have hDc := hD.sub (ws' := []) [] (by decide) rfl
    have hFc := va_free (wc := []) hD hS hA [] rfl
    refine va_calli (va_runS (As := [.long 0, .long 0, .long 4]) (rest := []) ⟨hx, hb, hml, hown, hts⟩ (c_X9_in l D cy 0 0 4 H.size) (va_cwS 3 hts (gd_S q1550 q1551 q134 q1552) rfl rfl rfl (by decide +kernel) ⟨Nat.le_of_ble_eq_true rfl, Nat.le_of_ble_eq_true rfl⟩) (pr_S hPc hK hDc) rfl rfl hl.1 rfl (lv_room (Nat.le_of_ble_eq_true rfl)) dX9_count_11 ⟨Nat.le_of_ble_eq_true rfl, Nat.le_of_ble_eq_true rfl⟩) hS (fun q _ h => hFc q h) hFc (fun r_2 u tS H1 locs ht hvm hw hB hz1 hk1 hS => ?_)
    obtain ⟨hP1, hK1, hD1⟩ := hB
    rw [ht] at hP1
    try dsimp only at hw
    obtain ⟨hP, hD⟩ := va_join (wr := [(g 60, .inr (9, mF g)), (g 17, .inl (cy 0, 25, .inl (fun _ => 0))), (g 16, .inl (cy 0, 5, .inl (fun _ => 0))), (g 1, .inl (cy 0, 4, .inl (upd (upd (upd (upd (fun _ => 0) 0 (-1)) 1 (-1)) 2 (-1)) 3 (-1))))]) (w1 := []) hP hD [] [0, 1, 2, 3] rfl rfl (by decide) (by decide) hk1 hFc hP1 hD1
    generalize H1 = H at hP hS ⊢
    have hP : va_P D clz [(g 60, .inr (9, mF g)), (g 17, .inl (cy 0, 25, .inl (fun _ => 0))), (g 16, .inl (cy 0, 5, .inl (fun _ => 0))), (g 1, .inl (cy 0, 4, .inl (upd (upd (upd (upd (fun _ => 0) 0 (-1)) 1 (-1)) 2 (-1)) 3 (-1))))] H := hP
    have hD : va_D A [(g 60, .inr (9, mF g)), (g 17, .inl (cy 0, 25, .inl (fun _ => 0))), (g 16, .inl (cy 0, 5, .inl (fun _ => 0))), (g 1, .inl (cy 0, 4, .inl (upd (upd (upd (upd (fun _ => 0) 0 (-1)) 1 (-1)) 2 (-1)) 3 (-1))))] := hD
    by_cases hc_3 : ((0 : Int64) ≤ (0 : Int64) ∧ (0 : Int64) ≤ (4 : Int64))
    ·
      rw [if_pos hc_3] at hw
      subst hw
      refine lv_if_eq (tgt := 24) hx hb dX9_count_14 (by decide) (fun c9 => absurd c9 (by decide)) (fun _ => ?_)
      refine lv_aload_n hx hb dX9_count_17 rfl (lv_at hl 0 rfl) ?_
      refine va_get (D := D) (ci := 9) (v := .ref (g 17)) (C := RX9) (T := TX9) (N := 60) hx hb hts iX9 hown hK hP 0 rfl rfl 17 (by decide) (hts _ q1377) (fun _ h9 => h9) rfl dX9_count_18 ?_
      refine lv_iload_n hx hb dX9_count_21 rfl (lv_at hl 1 rfl) ?_
      refine va_iald hx hb hK hP 1 0 rfl rfl (vpi (by decide)) dX9_count_22 ?_
      refine lv_topi (fun x_4 ex_4 => ?_)
      obtain rfl : x_4 = 0 := ex_4.trans (by decide)
      have hP9 := hP.sub (ws' := [(g 60, .inr (9, mF g)), (g 17, .inl (cy 0, 25, .inl (fun _ => 0))), (g 16, .inl (cy 0, 5, .inl (fun _ => 0))), (g 1, .inl (cy 0, 4, .inl (upd (upd (upd (upd (fun _ => 0) 0 (-1)) 1 (-1)) 2 (-1)) 3 (-1))))]) [0, 1, 2, 3] rfl
      have hD9 := hD.sub (ws' := [(g 60, .inr (9, mF g)), (g 17, .inl (cy 0, 25, .inl (fun _ => 0))), (g 16, .inl (cy 0, 5, .inl (fun _ => 0))), (g 1, .inl (cy 0, 4, .inl (upd (upd (upd (upd (fun _ => 0) 0 (-1)) 1 (-1)) 2 (-1)) 3 (-1))))]) [0, 1, 2, 3] (by decide) rfl
      exact W.iret (v := 0) hx hb hr (fun tS ht hW => ⟨⟨0, (), rfl, (by have f0 := bp64 hc_3; have z320 : (0 : Int32).toInt = 0 := (by decide); have z640 : (0 : Int64).toInt = 0 := (by decide); have z644 : (4 : Int64).toInt = 4 := (by decide); unfold sp_count; (repeat' split) <;> first | rfl | (exfalso; omega)), by rw [ht]; exact hP9, va_K.moved hW.alike hK, hD9⟩, hS.F ht⟩) hS.2.2 dX9_count_23
    ·
      rw [if_neg hc_3] at hw
      subst hw
      exact False.elim (by have f0 := bn64 hc_3; have z640 : (0 : Int64).toInt = 0 := (by decide); have z644 : (4 : Int64).toInt = 4 := (by decide); omega)
  ·
    refine lv_aload_n hx hb dX9_count_0 rfl (lv_at hl 0 rfl) ?_
    refine lv_iconst (v := 0) hx hb dX9_count_1 (by decide) ?_
    refine va_put (D := D) (ci := 9) (v := .int 0) (ty := .int) (C := RX9) (T := TX9) (N := 60) hx hb hts iX9 tyX9 tyX9_ok nmX9 hown hK hP hD hS 0 rfl rfl 0 (by decide) (hts _ q1360) (fun _ h9 => h9) rfl (by decide +kernel) rfl rfl (Nat.le_of_ble_eq_true rfl) dX9_count_2 (fun H locs hP hD hS => ?_)
    have hP : va_P D clz [(g 60, .inr (9, mF g)), (g 17, .inl (cy 0, 25, .inl (fun _ => 0))), (g 16, .inl (cy 0, 5, .inl (fun _ => 0))), (g 1, .inl (cy 0, 4, .inl (upd (upd (upd (upd (fun _ => 0) 0 (-1)) 1 (-1)) 2 (-1)) 3 (-1))))] H := hP
    have hD : va_D A [(g 60, .inr (9, mF g)), (g 17, .inl (cy 0, 25, .inl (fun _ => 0))), (g 16, .inl (cy 0, 5, .inl (fun _ => 0))), (g 1, .inl (cy 0, 4, .inl (upd (upd (upd (upd (fun _ => 0) 0 (-1)) 1 (-1)) 2 (-1)) 3 (-1))))] := hD
    refine lv_iload_n hx hb dX9_count_5 rfl (lv_at hl 1 rfl) ?_
    refine lv_i2l (v := 1) hx hb dX9_count_6 (by decide) ?_
    refine lv_lconst (v := 0) hx hb dX9_count_7 (by decide) ?_
    refine lv_ldc2 (v := 4) hx hb hown (hts _ q1726) dX9_count_8 ?_
    have hPc := hP.sub (ws' := []) [] rfl
    have hDc := hD.sub (ws' := []) [] (by decide) rfl
    have hFc := va_free (wc := []) hD hS hA [] rfl
    refine va_calli (va_runS (As := [.long 1, .long 0, .long 4]) (rest := []) ⟨hx, hb, hml, hown, hts⟩ (c_X9_in l D cy 1 0 4 H.size) (va_cwS 3 hts (gd_S q1550 q1551 q134 q1552) rfl rfl rfl (by decide +kernel) ⟨Nat.le_of_ble_eq_true rfl, Nat.le_of_ble_eq_true rfl⟩) (pr_S hPc hK hDc) rfl rfl hl.1 rfl (lv_room (Nat.le_of_ble_eq_true rfl)) dX9_count_11 ⟨Nat.le_of_ble_eq_true rfl, Nat.le_of_ble_eq_true rfl⟩) hS (fun q _ h => hFc q h) hFc (fun r_5 u tS H1 locs ht hvm hw hB hz1 hk1 hS => ?_)
    obtain ⟨hP1, hK1, hD1⟩ := hB
    rw [ht] at hP1
    try dsimp only at hw
    obtain ⟨hP, hD⟩ := va_join (wr := [(g 60, .inr (9, mF g)), (g 17, .inl (cy 0, 25, .inl (fun _ => 0))), (g 16, .inl (cy 0, 5, .inl (fun _ => 0))), (g 1, .inl (cy 0, 4, .inl (upd (upd (upd (upd (fun _ => 0) 0 (-1)) 1 (-1)) 2 (-1)) 3 (-1))))]) (w1 := []) hP hD [] [0, 1, 2, 3] rfl rfl (by decide) (by decide) hk1 hFc hP1 hD1
    generalize H1 = H at hP hS ⊢
    have hP : va_P D clz [(g 60, .inr (9, mF g)), (g 17, .inl (cy 0, 25, .inl (fun _ => 0))), (g 16, .inl (cy 0, 5, .inl (fun _ => 0))), (g 1, .inl (cy 0, 4, .inl (upd (upd (upd (upd (fun _ => 0) 0 (-1)) 1 (-1)) 2 (-1)) 3 (-1))))] H := hP
    have hD : va_D A [(g 60, .inr (9, mF g)), (g 17, .inl (cy 0, 25, .inl (fun _ => 0))), (g 16, .inl (cy 0, 5, .inl (fun _ => 0))), (g 1, .inl (cy 0, 4, .inl (upd (upd (upd (upd (fun _ => 0) 0 (-1)) 1 (-1)) 2 (-1)) 3 (-1))))] := hD
    by_cases hc_6 : ((0 : Int64) ≤ (1 : Int64) ∧ (1 : Int64) ≤ (4 : Int64))
    ·
      rw [if_pos hc_6] at hw
      subst hw
      refine lv_if_eq (tgt := 24) hx hb dX9_count_14 (by decide) (fun c9 => absurd c9 (by decide)) (fun _ => ?_)
      refine lv_aload_n hx hb dX9_count_17 rfl (lv_at hl 0 rfl) ?_
      refine va_get (D := D) (ci := 9) (v := .ref (g 17)) (C := RX9) (T := TX9) (N := 60) hx hb hts iX9 hown hK hP 0 rfl rfl 17 (by decide) (hts _ q1377) (fun _ h9 => h9) rfl dX9_count_18 ?_
      refine lv_iload_n hx hb dX9_count_21 rfl (lv_at hl 1 rfl) ?_
      refine va_iald hx hb hK hP 1 0 rfl rfl (vpi (by decide)) dX9_count_22 ?_
      refine lv_topi (fun x_7 ex_7 => ?_)
      obtain rfl : x_7 = 0 := ex_7.trans (by decide)
      have hP9 := hP.sub (ws' := [(g 60, .inr (9, mF g)), (g 17, .inl (cy 0, 25, .inl (fun _ => 0))), (g 16, .inl (cy 0, 5, .inl (fun _ => 0))), (g 1, .inl (cy 0, 4, .inl (upd (upd (upd (upd (fun _ => 0) 0 (-1)) 1 (-1)) 2 (-1)) 3 (-1))))]) [0, 1, 2, 3] rfl
      have hD9 := hD.sub (ws' := [(g 60, .inr (9, mF g)), (g 17, .inl (cy 0, 25, .inl (fun _ => 0))), (g 16, .inl (cy 0, 5, .inl (fun _ => 0))), (g 1, .inl (cy 0, 4, .inl (upd (upd (upd (upd (fun _ => 0) 0 (-1)) 1 (-1)) 2 (-1)) 3 (-1))))]) [0, 1, 2, 3] (by decide) rfl
      exact W.iret (v := 0) hx hb hr (fun tS ht hW => ⟨⟨0, (), rfl, (by have f0 := bp64 hc_6; have z321 : (1 : Int32).toInt = 1 := (by decide); have z640 : (0 : Int64).toInt = 0 := (by decide); have z641 : (1 : Int64).toInt = 1 := (by decide); have z644 : (4 : Int64).toInt = 4 := (by decide); unfold sp_count; (repeat' split) <;> first | rfl | (exfalso; omega)), by rw [ht]; exact hP9, va_K.moved hW.alike hK, hD9⟩, hS.F ht⟩) hS.2.2 dX9_count_23
    ·
      rw [if_neg hc_6] at hw
      subst hw
      exact False.elim (by have f0 := bn64 hc_6; have z640 : (0 : Int64).toInt = 0 := (by decide); have z641 : (1 : Int64).toInt = 1 := (by decide); have z644 : (4 : Int64).toInt = 4 := (by decide); omega)
  ·
    refine lv_aload_n hx hb dX9_count_0 rfl (lv_at hl 0 rfl) ?_
    refine lv_iconst (v := 0) hx hb dX9_count_1 (by decide) ?_
    refine va_put (D := D) (ci := 9) (v := .int 0) (ty := .int) (C := RX9) (T := TX9) (N := 60) hx hb hts iX9 tyX9 tyX9_ok nmX9 hown hK hP hD hS 0 rfl rfl 0 (by decide) (hts _ q1360) (fun _ h9 => h9) rfl (by decide +kernel) rfl rfl (Nat.le_of_ble_eq_true rfl) dX9_count_2 (fun H locs hP hD hS => ?_)
    have hP : va_P D clz [(g 60, .inr (9, mF g)), (g 17, .inl (cy 0, 25, .inl (fun _ => 0))), (g 16, .inl (cy 0, 5, .inl (fun _ => 0))), (g 1, .inl (cy 0, 4, .inl (upd (upd (upd (upd (fun _ => 0) 0 (-1)) 1 (-1)) 2 (-1)) 3 (-1))))] H := hP
    have hD : va_D A [(g 60, .inr (9, mF g)), (g 17, .inl (cy 0, 25, .inl (fun _ => 0))), (g 16, .inl (cy 0, 5, .inl (fun _ => 0))), (g 1, .inl (cy 0, 4, .inl (upd (upd (upd (upd (fun _ => 0) 0 (-1)) 1 (-1)) 2 (-1)) 3 (-1))))] := hD
    refine lv_iload_n hx hb dX9_count_5 rfl (lv_at hl 1 rfl) ?_
    refine lv_i2l (v := 2) hx hb dX9_count_6 (by decide) ?_
    refine lv_lconst (v := 0) hx hb dX9_count_7 (by decide) ?_
    refine lv_ldc2 (v := 4) hx hb hown (hts _ q1726) dX9_count_8 ?_
    have hPc := hP.sub (ws' := []) [] rfl
    have hDc := hD.sub (ws' := []) [] (by decide) rfl
    have hFc := va_free (wc := []) hD hS hA [] rfl
    refine va_calli (va_runS (As := [.long 2, .long 0, .long 4]) (rest := []) ⟨hx, hb, hml, hown, hts⟩ (c_X9_in l D cy 2 0 4 H.size) (va_cwS 3 hts (gd_S q1550 q1551 q134 q1552) rfl rfl rfl (by decide +kernel) ⟨Nat.le_of_ble_eq_true rfl, Nat.le_of_ble_eq_true rfl⟩) (pr_S hPc hK hDc) rfl rfl hl.1 rfl (lv_room (Nat.le_of_ble_eq_true rfl)) dX9_count_11 ⟨Nat.le_of_ble_eq_true rfl, Nat.le_of_ble_eq_true rfl⟩) hS (fun q _ h => hFc q h) hFc (fun r_8 u tS H1 locs ht hvm hw hB hz1 hk1 hS => ?_)
    obtain ⟨hP1, hK1, hD1⟩ := hB
    rw [ht] at hP1
    try dsimp only at hw
    obtain ⟨hP, hD⟩ := va_join (wr := [(g 60, .inr (9, mF g)), (g 17, .inl (cy 0, 25, .inl (fun _ => 0))), (g 16, .inl (cy 0, 5, .inl (fun _ => 0))), (g 1, .inl (cy 0, 4, .inl (upd (upd (upd (upd (fun _ => 0) 0 (-1)) 1 (-1)) 2 (-1)) 3 (-1))))]) (w1 := []) hP hD [] [0, 1, 2, 3] rfl rfl (by decide) (by decide) hk1 hFc hP1 hD1
    generalize H1 = H at hP hS ⊢
    have hP : va_P D clz [(g 60, .inr (9, mF g)), (g 17, .inl (cy 0, 25, .inl (fun _ => 0))), (g 16, .inl (cy 0, 5, .inl (fun _ => 0))), (g 1, .inl (cy 0, 4, .inl (upd (upd (upd (upd (fun _ => 0) 0 (-1)) 1 (-1)) 2 (-1)) 3 (-1))))] H := hP
    have hD : va_D A [(g 60, .inr (9, mF g)), (g 17, .inl (cy 0, 25, .inl (fun _ => 0))), (g 16, .inl (cy 0, 5, .inl (fun _ => 0))), (g 1, .inl (cy 0, 4, .inl (upd (upd (upd (upd (fun _ => 0) 0 (-1)) 1 (-1)) 2 (-1)) 3 (-1))))] := hD
    by_cases hc_9 : ((0 : Int64) ≤ (2 : Int64) ∧ (2 : Int64) ≤ (4 : Int64))
    ·
      rw [if_pos hc_9] at hw
      subst hw
      refine lv_if_eq (tgt := 24) hx hb dX9_count_14 (by decide) (fun c9 => absurd c9 (by decide)) (fun _ => ?_)
      refine lv_aload_n hx hb dX9_count_17 rfl (lv_at hl 0 rfl) ?_
      refine va_get (D := D) (ci := 9) (v := .ref (g 17)) (C := RX9) (T := TX9) (N := 60) hx hb hts iX9 hown hK hP 0 rfl rfl 17 (by decide) (hts _ q1377) (fun _ h9 => h9) rfl dX9_count_18 ?_
      refine lv_iload_n hx hb dX9_count_21 rfl (lv_at hl 1 rfl) ?_
      refine va_iald hx hb hK hP 1 0 rfl rfl (vpi (by decide)) dX9_count_22 ?_
      refine lv_topi (fun x_10 ex_10 => ?_)
      obtain rfl : x_10 = 0 := ex_10.trans (by decide)
      have hP9 := hP.sub (ws' := [(g 60, .inr (9, mF g)), (g 17, .inl (cy 0, 25, .inl (fun _ => 0))), (g 16, .inl (cy 0, 5, .inl (fun _ => 0))), (g 1, .inl (cy 0, 4, .inl (upd (upd (upd (upd (fun _ => 0) 0 (-1)) 1 (-1)) 2 (-1)) 3 (-1))))]) [0, 1, 2, 3] rfl
      have hD9 := hD.sub (ws' := [(g 60, .inr (9, mF g)), (g 17, .inl (cy 0, 25, .inl (fun _ => 0))), (g 16, .inl (cy 0, 5, .inl (fun _ => 0))), (g 1, .inl (cy 0, 4, .inl (upd (upd (upd (upd (fun _ => 0) 0 (-1)) 1 (-1)) 2 (-1)) 3 (-1))))]) [0, 1, 2, 3] (by decide) rfl
      exact W.iret (v := 0) hx hb hr (fun tS ht hW => ⟨⟨0, (), rfl, (by have f0 := bp64 hc_9; have z322 : (2 : Int32).toInt = 2 := (by decide); have z640 : (0 : Int64).toInt = 0 := (by decide); have z642 : (2 : Int64).toInt = 2 := (by decide); have z644 : (4 : Int64).toInt = 4 := (by decide); unfold sp_count; (repeat' split) <;> first | rfl | (exfalso; omega)), by rw [ht]; exact hP9, va_K.moved hW.alike hK, hD9⟩, hS.F ht⟩) hS.2.2 dX9_count_23
    ·
      rw [if_neg hc_9] at hw
      subst hw
      exact False.elim (by have f0 := bn64 hc_9; have z640 : (0 : Int64).toInt = 0 := (by decide); have z642 : (2 : Int64).toInt = 2 := (by decide); have z644 : (4 : Int64).toInt = 4 := (by decide); omega)
  ·
    refine lv_aload_n hx hb dX9_count_0 rfl (lv_at hl 0 rfl) ?_
    refine lv_iconst (v := 0) hx hb dX9_count_1 (by decide) ?_
    refine va_put (D := D) (ci := 9) (v := .int 0) (ty := .int) (C := RX9) (T := TX9) (N := 60) hx hb hts iX9 tyX9 tyX9_ok nmX9 hown hK hP hD hS 0 rfl rfl 0 (by decide) (hts _ q1360) (fun _ h9 => h9) rfl (by decide +kernel) rfl rfl (Nat.le_of_ble_eq_true rfl) dX9_count_2 (fun H locs hP hD hS => ?_)
    have hP : va_P D clz [(g 60, .inr (9, mF g)), (g 17, .inl (cy 0, 25, .inl (fun _ => 0))), (g 16, .inl (cy 0, 5, .inl (fun _ => 0))), (g 1, .inl (cy 0, 4, .inl (upd (upd (upd (upd (fun _ => 0) 0 (-1)) 1 (-1)) 2 (-1)) 3 (-1))))] H := hP
    have hD : va_D A [(g 60, .inr (9, mF g)), (g 17, .inl (cy 0, 25, .inl (fun _ => 0))), (g 16, .inl (cy 0, 5, .inl (fun _ => 0))), (g 1, .inl (cy 0, 4, .inl (upd (upd (upd (upd (fun _ => 0) 0 (-1)) 1 (-1)) 2 (-1)) 3 (-1))))] := hD
    refine lv_iload_n hx hb dX9_count_5 rfl (lv_at hl 1 rfl) ?_
    refine lv_i2l (v := 3) hx hb dX9_count_6 (by decide) ?_
    refine lv_lconst (v := 0) hx hb dX9_count_7 (by decide) ?_
    refine lv_ldc2 (v := 4) hx hb hown (hts _ q1726) dX9_count_8 ?_
    have hPc := hP.sub (ws' := []) [] rfl
    have hDc := hD.sub (ws' := []) [] (by decide) rfl
    have hFc := va_free (wc := []) hD hS hA [] rfl
    refine va_calli (va_runS (As := [.long 3, .long 0, .long 4]) (rest := []) ⟨hx, hb, hml, hown, hts⟩ (c_X9_in l D cy 3 0 4 H.size) (va_cwS 3 hts (gd_S q1550 q1551 q134 q1552) rfl rfl rfl (by decide +kernel) ⟨Nat.le_of_ble_eq_true rfl, Nat.le_of_ble_eq_true rfl⟩) (pr_S hPc hK hDc) rfl rfl hl.1 rfl (lv_room (Nat.le_of_ble_eq_true rfl)) dX9_count_11 ⟨Nat.le_of_ble_eq_true rfl, Nat.le_of_ble_eq_true rfl⟩) hS (fun q _ h => hFc q h) hFc (fun r_11 u tS H1 locs ht hvm hw hB hz1 hk1 hS => ?_)
    obtain ⟨hP1, hK1, hD1⟩ := hB
    rw [ht] at hP1
    try dsimp only at hw
    obtain ⟨hP, hD⟩ := va_join (wr := [(g 60, .inr (9, mF g)), (g 17, .inl (cy 0, 25, .inl (fun _ => 0))), (g 16, .inl (cy 0, 5, .inl (fun _ => 0))), (g 1, .inl (cy 0, 4, .inl (upd (upd (upd (upd (fun _ => 0) 0 (-1)) 1 (-1)) 2 (-1)) 3 (-1))))]) (w1 := []) hP hD [] [0, 1, 2, 3] rfl rfl (by decide) (by decide) hk1 hFc hP1 hD1
    generalize H1 = H at hP hS ⊢
    have hP : va_P D clz [(g 60, .inr (9, mF g)), (g 17, .inl (cy 0, 25, .inl (fun _ => 0))), (g 16, .inl (cy 0, 5, .inl (fun _ => 0))), (g 1, .inl (cy 0, 4, .inl (upd (upd (upd (upd (fun _ => 0) 0 (-1)) 1 (-1)) 2 (-1)) 3 (-1))))] H := hP
    have hD : va_D A [(g 60, .inr (9, mF g)), (g 17, .inl (cy 0, 25, .inl (fun _ => 0))), (g 16, .inl (cy 0, 5, .inl (fun _ => 0))), (g 1, .inl (cy 0, 4, .inl (upd (upd (upd (upd (fun _ => 0) 0 (-1)) 1 (-1)) 2 (-1)) 3 (-1))))] := hD
    by_cases hc_12 : ((0 : Int64) ≤ (3 : Int64) ∧ (3 : Int64) ≤ (4 : Int64))
    ·
      rw [if_pos hc_12] at hw
      subst hw
      refine lv_if_eq (tgt := 24) hx hb dX9_count_14 (by decide) (fun c9 => absurd c9 (by decide)) (fun _ => ?_)
      refine lv_aload_n hx hb dX9_count_17 rfl (lv_at hl 0 rfl) ?_
      refine va_get (D := D) (ci := 9) (v := .ref (g 17)) (C := RX9) (T := TX9) (N := 60) hx hb hts iX9 hown hK hP 0 rfl rfl 17 (by decide) (hts _ q1377) (fun _ h9 => h9) rfl dX9_count_18 ?_
      refine lv_iload_n hx hb dX9_count_21 rfl (lv_at hl 1 rfl) ?_
      refine va_iald hx hb hK hP 1 0 rfl rfl (vpi (by decide)) dX9_count_22 ?_
      refine lv_topi (fun x_13 ex_13 => ?_)
      obtain rfl : x_13 = 0 := ex_13.trans (by decide)
      have hP9 := hP.sub (ws' := [(g 60, .inr (9, mF g)), (g 17, .inl (cy 0, 25, .inl (fun _ => 0))), (g 16, .inl (cy 0, 5, .inl (fun _ => 0))), (g 1, .inl (cy 0, 4, .inl (upd (upd (upd (upd (fun _ => 0) 0 (-1)) 1 (-1)) 2 (-1)) 3 (-1))))]) [0, 1, 2, 3] rfl
      have hD9 := hD.sub (ws' := [(g 60, .inr (9, mF g)), (g 17, .inl (cy 0, 25, .inl (fun _ => 0))), (g 16, .inl (cy 0, 5, .inl (fun _ => 0))), (g 1, .inl (cy 0, 4, .inl (upd (upd (upd (upd (fun _ => 0) 0 (-1)) 1 (-1)) 2 (-1)) 3 (-1))))]) [0, 1, 2, 3] (by decide) rfl
      exact W.iret (v := 0) hx hb hr (fun tS ht hW => ⟨⟨0, (), rfl, (by have f0 := bp64 hc_12; have z323 : (3 : Int32).toInt = 3 := (by decide); have z640 : (0 : Int64).toInt = 0 := (by decide); have z643 : (3 : Int64).toInt = 3 := (by decide); have z644 : (4 : Int64).toInt = 4 := (by decide); unfold sp_count; (repeat' split) <;> first | rfl | (exfalso; omega)), by rw [ht]; exact hP9, va_K.moved hW.alike hK, hD9⟩, hS.F ht⟩) hS.2.2 dX9_count_23
    ·
      rw [if_neg hc_12] at hw
      subst hw
      exact False.elim (by have f0 := bn64 hc_12; have z640 : (0 : Int64).toInt = 0 := (by decide); have z643 : (3 : Int64).toInt = 3 := (by decide); have z644 : (4 : Int64).toInt = 4 := (by decide); omega)
  ·
    refine lv_aload_n hx hb dX9_count_0 rfl (lv_at hl 0 rfl) ?_
    refine lv_iconst (v := 0) hx hb dX9_count_1 (by decide) ?_
    refine va_put (D := D) (ci := 9) (v := .int 0) (ty := .int) (C := RX9) (T := TX9) (N := 60) hx hb hts iX9 tyX9 tyX9_ok nmX9 hown hK hP hD hS 0 rfl rfl 0 (by decide) (hts _ q1360) (fun _ h9 => h9) rfl (by decide +kernel) rfl rfl (Nat.le_of_ble_eq_true rfl) dX9_count_2 (fun H locs hP hD hS => ?_)
    have hP : va_P D clz [(g 60, .inr (9, mF g)), (g 17, .inl (cy 0, 25, .inl (fun _ => 0))), (g 16, .inl (cy 0, 5, .inl (fun _ => 0))), (g 1, .inl (cy 0, 4, .inl (upd (upd (upd (upd (fun _ => 0) 0 (-1)) 1 (-1)) 2 (-1)) 3 (-1))))] H := hP
    have hD : va_D A [(g 60, .inr (9, mF g)), (g 17, .inl (cy 0, 25, .inl (fun _ => 0))), (g 16, .inl (cy 0, 5, .inl (fun _ => 0))), (g 1, .inl (cy 0, 4, .inl (upd (upd (upd (upd (fun _ => 0) 0 (-1)) 1 (-1)) 2 (-1)) 3 (-1))))] := hD
    refine lv_iload_n hx hb dX9_count_5 rfl (lv_at hl 1 rfl) ?_
    refine lv_i2l (v := 4) hx hb dX9_count_6 (by decide) ?_
    refine lv_lconst (v := 0) hx hb dX9_count_7 (by decide) ?_
    refine lv_ldc2 (v := 4) hx hb hown (hts _ q1726) dX9_count_8 ?_
    have hPc := hP.sub (ws' := []) [] rfl
    have hDc := hD.sub (ws' := []) [] (by decide) rfl
    have hFc := va_free (wc := []) hD hS hA [] rfl
    refine va_calli (va_runS (As := [.long 4, .long 0, .long 4]) (rest := []) ⟨hx, hb, hml, hown, hts⟩ (c_X9_in l D cy 4 0 4 H.size) (va_cwS 3 hts (gd_S q1550 q1551 q134 q1552) rfl rfl rfl (by decide +kernel) ⟨Nat.le_of_ble_eq_true rfl, Nat.le_of_ble_eq_true rfl⟩) (pr_S hPc hK hDc) rfl rfl hl.1 rfl (lv_room (Nat.le_of_ble_eq_true rfl)) dX9_count_11 ⟨Nat.le_of_ble_eq_true rfl, Nat.le_of_ble_eq_true rfl⟩) hS (fun q _ h => hFc q h) hFc (fun r_14 u tS H1 locs ht hvm hw hB hz1 hk1 hS => ?_)
    obtain ⟨hP1, hK1, hD1⟩ := hB
    rw [ht] at hP1
    try dsimp only at hw
    obtain ⟨hP, hD⟩ := va_join (wr := [(g 60, .inr (9, mF g)), (g 17, .inl (cy 0, 25, .inl (fun _ => 0))), (g 16, .inl (cy 0, 5, .inl (fun _ => 0))), (g 1, .inl (cy 0, 4, .inl (upd (upd (upd (upd (fun _ => 0) 0 (-1)) 1 (-1)) 2 (-1)) 3 (-1))))]) (w1 := []) hP hD [] [0, 1, 2, 3] rfl rfl (by decide) (by decide) hk1 hFc hP1 hD1
    generalize H1 = H at hP hS ⊢
    have hP : va_P D clz [(g 60, .inr (9, mF g)), (g 17, .inl (cy 0, 25, .inl (fun _ => 0))), (g 16, .inl (cy 0, 5, .inl (fun _ => 0))), (g 1, .inl (cy 0, 4, .inl (upd (upd (upd (upd (fun _ => 0) 0 (-1)) 1 (-1)) 2 (-1)) 3 (-1))))] H := hP
    have hD : va_D A [(g 60, .inr (9, mF g)), (g 17, .inl (cy 0, 25, .inl (fun _ => 0))), (g 16, .inl (cy 0, 5, .inl (fun _ => 0))), (g 1, .inl (cy 0, 4, .inl (upd (upd (upd (upd (fun _ => 0) 0 (-1)) 1 (-1)) 2 (-1)) 3 (-1))))] := hD
    by_cases hc_15 : ((0 : Int64) ≤ (4 : Int64) ∧ (4 : Int64) ≤ (4 : Int64))
    ·
      rw [if_pos hc_15] at hw
      subst hw
      refine lv_if_eq (tgt := 24) hx hb dX9_count_14 (by decide) (fun c9 => absurd c9 (by decide)) (fun _ => ?_)
      refine lv_aload_n hx hb dX9_count_17 rfl (lv_at hl 0 rfl) ?_
      refine va_get (D := D) (ci := 9) (v := .ref (g 17)) (C := RX9) (T := TX9) (N := 60) hx hb hts iX9 hown hK hP 0 rfl rfl 17 (by decide) (hts _ q1377) (fun _ h9 => h9) rfl dX9_count_18 ?_
      refine lv_iload_n hx hb dX9_count_21 rfl (lv_at hl 1 rfl) ?_
      refine va_iald hx hb hK hP 1 0 rfl rfl (vpi (by decide)) dX9_count_22 ?_
      refine lv_topi (fun x_16 ex_16 => ?_)
      obtain rfl : x_16 = 0 := ex_16.trans (by decide)
      have hP9 := hP.sub (ws' := [(g 60, .inr (9, mF g)), (g 17, .inl (cy 0, 25, .inl (fun _ => 0))), (g 16, .inl (cy 0, 5, .inl (fun _ => 0))), (g 1, .inl (cy 0, 4, .inl (upd (upd (upd (upd (fun _ => 0) 0 (-1)) 1 (-1)) 2 (-1)) 3 (-1))))]) [0, 1, 2, 3] rfl
      have hD9 := hD.sub (ws' := [(g 60, .inr (9, mF g)), (g 17, .inl (cy 0, 25, .inl (fun _ => 0))), (g 16, .inl (cy 0, 5, .inl (fun _ => 0))), (g 1, .inl (cy 0, 4, .inl (upd (upd (upd (upd (fun _ => 0) 0 (-1)) 1 (-1)) 2 (-1)) 3 (-1))))]) [0, 1, 2, 3] (by decide) rfl
      exact W.iret (v := 0) hx hb hr (fun tS ht hW => ⟨⟨0, (), rfl, (by have f0 := bp64 hc_15; have z324 : (4 : Int32).toInt = 4 := (by decide); have z640 : (0 : Int64).toInt = 0 := (by decide); have z644 : (4 : Int64).toInt = 4 := (by decide); unfold sp_count; (repeat' split) <;> first | rfl | (exfalso; omega)), by rw [ht]; exact hP9, va_K.moved hW.alike hK, hD9⟩, hS.F ht⟩) hS.2.2 dX9_count_23
    ·
      rw [if_neg hc_15] at hw
      subst hw
      exact False.elim (by have f0 := bn64 hc_15; have z640 : (0 : Int64).toInt = 0 := (by decide); have z644 : (4 : Int64).toInt = 4 := (by decide); omega)
  ·
    refine lv_aload_n hx hb dX9_count_0 rfl (lv_at hl 0 rfl) ?_
    refine lv_iconst (v := 0) hx hb dX9_count_1 (by decide) ?_
    refine va_put (D := D) (ci := 9) (v := .int 0) (ty := .int) (C := RX9) (T := TX9) (N := 60) hx hb hts iX9 tyX9 tyX9_ok nmX9 hown hK hP hD hS 0 rfl rfl 0 (by decide) (hts _ q1360) (fun _ h9 => h9) rfl (by decide +kernel) rfl rfl (Nat.le_of_ble_eq_true rfl) dX9_count_2 (fun H locs hP hD hS => ?_)
    have hP : va_P D clz [(g 60, .inr (9, mF g)), (g 17, .inl (cy 0, 25, .inl (fun _ => 0))), (g 16, .inl (cy 0, 5, .inl (fun _ => 0))), (g 1, .inl (cy 0, 4, .inl (upd (upd (upd (upd (fun _ => 0) 0 (-1)) 1 (-1)) 2 (-1)) 3 (-1))))] H := hP
    have hD : va_D A [(g 60, .inr (9, mF g)), (g 17, .inl (cy 0, 25, .inl (fun _ => 0))), (g 16, .inl (cy 0, 5, .inl (fun _ => 0))), (g 1, .inl (cy 0, 4, .inl (upd (upd (upd (upd (fun _ => 0) 0 (-1)) 1 (-1)) 2 (-1)) 3 (-1))))] := hD
    refine lv_iload_n hx hb dX9_count_5 rfl (lv_at hl 1 rfl) ?_
    refine lv_i2l (v := 5) hx hb dX9_count_6 (by decide) ?_
    refine lv_lconst (v := 0) hx hb dX9_count_7 (by decide) ?_
    refine lv_ldc2 (v := 4) hx hb hown (hts _ q1726) dX9_count_8 ?_
    have hPc := hP.sub (ws' := []) [] rfl
    have hDc := hD.sub (ws' := []) [] (by decide) rfl
    have hFc := va_free (wc := []) hD hS hA [] rfl
    refine va_calli (va_runS (As := [.long 5, .long 0, .long 4]) (rest := []) ⟨hx, hb, hml, hown, hts⟩ (c_X9_in l D cy 5 0 4 H.size) (va_cwS 3 hts (gd_S q1550 q1551 q134 q1552) rfl rfl rfl (by decide +kernel) ⟨Nat.le_of_ble_eq_true rfl, Nat.le_of_ble_eq_true rfl⟩) (pr_S hPc hK hDc) rfl rfl hl.1 rfl (lv_room (Nat.le_of_ble_eq_true rfl)) dX9_count_11 ⟨Nat.le_of_ble_eq_true rfl, Nat.le_of_ble_eq_true rfl⟩) hS (fun q _ h => hFc q h) hFc (fun r_17 u tS H1 locs ht hvm hw hB hz1 hk1 hS => ?_)
    obtain ⟨hP1, hK1, hD1⟩ := hB
    rw [ht] at hP1
    try dsimp only at hw
    obtain ⟨hP, hD⟩ := va_join (wr := [(g 60, .inr (9, mF g)), (g 17, .inl (cy 0, 25, .inl (fun _ => 0))), (g 16, .inl (cy 0, 5, .inl (fun _ => 0))), (g 1, .inl (cy 0, 4, .inl (upd (upd (upd (upd (fun _ => 0) 0 (-1)) 1 (-1)) 2 (-1)) 3 (-1))))]) (w1 := []) hP hD [] [0, 1, 2, 3] rfl rfl (by decide) (by decide) hk1 hFc hP1 hD1
    generalize H1 = H at hP hS ⊢
    have hP : va_P D clz [(g 60, .inr (9, mF g)), (g 17, .inl (cy 0, 25, .inl (fun _ => 0))), (g 16, .inl (cy 0, 5, .inl (fun _ => 0))), (g 1, .inl (cy 0, 4, .inl (upd (upd (upd (upd (fun _ => 0) 0 (-1)) 1 (-1)) 2 (-1)) 3 (-1))))] H := hP
    have hD : va_D A [(g 60, .inr (9, mF g)), (g 17, .inl (cy 0, 25, .inl (fun _ => 0))), (g 16, .inl (cy 0, 5, .inl (fun _ => 0))), (g 1, .inl (cy 0, 4, .inl (upd (upd (upd (upd (fun _ => 0) 0 (-1)) 1 (-1)) 2 (-1)) 3 (-1))))] := hD
    by_cases hc_18 : ((0 : Int64) ≤ (5 : Int64) ∧ (5 : Int64) ≤ (4 : Int64))
    ·
      rw [if_pos hc_18] at hw
      subst hw
      exact False.elim (by have f0 := bp64 hc_18; have z640 : (0 : Int64).toInt = 0 := (by decide); have z644 : (4 : Int64).toInt = 4 := (by decide); have z645 : (5 : Int64).toInt = 5 := (by decide); omega)
    ·
      rw [if_neg hc_18] at hw
      subst hw
      refine lv_if_eq (tgt := 24) hx hb dX9_count_14 (by decide) (fun _ => ?_) (fun c9 => absurd c9 (by decide))
      refine lv_iconst (v := 0) hx hb dX9_count_24 (by decide) ?_
      refine lv_istore_n (lv' := [(2, .int 0), (0, .ref (g 60)), (1, .int 5)]) hx hb dX9_count_25 rfl hl (by decide) rfl (fun ls hl => ?_)
      refine lv_iload_n hx hb dX9_count_26 rfl (lv_at hl 2 rfl) ?_
      refine lv_tableIn (off := 25) (tgt := 52) hx hb dX9_count_27 (by decide) (by decide) (by decide) (by decide) ?_
      refine lv_aload_n hx hb dX9_count_52 rfl (lv_at hl 1 rfl) ?_
      refine va_get (D := D) (ci := 9) (v := .ref (g 16)) (C := RX9) (T := TX9) (N := 60) hx hb hts iX9 hown hK hP 0 rfl rfl 16 (by decide) (hts _ q1376) (fun _ h9 => h9) rfl dX9_count_53 ?_
      refine lv_iconst (v := 0) hx hb dX9_count_56 (by decide) ?_
      refine va_iald hx hb hK hP 2 0 rfl rfl (vpi (by decide)) dX9_count_57 ?_
      refine lv_topi (fun x_19 ex_19 => ?_)
      obtain rfl : x_19 = 0 := ex_19.trans (by decide)
      have hP9 := hP.sub (ws' := [(g 60, .inr (9, mF g)), (g 17, .inl (cy 0, 25, .inl (fun _ => 0))), (g 16, .inl (cy 0, 5, .inl (fun _ => 0))), (g 1, .inl (cy 0, 4, .inl (upd (upd (upd (upd (fun _ => 0) 0 (-1)) 1 (-1)) 2 (-1)) 3 (-1))))]) [0, 1, 2, 3] rfl
      have hD9 := hD.sub (ws' := [(g 60, .inr (9, mF g)), (g 17, .inl (cy 0, 25, .inl (fun _ => 0))), (g 16, .inl (cy 0, 5, .inl (fun _ => 0))), (g 1, .inl (cy 0, 4, .inl (upd (upd (upd (upd (fun _ => 0) 0 (-1)) 1 (-1)) 2 (-1)) 3 (-1))))]) [0, 1, 2, 3] (by decide) rfl
      exact W.iret (v := 0) hx hb hr (fun tS ht hW => ⟨⟨0, (), rfl, (by have f0 := bn64 hc_18; have z325 : (5 : Int32).toInt = 5 := (by decide); have z640 : (0 : Int64).toInt = 0 := (by decide); have z644 : (4 : Int64).toInt = 4 := (by decide); have z645 : (5 : Int64).toInt = 5 := (by decide); unfold sp_count; (repeat' split) <;> first | rfl | (exfalso; omega)), by rw [ht]; exact hP9, va_K.moved hW.alike hK, hD9⟩, hS.F ht⟩) hS.2.2 dX9_count_58
  ·
    refine lv_aload_n hx hb dX9_count_0 rfl (lv_at hl 0 rfl) ?_
    refine lv_iconst (v := 0) hx hb dX9_count_1 (by decide) ?_
    refine va_put (D := D) (ci := 9) (v := .int 0) (ty := .int) (C := RX9) (T := TX9) (N := 60) hx hb hts iX9 tyX9 tyX9_ok nmX9 hown hK hP hD hS 0 rfl rfl 0 (by decide) (hts _ q1360) (fun _ h9 => h9) rfl (by decide +kernel) rfl rfl (Nat.le_of_ble_eq_true rfl) dX9_count_2 (fun H locs hP hD hS => ?_)
    have hP : va_P D clz [(g 60, .inr (9, mF g)), (g 17, .inl (cy 0, 25, .inl (fun _ => 0))), (g 16, .inl (cy 0, 5, .inl (fun _ => 0))), (g 1, .inl (cy 0, 4, .inl (upd (upd (upd (upd (fun _ => 0) 0 (-1)) 1 (-1)) 2 (-1)) 3 (-1))))] H := hP
    have hD : va_D A [(g 60, .inr (9, mF g)), (g 17, .inl (cy 0, 25, .inl (fun _ => 0))), (g 16, .inl (cy 0, 5, .inl (fun _ => 0))), (g 1, .inl (cy 0, 4, .inl (upd (upd (upd (upd (fun _ => 0) 0 (-1)) 1 (-1)) 2 (-1)) 3 (-1))))] := hD
    refine lv_iload_n hx hb dX9_count_5 rfl (lv_at hl 1 rfl) ?_
    refine lv_i2l (v := 6) hx hb dX9_count_6 (by decide) ?_
    refine lv_lconst (v := 0) hx hb dX9_count_7 (by decide) ?_
    refine lv_ldc2 (v := 4) hx hb hown (hts _ q1726) dX9_count_8 ?_
    have hPc := hP.sub (ws' := []) [] rfl
    have hDc := hD.sub (ws' := []) [] (by decide) rfl
    have hFc := va_free (wc := []) hD hS hA [] rfl
    refine va_calli (va_runS (As := [.long 6, .long 0, .long 4]) (rest := []) ⟨hx, hb, hml, hown, hts⟩ (c_X9_in l D cy 6 0 4 H.size) (va_cwS 3 hts (gd_S q1550 q1551 q134 q1552) rfl rfl rfl (by decide +kernel) ⟨Nat.le_of_ble_eq_true rfl, Nat.le_of_ble_eq_true rfl⟩) (pr_S hPc hK hDc) rfl rfl hl.1 rfl (lv_room (Nat.le_of_ble_eq_true rfl)) dX9_count_11 ⟨Nat.le_of_ble_eq_true rfl, Nat.le_of_ble_eq_true rfl⟩) hS (fun q _ h => hFc q h) hFc (fun r_20 u tS H1 locs ht hvm hw hB hz1 hk1 hS => ?_)
    obtain ⟨hP1, hK1, hD1⟩ := hB
    rw [ht] at hP1
    try dsimp only at hw
    obtain ⟨hP, hD⟩ := va_join (wr := [(g 60, .inr (9, mF g)), (g 17, .inl (cy 0, 25, .inl (fun _ => 0))), (g 16, .inl (cy 0, 5, .inl (fun _ => 0))), (g 1, .inl (cy 0, 4, .inl (upd (upd (upd (upd (fun _ => 0) 0 (-1)) 1 (-1)) 2 (-1)) 3 (-1))))]) (w1 := []) hP hD [] [0, 1, 2, 3] rfl rfl (by decide) (by decide) hk1 hFc hP1 hD1
    generalize H1 = H at hP hS ⊢
    have hP : va_P D clz [(g 60, .inr (9, mF g)), (g 17, .inl (cy 0, 25, .inl (fun _ => 0))), (g 16, .inl (cy 0, 5, .inl (fun _ => 0))), (g 1, .inl (cy 0, 4, .inl (upd (upd (upd (upd (fun _ => 0) 0 (-1)) 1 (-1)) 2 (-1)) 3 (-1))))] H := hP
    have hD : va_D A [(g 60, .inr (9, mF g)), (g 17, .inl (cy 0, 25, .inl (fun _ => 0))), (g 16, .inl (cy 0, 5, .inl (fun _ => 0))), (g 1, .inl (cy 0, 4, .inl (upd (upd (upd (upd (fun _ => 0) 0 (-1)) 1 (-1)) 2 (-1)) 3 (-1))))] := hD
    by_cases hc_21 : ((0 : Int64) ≤ (6 : Int64) ∧ (6 : Int64) ≤ (4 : Int64))
    ·
      rw [if_pos hc_21] at hw
      subst hw
      exact False.elim (by have f0 := bp64 hc_21; have z640 : (0 : Int64).toInt = 0 := (by decide); have z644 : (4 : Int64).toInt = 4 := (by decide); have z646 : (6 : Int64).toInt = 6 := (by decide); omega)
    ·
      rw [if_neg hc_21] at hw
      subst hw
      refine lv_if_eq (tgt := 24) hx hb dX9_count_14 (by decide) (fun _ => ?_) (fun c9 => absurd c9 (by decide))
      refine lv_iconst (v := 0) hx hb dX9_count_24 (by decide) ?_
      refine lv_istore_n (lv' := [(2, .int 0), (0, .ref (g 60)), (1, .int 6)]) hx hb dX9_count_25 rfl hl (by decide) rfl (fun ls hl => ?_)
      refine lv_iload_n hx hb dX9_count_26 rfl (lv_at hl 2 rfl) ?_
      refine lv_tableIn (off := 32) (tgt := 59) hx hb dX9_count_27 (by decide) (by decide) (by decide) (by decide) ?_
      refine lv_aload_n hx hb dX9_count_59 rfl (lv_at hl 1 rfl) ?_
      refine va_get (D := D) (ci := 9) (v := .int 0) (C := RX9) (T := TX9) (N := 60) hx hb hts iX9 hown hK hP 0 rfl rfl 6 (by decide) (hts _ q1366) (fun _ h9 => h9) rfl dX9_count_60 ?_
      have hP9 := hP.sub (ws' := [(g 60, .inr (9, mF g)), (g 17, .inl (cy 0, 25, .inl (fun _ => 0))), (g 16, .inl (cy 0, 5, .inl (fun _ => 0))), (g 1, .inl (cy 0, 4, .inl (upd (upd (upd (upd (fun _ => 0) 0 (-1)) 1 (-1)) 2 (-1)) 3 (-1))))]) [0, 1, 2, 3] rfl
      have hD9 := hD.sub (ws' := [(g 60, .inr (9, mF g)), (g 17, .inl (cy 0, 25, .inl (fun _ => 0))), (g 16, .inl (cy 0, 5, .inl (fun _ => 0))), (g 1, .inl (cy 0, 4, .inl (upd (upd (upd (upd (fun _ => 0) 0 (-1)) 1 (-1)) 2 (-1)) 3 (-1))))]) [0, 1, 2, 3] (by decide) rfl
      exact W.iret (v := 0) hx hb hr (fun tS ht hW => ⟨⟨0, (), rfl, (by have f0 := bn64 hc_21; have z326 : (6 : Int32).toInt = 6 := (by decide); have z640 : (0 : Int64).toInt = 0 := (by decide); have z644 : (4 : Int64).toInt = 4 := (by decide); have z646 : (6 : Int64).toInt = 6 := (by decide); unfold sp_count; (repeat' split) <;> first | rfl | (exfalso; omega)), by rw [ht]; exact hP9, va_K.moved hW.alike hK, hD9⟩, hS.F ht⟩) hS.2.2 dX9_count_63
  ·
    refine lv_aload_n hx hb dX9_count_0 rfl (lv_at hl 0 rfl) ?_
    refine lv_iconst (v := 0) hx hb dX9_count_1 (by decide) ?_
    refine va_put (D := D) (ci := 9) (v := .int 0) (ty := .int) (C := RX9) (T := TX9) (N := 60) hx hb hts iX9 tyX9 tyX9_ok nmX9 hown hK hP hD hS 0 rfl rfl 0 (by decide) (hts _ q1360) (fun _ h9 => h9) rfl (by decide +kernel) rfl rfl (Nat.le_of_ble_eq_true rfl) dX9_count_2 (fun H locs hP hD hS => ?_)
    have hP : va_P D clz [(g 60, .inr (9, mF g)), (g 17, .inl (cy 0, 25, .inl (fun _ => 0))), (g 16, .inl (cy 0, 5, .inl (fun _ => 0))), (g 1, .inl (cy 0, 4, .inl (upd (upd (upd (upd (fun _ => 0) 0 (-1)) 1 (-1)) 2 (-1)) 3 (-1))))] H := hP
    have hD : va_D A [(g 60, .inr (9, mF g)), (g 17, .inl (cy 0, 25, .inl (fun _ => 0))), (g 16, .inl (cy 0, 5, .inl (fun _ => 0))), (g 1, .inl (cy 0, 4, .inl (upd (upd (upd (upd (fun _ => 0) 0 (-1)) 1 (-1)) 2 (-1)) 3 (-1))))] := hD
    refine lv_iload_n hx hb dX9_count_5 rfl (lv_at hl 1 rfl) ?_
    refine lv_i2l (v := 7) hx hb dX9_count_6 (by decide) ?_
    refine lv_lconst (v := 0) hx hb dX9_count_7 (by decide) ?_
    refine lv_ldc2 (v := 4) hx hb hown (hts _ q1726) dX9_count_8 ?_
    have hPc := hP.sub (ws' := []) [] rfl
    have hDc := hD.sub (ws' := []) [] (by decide) rfl
    have hFc := va_free (wc := []) hD hS hA [] rfl
    refine va_calli (va_runS (As := [.long 7, .long 0, .long 4]) (rest := []) ⟨hx, hb, hml, hown, hts⟩ (c_X9_in l D cy 7 0 4 H.size) (va_cwS 3 hts (gd_S q1550 q1551 q134 q1552) rfl rfl rfl (by decide +kernel) ⟨Nat.le_of_ble_eq_true rfl, Nat.le_of_ble_eq_true rfl⟩) (pr_S hPc hK hDc) rfl rfl hl.1 rfl (lv_room (Nat.le_of_ble_eq_true rfl)) dX9_count_11 ⟨Nat.le_of_ble_eq_true rfl, Nat.le_of_ble_eq_true rfl⟩) hS (fun q _ h => hFc q h) hFc (fun r_22 u tS H1 locs ht hvm hw hB hz1 hk1 hS => ?_)
    obtain ⟨hP1, hK1, hD1⟩ := hB
    rw [ht] at hP1
    try dsimp only at hw
    obtain ⟨hP, hD⟩ := va_join (wr := [(g 60, .inr (9, mF g)), (g 17, .inl (cy 0, 25, .inl (fun _ => 0))), (g 16, .inl (cy 0, 5, .inl (fun _ => 0))), (g 1, .inl (cy 0, 4, .inl (upd (upd (upd (upd (fun _ => 0) 0 (-1)) 1 (-1)) 2 (-1)) 3 (-1))))]) (w1 := []) hP hD [] [0, 1, 2, 3] rfl rfl (by decide) (by decide) hk1 hFc hP1 hD1
    generalize H1 = H at hP hS ⊢
    have hP : va_P D clz [(g 60, .inr (9, mF g)), (g 17, .inl (cy 0, 25, .inl (fun _ => 0))), (g 16, .inl (cy 0, 5, .inl (fun _ => 0))), (g 1, .inl (cy 0, 4, .inl (upd (upd (upd (upd (fun _ => 0) 0 (-1)) 1 (-1)) 2 (-1)) 3 (-1))))] H := hP
    have hD : va_D A [(g 60, .inr (9, mF g)), (g 17, .inl (cy 0, 25, .inl (fun _ => 0))), (g 16, .inl (cy 0, 5, .inl (fun _ => 0))), (g 1, .inl (cy 0, 4, .inl (upd (upd (upd (upd (fun _ => 0) 0 (-1)) 1 (-1)) 2 (-1)) 3 (-1))))] := hD
    by_cases hc_23 : ((0 : Int64) ≤ (7 : Int64) ∧ (7 : Int64) ≤ (4 : Int64))
    ·
      rw [if_pos hc_23] at hw
      subst hw
      exact False.elim (by have f0 := bp64 hc_23; have z640 : (0 : Int64).toInt = 0 := (by decide); have z644 : (4 : Int64).toInt = 4 := (by decide); have z647 : (7 : Int64).toInt = 7 := (by decide); omega)
    ·
      rw [if_neg hc_23] at hw
      subst hw
      refine lv_if_eq (tgt := 24) hx hb dX9_count_14 (by decide) (fun _ => ?_) (fun c9 => absurd c9 (by decide))
      refine lv_iconst (v := 0) hx hb dX9_count_24 (by decide) ?_
      refine lv_istore_n (lv' := [(2, .int 0), (0, .ref (g 60)), (1, .int 7)]) hx hb dX9_count_25 rfl hl (by decide) rfl (fun ls hl => ?_)
      refine lv_iload_n hx hb dX9_count_26 rfl (lv_at hl 2 rfl) ?_
      refine lv_tableIn (off := 37) (tgt := 64) hx hb dX9_count_27 (by decide) (by decide) (by decide) (by decide) ?_
      refine lv_iconst (v := 0) hx hb dX9_count_64 (by decide) ?_
      refine lv_istore_n (lv' := [(3, .int 0), (2, .int 0), (0, .ref (g 60)), (1, .int 7)]) hx hb dX9_count_65 rfl hl (by decide) rfl (fun ls hl => ?_)
      refine lv_iload_n hx hb dX9_count_66 rfl (lv_at hl 0 rfl) ?_
      refine lv_iconst (v := 4) hx hb dX9_count_67 (by decide) ?_
      refine lv_icmp_ge (tgt := 95) hx hb dX9_count_68 (by decide) (fun c9 => absurd c9 (by decide)) (fun _ => ?_)
      refine lv_iload_n hx hb dX9_count_71 rfl (lv_at hl 1 rfl) ?_
      refine lv_aload_n hx hb dX9_count_72 rfl (lv_at hl 2 rfl) ?_
      refine va_get (D := D) (ci := 9) (v := .ref (g 1)) (C := RX9) (T := TX9) (N := 60) hx hb hts iX9 hown hK hP 0 rfl rfl 1 (by decide) (hts _ q1361) (fun _ h9 => h9) rfl dX9_count_73 ?_
      refine lv_iload_n hx hb dX9_count_76 rfl (lv_at hl 0 rfl) ?_
      refine va_iald hx hb hK hP 3 0 rfl rfl (vpi (by decide)) dX9_count_77 ?_
      refine lv_topi (fun x_24 ex_24 => ?_)
      obtain rfl : x_24 = (-1) := ex_24.trans (by decide)
      refine lv_iconst (v := (-1)) hx hb dX9_count_78 (by decide) ?_
      refine lv_icmp_ne (tgt := 86) hx hb dX9_count_79 (by decide) (fun c9 => absurd c9 (by decide)) (fun _ => ?_)
      refine lv_iconst (v := 0) hx hb dX9_count_82 (by decide) ?_
      refine lv_goto (tgt := 87) hx hb dX9_count_83 (by decide) ?_
      refine lv_iadd hx hb dX9_count_87 ?_
      refine lv_topi (fun x_25 ex_25 => ?_)
      obtain rfl : x_25 = 0 := ex_25.trans (by decide)
      refine lv_istore_n (lv' := [(2, .int 0), (3, .int 0), (0, .ref (g 60)), (1, .int 7)]) hx hb dX9_count_88 rfl hl (by decide) rfl (fun ls hl => ?_)
      refine lv_iinc (v := 1) (lv' := [(3, .int 1), (2, .int 0), (0, .ref (g 60)), (1, .int 7)]) hx hb dX9_count_89 hl (k := 1) rfl (by decide) (by decide) rfl (fun ls hl => ?_)
      refine lv_goto (tgt := 66) hx hb dX9_count_92 (by decide) ?_
      refine lv_iload_n hx hb dX9_count_66 rfl (lv_at hl 0 rfl) ?_
      refine lv_iconst (v := 4) hx hb dX9_count_67 (by decide) ?_
      refine lv_icmp_ge (tgt := 95) hx hb dX9_count_68 (by decide) (fun c9 => absurd c9 (by decide)) (fun _ => ?_)
      refine lv_iload_n hx hb dX9_count_71 rfl (lv_at hl 1 rfl) ?_
      refine lv_aload_n hx hb dX9_count_72 rfl (lv_at hl 2 rfl) ?_
      refine va_get (D := D) (ci := 9) (v := .ref (g 1)) (C := RX9) (T := TX9) (N := 60) hx hb hts iX9 hown hK hP 0 rfl rfl 1 (by decide) (hts _ q1361) (fun _ h9 => h9) rfl dX9_count_73 ?_
      refine lv_iload_n hx hb dX9_count_76 rfl (lv_at hl 0 rfl) ?_
      refine va_iald hx hb hK hP 3 0 rfl rfl (vpi (by decide)) dX9_count_77 ?_
      refine lv_topi (fun x_26 ex_26 => ?_)
      obtain rfl : x_26 = (-1) := ex_26.trans (by decide)
      refine lv_iconst (v := (-1)) hx hb dX9_count_78 (by decide) ?_
      refine lv_icmp_ne (tgt := 86) hx hb dX9_count_79 (by decide) (fun c9 => absurd c9 (by decide)) (fun _ => ?_)
      refine lv_iconst (v := 0) hx hb dX9_count_82 (by decide) ?_
      refine lv_goto (tgt := 87) hx hb dX9_count_83 (by decide) ?_
      refine lv_iadd hx hb dX9_count_87 ?_
      refine lv_topi (fun x_27 ex_27 => ?_)
      obtain rfl : x_27 = 0 := ex_27.trans (by decide)
      refine lv_istore_n (lv' := [(2, .int 0), (3, .int 1), (0, .ref (g 60)), (1, .int 7)]) hx hb dX9_count_88 rfl hl (by decide) rfl (fun ls hl => ?_)
      refine lv_iinc (v := 2) (lv' := [(3, .int 2), (2, .int 0), (0, .ref (g 60)), (1, .int 7)]) hx hb dX9_count_89 hl (k := 1) rfl (by decide) (by decide) rfl (fun ls hl => ?_)
      refine lv_goto (tgt := 66) hx hb dX9_count_92 (by decide) ?_
      refine lv_iload_n hx hb dX9_count_66 rfl (lv_at hl 0 rfl) ?_
      refine lv_iconst (v := 4) hx hb dX9_count_67 (by decide) ?_
      refine lv_icmp_ge (tgt := 95) hx hb dX9_count_68 (by decide) (fun c9 => absurd c9 (by decide)) (fun _ => ?_)
      refine lv_iload_n hx hb dX9_count_71 rfl (lv_at hl 1 rfl) ?_
      refine lv_aload_n hx hb dX9_count_72 rfl (lv_at hl 2 rfl) ?_
      refine va_get (D := D) (ci := 9) (v := .ref (g 1)) (C := RX9) (T := TX9) (N := 60) hx hb hts iX9 hown hK hP 0 rfl rfl 1 (by decide) (hts _ q1361) (fun _ h9 => h9) rfl dX9_count_73 ?_
      refine lv_iload_n hx hb dX9_count_76 rfl (lv_at hl 0 rfl) ?_
      refine va_iald hx hb hK hP 3 0 rfl rfl (vpi (by decide)) dX9_count_77 ?_
      refine lv_topi (fun x_28 ex_28 => ?_)
      obtain rfl : x_28 = (-1) := ex_28.trans (by decide)
      refine lv_iconst (v := (-1)) hx hb dX9_count_78 (by decide) ?_
      refine lv_icmp_ne (tgt := 86) hx hb dX9_count_79 (by decide) (fun c9 => absurd c9 (by decide)) (fun _ => ?_)
      refine lv_iconst (v := 0) hx hb dX9_count_82 (by decide) ?_
      refine lv_goto (tgt := 87) hx hb dX9_count_83 (by decide) ?_
      refine lv_iadd hx hb dX9_count_87 ?_
      refine lv_topi (fun x_29 ex_29 => ?_)
      obtain rfl : x_29 = 0 := ex_29.trans (by decide)
      refine lv_istore_n (lv' := [(2, .int 0), (3, .int 2), (0, .ref (g 60)), (1, .int 7)]) hx hb dX9_count_88 rfl hl (by decide) rfl (fun ls hl => ?_)
      refine lv_iinc (v := 3) (lv' := [(3, .int 3), (2, .int 0), (0, .ref (g 60)), (1, .int 7)]) hx hb dX9_count_89 hl (k := 1) rfl (by decide) (by decide) rfl (fun ls hl => ?_)
      refine lv_goto (tgt := 66) hx hb dX9_count_92 (by decide) ?_
      refine lv_iload_n hx hb dX9_count_66 rfl (lv_at hl 0 rfl) ?_
      refine lv_iconst (v := 4) hx hb dX9_count_67 (by decide) ?_
      refine lv_icmp_ge (tgt := 95) hx hb dX9_count_68 (by decide) (fun c9 => absurd c9 (by decide)) (fun _ => ?_)
      refine lv_iload_n hx hb dX9_count_71 rfl (lv_at hl 1 rfl) ?_
      refine lv_aload_n hx hb dX9_count_72 rfl (lv_at hl 2 rfl) ?_
      refine va_get (D := D) (ci := 9) (v := .ref (g 1)) (C := RX9) (T := TX9) (N := 60) hx hb hts iX9 hown hK hP 0 rfl rfl 1 (by decide) (hts _ q1361) (fun _ h9 => h9) rfl dX9_count_73 ?_
      refine lv_iload_n hx hb dX9_count_76 rfl (lv_at hl 0 rfl) ?_
      refine va_iald hx hb hK hP 3 0 rfl rfl (vpi (by decide)) dX9_count_77 ?_
      refine lv_topi (fun x_30 ex_30 => ?_)
      obtain rfl : x_30 = (-1) := ex_30.trans (by decide)
      refine lv_iconst (v := (-1)) hx hb dX9_count_78 (by decide) ?_
      refine lv_icmp_ne (tgt := 86) hx hb dX9_count_79 (by decide) (fun c9 => absurd c9 (by decide)) (fun _ => ?_)
      refine lv_iconst (v := 0) hx hb dX9_count_82 (by decide) ?_
      refine lv_goto (tgt := 87) hx hb dX9_count_83 (by decide) ?_
      refine lv_iadd hx hb dX9_count_87 ?_
      refine lv_topi (fun x_31 ex_31 => ?_)
      obtain rfl : x_31 = 0 := ex_31.trans (by decide)
      refine lv_istore_n (lv' := [(2, .int 0), (3, .int 3), (0, .ref (g 60)), (1, .int 7)]) hx hb dX9_count_88 rfl hl (by decide) rfl (fun ls hl => ?_)
      refine lv_iinc (v := 4) (lv' := [(3, .int 4), (2, .int 0), (0, .ref (g 60)), (1, .int 7)]) hx hb dX9_count_89 hl (k := 1) rfl (by decide) (by decide) rfl (fun ls hl => ?_)
      refine lv_goto (tgt := 66) hx hb dX9_count_92 (by decide) ?_
      refine lv_iload_n hx hb dX9_count_66 rfl (lv_at hl 0 rfl) ?_
      refine lv_iconst (v := 4) hx hb dX9_count_67 (by decide) ?_
      refine lv_icmp_ge (tgt := 95) hx hb dX9_count_68 (by decide) (fun _ => ?_) (fun c9 => absurd c9 (by decide))
      refine lv_iload_n hx hb dX9_count_95 rfl (lv_at hl 1 rfl) ?_
      have hP9 := hP.sub (ws' := [(g 60, .inr (9, mF g)), (g 17, .inl (cy 0, 25, .inl (fun _ => 0))), (g 16, .inl (cy 0, 5, .inl (fun _ => 0))), (g 1, .inl (cy 0, 4, .inl (upd (upd (upd (upd (fun _ => 0) 0 (-1)) 1 (-1)) 2 (-1)) 3 (-1))))]) [0, 1, 2, 3] rfl
      have hD9 := hD.sub (ws' := [(g 60, .inr (9, mF g)), (g 17, .inl (cy 0, 25, .inl (fun _ => 0))), (g 16, .inl (cy 0, 5, .inl (fun _ => 0))), (g 1, .inl (cy 0, 4, .inl (upd (upd (upd (upd (fun _ => 0) 0 (-1)) 1 (-1)) 2 (-1)) 3 (-1))))]) [0, 1, 2, 3] (by decide) rfl
      exact W.iret (v := 0) hx hb hr (fun tS ht hW => ⟨⟨0, (), rfl, (by have f0 := bn64 hc_23; have z327 : (7 : Int32).toInt = 7 := (by decide); have z640 : (0 : Int64).toInt = 0 := (by decide); have z644 : (4 : Int64).toInt = 4 := (by decide); have z647 : (7 : Int64).toInt = 7 := (by decide); unfold sp_count; (repeat' split) <;> first | rfl | (exfalso; omega)), by rw [ht]; exact hP9, va_K.moved hW.alike hK, hD9⟩, hS.F ht⟩) hS.2.2 dX9_count_96
  ·
    refine lv_aload_n hx hb dX9_count_0 rfl (lv_at hl 0 rfl) ?_
    refine lv_iconst (v := 0) hx hb dX9_count_1 (by decide) ?_
    refine va_put (D := D) (ci := 9) (v := .int 0) (ty := .int) (C := RX9) (T := TX9) (N := 60) hx hb hts iX9 tyX9 tyX9_ok nmX9 hown hK hP hD hS 0 rfl rfl 0 (by decide) (hts _ q1360) (fun _ h9 => h9) rfl (by decide +kernel) rfl rfl (Nat.le_of_ble_eq_true rfl) dX9_count_2 (fun H locs hP hD hS => ?_)
    have hP : va_P D clz [(g 60, .inr (9, mF g)), (g 17, .inl (cy 0, 25, .inl (fun _ => 0))), (g 16, .inl (cy 0, 5, .inl (fun _ => 0))), (g 1, .inl (cy 0, 4, .inl (upd (upd (upd (upd (fun _ => 0) 0 (-1)) 1 (-1)) 2 (-1)) 3 (-1))))] H := hP
    have hD : va_D A [(g 60, .inr (9, mF g)), (g 17, .inl (cy 0, 25, .inl (fun _ => 0))), (g 16, .inl (cy 0, 5, .inl (fun _ => 0))), (g 1, .inl (cy 0, 4, .inl (upd (upd (upd (upd (fun _ => 0) 0 (-1)) 1 (-1)) 2 (-1)) 3 (-1))))] := hD
    refine lv_iload_n hx hb dX9_count_5 rfl (lv_at hl 1 rfl) ?_
    refine lv_i2l (v := p1.toInt64) hx hb dX9_count_6 rfl ?_
    refine lv_lconst (v := 0) hx hb dX9_count_7 (by decide) ?_
    refine lv_ldc2 (v := 4) hx hb hown (hts _ q1726) dX9_count_8 ?_
    have hPc := hP.sub (ws' := []) [] rfl
    have hDc := hD.sub (ws' := []) [] (by decide) rfl
    have hFc := va_free (wc := []) hD hS hA [] rfl
    refine va_calli (va_runS (As := [.long p1.toInt64, .long 0, .long 4]) (rest := []) ⟨hx, hb, hml, hown, hts⟩ (c_X9_in l D cy p1.toInt64 0 4 H.size) (va_cwS 3 hts (gd_S q1550 q1551 q134 q1552) rfl rfl rfl (by decide +kernel) ⟨Nat.le_of_ble_eq_true rfl, Nat.le_of_ble_eq_true rfl⟩) (pr_S hPc hK hDc) rfl rfl hl.1 rfl (lv_room (Nat.le_of_ble_eq_true rfl)) dX9_count_11 ⟨Nat.le_of_ble_eq_true rfl, Nat.le_of_ble_eq_true rfl⟩) hS (fun q _ h => hFc q h) hFc (fun r_32 u tS H1 locs ht hvm hw hB hz1 hk1 hS => ?_)
    obtain ⟨hP1, hK1, hD1⟩ := hB
    rw [ht] at hP1
    try dsimp only at hw
    obtain ⟨hP, hD⟩ := va_join (wr := [(g 60, .inr (9, mF g)), (g 17, .inl (cy 0, 25, .inl (fun _ => 0))), (g 16, .inl (cy 0, 5, .inl (fun _ => 0))), (g 1, .inl (cy 0, 4, .inl (upd (upd (upd (upd (fun _ => 0) 0 (-1)) 1 (-1)) 2 (-1)) 3 (-1))))]) (w1 := []) hP hD [] [0, 1, 2, 3] rfl rfl (by decide) (by decide) hk1 hFc hP1 hD1
    generalize H1 = H at hP hS ⊢
    have hP : va_P D clz [(g 60, .inr (9, mF g)), (g 17, .inl (cy 0, 25, .inl (fun _ => 0))), (g 16, .inl (cy 0, 5, .inl (fun _ => 0))), (g 1, .inl (cy 0, 4, .inl (upd (upd (upd (upd (fun _ => 0) 0 (-1)) 1 (-1)) 2 (-1)) 3 (-1))))] H := hP
    have hD : va_D A [(g 60, .inr (9, mF g)), (g 17, .inl (cy 0, 25, .inl (fun _ => 0))), (g 16, .inl (cy 0, 5, .inl (fun _ => 0))), (g 1, .inl (cy 0, 4, .inl (upd (upd (upd (upd (fun _ => 0) 0 (-1)) 1 (-1)) 2 (-1)) 3 (-1))))] := hD
    by_cases hc_33 : ((0 : Int64) ≤ p1.toInt64 ∧ p1.toInt64 ≤ (4 : Int64))
    ·
      rw [if_pos hc_33] at hw
      subst hw
      exact False.elim (by have f0 := hs_1; have f1 := bp64 hc_33; have z640 : (0 : Int64).toInt = 0 := (by decide); have z644 : (4 : Int64).toInt = 4 := (by decide); have wp1 : p1.toInt64.toInt = p1.toInt := Int32.toInt_toInt64 p1; omega)
    ·
      rw [if_neg hc_33] at hw
      subst hw
      refine lv_if_eq (tgt := 24) hx hb dX9_count_14 (by decide) (fun _ => ?_) (fun c9 => absurd c9 (by decide))
      refine lv_iconst (v := 0) hx hb dX9_count_24 (by decide) ?_
      refine lv_istore_n (lv' := [(2, .int 0), (0, .ref (g 60)), (1, .int p1)]) hx hb dX9_count_25 rfl hl (by decide) rfl (fun ls hl => ?_)
      refine lv_iload_n hx hb dX9_count_26 rfl (lv_at hl 2 rfl) ?_
      refine lv_tableOut (tgt := 97) hx hb dX9_count_27 (by have f0 := hs_1; have f1 := bn64 hc_33; have z640 : (0 : Int64).toInt = 0 := (by decide); have z644 : (4 : Int64).toInt = 4 := (by decide); have wp1 : p1.toInt64.toInt = p1.toInt := Int32.toInt_toInt64 p1; omega) (by decide) ?_
      refine lv_iconst (v := (-1)) hx hb dX9_count_97 (by decide) ?_
      have hP9 := hP.sub (ws' := [(g 60, .inr (9, mF g)), (g 17, .inl (cy 0, 25, .inl (fun _ => 0))), (g 16, .inl (cy 0, 5, .inl (fun _ => 0))), (g 1, .inl (cy 0, 4, .inl (upd (upd (upd (upd (fun _ => 0) 0 (-1)) 1 (-1)) 2 (-1)) 3 (-1))))]) [0, 1, 2, 3] rfl
      have hD9 := hD.sub (ws' := [(g 60, .inr (9, mF g)), (g 17, .inl (cy 0, 25, .inl (fun _ => 0))), (g 16, .inl (cy 0, 5, .inl (fun _ => 0))), (g 1, .inl (cy 0, 4, .inl (upd (upd (upd (upd (fun _ => 0) 0 (-1)) 1 (-1)) 2 (-1)) 3 (-1))))]) [0, 1, 2, 3] (by decide) rfl
      exact W.iret (v := (-1)) hx hb hr (fun tS ht hW => ⟨⟨(-1), (), rfl, (by have f0 := hs_1; have f1 := bn64 hc_33; have z640 : (0 : Int64).toInt = 0 := (by decide); have z644 : (4 : Int64).toInt = 4 := (by decide); have wp1 : p1.toInt64.toInt = p1.toInt := Int32.toInt_toInt64 p1; unfold sp_count; (repeat' split) <;> first | rfl | (exfalso; omega)), by rw [ht]; exact hP9, va_K.moved hW.alike hK, hD9⟩, hS.F ht⟩) hS.2.2 dX9_count_98

theorem q2151 : Cond.code yX9_back cX9_back 2 (some .int) ∈ lw_g := lw_gm (List.mem_of_getElem? (i := 2151) (by decide +kernel)) rfl
theorem q1771 : Cond.constantLong RX9 351 (2) ∈ lw_g := lw_gm (List.mem_of_getElem? (i := 1771) (by decide +kernel)) rfl
theorem q1382 : Cond.fieldLink RX9 49 "LipsAndSlidesModel" "isKept" "[Z" ∈ lw_g := lw_gm (List.mem_of_getElem? (i := 1382) (by decide +kernel)) rfl
theorem dX9_back_0 : decode cX9_back 0 = .ok (.aload_n 0, 1) := by decide +kernel
theorem dX9_back_1 : decode cX9_back 1 = .ok (.iconst 0, 1) := by decide +kernel
theorem dX9_back_2 : decode cX9_back 2 = .ok (.putfield 129, 3) := by decide +kernel
theorem dX9_back_5 : decode cX9_back 5 = .ok (.iload_n 1, 1) := by decide +kernel
theorem dX9_back_6 : decode cX9_back 6 = .ok (.i2l, 1) := by decide +kernel
theorem dX9_back_7 : decode cX9_back 7 = .ok (.lconst 0, 1) := by decide +kernel
theorem dX9_back_8 : decode cX9_back 8 = .ok (.ldc2_w 351, 3) := by decide +kernel
theorem dX9_back_11 : decode cX9_back 11 = .ok (.invokestatic 134, 3) := by decide +kernel
theorem dX9_back_14 : decode cX9_back 14 = .ok (.ifCond .ne 6, 3) := by decide +kernel
theorem dX9_back_17 : decode cX9_back 17 = .ok (.bipush (-2), 2) := by decide +kernel
theorem dX9_back_19 : decode cX9_back 19 = .ok (.ireturn, 1) := by decide +kernel
theorem dX9_back_20 : decode cX9_back 20 = .ok (.aload_n 0, 1) := by decide +kernel
theorem dX9_back_21 : decode cX9_back 21 = .ok (.getfield 49, 3) := by decide +kernel
theorem dX9_back_24 : decode cX9_back 24 = .ok (.iload_n 1, 1) := by decide +kernel
theorem dX9_back_25 : decode cX9_back 25 = .ok (.baload, 1) := by decide +kernel
theorem dX9_back_26 : decode cX9_back 26 = .ok (.ifCond .ne 6, 3) := by decide +kernel
theorem dX9_back_29 : decode cX9_back 29 = .ok (.bipush (-6), 2) := by decide +kernel
theorem dX9_back_31 : decode cX9_back 31 = .ok (.ireturn, 1) := by decide +kernel
set_option maxHeartbeats 4000000 in
set_option maxRecDepth 100000 in
theorem c_X9_back (l : Launch) (D : va_G) (cy : Nat → ClassId) (g : Nat → Nat) (p1 : Int32) (sz : Nat) : Met l yX9_back (ww yX9_back cX9_back 2 (some .int)) ({ frames := 2, cells := 0, slots := 0, locals := 128 }) (va_Pc [.ref (g 60), .int p1] (pre D cy [(g 60, .inr (9, mF g)), (g 22, .inl (cy 3, 3, .inl (fun _ => 0)))] sz)) (qi D cy (va_A [(g 60, .inr (9, mF g)), (g 22, .inl (cy 3, 3, .inl (fun _ => 0)))] sz) (fun (r : Int32) (_ : Unit) => r = sp_back p1) (fun (_ : Unit) => [(g 60, .inr (9, mF g)), (g 22, .inl (cy 3, 3, .inl (fun _ => 0)))])) 0 0 (va_A [(g 60, .inr (9, mF g)), (g 22, .inl (cy 3, 3, .inl (fun _ => 0)))] sz) := by
  refine Met.ofW (cc := cX9_back) (maxL := 2) (ret := (some .int)) (by decide) rfl ?_
  intro p e s m args below meth c s₁ B hml hv
  obtain ⟨rfl, hsz, hP, hK, hD0⟩ := hv
  have hx := B.exec
  have hb := B.bytes
  have hr := B.returns
  have hts := hts_g (atoms_spec (ws := ww yX9_back cX9_back 2 (some .int)) B.pre)
  have hown : s.vm.findClass RX9 = some m.cls := findClass_of_methodNamed B.named
  have hlocks := B.notSynchronized
  subst hsz
  have hD := hD0.self (sz := s.heap.size)
  generalize hAe : va_A [(g 60, .inr (9, mF g)), (g 22, .inl (cy 3, 3, .inl (fun _ => 0)))] s.heap.size = A at hD ⊢
  have hA : ∀ q : Nat, s.heap.size ≤ q → A q := fun q h => by rw [← hAe]; exact Or.inr h
  have hS : va_S A s.heap s.heap [] := va_S.rf
  have hl := lv_entry ([.ref (g 60), .int p1]) (n := 2) (Nat.le_of_ble_eq_true rfl)
  rw [lg_entry_eq]
  generalize (lg_sl ([.ref (g 60), .int p1]) ++ List.replicate (2 - (lg_sl ([.ref (g 60), .int p1])).length) Slot.unset).toArray = ls at hl ⊢
  have hl : lv_has ls 2 [(0, .ref (g 60)), (1, .int p1)] := hl
  rcases sp3 p1 with rfl | rfl | rfl | hs_1
  ·
    refine lv_aload_n hx hb dX9_back_0 rfl (lv_at hl 0 rfl) ?_
    refine lv_iconst (v := 0) hx hb dX9_back_1 (by decide) ?_
    refine va_put (D := D) (ci := 9) (v := .int 0) (ty := .int) (C := RX9) (T := TX9) (N := 60) hx hb hts iX9 tyX9 tyX9_ok nmX9 hown hK hP hD hS 0 rfl rfl 0 (by decide) (hts _ q1360) (fun _ h9 => h9) rfl (by decide +kernel) rfl rfl (Nat.le_of_ble_eq_true rfl) dX9_back_2 (fun H locs hP hD hS => ?_)
    have hP : va_P D clz [(g 60, .inr (9, mF g)), (g 22, .inl (cy 3, 3, .inl (fun _ => 0)))] H := hP
    have hD : va_D A [(g 60, .inr (9, mF g)), (g 22, .inl (cy 3, 3, .inl (fun _ => 0)))] := hD
    refine lv_iload_n hx hb dX9_back_5 rfl (lv_at hl 1 rfl) ?_
    refine lv_i2l (v := 0) hx hb dX9_back_6 (by decide) ?_
    refine lv_lconst (v := 0) hx hb dX9_back_7 (by decide) ?_
    refine lv_ldc2 (v := 2) hx hb hown (hts _ q1771) dX9_back_8 ?_
    have hPc := hP.sub (ws' := []) [] rfl
    have hDc := hD.sub (ws' := []) [] (by decide) rfl
    have hFc := va_free (wc := []) hD hS hA [] rfl
    refine va_calli (va_runS (As := [.long 0, .long 0, .long 2]) (rest := []) ⟨hx, hb, hml, hown, hts⟩ (c_X9_in l D cy 0 0 2 H.size) (va_cwS 3 hts (gd_S q1550 q1551 q134 q1552) rfl rfl rfl (by decide +kernel) ⟨Nat.le_of_ble_eq_true rfl, Nat.le_of_ble_eq_true rfl⟩) (pr_S hPc hK hDc) rfl rfl hl.1 rfl (lv_room (Nat.le_of_ble_eq_true rfl)) dX9_back_11 ⟨Nat.le_of_ble_eq_true rfl, Nat.le_of_ble_eq_true rfl⟩) hS (fun q _ h => hFc q h) hFc (fun r_2 u tS H1 locs ht hvm hw hB hz1 hk1 hS => ?_)
    obtain ⟨hP1, hK1, hD1⟩ := hB
    rw [ht] at hP1
    try dsimp only at hw
    obtain ⟨hP, hD⟩ := va_join (wr := [(g 60, .inr (9, mF g)), (g 22, .inl (cy 3, 3, .inl (fun _ => 0)))]) (w1 := []) hP hD [] [0, 1] rfl rfl (by decide) (by decide) hk1 hFc hP1 hD1
    generalize H1 = H at hP hS ⊢
    have hP : va_P D clz [(g 60, .inr (9, mF g)), (g 22, .inl (cy 3, 3, .inl (fun _ => 0)))] H := hP
    have hD : va_D A [(g 60, .inr (9, mF g)), (g 22, .inl (cy 3, 3, .inl (fun _ => 0)))] := hD
    by_cases hc_3 : ((0 : Int64) ≤ (0 : Int64) ∧ (0 : Int64) ≤ (2 : Int64))
    ·
      rw [if_pos hc_3] at hw
      subst hw
      refine lv_if_ne (tgt := 20) hx hb dX9_back_14 (by decide) (fun _ => ?_) (fun c9 => absurd c9 (by decide))
      refine lv_aload_n hx hb dX9_back_20 rfl (lv_at hl 0 rfl) ?_
      refine va_get (D := D) (ci := 9) (v := .ref (g 22)) (C := RX9) (T := TX9) (N := 60) hx hb hts iX9 hown hK hP 0 rfl rfl 22 (by decide) (hts _ q1382) (fun _ h9 => h9) rfl dX9_back_21 ?_
      refine lv_iload_n hx hb dX9_back_24 rfl (lv_at hl 1 rfl) ?_
      refine va_zald hx hb hK hP 1 3 rfl rfl (vpi (by decide)) dX9_back_25 ?_
      refine lv_topi (fun x_4 ex_4 => ?_)
      obtain rfl : x_4 = 0 := ex_4.trans (by decide)
      refine lv_if_ne (tgt := 32) hx hb dX9_back_26 (by decide) (fun c9 => absurd c9 (by decide)) (fun _ => ?_)
      refine lv_bipush (v := (-6)) hx hb dX9_back_29 (by decide) ?_
      have hP9 := hP.sub (ws' := [(g 60, .inr (9, mF g)), (g 22, .inl (cy 3, 3, .inl (fun _ => 0)))]) [0, 1] rfl
      have hD9 := hD.sub (ws' := [(g 60, .inr (9, mF g)), (g 22, .inl (cy 3, 3, .inl (fun _ => 0)))]) [0, 1] (by decide) rfl
      exact W.iret (v := (-6)) hx hb hr (fun tS ht hW => ⟨⟨(-6), (), rfl, (by have f0 := bp64 hc_3; have z320 : (0 : Int32).toInt = 0 := (by decide); have z640 : (0 : Int64).toInt = 0 := (by decide); have z642 : (2 : Int64).toInt = 2 := (by decide); unfold sp_back; (repeat' split) <;> first | rfl | (exfalso; omega)), by rw [ht]; exact hP9, va_K.moved hW.alike hK, hD9⟩, hS.F ht⟩) hS.2.2 dX9_back_31
    ·
      rw [if_neg hc_3] at hw
      subst hw
      exact False.elim (by have f0 := bn64 hc_3; have z640 : (0 : Int64).toInt = 0 := (by decide); have z642 : (2 : Int64).toInt = 2 := (by decide); omega)
  ·
    refine lv_aload_n hx hb dX9_back_0 rfl (lv_at hl 0 rfl) ?_
    refine lv_iconst (v := 0) hx hb dX9_back_1 (by decide) ?_
    refine va_put (D := D) (ci := 9) (v := .int 0) (ty := .int) (C := RX9) (T := TX9) (N := 60) hx hb hts iX9 tyX9 tyX9_ok nmX9 hown hK hP hD hS 0 rfl rfl 0 (by decide) (hts _ q1360) (fun _ h9 => h9) rfl (by decide +kernel) rfl rfl (Nat.le_of_ble_eq_true rfl) dX9_back_2 (fun H locs hP hD hS => ?_)
    have hP : va_P D clz [(g 60, .inr (9, mF g)), (g 22, .inl (cy 3, 3, .inl (fun _ => 0)))] H := hP
    have hD : va_D A [(g 60, .inr (9, mF g)), (g 22, .inl (cy 3, 3, .inl (fun _ => 0)))] := hD
    refine lv_iload_n hx hb dX9_back_5 rfl (lv_at hl 1 rfl) ?_
    refine lv_i2l (v := 1) hx hb dX9_back_6 (by decide) ?_
    refine lv_lconst (v := 0) hx hb dX9_back_7 (by decide) ?_
    refine lv_ldc2 (v := 2) hx hb hown (hts _ q1771) dX9_back_8 ?_
    have hPc := hP.sub (ws' := []) [] rfl
    have hDc := hD.sub (ws' := []) [] (by decide) rfl
    have hFc := va_free (wc := []) hD hS hA [] rfl
    refine va_calli (va_runS (As := [.long 1, .long 0, .long 2]) (rest := []) ⟨hx, hb, hml, hown, hts⟩ (c_X9_in l D cy 1 0 2 H.size) (va_cwS 3 hts (gd_S q1550 q1551 q134 q1552) rfl rfl rfl (by decide +kernel) ⟨Nat.le_of_ble_eq_true rfl, Nat.le_of_ble_eq_true rfl⟩) (pr_S hPc hK hDc) rfl rfl hl.1 rfl (lv_room (Nat.le_of_ble_eq_true rfl)) dX9_back_11 ⟨Nat.le_of_ble_eq_true rfl, Nat.le_of_ble_eq_true rfl⟩) hS (fun q _ h => hFc q h) hFc (fun r_5 u tS H1 locs ht hvm hw hB hz1 hk1 hS => ?_)
    obtain ⟨hP1, hK1, hD1⟩ := hB
    rw [ht] at hP1
    try dsimp only at hw
    obtain ⟨hP, hD⟩ := va_join (wr := [(g 60, .inr (9, mF g)), (g 22, .inl (cy 3, 3, .inl (fun _ => 0)))]) (w1 := []) hP hD [] [0, 1] rfl rfl (by decide) (by decide) hk1 hFc hP1 hD1
    generalize H1 = H at hP hS ⊢
    have hP : va_P D clz [(g 60, .inr (9, mF g)), (g 22, .inl (cy 3, 3, .inl (fun _ => 0)))] H := hP
    have hD : va_D A [(g 60, .inr (9, mF g)), (g 22, .inl (cy 3, 3, .inl (fun _ => 0)))] := hD
    by_cases hc_6 : ((0 : Int64) ≤ (1 : Int64) ∧ (1 : Int64) ≤ (2 : Int64))
    ·
      rw [if_pos hc_6] at hw
      subst hw
      refine lv_if_ne (tgt := 20) hx hb dX9_back_14 (by decide) (fun _ => ?_) (fun c9 => absurd c9 (by decide))
      refine lv_aload_n hx hb dX9_back_20 rfl (lv_at hl 0 rfl) ?_
      refine va_get (D := D) (ci := 9) (v := .ref (g 22)) (C := RX9) (T := TX9) (N := 60) hx hb hts iX9 hown hK hP 0 rfl rfl 22 (by decide) (hts _ q1382) (fun _ h9 => h9) rfl dX9_back_21 ?_
      refine lv_iload_n hx hb dX9_back_24 rfl (lv_at hl 1 rfl) ?_
      refine va_zald hx hb hK hP 1 3 rfl rfl (vpi (by decide)) dX9_back_25 ?_
      refine lv_topi (fun x_7 ex_7 => ?_)
      obtain rfl : x_7 = 0 := ex_7.trans (by decide)
      refine lv_if_ne (tgt := 32) hx hb dX9_back_26 (by decide) (fun c9 => absurd c9 (by decide)) (fun _ => ?_)
      refine lv_bipush (v := (-6)) hx hb dX9_back_29 (by decide) ?_
      have hP9 := hP.sub (ws' := [(g 60, .inr (9, mF g)), (g 22, .inl (cy 3, 3, .inl (fun _ => 0)))]) [0, 1] rfl
      have hD9 := hD.sub (ws' := [(g 60, .inr (9, mF g)), (g 22, .inl (cy 3, 3, .inl (fun _ => 0)))]) [0, 1] (by decide) rfl
      exact W.iret (v := (-6)) hx hb hr (fun tS ht hW => ⟨⟨(-6), (), rfl, (by have f0 := bp64 hc_6; have z321 : (1 : Int32).toInt = 1 := (by decide); have z640 : (0 : Int64).toInt = 0 := (by decide); have z641 : (1 : Int64).toInt = 1 := (by decide); have z642 : (2 : Int64).toInt = 2 := (by decide); unfold sp_back; (repeat' split) <;> first | rfl | (exfalso; omega)), by rw [ht]; exact hP9, va_K.moved hW.alike hK, hD9⟩, hS.F ht⟩) hS.2.2 dX9_back_31
    ·
      rw [if_neg hc_6] at hw
      subst hw
      exact False.elim (by have f0 := bn64 hc_6; have z640 : (0 : Int64).toInt = 0 := (by decide); have z641 : (1 : Int64).toInt = 1 := (by decide); have z642 : (2 : Int64).toInt = 2 := (by decide); omega)
  ·
    refine lv_aload_n hx hb dX9_back_0 rfl (lv_at hl 0 rfl) ?_
    refine lv_iconst (v := 0) hx hb dX9_back_1 (by decide) ?_
    refine va_put (D := D) (ci := 9) (v := .int 0) (ty := .int) (C := RX9) (T := TX9) (N := 60) hx hb hts iX9 tyX9 tyX9_ok nmX9 hown hK hP hD hS 0 rfl rfl 0 (by decide) (hts _ q1360) (fun _ h9 => h9) rfl (by decide +kernel) rfl rfl (Nat.le_of_ble_eq_true rfl) dX9_back_2 (fun H locs hP hD hS => ?_)
    have hP : va_P D clz [(g 60, .inr (9, mF g)), (g 22, .inl (cy 3, 3, .inl (fun _ => 0)))] H := hP
    have hD : va_D A [(g 60, .inr (9, mF g)), (g 22, .inl (cy 3, 3, .inl (fun _ => 0)))] := hD
    refine lv_iload_n hx hb dX9_back_5 rfl (lv_at hl 1 rfl) ?_
    refine lv_i2l (v := 2) hx hb dX9_back_6 (by decide) ?_
    refine lv_lconst (v := 0) hx hb dX9_back_7 (by decide) ?_
    refine lv_ldc2 (v := 2) hx hb hown (hts _ q1771) dX9_back_8 ?_
    have hPc := hP.sub (ws' := []) [] rfl
    have hDc := hD.sub (ws' := []) [] (by decide) rfl
    have hFc := va_free (wc := []) hD hS hA [] rfl
    refine va_calli (va_runS (As := [.long 2, .long 0, .long 2]) (rest := []) ⟨hx, hb, hml, hown, hts⟩ (c_X9_in l D cy 2 0 2 H.size) (va_cwS 3 hts (gd_S q1550 q1551 q134 q1552) rfl rfl rfl (by decide +kernel) ⟨Nat.le_of_ble_eq_true rfl, Nat.le_of_ble_eq_true rfl⟩) (pr_S hPc hK hDc) rfl rfl hl.1 rfl (lv_room (Nat.le_of_ble_eq_true rfl)) dX9_back_11 ⟨Nat.le_of_ble_eq_true rfl, Nat.le_of_ble_eq_true rfl⟩) hS (fun q _ h => hFc q h) hFc (fun r_8 u tS H1 locs ht hvm hw hB hz1 hk1 hS => ?_)
    obtain ⟨hP1, hK1, hD1⟩ := hB
    rw [ht] at hP1
    try dsimp only at hw
    obtain ⟨hP, hD⟩ := va_join (wr := [(g 60, .inr (9, mF g)), (g 22, .inl (cy 3, 3, .inl (fun _ => 0)))]) (w1 := []) hP hD [] [0, 1] rfl rfl (by decide) (by decide) hk1 hFc hP1 hD1
    generalize H1 = H at hP hS ⊢
    have hP : va_P D clz [(g 60, .inr (9, mF g)), (g 22, .inl (cy 3, 3, .inl (fun _ => 0)))] H := hP
    have hD : va_D A [(g 60, .inr (9, mF g)), (g 22, .inl (cy 3, 3, .inl (fun _ => 0)))] := hD
    by_cases hc_9 : ((0 : Int64) ≤ (2 : Int64) ∧ (2 : Int64) ≤ (2 : Int64))
    ·
      rw [if_pos hc_9] at hw
      subst hw
      refine lv_if_ne (tgt := 20) hx hb dX9_back_14 (by decide) (fun _ => ?_) (fun c9 => absurd c9 (by decide))
      refine lv_aload_n hx hb dX9_back_20 rfl (lv_at hl 0 rfl) ?_
      refine va_get (D := D) (ci := 9) (v := .ref (g 22)) (C := RX9) (T := TX9) (N := 60) hx hb hts iX9 hown hK hP 0 rfl rfl 22 (by decide) (hts _ q1382) (fun _ h9 => h9) rfl dX9_back_21 ?_
      refine lv_iload_n hx hb dX9_back_24 rfl (lv_at hl 1 rfl) ?_
      refine va_zald hx hb hK hP 1 3 rfl rfl (vpi (by decide)) dX9_back_25 ?_
      refine lv_topi (fun x_10 ex_10 => ?_)
      obtain rfl : x_10 = 0 := ex_10.trans (by decide)
      refine lv_if_ne (tgt := 32) hx hb dX9_back_26 (by decide) (fun c9 => absurd c9 (by decide)) (fun _ => ?_)
      refine lv_bipush (v := (-6)) hx hb dX9_back_29 (by decide) ?_
      have hP9 := hP.sub (ws' := [(g 60, .inr (9, mF g)), (g 22, .inl (cy 3, 3, .inl (fun _ => 0)))]) [0, 1] rfl
      have hD9 := hD.sub (ws' := [(g 60, .inr (9, mF g)), (g 22, .inl (cy 3, 3, .inl (fun _ => 0)))]) [0, 1] (by decide) rfl
      exact W.iret (v := (-6)) hx hb hr (fun tS ht hW => ⟨⟨(-6), (), rfl, (by have f0 := bp64 hc_9; have z322 : (2 : Int32).toInt = 2 := (by decide); have z640 : (0 : Int64).toInt = 0 := (by decide); have z642 : (2 : Int64).toInt = 2 := (by decide); unfold sp_back; (repeat' split) <;> first | rfl | (exfalso; omega)), by rw [ht]; exact hP9, va_K.moved hW.alike hK, hD9⟩, hS.F ht⟩) hS.2.2 dX9_back_31
    ·
      rw [if_neg hc_9] at hw
      subst hw
      exact False.elim (by have f0 := bn64 hc_9; have z640 : (0 : Int64).toInt = 0 := (by decide); have z642 : (2 : Int64).toInt = 2 := (by decide); omega)
  ·
    refine lv_aload_n hx hb dX9_back_0 rfl (lv_at hl 0 rfl) ?_
    refine lv_iconst (v := 0) hx hb dX9_back_1 (by decide) ?_
    refine va_put (D := D) (ci := 9) (v := .int 0) (ty := .int) (C := RX9) (T := TX9) (N := 60) hx hb hts iX9 tyX9 tyX9_ok nmX9 hown hK hP hD hS 0 rfl rfl 0 (by decide) (hts _ q1360) (fun _ h9 => h9) rfl (by decide +kernel) rfl rfl (Nat.le_of_ble_eq_true rfl) dX9_back_2 (fun H locs hP hD hS => ?_)
    have hP : va_P D clz [(g 60, .inr (9, mF g)), (g 22, .inl (cy 3, 3, .inl (fun _ => 0)))] H := hP
    have hD : va_D A [(g 60, .inr (9, mF g)), (g 22, .inl (cy 3, 3, .inl (fun _ => 0)))] := hD
    refine lv_iload_n hx hb dX9_back_5 rfl (lv_at hl 1 rfl) ?_
    refine lv_i2l (v := p1.toInt64) hx hb dX9_back_6 rfl ?_
    refine lv_lconst (v := 0) hx hb dX9_back_7 (by decide) ?_
    refine lv_ldc2 (v := 2) hx hb hown (hts _ q1771) dX9_back_8 ?_
    have hPc := hP.sub (ws' := []) [] rfl
    have hDc := hD.sub (ws' := []) [] (by decide) rfl
    have hFc := va_free (wc := []) hD hS hA [] rfl
    refine va_calli (va_runS (As := [.long p1.toInt64, .long 0, .long 2]) (rest := []) ⟨hx, hb, hml, hown, hts⟩ (c_X9_in l D cy p1.toInt64 0 2 H.size) (va_cwS 3 hts (gd_S q1550 q1551 q134 q1552) rfl rfl rfl (by decide +kernel) ⟨Nat.le_of_ble_eq_true rfl, Nat.le_of_ble_eq_true rfl⟩) (pr_S hPc hK hDc) rfl rfl hl.1 rfl (lv_room (Nat.le_of_ble_eq_true rfl)) dX9_back_11 ⟨Nat.le_of_ble_eq_true rfl, Nat.le_of_ble_eq_true rfl⟩) hS (fun q _ h => hFc q h) hFc (fun r_11 u tS H1 locs ht hvm hw hB hz1 hk1 hS => ?_)
    obtain ⟨hP1, hK1, hD1⟩ := hB
    rw [ht] at hP1
    try dsimp only at hw
    obtain ⟨hP, hD⟩ := va_join (wr := [(g 60, .inr (9, mF g)), (g 22, .inl (cy 3, 3, .inl (fun _ => 0)))]) (w1 := []) hP hD [] [0, 1] rfl rfl (by decide) (by decide) hk1 hFc hP1 hD1
    generalize H1 = H at hP hS ⊢
    have hP : va_P D clz [(g 60, .inr (9, mF g)), (g 22, .inl (cy 3, 3, .inl (fun _ => 0)))] H := hP
    have hD : va_D A [(g 60, .inr (9, mF g)), (g 22, .inl (cy 3, 3, .inl (fun _ => 0)))] := hD
    by_cases hc_12 : ((0 : Int64) ≤ p1.toInt64 ∧ p1.toInt64 ≤ (2 : Int64))
    ·
      rw [if_pos hc_12] at hw
      subst hw
      exact False.elim (by have f0 := hs_1; have f1 := bp64 hc_12; have z640 : (0 : Int64).toInt = 0 := (by decide); have z642 : (2 : Int64).toInt = 2 := (by decide); have wp1 : p1.toInt64.toInt = p1.toInt := Int32.toInt_toInt64 p1; omega)
    ·
      rw [if_neg hc_12] at hw
      subst hw
      refine lv_if_ne (tgt := 20) hx hb dX9_back_14 (by decide) (fun c9 => absurd c9 (by decide)) (fun _ => ?_)
      refine lv_bipush (v := (-2)) hx hb dX9_back_17 (by decide) ?_
      have hP9 := hP.sub (ws' := [(g 60, .inr (9, mF g)), (g 22, .inl (cy 3, 3, .inl (fun _ => 0)))]) [0, 1] rfl
      have hD9 := hD.sub (ws' := [(g 60, .inr (9, mF g)), (g 22, .inl (cy 3, 3, .inl (fun _ => 0)))]) [0, 1] (by decide) rfl
      exact W.iret (v := (-2)) hx hb hr (fun tS ht hW => ⟨⟨(-2), (), rfl, (by have f0 := hs_1; have f1 := bn64 hc_12; have z640 : (0 : Int64).toInt = 0 := (by decide); have z642 : (2 : Int64).toInt = 2 := (by decide); have wp1 : p1.toInt64.toInt = p1.toInt := Int32.toInt_toInt64 p1; unfold sp_back; (repeat' split) <;> first | rfl | (exfalso; omega)), by rw [ht]; exact hP9, va_K.moved hW.alike hK, hD9⟩, hS.F ht⟩) hS.2.2 dX9_back_19

theorem q1556 : Cond.code yX9_write cX9_write 5 (some .int) ∈ lw_g := lw_gm (List.mem_of_getElem? (i := 1556) (by decide +kernel)) rfl
theorem dX9_write_0 : decode cX9_write 0 = .ok (.aload_n 0, 1) := by decide +kernel
theorem dX9_write_1 : decode cX9_write 1 = .ok (.iconst 0, 1) := by decide +kernel
theorem dX9_write_2 : decode cX9_write 2 = .ok (.putfield 129, 3) := by decide +kernel
theorem dX9_write_5 : decode cX9_write 5 = .ok (.iload_n 1, 1) := by decide +kernel
theorem dX9_write_6 : decode cX9_write 6 = .ok (.invokestatic 138, 3) := by decide +kernel
theorem dX9_write_9 : decode cX9_write 9 = .ok (.ifCond .ne 6, 3) := by decide +kernel
theorem dX9_write_12 : decode cX9_write 12 = .ok (.bipush (-2), 2) := by decide +kernel
theorem dX9_write_14 : decode cX9_write 14 = .ok (.ireturn, 1) := by decide +kernel
theorem dX9_write_15 : decode cX9_write 15 = .ok (.aload_n 0, 1) := by decide +kernel
theorem dX9_write_16 : decode cX9_write 16 = .ok (.getfield 7, 3) := by decide +kernel
theorem dX9_write_19 : decode cX9_write 19 = .ok (.iload_n 1, 1) := by decide +kernel
theorem dX9_write_20 : decode cX9_write 20 = .ok (.iaload, 1) := by decide +kernel
theorem dX9_write_21 : decode cX9_write 21 = .ok (.iconst (-1), 1) := by decide +kernel
theorem dX9_write_22 : decode cX9_write 22 = .ok (.if_icmp .ne 6, 3) := by decide +kernel
theorem dX9_write_25 : decode cX9_write 25 = .ok (.bipush (-6), 2) := by decide +kernel
theorem dX9_write_27 : decode cX9_write 27 = .ok (.ireturn, 1) := by decide +kernel
set_option maxHeartbeats 4000000 in
set_option maxRecDepth 100000 in
theorem c_X9_write (l : Launch) (D : va_G) (cy : Nat → ClassId) (g : Nat → Nat) (p1 : Int32) (p2 : Int32) (v : Int64) (sz : Nat) : Met l yX9_write (ww yX9_write cX9_write 5 (some .int)) ({ frames := 3, cells := 0, slots := 0, locals := 192 }) (va_Pc [.ref (g 60), .int p1, .int p2, .long v] (pre D cy [(g 60, .inr (9, mF g)), (g 1, .inl (cy 0, 4, .inl (upd (upd (upd (upd (fun _ => 0) 0 (-1)) 1 (-1)) 2 (-1)) 3 (-1))))] sz)) (qi D cy (va_A [(g 60, .inr (9, mF g)), (g 1, .inl (cy 0, 4, .inl (upd (upd (upd (upd (fun _ => 0) 0 (-1)) 1 (-1)) 2 (-1)) 3 (-1))))] sz) (fun (r : Int32) (_ : Unit) => r = sp_write p1) (fun (_ : Unit) => [(g 60, .inr (9, mF g)), (g 1, .inl (cy 0, 4, .inl (upd (upd (upd (upd (fun _ => 0) 0 (-1)) 1 (-1)) 2 (-1)) 3 (-1))))])) 0 0 (va_A [(g 60, .inr (9, mF g)), (g 1, .inl (cy 0, 4, .inl (upd (upd (upd (upd (fun _ => 0) 0 (-1)) 1 (-1)) 2 (-1)) 3 (-1))))] sz) := by
  refine Met.ofW (cc := cX9_write) (maxL := 5) (ret := (some .int)) (by decide) rfl ?_
  intro p e s m args below meth c s₁ B hml hv
  obtain ⟨rfl, hsz, hP, hK, hD0⟩ := hv
  have hx := B.exec
  have hb := B.bytes
  have hr := B.returns
  have hts := hts_g (atoms_spec (ws := ww yX9_write cX9_write 5 (some .int)) B.pre)
  have hown : s.vm.findClass RX9 = some m.cls := findClass_of_methodNamed B.named
  have hlocks := B.notSynchronized
  subst hsz
  have hD := hD0.self (sz := s.heap.size)
  generalize hAe : va_A [(g 60, .inr (9, mF g)), (g 1, .inl (cy 0, 4, .inl (upd (upd (upd (upd (fun _ => 0) 0 (-1)) 1 (-1)) 2 (-1)) 3 (-1))))] s.heap.size = A at hD ⊢
  have hA : ∀ q : Nat, s.heap.size ≤ q → A q := fun q h => by rw [← hAe]; exact Or.inr h
  have hS : va_S A s.heap s.heap [] := va_S.rf
  have hl := lv_entry ([.ref (g 60), .int p1, .int p2, .long v]) (n := 5) (Nat.le_of_ble_eq_true rfl)
  rw [lg_entry_eq]
  generalize (lg_sl ([.ref (g 60), .int p1, .int p2, .long v]) ++ List.replicate (5 - (lg_sl ([.ref (g 60), .int p1, .int p2, .long v])).length) Slot.unset).toArray = ls at hl ⊢
  have hl : lv_has ls 5 [(0, .ref (g 60)), (1, .int p1), (2, .int p2), (3, .long v)] := hl
  rcases sp4 p1 with rfl | rfl | rfl | rfl | hs_1
  ·
    refine lv_aload_n hx hb dX9_write_0 rfl (lv_at hl 0 rfl) ?_
    refine lv_iconst (v := 0) hx hb dX9_write_1 (by decide) ?_
    refine va_put (D := D) (ci := 9) (v := .int 0) (ty := .int) (C := RX9) (T := TX9) (N := 60) hx hb hts iX9 tyX9 tyX9_ok nmX9 hown hK hP hD hS 0 rfl rfl 0 (by decide) (hts _ q1360) (fun _ h9 => h9) rfl (by decide +kernel) rfl rfl (Nat.le_of_ble_eq_true rfl) dX9_write_2 (fun H locs hP hD hS => ?_)
    have hP : va_P D clz [(g 60, .inr (9, mF g)), (g 1, .inl (cy 0, 4, .inl (upd (upd (upd (upd (fun _ => 0) 0 (-1)) 1 (-1)) 2 (-1)) 3 (-1))))] H := hP
    have hD : va_D A [(g 60, .inr (9, mF g)), (g 1, .inl (cy 0, 4, .inl (upd (upd (upd (upd (fun _ => 0) 0 (-1)) 1 (-1)) 2 (-1)) 3 (-1))))] := hD
    refine lv_iload_n hx hb dX9_write_5 rfl (lv_at hl 1 rfl) ?_
    have hPc := hP.sub (ws' := []) [] rfl
    have hDc := hD.sub (ws' := []) [] (by decide) rfl
    have hFc := va_free (wc := []) hD hS hA [] rfl
    refine va_calli (va_runS (As := [.int 0]) (rest := []) ⟨hx, hb, hml, hown, hts⟩ (c_X9_isSlot l D cy 0 H.size) (va_cwS 1 hts (gd_S q1546 q1547 q134 q1548) rfl rfl rfl (by decide +kernel) ⟨Nat.le_of_ble_eq_true rfl, Nat.le_of_ble_eq_true rfl⟩) (pr_S hPc hK hDc) rfl rfl hl.1 rfl (lv_room (Nat.le_of_ble_eq_true rfl)) dX9_write_6 ⟨Nat.le_of_ble_eq_true rfl, Nat.le_of_ble_eq_true rfl⟩) hS (fun q _ h => hFc q h) hFc (fun r_2 u tS H1 locs ht hvm hw hB hz1 hk1 hS => ?_)
    obtain ⟨hP1, hK1, hD1⟩ := hB
    rw [ht] at hP1
    try dsimp only at hw
    obtain ⟨hP, hD⟩ := va_join (wr := [(g 60, .inr (9, mF g)), (g 1, .inl (cy 0, 4, .inl (upd (upd (upd (upd (fun _ => 0) 0 (-1)) 1 (-1)) 2 (-1)) 3 (-1))))]) (w1 := []) hP hD [] [0, 1] rfl rfl (by decide) (by decide) hk1 hFc hP1 hD1
    generalize H1 = H at hP hS ⊢
    have hP : va_P D clz [(g 60, .inr (9, mF g)), (g 1, .inl (cy 0, 4, .inl (upd (upd (upd (upd (fun _ => 0) 0 (-1)) 1 (-1)) 2 (-1)) 3 (-1))))] H := hP
    have hD : va_D A [(g 60, .inr (9, mF g)), (g 1, .inl (cy 0, 4, .inl (upd (upd (upd (upd (fun _ => 0) 0 (-1)) 1 (-1)) 2 (-1)) 3 (-1))))] := hD
    by_cases hc_3 : ((0 : Int32) ≤ (0 : Int32) ∧ (0 : Int32) ≤ (3 : Int32))
    ·
      rw [if_pos hc_3] at hw
      subst hw
      refine lv_if_ne (tgt := 15) hx hb dX9_write_9 (by decide) (fun _ => ?_) (fun c9 => absurd c9 (by decide))
      refine lv_aload_n hx hb dX9_write_15 rfl (lv_at hl 0 rfl) ?_
      refine va_get (D := D) (ci := 9) (v := .ref (g 1)) (C := RX9) (T := TX9) (N := 60) hx hb hts iX9 hown hK hP 0 rfl rfl 1 (by decide) (hts _ q1361) (fun _ h9 => h9) rfl dX9_write_16 ?_
      refine lv_iload_n hx hb dX9_write_19 rfl (lv_at hl 1 rfl) ?_
      refine va_iald hx hb hK hP 1 0 rfl rfl (vpi (by decide)) dX9_write_20 ?_
      refine lv_topi (fun x_4 ex_4 => ?_)
      obtain rfl : x_4 = (-1) := ex_4.trans (by decide)
      refine lv_iconst (v := (-1)) hx hb dX9_write_21 (by decide) ?_
      refine lv_icmp_ne (tgt := 28) hx hb dX9_write_22 (by decide) (fun c9 => absurd c9 (by decide)) (fun _ => ?_)
      refine lv_bipush (v := (-6)) hx hb dX9_write_25 (by decide) ?_
      have hP9 := hP.sub (ws' := [(g 60, .inr (9, mF g)), (g 1, .inl (cy 0, 4, .inl (upd (upd (upd (upd (fun _ => 0) 0 (-1)) 1 (-1)) 2 (-1)) 3 (-1))))]) [0, 1] rfl
      have hD9 := hD.sub (ws' := [(g 60, .inr (9, mF g)), (g 1, .inl (cy 0, 4, .inl (upd (upd (upd (upd (fun _ => 0) 0 (-1)) 1 (-1)) 2 (-1)) 3 (-1))))]) [0, 1] (by decide) rfl
      exact W.iret (v := (-6)) hx hb hr (fun tS ht hW => ⟨⟨(-6), (), rfl, (by have f0 := bp32 hc_3; have z320 : (0 : Int32).toInt = 0 := (by decide); have z323 : (3 : Int32).toInt = 3 := (by decide); unfold sp_write; (repeat' split) <;> first | rfl | (exfalso; omega)), by rw [ht]; exact hP9, va_K.moved hW.alike hK, hD9⟩, hS.F ht⟩) hS.2.2 dX9_write_27
    ·
      rw [if_neg hc_3] at hw
      subst hw
      exact False.elim (by have f0 := bn32 hc_3; have z320 : (0 : Int32).toInt = 0 := (by decide); have z323 : (3 : Int32).toInt = 3 := (by decide); omega)
  ·
    refine lv_aload_n hx hb dX9_write_0 rfl (lv_at hl 0 rfl) ?_
    refine lv_iconst (v := 0) hx hb dX9_write_1 (by decide) ?_
    refine va_put (D := D) (ci := 9) (v := .int 0) (ty := .int) (C := RX9) (T := TX9) (N := 60) hx hb hts iX9 tyX9 tyX9_ok nmX9 hown hK hP hD hS 0 rfl rfl 0 (by decide) (hts _ q1360) (fun _ h9 => h9) rfl (by decide +kernel) rfl rfl (Nat.le_of_ble_eq_true rfl) dX9_write_2 (fun H locs hP hD hS => ?_)
    have hP : va_P D clz [(g 60, .inr (9, mF g)), (g 1, .inl (cy 0, 4, .inl (upd (upd (upd (upd (fun _ => 0) 0 (-1)) 1 (-1)) 2 (-1)) 3 (-1))))] H := hP
    have hD : va_D A [(g 60, .inr (9, mF g)), (g 1, .inl (cy 0, 4, .inl (upd (upd (upd (upd (fun _ => 0) 0 (-1)) 1 (-1)) 2 (-1)) 3 (-1))))] := hD
    refine lv_iload_n hx hb dX9_write_5 rfl (lv_at hl 1 rfl) ?_
    have hPc := hP.sub (ws' := []) [] rfl
    have hDc := hD.sub (ws' := []) [] (by decide) rfl
    have hFc := va_free (wc := []) hD hS hA [] rfl
    refine va_calli (va_runS (As := [.int 1]) (rest := []) ⟨hx, hb, hml, hown, hts⟩ (c_X9_isSlot l D cy 1 H.size) (va_cwS 1 hts (gd_S q1546 q1547 q134 q1548) rfl rfl rfl (by decide +kernel) ⟨Nat.le_of_ble_eq_true rfl, Nat.le_of_ble_eq_true rfl⟩) (pr_S hPc hK hDc) rfl rfl hl.1 rfl (lv_room (Nat.le_of_ble_eq_true rfl)) dX9_write_6 ⟨Nat.le_of_ble_eq_true rfl, Nat.le_of_ble_eq_true rfl⟩) hS (fun q _ h => hFc q h) hFc (fun r_5 u tS H1 locs ht hvm hw hB hz1 hk1 hS => ?_)
    obtain ⟨hP1, hK1, hD1⟩ := hB
    rw [ht] at hP1
    try dsimp only at hw
    obtain ⟨hP, hD⟩ := va_join (wr := [(g 60, .inr (9, mF g)), (g 1, .inl (cy 0, 4, .inl (upd (upd (upd (upd (fun _ => 0) 0 (-1)) 1 (-1)) 2 (-1)) 3 (-1))))]) (w1 := []) hP hD [] [0, 1] rfl rfl (by decide) (by decide) hk1 hFc hP1 hD1
    generalize H1 = H at hP hS ⊢
    have hP : va_P D clz [(g 60, .inr (9, mF g)), (g 1, .inl (cy 0, 4, .inl (upd (upd (upd (upd (fun _ => 0) 0 (-1)) 1 (-1)) 2 (-1)) 3 (-1))))] H := hP
    have hD : va_D A [(g 60, .inr (9, mF g)), (g 1, .inl (cy 0, 4, .inl (upd (upd (upd (upd (fun _ => 0) 0 (-1)) 1 (-1)) 2 (-1)) 3 (-1))))] := hD
    by_cases hc_6 : ((0 : Int32) ≤ (1 : Int32) ∧ (1 : Int32) ≤ (3 : Int32))
    ·
      rw [if_pos hc_6] at hw
      subst hw
      refine lv_if_ne (tgt := 15) hx hb dX9_write_9 (by decide) (fun _ => ?_) (fun c9 => absurd c9 (by decide))
      refine lv_aload_n hx hb dX9_write_15 rfl (lv_at hl 0 rfl) ?_
      refine va_get (D := D) (ci := 9) (v := .ref (g 1)) (C := RX9) (T := TX9) (N := 60) hx hb hts iX9 hown hK hP 0 rfl rfl 1 (by decide) (hts _ q1361) (fun _ h9 => h9) rfl dX9_write_16 ?_
      refine lv_iload_n hx hb dX9_write_19 rfl (lv_at hl 1 rfl) ?_
      refine va_iald hx hb hK hP 1 0 rfl rfl (vpi (by decide)) dX9_write_20 ?_
      refine lv_topi (fun x_7 ex_7 => ?_)
      obtain rfl : x_7 = (-1) := ex_7.trans (by decide)
      refine lv_iconst (v := (-1)) hx hb dX9_write_21 (by decide) ?_
      refine lv_icmp_ne (tgt := 28) hx hb dX9_write_22 (by decide) (fun c9 => absurd c9 (by decide)) (fun _ => ?_)
      refine lv_bipush (v := (-6)) hx hb dX9_write_25 (by decide) ?_
      have hP9 := hP.sub (ws' := [(g 60, .inr (9, mF g)), (g 1, .inl (cy 0, 4, .inl (upd (upd (upd (upd (fun _ => 0) 0 (-1)) 1 (-1)) 2 (-1)) 3 (-1))))]) [0, 1] rfl
      have hD9 := hD.sub (ws' := [(g 60, .inr (9, mF g)), (g 1, .inl (cy 0, 4, .inl (upd (upd (upd (upd (fun _ => 0) 0 (-1)) 1 (-1)) 2 (-1)) 3 (-1))))]) [0, 1] (by decide) rfl
      exact W.iret (v := (-6)) hx hb hr (fun tS ht hW => ⟨⟨(-6), (), rfl, (by have f0 := bp32 hc_6; have z320 : (0 : Int32).toInt = 0 := (by decide); have z321 : (1 : Int32).toInt = 1 := (by decide); have z323 : (3 : Int32).toInt = 3 := (by decide); unfold sp_write; (repeat' split) <;> first | rfl | (exfalso; omega)), by rw [ht]; exact hP9, va_K.moved hW.alike hK, hD9⟩, hS.F ht⟩) hS.2.2 dX9_write_27
    ·
      rw [if_neg hc_6] at hw
      subst hw
      exact False.elim (by have f0 := bn32 hc_6; have z320 : (0 : Int32).toInt = 0 := (by decide); have z321 : (1 : Int32).toInt = 1 := (by decide); have z323 : (3 : Int32).toInt = 3 := (by decide); omega)
  ·
    refine lv_aload_n hx hb dX9_write_0 rfl (lv_at hl 0 rfl) ?_
    refine lv_iconst (v := 0) hx hb dX9_write_1 (by decide) ?_
    refine va_put (D := D) (ci := 9) (v := .int 0) (ty := .int) (C := RX9) (T := TX9) (N := 60) hx hb hts iX9 tyX9 tyX9_ok nmX9 hown hK hP hD hS 0 rfl rfl 0 (by decide) (hts _ q1360) (fun _ h9 => h9) rfl (by decide +kernel) rfl rfl (Nat.le_of_ble_eq_true rfl) dX9_write_2 (fun H locs hP hD hS => ?_)
    have hP : va_P D clz [(g 60, .inr (9, mF g)), (g 1, .inl (cy 0, 4, .inl (upd (upd (upd (upd (fun _ => 0) 0 (-1)) 1 (-1)) 2 (-1)) 3 (-1))))] H := hP
    have hD : va_D A [(g 60, .inr (9, mF g)), (g 1, .inl (cy 0, 4, .inl (upd (upd (upd (upd (fun _ => 0) 0 (-1)) 1 (-1)) 2 (-1)) 3 (-1))))] := hD
    refine lv_iload_n hx hb dX9_write_5 rfl (lv_at hl 1 rfl) ?_
    have hPc := hP.sub (ws' := []) [] rfl
    have hDc := hD.sub (ws' := []) [] (by decide) rfl
    have hFc := va_free (wc := []) hD hS hA [] rfl
    refine va_calli (va_runS (As := [.int 2]) (rest := []) ⟨hx, hb, hml, hown, hts⟩ (c_X9_isSlot l D cy 2 H.size) (va_cwS 1 hts (gd_S q1546 q1547 q134 q1548) rfl rfl rfl (by decide +kernel) ⟨Nat.le_of_ble_eq_true rfl, Nat.le_of_ble_eq_true rfl⟩) (pr_S hPc hK hDc) rfl rfl hl.1 rfl (lv_room (Nat.le_of_ble_eq_true rfl)) dX9_write_6 ⟨Nat.le_of_ble_eq_true rfl, Nat.le_of_ble_eq_true rfl⟩) hS (fun q _ h => hFc q h) hFc (fun r_8 u tS H1 locs ht hvm hw hB hz1 hk1 hS => ?_)
    obtain ⟨hP1, hK1, hD1⟩ := hB
    rw [ht] at hP1
    try dsimp only at hw
    obtain ⟨hP, hD⟩ := va_join (wr := [(g 60, .inr (9, mF g)), (g 1, .inl (cy 0, 4, .inl (upd (upd (upd (upd (fun _ => 0) 0 (-1)) 1 (-1)) 2 (-1)) 3 (-1))))]) (w1 := []) hP hD [] [0, 1] rfl rfl (by decide) (by decide) hk1 hFc hP1 hD1
    generalize H1 = H at hP hS ⊢
    have hP : va_P D clz [(g 60, .inr (9, mF g)), (g 1, .inl (cy 0, 4, .inl (upd (upd (upd (upd (fun _ => 0) 0 (-1)) 1 (-1)) 2 (-1)) 3 (-1))))] H := hP
    have hD : va_D A [(g 60, .inr (9, mF g)), (g 1, .inl (cy 0, 4, .inl (upd (upd (upd (upd (fun _ => 0) 0 (-1)) 1 (-1)) 2 (-1)) 3 (-1))))] := hD
    by_cases hc_9 : ((0 : Int32) ≤ (2 : Int32) ∧ (2 : Int32) ≤ (3 : Int32))
    ·
      rw [if_pos hc_9] at hw
      subst hw
      refine lv_if_ne (tgt := 15) hx hb dX9_write_9 (by decide) (fun _ => ?_) (fun c9 => absurd c9 (by decide))
      refine lv_aload_n hx hb dX9_write_15 rfl (lv_at hl 0 rfl) ?_
      refine va_get (D := D) (ci := 9) (v := .ref (g 1)) (C := RX9) (T := TX9) (N := 60) hx hb hts iX9 hown hK hP 0 rfl rfl 1 (by decide) (hts _ q1361) (fun _ h9 => h9) rfl dX9_write_16 ?_
      refine lv_iload_n hx hb dX9_write_19 rfl (lv_at hl 1 rfl) ?_
      refine va_iald hx hb hK hP 1 0 rfl rfl (vpi (by decide)) dX9_write_20 ?_
      refine lv_topi (fun x_10 ex_10 => ?_)
      obtain rfl : x_10 = (-1) := ex_10.trans (by decide)
      refine lv_iconst (v := (-1)) hx hb dX9_write_21 (by decide) ?_
      refine lv_icmp_ne (tgt := 28) hx hb dX9_write_22 (by decide) (fun c9 => absurd c9 (by decide)) (fun _ => ?_)
      refine lv_bipush (v := (-6)) hx hb dX9_write_25 (by decide) ?_
      have hP9 := hP.sub (ws' := [(g 60, .inr (9, mF g)), (g 1, .inl (cy 0, 4, .inl (upd (upd (upd (upd (fun _ => 0) 0 (-1)) 1 (-1)) 2 (-1)) 3 (-1))))]) [0, 1] rfl
      have hD9 := hD.sub (ws' := [(g 60, .inr (9, mF g)), (g 1, .inl (cy 0, 4, .inl (upd (upd (upd (upd (fun _ => 0) 0 (-1)) 1 (-1)) 2 (-1)) 3 (-1))))]) [0, 1] (by decide) rfl
      exact W.iret (v := (-6)) hx hb hr (fun tS ht hW => ⟨⟨(-6), (), rfl, (by have f0 := bp32 hc_9; have z320 : (0 : Int32).toInt = 0 := (by decide); have z322 : (2 : Int32).toInt = 2 := (by decide); have z323 : (3 : Int32).toInt = 3 := (by decide); unfold sp_write; (repeat' split) <;> first | rfl | (exfalso; omega)), by rw [ht]; exact hP9, va_K.moved hW.alike hK, hD9⟩, hS.F ht⟩) hS.2.2 dX9_write_27
    ·
      rw [if_neg hc_9] at hw
      subst hw
      exact False.elim (by have f0 := bn32 hc_9; have z320 : (0 : Int32).toInt = 0 := (by decide); have z322 : (2 : Int32).toInt = 2 := (by decide); have z323 : (3 : Int32).toInt = 3 := (by decide); omega)
  ·
    refine lv_aload_n hx hb dX9_write_0 rfl (lv_at hl 0 rfl) ?_
    refine lv_iconst (v := 0) hx hb dX9_write_1 (by decide) ?_
    refine va_put (D := D) (ci := 9) (v := .int 0) (ty := .int) (C := RX9) (T := TX9) (N := 60) hx hb hts iX9 tyX9 tyX9_ok nmX9 hown hK hP hD hS 0 rfl rfl 0 (by decide) (hts _ q1360) (fun _ h9 => h9) rfl (by decide +kernel) rfl rfl (Nat.le_of_ble_eq_true rfl) dX9_write_2 (fun H locs hP hD hS => ?_)
    have hP : va_P D clz [(g 60, .inr (9, mF g)), (g 1, .inl (cy 0, 4, .inl (upd (upd (upd (upd (fun _ => 0) 0 (-1)) 1 (-1)) 2 (-1)) 3 (-1))))] H := hP
    have hD : va_D A [(g 60, .inr (9, mF g)), (g 1, .inl (cy 0, 4, .inl (upd (upd (upd (upd (fun _ => 0) 0 (-1)) 1 (-1)) 2 (-1)) 3 (-1))))] := hD
    refine lv_iload_n hx hb dX9_write_5 rfl (lv_at hl 1 rfl) ?_
    have hPc := hP.sub (ws' := []) [] rfl
    have hDc := hD.sub (ws' := []) [] (by decide) rfl
    have hFc := va_free (wc := []) hD hS hA [] rfl
    refine va_calli (va_runS (As := [.int 3]) (rest := []) ⟨hx, hb, hml, hown, hts⟩ (c_X9_isSlot l D cy 3 H.size) (va_cwS 1 hts (gd_S q1546 q1547 q134 q1548) rfl rfl rfl (by decide +kernel) ⟨Nat.le_of_ble_eq_true rfl, Nat.le_of_ble_eq_true rfl⟩) (pr_S hPc hK hDc) rfl rfl hl.1 rfl (lv_room (Nat.le_of_ble_eq_true rfl)) dX9_write_6 ⟨Nat.le_of_ble_eq_true rfl, Nat.le_of_ble_eq_true rfl⟩) hS (fun q _ h => hFc q h) hFc (fun r_11 u tS H1 locs ht hvm hw hB hz1 hk1 hS => ?_)
    obtain ⟨hP1, hK1, hD1⟩ := hB
    rw [ht] at hP1
    try dsimp only at hw
    obtain ⟨hP, hD⟩ := va_join (wr := [(g 60, .inr (9, mF g)), (g 1, .inl (cy 0, 4, .inl (upd (upd (upd (upd (fun _ => 0) 0 (-1)) 1 (-1)) 2 (-1)) 3 (-1))))]) (w1 := []) hP hD [] [0, 1] rfl rfl (by decide) (by decide) hk1 hFc hP1 hD1
    generalize H1 = H at hP hS ⊢
    have hP : va_P D clz [(g 60, .inr (9, mF g)), (g 1, .inl (cy 0, 4, .inl (upd (upd (upd (upd (fun _ => 0) 0 (-1)) 1 (-1)) 2 (-1)) 3 (-1))))] H := hP
    have hD : va_D A [(g 60, .inr (9, mF g)), (g 1, .inl (cy 0, 4, .inl (upd (upd (upd (upd (fun _ => 0) 0 (-1)) 1 (-1)) 2 (-1)) 3 (-1))))] := hD
    by_cases hc_12 : ((0 : Int32) ≤ (3 : Int32) ∧ (3 : Int32) ≤ (3 : Int32))
    ·
      rw [if_pos hc_12] at hw
      subst hw
      refine lv_if_ne (tgt := 15) hx hb dX9_write_9 (by decide) (fun _ => ?_) (fun c9 => absurd c9 (by decide))
      refine lv_aload_n hx hb dX9_write_15 rfl (lv_at hl 0 rfl) ?_
      refine va_get (D := D) (ci := 9) (v := .ref (g 1)) (C := RX9) (T := TX9) (N := 60) hx hb hts iX9 hown hK hP 0 rfl rfl 1 (by decide) (hts _ q1361) (fun _ h9 => h9) rfl dX9_write_16 ?_
      refine lv_iload_n hx hb dX9_write_19 rfl (lv_at hl 1 rfl) ?_
      refine va_iald hx hb hK hP 1 0 rfl rfl (vpi (by decide)) dX9_write_20 ?_
      refine lv_topi (fun x_13 ex_13 => ?_)
      obtain rfl : x_13 = (-1) := ex_13.trans (by decide)
      refine lv_iconst (v := (-1)) hx hb dX9_write_21 (by decide) ?_
      refine lv_icmp_ne (tgt := 28) hx hb dX9_write_22 (by decide) (fun c9 => absurd c9 (by decide)) (fun _ => ?_)
      refine lv_bipush (v := (-6)) hx hb dX9_write_25 (by decide) ?_
      have hP9 := hP.sub (ws' := [(g 60, .inr (9, mF g)), (g 1, .inl (cy 0, 4, .inl (upd (upd (upd (upd (fun _ => 0) 0 (-1)) 1 (-1)) 2 (-1)) 3 (-1))))]) [0, 1] rfl
      have hD9 := hD.sub (ws' := [(g 60, .inr (9, mF g)), (g 1, .inl (cy 0, 4, .inl (upd (upd (upd (upd (fun _ => 0) 0 (-1)) 1 (-1)) 2 (-1)) 3 (-1))))]) [0, 1] (by decide) rfl
      exact W.iret (v := (-6)) hx hb hr (fun tS ht hW => ⟨⟨(-6), (), rfl, (by have f0 := bp32 hc_12; have z320 : (0 : Int32).toInt = 0 := (by decide); have z323 : (3 : Int32).toInt = 3 := (by decide); unfold sp_write; (repeat' split) <;> first | rfl | (exfalso; omega)), by rw [ht]; exact hP9, va_K.moved hW.alike hK, hD9⟩, hS.F ht⟩) hS.2.2 dX9_write_27
    ·
      rw [if_neg hc_12] at hw
      subst hw
      exact False.elim (by have f0 := bn32 hc_12; have z320 : (0 : Int32).toInt = 0 := (by decide); have z323 : (3 : Int32).toInt = 3 := (by decide); omega)
  ·
    refine lv_aload_n hx hb dX9_write_0 rfl (lv_at hl 0 rfl) ?_
    refine lv_iconst (v := 0) hx hb dX9_write_1 (by decide) ?_
    refine va_put (D := D) (ci := 9) (v := .int 0) (ty := .int) (C := RX9) (T := TX9) (N := 60) hx hb hts iX9 tyX9 tyX9_ok nmX9 hown hK hP hD hS 0 rfl rfl 0 (by decide) (hts _ q1360) (fun _ h9 => h9) rfl (by decide +kernel) rfl rfl (Nat.le_of_ble_eq_true rfl) dX9_write_2 (fun H locs hP hD hS => ?_)
    have hP : va_P D clz [(g 60, .inr (9, mF g)), (g 1, .inl (cy 0, 4, .inl (upd (upd (upd (upd (fun _ => 0) 0 (-1)) 1 (-1)) 2 (-1)) 3 (-1))))] H := hP
    have hD : va_D A [(g 60, .inr (9, mF g)), (g 1, .inl (cy 0, 4, .inl (upd (upd (upd (upd (fun _ => 0) 0 (-1)) 1 (-1)) 2 (-1)) 3 (-1))))] := hD
    refine lv_iload_n hx hb dX9_write_5 rfl (lv_at hl 1 rfl) ?_
    have hPc := hP.sub (ws' := []) [] rfl
    have hDc := hD.sub (ws' := []) [] (by decide) rfl
    have hFc := va_free (wc := []) hD hS hA [] rfl
    refine va_calli (va_runS (As := [.int p1]) (rest := []) ⟨hx, hb, hml, hown, hts⟩ (c_X9_isSlot l D cy p1 H.size) (va_cwS 1 hts (gd_S q1546 q1547 q134 q1548) rfl rfl rfl (by decide +kernel) ⟨Nat.le_of_ble_eq_true rfl, Nat.le_of_ble_eq_true rfl⟩) (pr_S hPc hK hDc) rfl rfl hl.1 rfl (lv_room (Nat.le_of_ble_eq_true rfl)) dX9_write_6 ⟨Nat.le_of_ble_eq_true rfl, Nat.le_of_ble_eq_true rfl⟩) hS (fun q _ h => hFc q h) hFc (fun r_14 u tS H1 locs ht hvm hw hB hz1 hk1 hS => ?_)
    obtain ⟨hP1, hK1, hD1⟩ := hB
    rw [ht] at hP1
    try dsimp only at hw
    obtain ⟨hP, hD⟩ := va_join (wr := [(g 60, .inr (9, mF g)), (g 1, .inl (cy 0, 4, .inl (upd (upd (upd (upd (fun _ => 0) 0 (-1)) 1 (-1)) 2 (-1)) 3 (-1))))]) (w1 := []) hP hD [] [0, 1] rfl rfl (by decide) (by decide) hk1 hFc hP1 hD1
    generalize H1 = H at hP hS ⊢
    have hP : va_P D clz [(g 60, .inr (9, mF g)), (g 1, .inl (cy 0, 4, .inl (upd (upd (upd (upd (fun _ => 0) 0 (-1)) 1 (-1)) 2 (-1)) 3 (-1))))] H := hP
    have hD : va_D A [(g 60, .inr (9, mF g)), (g 1, .inl (cy 0, 4, .inl (upd (upd (upd (upd (fun _ => 0) 0 (-1)) 1 (-1)) 2 (-1)) 3 (-1))))] := hD
    by_cases hc_15 : ((0 : Int32) ≤ p1 ∧ p1 ≤ (3 : Int32))
    ·
      rw [if_pos hc_15] at hw
      subst hw
      exact False.elim (by have f0 := hs_1; have f1 := bp32 hc_15; have z320 : (0 : Int32).toInt = 0 := (by decide); have z323 : (3 : Int32).toInt = 3 := (by decide); omega)
    ·
      rw [if_neg hc_15] at hw
      subst hw
      refine lv_if_ne (tgt := 15) hx hb dX9_write_9 (by decide) (fun c9 => absurd c9 (by decide)) (fun _ => ?_)
      refine lv_bipush (v := (-2)) hx hb dX9_write_12 (by decide) ?_
      have hP9 := hP.sub (ws' := [(g 60, .inr (9, mF g)), (g 1, .inl (cy 0, 4, .inl (upd (upd (upd (upd (fun _ => 0) 0 (-1)) 1 (-1)) 2 (-1)) 3 (-1))))]) [0, 1] rfl
      have hD9 := hD.sub (ws' := [(g 60, .inr (9, mF g)), (g 1, .inl (cy 0, 4, .inl (upd (upd (upd (upd (fun _ => 0) 0 (-1)) 1 (-1)) 2 (-1)) 3 (-1))))]) [0, 1] (by decide) rfl
      exact W.iret (v := (-2)) hx hb hr (fun tS ht hW => ⟨⟨(-2), (), rfl, (by have f0 := hs_1; have f1 := bn32 hc_15; have z320 : (0 : Int32).toInt = 0 := (by decide); have z323 : (3 : Int32).toInt = 3 := (by decide); unfold sp_write; (repeat' split) <;> first | rfl | (exfalso; omega)), by rw [ht]; exact hP9, va_K.moved hW.alike hK, hD9⟩, hS.F ht⟩) hS.2.2 dX9_write_14

