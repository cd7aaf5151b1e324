theorem q2119 : Cond.code yX9_pitch cX9_pitch 4 (some .int) ∈ lw_g := lw_gm (List.mem_of_getElem? (i := 2119) (by decide +kernel)) rfl
theorem dX9_pitch_0 : decode cX9_pitch 0 = .ok (.aload_n 0, 1) := by decide +kernel
theorem dX9_pitch_1 : decode cX9_pitch 1 = .ok (.iconst 0, 1) := by decide +kernel
theorem dX9_pitch_2 : decode cX9_pitch 2 = .ok (.putfield 129, 3) := by decide +kernel
theorem dX9_pitch_5 : decode cX9_pitch 5 = .ok (.aload_n 0, 1) := by decide +kernel
theorem dX9_pitch_6 : decode cX9_pitch 6 = .ok (.iload_n 1, 1) := by decide +kernel
theorem dX9_pitch_7 : decode cX9_pitch 7 = .ok (.iload_n 2, 1) := by decide +kernel
theorem dX9_pitch_8 : decode cX9_pitch 8 = .ok (.invokevirtual 320, 3) := by decide +kernel
theorem dX9_pitch_11 : decode cX9_pitch 11 = .ok (.ifCond .eq 39, 3) := by decide +kernel
theorem dX9_pitch_50 : decode cX9_pitch 50 = .ok (.bipush (-2), 2) := by decide +kernel
theorem dX9_pitch_52 : decode cX9_pitch 52 = .ok (.ireturn, 1) := by decide +kernel
set_option maxHeartbeats 4000000 in
set_option maxRecDepth 100000 in
theorem c_X9_pitch (l : Launch) (D : va_G) (cy : Nat → ClassId) (g : Nat → Nat) (p1 : Int32) (p2 : Int32) (p3 : Int32) (sz : Nat) : Met l yX9_pitch (ww yX9_pitch cX9_pitch 4 (some .int)) ({ frames := 4, cells := 0, slots := 0, locals := 256 }) (va_Pc [.ref (g 60), .int p1, .int p2, .int p3] (pre D cy [(g 60, .inr (9, mF g)), (g 17, .inl (cy 0, 25, .inl (fun _ => 0)))] sz)) (qi D cy (va_A [(g 60, .inr (9, mF g)), (g 17, .inl (cy 0, 25, .inl (fun _ => 0)))] sz) (fun (r : Int32) (_ : Unit) => r = (-2)) (fun (_ : Unit) => [(g 60, .inr (9, mF g)), (g 17, .inl (cy 0, 25, .inl (fun _ => 0)))])) 0 0 (va_A [(g 60, .inr (9, mF g)), (g 17, .inl (cy 0, 25, .inl (fun _ => 0)))] sz) := by
  refine Met.ofW (cc := cX9_pitch) (maxL := 4) (ret := (some .int)) (by decide) rfl ?_
  intro p e s m args below meth c s₁ B hml hv
  obtain ⟨rfl, hsz, hP, hK, hD0⟩ := hv
  have hx := B.exec
  have hb := B.bytes
  have hr := B.returns
  have hts := hts_g (atoms_spec (ws := ww yX9_pitch cX9_pitch 4 (some .int)) B.pre)
  have hown : s.vm.findClass RX9 = some m.cls := findClass_of_methodNamed B.named
  have hlocks := B.notSynchronized
  subst hsz
  have hD := hD0.self (sz := s.heap.size)
  generalize hAe : va_A [(g 60, .inr (9, mF g)), (g 17, .inl (cy 0, 25, .inl (fun _ => 0)))] s.heap.size = A at hD ⊢
  have hA : ∀ q : Nat, s.heap.size ≤ q → A q := fun q h => by rw [← hAe]; exact Or.inr h
  have hS : va_S A s.heap s.heap [] := va_S.rf
  have hl := lv_entry ([.ref (g 60), .int p1, .int p2, .int p3]) (n := 4) (Nat.le_of_ble_eq_true rfl)
  rw [lg_entry_eq]
  generalize (lg_sl ([.ref (g 60), .int p1, .int p2, .int p3]) ++ List.replicate (4 - (lg_sl ([.ref (g 60), .int p1, .int p2, .int p3])).length) Slot.unset).toArray = ls at hl ⊢
  have hl : lv_has ls 4 [(0, .ref (g 60)), (1, .int p1), (2, .int p2), (3, .int p3)] := hl
  refine lv_aload_n hx hb dX9_pitch_0 rfl (lv_at hl 0 rfl) ?_
  refine lv_iconst (v := 0) hx hb dX9_pitch_1 (by decide) ?_
  refine va_put (D := D) (ci := 9) (v := .int 0) (ty := .int) (C := RX9) (T := TX9) (N := 60) hx hb hts iX9 tyX9 tyX9_ok nmX9 hown hK hP hD hS 0 rfl rfl 0 (by decide) (hts _ q1360) (fun _ h9 => h9) rfl (by decide +kernel) rfl rfl (Nat.le_of_ble_eq_true rfl) dX9_pitch_2 (fun H locs hP hD hS => ?_)
  have hP : va_P D clz [(g 60, .inr (9, mF g)), (g 17, .inl (cy 0, 25, .inl (fun _ => 0)))] H := hP
  have hD : va_D A [(g 60, .inr (9, mF g)), (g 17, .inl (cy 0, 25, .inl (fun _ => 0)))] := hD
  refine lv_aload_n hx hb dX9_pitch_5 rfl (lv_at hl 0 rfl) ?_
  refine lv_iload_n hx hb dX9_pitch_6 rfl (lv_at hl 1 rfl) ?_
  refine lv_iload_n hx hb dX9_pitch_7 rfl (lv_at hl 2 rfl) ?_
  have hPc := hP.sub (ws' := [(g 60, .inr (9, mF g)), (g 17, .inl (cy 0, 25, .inl (fun _ => 0)))]) [0, 1] rfl
  have hDc := hD.sub (ws' := [(g 60, .inr (9, mF g)), (g 17, .inl (cy 0, 25, .inl (fun _ => 0)))]) [0, 1] (by decide) rfl
  have hFc := va_free (wc := [(g 60, .inr (9, mF g)), (g 17, .inl (cy 0, 25, .inl (fun _ => 0)))]) hD hS hA [0, 1] rfl
  refine va_calli (va_runV (As := [.int p1, .int p2]) (rest := []) ⟨hx, hb, hml, hown, hts⟩ (c_X9_isTone l D cy g p1 p2 H.size) (cwV 2 hts (gd_V q1718 q1720 q73 q134 q1721) rfl rfl rfl (by decide +kernel) ⟨Nat.le_of_ble_eq_true rfl, Nat.le_of_ble_eq_true rfl⟩) (pr_V hPc hK hDc (va_recv hK hPc (ci := 9) (q0 := 0) rfl rfl)) rfl rfl hl.1 rfl (lv_room (Nat.le_of_ble_eq_true rfl)) dX9_pitch_8 ⟨Nat.le_of_ble_eq_true rfl, Nat.le_of_ble_eq_true rfl⟩) hS (fun q _ h => hFc q h) hFc (fun r_1 u tS H1 locs ht hvm hw hB hz1 hk1 hS => ?_)
  obtain ⟨hP1, hK1, hD1⟩ := hB
  rw [ht] at hP1
  try dsimp only at hw
  obtain ⟨hP, hD⟩ := va_join (wr := []) (w1 := [(g 60, .inr (9, mF g)), (g 17, .inl (cy 0, 25, .inl (fun _ => 0)))]) hP hD [0, 1] [] rfl rfl (by decide) (by decide) hk1 hFc hP1 hD1
  generalize H1 = H at hP hS ⊢
  have hP : va_P D clz [(g 60, .inr (9, mF g)), (g 17, .inl (cy 0, 25, .inl (fun _ => 0)))] H := hP
  have hD : va_D A [(g 60, .inr (9, mF g)), (g 17, .inl (cy 0, 25, .inl (fun _ => 0)))] := hD
  subst hw
  refine lv_if_eq (tgt := 50) hx hb dX9_pitch_11 (by decide) (fun _ => ?_) (fun c9 => absurd c9 (by decide))
  refine lv_bipush (v := (-2)) hx hb dX9_pitch_50 (by decide) ?_
  have hP9 := hP.sub (ws' := [(g 60, .inr (9, mF g)), (g 17, .inl (cy 0, 25, .inl (fun _ => 0)))]) [0, 1] rfl
  have hD9 := hD.sub (ws' := [(g 60, .inr (9, mF g)), (g 17, .inl (cy 0, 25, .inl (fun _ => 0)))]) [0, 1] (by decide) rfl
  exact W.iret (v := (-2)) hx hb hr (fun tS ht hW => ⟨⟨(-2), (), rfl, rfl, by rw [ht]; exact hP9, va_K.moved hW.alike hK, hD9⟩, hS.F ht⟩) hS.2.2 dX9_pitch_52

theorem q2123 : Cond.code yX9_slur cX9_slur 4 (some .int) ∈ lw_g := lw_gm (List.mem_of_getElem? (i := 2123) (by decide +kernel)) rfl
theorem dX9_slur_0 : decode cX9_slur 0 = .ok (.aload_n 0, 1) := by decide +kernel
theorem dX9_slur_1 : decode cX9_slur 1 = .ok (.iconst 0, 1) := by decide +kernel
theorem dX9_slur_2 : decode cX9_slur 2 = .ok (.putfield 129, 3) := by decide +kernel
theorem dX9_slur_5 : decode cX9_slur 5 = .ok (.aload_n 0, 1) := by decide +kernel
theorem dX9_slur_6 : decode cX9_slur 6 = .ok (.iload_n 1, 1) := by decide +kernel
theorem dX9_slur_7 : decode cX9_slur 7 = .ok (.iload_n 2, 1) := by decide +kernel
theorem dX9_slur_8 : decode cX9_slur 8 = .ok (.invokevirtual 320, 3) := by decide +kernel
theorem dX9_slur_11 : decode cX9_slur 11 = .ok (.ifCond .eq 43, 3) := by decide +kernel
theorem dX9_slur_54 : decode cX9_slur 54 = .ok (.bipush (-2), 2) := by decide +kernel
theorem dX9_slur_56 : decode cX9_slur 56 = .ok (.ireturn, 1) := by decide +kernel
set_option maxHeartbeats 4000000 in
set_option maxRecDepth 100000 in
theorem c_X9_slur (l : Launch) (D : va_G) (cy : Nat → ClassId) (g : Nat → Nat) (p1 : Int32) (p2 : Int32) (p3 : Int32) (sz : Nat) : Met l yX9_slur (ww yX9_slur cX9_slur 4 (some .int)) ({ frames := 4, cells := 0, slots := 0, locals := 256 }) (va_Pc [.ref (g 60), .int p1, .int p2, .int p3] (pre D cy [(g 60, .inr (9, mF g)), (g 17, .inl (cy 0, 25, .inl (fun _ => 0)))] sz)) (qi D cy (va_A [(g 60, .inr (9, mF g)), (g 17, .inl (cy 0, 25, .inl (fun _ => 0)))] sz) (fun (r : Int32) (_ : Unit) => r = (-2)) (fun (_ : Unit) => [(g 60, .inr (9, mF g)), (g 17, .inl (cy 0, 25, .inl (fun _ => 0)))])) 0 0 (va_A [(g 60, .inr (9, mF g)), (g 17, .inl (cy 0, 25, .inl (fun _ => 0)))] sz) := by
  refine Met.ofW (cc := cX9_slur) (maxL := 4) (ret := (some .int)) (by decide) rfl ?_
  intro p e s m args below meth c s₁ B hml hv
  obtain ⟨rfl, hsz, hP, hK, hD0⟩ := hv
  have hx := B.exec
  have hb := B.bytes
  have hr := B.returns
  have hts := hts_g (atoms_spec (ws := ww yX9_slur cX9_slur 4 (some .int)) B.pre)
  have hown : s.vm.findClass RX9 = some m.cls := findClass_of_methodNamed B.named
  have hlocks := B.notSynchronized
  subst hsz
  have hD := hD0.self (sz := s.heap.size)
  generalize hAe : va_A [(g 60, .inr (9, mF g)), (g 17, .inl (cy 0, 25, .inl (fun _ => 0)))] s.heap.size = A at hD ⊢
  have hA : ∀ q : Nat, s.heap.size ≤ q → A q := fun q h => by rw [← hAe]; exact Or.inr h
  have hS : va_S A s.heap s.heap [] := va_S.rf
  have hl := lv_entry ([.ref (g 60), .int p1, .int p2, .int p3]) (n := 4) (Nat.le_of_ble_eq_true rfl)
  rw [lg_entry_eq]
  generalize (lg_sl ([.ref (g 60), .int p1, .int p2, .int p3]) ++ List.replicate (4 - (lg_sl ([.ref (g 60), .int p1, .int p2, .int p3])).length) Slot.unset).toArray = ls at hl ⊢
  have hl : lv_has ls 4 [(0, .ref (g 60)), (1, .int p1), (2, .int p2), (3, .int p3)] := hl
  refine lv_aload_n hx hb dX9_slur_0 rfl (lv_at hl 0 rfl) ?_
  refine lv_iconst (v := 0) hx hb dX9_slur_1 (by decide) ?_
  refine va_put (D := D) (ci := 9) (v := .int 0) (ty := .int) (C := RX9) (T := TX9) (N := 60) hx hb hts iX9 tyX9 tyX9_ok nmX9 hown hK hP hD hS 0 rfl rfl 0 (by decide) (hts _ q1360) (fun _ h9 => h9) rfl (by decide +kernel) rfl rfl (Nat.le_of_ble_eq_true rfl) dX9_slur_2 (fun H locs hP hD hS => ?_)
  have hP : va_P D clz [(g 60, .inr (9, mF g)), (g 17, .inl (cy 0, 25, .inl (fun _ => 0)))] H := hP
  have hD : va_D A [(g 60, .inr (9, mF g)), (g 17, .inl (cy 0, 25, .inl (fun _ => 0)))] := hD
  refine lv_aload_n hx hb dX9_slur_5 rfl (lv_at hl 0 rfl) ?_
  refine lv_iload_n hx hb dX9_slur_6 rfl (lv_at hl 1 rfl) ?_
  refine lv_iload_n hx hb dX9_slur_7 rfl (lv_at hl 2 rfl) ?_
  have hPc := hP.sub (ws' := [(g 60, .inr (9, mF g)), (g 17, .inl (cy 0, 25, .inl (fun _ => 0)))]) [0, 1] rfl
  have hDc := hD.sub (ws' := [(g 60, .inr (9, mF g)), (g 17, .inl (cy 0, 25, .inl (fun _ => 0)))]) [0, 1] (by decide) rfl
  have hFc := va_free (wc := [(g 60, .inr (9, mF g)), (g 17, .inl (cy 0, 25, .inl (fun _ => 0)))]) hD hS hA [0, 1] rfl
  refine va_calli (va_runV (As := [.int p1, .int p2]) (rest := []) ⟨hx, hb, hml, hown, hts⟩ (c_X9_isTone l D cy g p1 p2 H.size) (cwV 2 hts (gd_V q1718 q1720 q73 q134 q1721) rfl rfl rfl (by decide +kernel) ⟨Nat.le_of_ble_eq_true rfl, Nat.le_of_ble_eq_true rfl⟩) (pr_V hPc hK hDc (va_recv hK hPc (ci := 9) (q0 := 0) rfl rfl)) rfl rfl hl.1 rfl (lv_room (Nat.le_of_ble_eq_true rfl)) dX9_slur_8 ⟨Nat.le_of_ble_eq_true rfl, Nat.le_of_ble_eq_true rfl⟩) hS (fun q _ h => hFc q h) hFc (fun r_1 u tS H1 locs ht hvm hw hB hz1 hk1 hS => ?_)
  obtain ⟨hP1, hK1, hD1⟩ := hB
  rw [ht] at hP1
  try dsimp only at hw
  obtain ⟨hP, hD⟩ := va_join (wr := []) (w1 := [(g 60, .inr (9, mF g)), (g 17, .inl (cy 0, 25, .inl (fun _ => 0)))]) hP hD [0, 1] [] rfl rfl (by decide) (by decide) hk1 hFc hP1 hD1
  generalize H1 = H at hP hS ⊢
  have hP : va_P D clz [(g 60, .inr (9, mF g)), (g 17, .inl (cy 0, 25, .inl (fun _ => 0)))] H := hP
  have hD : va_D A [(g 60, .inr (9, mF g)), (g 17, .inl (cy 0, 25, .inl (fun _ => 0)))] := hD
  subst hw
  refine lv_if_eq (tgt := 54) hx hb dX9_slur_11 (by decide) (fun _ => ?_) (fun c9 => absurd c9 (by decide))
  refine lv_bipush (v := (-2)) hx hb dX9_slur_54 (by decide) ?_
  have hP9 := hP.sub (ws' := [(g 60, .inr (9, mF g)), (g 17, .inl (cy 0, 25, .inl (fun _ => 0)))]) [0, 1] rfl
  have hD9 := hD.sub (ws' := [(g 60, .inr (9, mF g)), (g 17, .inl (cy 0, 25, .inl (fun _ => 0)))]) [0, 1] (by decide) rfl
  exact W.iret (v := (-2)) hx hb hr (fun tS ht hW => ⟨⟨(-2), (), rfl, rfl, by rw [ht]; exact hP9, va_K.moved hW.alike hK, hD9⟩, hS.F ht⟩) hS.2.2 dX9_slur_56

theorem q1738 : Cond.code yX9_flat cX9_flat 3 (some .int) ∈ lw_g := lw_gm (List.mem_of_getElem? (i := 1738) (by decide +kernel)) rfl
theorem dX9_flat_0 : decode cX9_flat 0 = .ok (.aload_n 0, 1) := by decide +kernel
theorem dX9_flat_1 : decode cX9_flat 1 = .ok (.iconst 0, 1) := by decide +kernel
theorem dX9_flat_2 : decode cX9_flat 2 = .ok (.putfield 129, 3) := by decide +kernel
theorem dX9_flat_5 : decode cX9_flat 5 = .ok (.aload_n 0, 1) := by decide +kernel
theorem dX9_flat_6 : decode cX9_flat 6 = .ok (.iload_n 1, 1) := by decide +kernel
theorem dX9_flat_7 : decode cX9_flat 7 = .ok (.invokevirtual 312, 3) := by decide +kernel
theorem dX9_flat_10 : decode cX9_flat 10 = .ok (.ifCond .eq 27, 3) := by decide +kernel
theorem dX9_flat_37 : decode cX9_flat 37 = .ok (.bipush (-2), 2) := by decide +kernel
theorem dX9_flat_39 : decode cX9_flat 39 = .ok (.ireturn, 1) := by decide +kernel
set_option maxHeartbeats 4000000 in
set_option maxRecDepth 100000 in
theorem c_X9_flat (l : Launch) (D : va_G) (cy : Nat → ClassId) (g : Nat → Nat) (p1 : Int32) (p2 : Int32) (sz : Nat) : Met l yX9_flat (ww yX9_flat cX9_flat 3 (some .int)) ({ frames := 3, cells := 0, slots := 0, locals := 192 }) (va_Pc [.ref (g 60), .int p1, .int p2] (pre D cy [(g 60, .inr (9, mF g)), (g 17, .inl (cy 0, 25, .inl (fun _ => 0)))] sz)) (qi D cy (va_A [(g 60, .inr (9, mF g)), (g 17, .inl (cy 0, 25, .inl (fun _ => 0)))] sz) (fun (r : Int32) (_ : Unit) => r = (-2)) (fun (_ : Unit) => [(g 60, .inr (9, mF g)), (g 17, .inl (cy 0, 25, .inl (fun _ => 0)))])) 0 0 (va_A [(g 60, .inr (9, mF g)), (g 17, .inl (cy 0, 25, .inl (fun _ => 0)))] sz) := by
  refine Met.ofW (cc := cX9_flat) (maxL := 3) (ret := (some .int)) (by decide) rfl ?_
  intro p e s m args below meth c s₁ B hml hv
  obtain ⟨rfl, hsz, hP, hK, hD0⟩ := hv
  have hx := B.exec
  have hb := B.bytes
  have hr := B.returns
  have hts := hts_g (atoms_spec (ws := ww yX9_flat cX9_flat 3 (some .int)) B.pre)
  have hown : s.vm.findClass RX9 = some m.cls := findClass_of_methodNamed B.named
  have hlocks := B.notSynchronized
  subst hsz
  have hD := hD0.self (sz := s.heap.size)
  generalize hAe : va_A [(g 60, .inr (9, mF g)), (g 17, .inl (cy 0, 25, .inl (fun _ => 0)))] s.heap.size = A at hD ⊢
  have hA : ∀ q : Nat, s.heap.size ≤ q → A q := fun q h => by rw [← hAe]; exact Or.inr h
  have hS : va_S A s.heap s.heap [] := va_S.rf
  have hl := lv_entry ([.ref (g 60), .int p1, .int p2]) (n := 3) (Nat.le_of_ble_eq_true rfl)
  rw [lg_entry_eq]
  generalize (lg_sl ([.ref (g 60), .int p1, .int p2]) ++ List.replicate (3 - (lg_sl ([.ref (g 60), .int p1, .int p2])).length) Slot.unset).toArray = ls at hl ⊢
  have hl : lv_has ls 3 [(0, .ref (g 60)), (1, .int p1), (2, .int p2)] := hl
  refine lv_aload_n hx hb dX9_flat_0 rfl (lv_at hl 0 rfl) ?_
  refine lv_iconst (v := 0) hx hb dX9_flat_1 (by decide) ?_
  refine va_put (D := D) (ci := 9) (v := .int 0) (ty := .int) (C := RX9) (T := TX9) (N := 60) hx hb hts iX9 tyX9 tyX9_ok nmX9 hown hK hP hD hS 0 rfl rfl 0 (by decide) (hts _ q1360) (fun _ h9 => h9) rfl (by decide +kernel) rfl rfl (Nat.le_of_ble_eq_true rfl) dX9_flat_2 (fun H locs hP hD hS => ?_)
  have hP : va_P D clz [(g 60, .inr (9, mF g)), (g 17, .inl (cy 0, 25, .inl (fun _ => 0)))] H := hP
  have hD : va_D A [(g 60, .inr (9, mF g)), (g 17, .inl (cy 0, 25, .inl (fun _ => 0)))] := hD
  refine lv_aload_n hx hb dX9_flat_5 rfl (lv_at hl 0 rfl) ?_
  refine lv_iload_n hx hb dX9_flat_6 rfl (lv_at hl 1 rfl) ?_
  have hPc := hP.sub (ws' := [(g 60, .inr (9, mF g)), (g 17, .inl (cy 0, 25, .inl (fun _ => 0)))]) [0, 1] rfl
  have hDc := hD.sub (ws' := [(g 60, .inr (9, mF g)), (g 17, .inl (cy 0, 25, .inl (fun _ => 0)))]) [0, 1] (by decide) rfl
  have hFc := va_free (wc := [(g 60, .inr (9, mF g)), (g 17, .inl (cy 0, 25, .inl (fun _ => 0)))]) hD hS hA [0, 1] rfl
  refine va_calli (va_runV (As := [.int p1]) (rest := []) ⟨hx, hb, hml, hown, hts⟩ (c_X9_isBrass l D cy g p1 H.size) (cwV 1 hts (gd_V q1701 q1703 q71 q134 q1704) rfl rfl rfl (by decide +kernel) ⟨Nat.le_of_ble_eq_true rfl, Nat.le_of_ble_eq_true rfl⟩) (pr_V hPc hK hDc (va_recv hK hPc (ci := 9) (q0 := 0) rfl rfl)) rfl rfl hl.1 rfl (lv_room (Nat.le_of_ble_eq_true rfl)) dX9_flat_7 ⟨Nat.le_of_ble_eq_true rfl, Nat.le_of_ble_eq_true rfl⟩) hS (fun q _ h => hFc q h) hFc (fun r_1 u tS H1 locs ht hvm hw hB hz1 hk1 hS => ?_)
  obtain ⟨hP1, hK1, hD1⟩ := hB
  rw [ht] at hP1
  try dsimp only at hw
  obtain ⟨hP, hD⟩ := va_join (wr := []) (w1 := [(g 60, .inr (9, mF g)), (g 17, .inl (cy 0, 25, .inl (fun _ => 0)))]) hP hD [0, 1] [] rfl rfl (by decide) (by decide) hk1 hFc hP1 hD1
  generalize H1 = H at hP hS ⊢
  have hP : va_P D clz [(g 60, .inr (9, mF g)), (g 17, .inl (cy 0, 25, .inl (fun _ => 0)))] H := hP
  have hD : va_D A [(g 60, .inr (9, mF g)), (g 17, .inl (cy 0, 25, .inl (fun _ => 0)))] := hD
  subst hw
  refine lv_if_eq (tgt := 37) hx hb dX9_flat_10 (by decide) (fun _ => ?_) (fun c9 => absurd c9 (by decide))
  refine lv_bipush (v := (-2)) hx hb dX9_flat_37 (by decide) ?_
  have hP9 := hP.sub (ws' := [(g 60, .inr (9, mF g)), (g 17, .inl (cy 0, 25, .inl (fun _ => 0)))]) [0, 1] rfl
  have hD9 := hD.sub (ws' := [(g 60, .inr (9, mF g)), (g 17, .inl (cy 0, 25, .inl (fun _ => 0)))]) [0, 1] (by decide) rfl
  exact W.iret (v := (-2)) hx hb hr (fun tS ht hW => ⟨⟨(-2), (), rfl, rfl, by rw [ht]; exact hP9, va_K.moved hW.alike hK, hD9⟩, hS.F ht⟩) hS.2.2 dX9_flat_39

theorem q1785 : Cond.code yX9_drawnOut cX9_drawnOut 5 (some .int) ∈ lw_g := lw_gm (List.mem_of_getElem? (i := 1785) (by decide +kernel)) rfl
theorem q1759 : Cond.methodLink RX9 359 yX9_isAsked ∈ lw_g := lw_gm (List.mem_of_getElem? (i := 1759) (by decide +kernel)) rfl
theorem q1761 : Cond.instanceMethod yX9_isAsked ∈ lw_g := lw_gm (List.mem_of_getElem? (i := 1761) (by decide +kernel)) rfl
theorem q81 : Cond.selects RX9 yX9_isAsked yX9_isAsked ∈ lw_g := lw_gm (List.mem_of_getElem? (i := 81) (by decide +kernel)) rfl
theorem dX9_drawnOut_0 : decode cX9_drawnOut 0 = .ok (.aload_n 0, 1) := by decide +kernel
theorem dX9_drawnOut_1 : decode cX9_drawnOut 1 = .ok (.iconst 0, 1) := by decide +kernel
theorem dX9_drawnOut_2 : decode cX9_drawnOut 2 = .ok (.putfield 129, 3) := by decide +kernel
theorem dX9_drawnOut_5 : decode cX9_drawnOut 5 = .ok (.aload_n 0, 1) := by decide +kernel
theorem dX9_drawnOut_6 : decode cX9_drawnOut 6 = .ok (.iload_n 1, 1) := by decide +kernel
theorem dX9_drawnOut_7 : decode cX9_drawnOut 7 = .ok (.iload_n 2, 1) := by decide +kernel
theorem dX9_drawnOut_8 : decode cX9_drawnOut 8 = .ok (.iload_n 3, 1) := by decide +kernel
theorem dX9_drawnOut_9 : decode cX9_drawnOut 9 = .ok (.iload 4, 2) := by decide +kernel
theorem dX9_drawnOut_11 : decode cX9_drawnOut 11 = .ok (.invokevirtual 359, 3) := by decide +kernel
theorem dX9_drawnOut_14 : decode cX9_drawnOut 14 = .ok (.ifCond .ne 6, 3) := by decide +kernel
theorem dX9_drawnOut_17 : decode cX9_drawnOut 17 = .ok (.bipush (-2), 2) := by decide +kernel
theorem dX9_drawnOut_19 : decode cX9_drawnOut 19 = .ok (.ireturn, 1) := by decide +kernel
set_option maxHeartbeats 4000000 in
set_option maxRecDepth 100000 in
theorem c_X9_drawnOut (l : Launch) (D : va_G) (cy : Nat → ClassId) (g : Nat → Nat) (p1 : Int32) (p2 : Int32) (p3 : Int32) (p4 : Int32) (sz : Nat) : Met l yX9_drawnOut (ww yX9_drawnOut cX9_drawnOut 5 (some .int)) ({ frames := 4, cells := 0, slots := 0, locals := 256 }) (va_Pc [.ref (g 60), .int p1, .int p2, .int p3, .int p4] (pre D cy [(g 60, .inr (9, mF g)), (g 17, .inl (cy 0, 25, .inl (fun _ => 0)))] sz)) (qi D cy (va_A [(g 60, .inr (9, mF g)), (g 17, .inl (cy 0, 25, .inl (fun _ => 0)))] sz) (fun (r : Int32) (_ : Unit) => r = (-2)) (fun (_ : Unit) => [(g 60, .inr (9, mF g)), (g 17, .inl (cy 0, 25, .inl (fun _ => 0)))])) 0 0 (va_A [(g 60, .inr (9, mF g)), (g 17, .inl (cy 0, 25, .inl (fun _ => 0)))] sz) := by
  refine Met.ofW (cc := cX9_drawnOut) (maxL := 5) (ret := (some .int)) (by decide) rfl ?_
  intro p e s m args below meth c s₁ B hml hv
  obtain ⟨rfl, hsz, hP, hK, hD0⟩ := hv
  have hx := B.exec
  have hb := B.bytes
  have hr := B.returns
  have hts := hts_g (atoms_spec (ws := ww yX9_drawnOut cX9_drawnOut 5 (some .int)) B.pre)
  have hown : s.vm.findClass RX9 = some m.cls := findClass_of_methodNamed B.named
  have hlocks := B.notSynchronized
  subst hsz
  have hD := hD0.self (sz := s.heap.size)
  generalize hAe : va_A [(g 60, .inr (9, mF g)), (g 17, .inl (cy 0, 25, .inl (fun _ => 0)))] s.heap.size = A at hD ⊢
  have hA : ∀ q : Nat, s.heap.size ≤ q → A q := fun q h => by rw [← hAe]; exact Or.inr h
  have hS : va_S A s.heap s.heap [] := va_S.rf
  have hl := lv_entry ([.ref (g 60), .int p1, .int p2, .int p3, .int p4]) (n := 5) (Nat.le_of_ble_eq_true rfl)
  rw [lg_entry_eq]
  generalize (lg_sl ([.ref (g 60), .int p1, .int p2, .int p3, .int p4]) ++ List.replicate (5 - (lg_sl ([.ref (g 60), .int p1, .int p2, .int p3, .int p4])).length) Slot.unset).toArray = ls at hl ⊢
  have hl : lv_has ls 5 [(0, .ref (g 60)), (1, .int p1), (2, .int p2), (3, .int p3), (4, .int p4)] := hl
  refine lv_aload_n hx hb dX9_drawnOut_0 rfl (lv_at hl 0 rfl) ?_
  refine lv_iconst (v := 0) hx hb dX9_drawnOut_1 (by decide) ?_
  refine va_put (D := D) (ci := 9) (v := .int 0) (ty := .int) (C := RX9) (T := TX9) (N := 60) hx hb hts iX9 tyX9 tyX9_ok nmX9 hown hK hP hD hS 0 rfl rfl 0 (by decide) (hts _ q1360) (fun _ h9 => h9) rfl (by decide +kernel) rfl rfl (Nat.le_of_ble_eq_true rfl) dX9_drawnOut_2 (fun H locs hP hD hS => ?_)
  have hP : va_P D clz [(g 60, .inr (9, mF g)), (g 17, .inl (cy 0, 25, .inl (fun _ => 0)))] H := hP
  have hD : va_D A [(g 60, .inr (9, mF g)), (g 17, .inl (cy 0, 25, .inl (fun _ => 0)))] := hD
  refine lv_aload_n hx hb dX9_drawnOut_5 rfl (lv_at hl 0 rfl) ?_
  refine lv_iload_n hx hb dX9_drawnOut_6 rfl (lv_at hl 1 rfl) ?_
  refine lv_iload_n hx hb dX9_drawnOut_7 rfl (lv_at hl 2 rfl) ?_
  refine lv_iload_n hx hb dX9_drawnOut_8 rfl (lv_at hl 3 rfl) ?_
  refine lv_iload hx hb dX9_drawnOut_9 (lv_at hl 4 rfl) ?_
  have hPc := hP.sub (ws' := [(g 60, .inr (9, mF g)), (g 17, .inl (cy 0, 25, .inl (fun _ => 0)))]) [0, 1] rfl
  have hDc := hD.sub (ws' := [(g 60, .inr (9, mF g)), (g 17, .inl (cy 0, 25, .inl (fun _ => 0)))]) [0, 1] (by decide) rfl
  have hFc := va_free (wc := [(g 60, .inr (9, mF g)), (g 17, .inl (cy 0, 25, .inl (fun _ => 0)))]) hD hS hA [0, 1] rfl
  refine va_calli (va_runV (As := [.int p1, .int p2, .int p3, .int p4]) (rest := []) ⟨hx, hb, hml, hown, hts⟩ (c_X9_isAsked l D cy g p1 p2 p3 p4 H.size) (cwV 4 hts (gd_V q1759 q1761 q81 q134 q1762) rfl rfl rfl (by decide +kernel) ⟨Nat.le_of_ble_eq_true rfl, Nat.le_of_ble_eq_true rfl⟩) (pr_V hPc hK hDc (va_recv hK hPc (ci := 9) (q0 := 0) rfl rfl)) rfl rfl hl.1 rfl (lv_room (Nat.le_of_ble_eq_true rfl)) dX9_drawnOut_11 ⟨Nat.le_of_ble_eq_true rfl, Nat.le_of_ble_eq_true rfl⟩) hS (fun q _ h => hFc q h) hFc (fun r_1 u tS H1 locs ht hvm hw hB hz1 hk1 hS => ?_)
  obtain ⟨hP1, hK1, hD1⟩ := hB
  rw [ht] at hP1
  try dsimp only at hw
  obtain ⟨hP, hD⟩ := va_join (wr := []) (w1 := [(g 60, .inr (9, mF g)), (g 17, .inl (cy 0, 25, .inl (fun _ => 0)))]) hP hD [0, 1] [] rfl rfl (by decide) (by decide) hk1 hFc hP1 hD1
  generalize H1 = H at hP hS ⊢
  have hP : va_P D clz [(g 60, .inr (9, mF g)), (g 17, .inl (cy 0, 25, .inl (fun _ => 0)))] H := hP
  have hD : va_D A [(g 60, .inr (9, mF g)), (g 17, .inl (cy 0, 25, .inl (fun _ => 0)))] := hD
  subst hw
  refine lv_if_ne (tgt := 20) hx hb dX9_drawnOut_14 (by decide) (fun c9 => absurd c9 (by decide)) (fun _ => ?_)
  refine lv_bipush (v := (-2)) hx hb dX9_drawnOut_17 (by decide) ?_
  have hP9 := hP.sub (ws' := [(g 60, .inr (9, mF g)), (g 17, .inl (cy 0, 25, .inl (fun _ => 0)))]) [0, 1] rfl
  have hD9 := hD.sub (ws' := [(g 60, .inr (9, mF g)), (g 17, .inl (cy 0, 25, .inl (fun _ => 0)))]) [0, 1] (by decide) rfl
  exact W.iret (v := (-2)) hx hb hr (fun tS ht hW => ⟨⟨(-2), (), rfl, rfl, by rw [ht]; exact hP9, va_K.moved hW.alike hK, hD9⟩, hS.F ht⟩) hS.2.2 dX9_drawnOut_19

theorem q1797 : Cond.code yX9_ways cX9_ways 3 (some .int) ∈ lw_g := lw_gm (List.mem_of_getElem? (i := 1797) (by decide +kernel)) rfl
theorem dX9_ways_0 : decode cX9_ways 0 = .ok (.aload_n 0, 1) := by decide +kernel
theorem dX9_ways_1 : decode cX9_ways 1 = .ok (.iconst 0, 1) := by decide +kernel
theorem dX9_ways_2 : decode cX9_ways 2 = .ok (.putfield 129, 3) := by decide +kernel
theorem dX9_ways_5 : decode cX9_ways 5 = .ok (.aload_n 0, 1) := by decide +kernel
theorem dX9_ways_6 : decode cX9_ways 6 = .ok (.iload_n 1, 1) := by decide +kernel
theorem dX9_ways_7 : decode cX9_ways 7 = .ok (.invokevirtual 312, 3) := by decide +kernel
theorem dX9_ways_10 : decode cX9_ways 10 = .ok (.ifCond .eq 20, 3) := by decide +kernel
theorem dX9_ways_30 : decode cX9_ways 30 = .ok (.bipush (-2), 2) := by decide +kernel
theorem dX9_ways_32 : decode cX9_ways 32 = .ok (.ireturn, 1) := by decide +kernel
set_option maxHeartbeats 4000000 in
set_option maxRecDepth 100000 in
theorem c_X9_ways (l : Launch) (D : va_G) (cy : Nat → ClassId) (g : Nat → Nat) (p1 : Int32) (p2 : Int32) (sz : Nat) : Met l yX9_ways (ww yX9_ways cX9_ways 3 (some .int)) ({ frames := 3, cells := 0, slots := 0, locals := 192 }) (va_Pc [.ref (g 60), .int p1, .int p2] (pre D cy [(g 60, .inr (9, mF g)), (g 17, .inl (cy 0, 25, .inl (fun _ => 0)))] sz)) (qi D cy (va_A [(g 60, .inr (9, mF g)), (g 17, .inl (cy 0, 25, .inl (fun _ => 0)))] sz) (fun (r : Int32) (_ : Unit) => r = (-2)) (fun (_ : Unit) => [(g 60, .inr (9, mF g)), (g 17, .inl (cy 0, 25, .inl (fun _ => 0)))])) 0 0 (va_A [(g 60, .inr (9, mF g)), (g 17, .inl (cy 0, 25, .inl (fun _ => 0)))] sz) := by
  refine Met.ofW (cc := cX9_ways) (maxL := 3) (ret := (some .int)) (by decide) rfl ?_
  intro p e s m args below meth c s₁ B hml hv
  obtain ⟨rfl, hsz, hP, hK, hD0⟩ := hv
  have hx := B.exec
  have hb := B.bytes
  have hr := B.returns
  have hts := hts_g (atoms_spec (ws := ww yX9_ways cX9_ways 3 (some .int)) B.pre)
  have hown : s.vm.findClass RX9 = some m.cls := findClass_of_methodNamed B.named
  have hlocks := B.notSynchronized
  subst hsz
  have hD := hD0.self (sz := s.heap.size)
  generalize hAe : va_A [(g 60, .inr (9, mF g)), (g 17, .inl (cy 0, 25, .inl (fun _ => 0)))] s.heap.size = A at hD ⊢
  have hA : ∀ q : Nat, s.heap.size ≤ q → A q := fun q h => by rw [← hAe]; exact Or.inr h
  have hS : va_S A s.heap s.heap [] := va_S.rf
  have hl := lv_entry ([.ref (g 60), .int p1, .int p2]) (n := 3) (Nat.le_of_ble_eq_true rfl)
  rw [lg_entry_eq]
  generalize (lg_sl ([.ref (g 60), .int p1, .int p2]) ++ List.replicate (3 - (lg_sl ([.ref (g 60), .int p1, .int p2])).length) Slot.unset).toArray = ls at hl ⊢
  have hl : lv_has ls 3 [(0, .ref (g 60)), (1, .int p1), (2, .int p2)] := hl
  refine lv_aload_n hx hb dX9_ways_0 rfl (lv_at hl 0 rfl) ?_
  refine lv_iconst (v := 0) hx hb dX9_ways_1 (by decide) ?_
  refine va_put (D := D) (ci := 9) (v := .int 0) (ty := .int) (C := RX9) (T := TX9) (N := 60) hx hb hts iX9 tyX9 tyX9_ok nmX9 hown hK hP hD hS 0 rfl rfl 0 (by decide) (hts _ q1360) (fun _ h9 => h9) rfl (by decide +kernel) rfl rfl (Nat.le_of_ble_eq_true rfl) dX9_ways_2 (fun H locs hP hD hS => ?_)
  have hP : va_P D clz [(g 60, .inr (9, mF g)), (g 17, .inl (cy 0, 25, .inl (fun _ => 0)))] H := hP
  have hD : va_D A [(g 60, .inr (9, mF g)), (g 17, .inl (cy 0, 25, .inl (fun _ => 0)))] := hD
  refine lv_aload_n hx hb dX9_ways_5 rfl (lv_at hl 0 rfl) ?_
  refine lv_iload_n hx hb dX9_ways_6 rfl (lv_at hl 1 rfl) ?_
  have hPc := hP.sub (ws' := [(g 60, .inr (9, mF g)), (g 17, .inl (cy 0, 25, .inl (fun _ => 0)))]) [0, 1] rfl
  have hDc := hD.sub (ws' := [(g 60, .inr (9, mF g)), (g 17, .inl (cy 0, 25, .inl (fun _ => 0)))]) [0, 1] (by decide) rfl
  have hFc := va_free (wc := [(g 60, .inr (9, mF g)), (g 17, .inl (cy 0, 25, .inl (fun _ => 0)))]) hD hS hA [0, 1] rfl
  refine va_calli (va_runV (As := [.int p1]) (rest := []) ⟨hx, hb, hml, hown, hts⟩ (c_X9_isBrass l D cy g p1 H.size) (cwV 1 hts (gd_V q1701 q1703 q71 q134 q1704) rfl rfl rfl (by decide +kernel) ⟨Nat.le_of_ble_eq_true rfl, Nat.le_of_ble_eq_true rfl⟩) (pr_V hPc hK hDc (va_recv hK hPc (ci := 9) (q0 := 0) rfl rfl)) rfl rfl hl.1 rfl (lv_room (Nat.le_of_ble_eq_true rfl)) dX9_ways_7 ⟨Nat.le_of_ble_eq_true rfl, Nat.le_of_ble_eq_true rfl⟩) hS (fun q _ h => hFc q h) hFc (fun r_1 u tS H1 locs ht hvm hw hB hz1 hk1 hS => ?_)
  obtain ⟨hP1, hK1, hD1⟩ := hB
  rw [ht] at hP1
  try dsimp only at hw
  obtain ⟨hP, hD⟩ := va_join (wr := []) (w1 := [(g 60, .inr (9, mF g)), (g 17, .inl (cy 0, 25, .inl (fun _ => 0)))]) hP hD [0, 1] [] rfl rfl (by decide) (by decide) hk1 hFc hP1 hD1
  generalize H1 = H at hP hS ⊢
  have hP : va_P D clz [(g 60, .inr (9, mF g)), (g 17, .inl (cy 0, 25, .inl (fun _ => 0)))] H := hP
  have hD : va_D A [(g 60, .inr (9, mF g)), (g 17, .inl (cy 0, 25, .inl (fun _ => 0)))] := hD
  subst hw
  refine lv_if_eq (tgt := 30) hx hb dX9_ways_10 (by decide) (fun _ => ?_) (fun c9 => absurd c9 (by decide))
  refine lv_bipush (v := (-2)) hx hb dX9_ways_30 (by decide) ?_
  have hP9 := hP.sub (ws' := [(g 60, .inr (9, mF g)), (g 17, .inl (cy 0, 25, .inl (fun _ => 0)))]) [0, 1] rfl
  have hD9 := hD.sub (ws' := [(g 60, .inr (9, mF g)), (g 17, .inl (cy 0, 25, .inl (fun _ => 0)))]) [0, 1] (by decide) rfl
  exact W.iret (v := (-2)) hx hb hr (fun tS ht hW => ⟨⟨(-2), (), rfl, rfl, by rw [ht]; exact hP9, va_K.moved hW.alike hK, hD9⟩, hS.F ht⟩) hS.2.2 dX9_ways_32

theorem q1809 : Cond.code yX9_way cX9_way 5 (some .int) ∈ lw_g := lw_gm (List.mem_of_getElem? (i := 1809) (by decide +kernel)) rfl
theorem dX9_way_0 : decode cX9_way 0 = .ok (.aload_n 0, 1) := by decide +kernel
theorem dX9_way_1 : decode cX9_way 1 = .ok (.iconst 0, 1) := by decide +kernel
theorem dX9_way_2 : decode cX9_way 2 = .ok (.putfield 129, 3) := by decide +kernel
theorem dX9_way_5 : decode cX9_way 5 = .ok (.aload_n 0, 1) := by decide +kernel
theorem dX9_way_6 : decode cX9_way 6 = .ok (.iload_n 1, 1) := by decide +kernel
theorem dX9_way_7 : decode cX9_way 7 = .ok (.invokevirtual 312, 3) := by decide +kernel
theorem dX9_way_10 : decode cX9_way 10 = .ok (.ifCond .eq 22, 3) := by decide +kernel
theorem dX9_way_32 : decode cX9_way 32 = .ok (.bipush (-2), 2) := by decide +kernel
theorem dX9_way_34 : decode cX9_way 34 = .ok (.ireturn, 1) := by decide +kernel
set_option maxHeartbeats 4000000 in
set_option maxRecDepth 100000 in
theorem c_X9_way (l : Launch) (D : va_G) (cy : Nat → ClassId) (g : Nat → Nat) (p1 : Int32) (p2 : Int32) (p3 : Int32) (p4 : Int32) (sz : Nat) : Met l yX9_way (ww yX9_way cX9_way 5 (some .int)) ({ frames := 3, cells := 0, slots := 0, locals := 192 }) (va_Pc [.ref (g 60), .int p1, .int p2, .int p3, .int p4] (pre D cy [(g 60, .inr (9, mF g)), (g 17, .inl (cy 0, 25, .inl (fun _ => 0)))] sz)) (qi D cy (va_A [(g 60, .inr (9, mF g)), (g 17, .inl (cy 0, 25, .inl (fun _ => 0)))] sz) (fun (r : Int32) (_ : Unit) => r = (-2)) (fun (_ : Unit) => [(g 60, .inr (9, mF g)), (g 17, .inl (cy 0, 25, .inl (fun _ => 0)))])) 0 0 (va_A [(g 60, .inr (9, mF g)), (g 17, .inl (cy 0, 25, .inl (fun _ => 0)))] sz) := by
  refine Met.ofW (cc := cX9_way) (maxL := 5) (ret := (some .int)) (by decide) rfl ?_
  intro p e s m args below meth c s₁ B hml hv
  obtain ⟨rfl, hsz, hP, hK, hD0⟩ := hv
  have hx := B.exec
  have hb := B.bytes
  have hr := B.returns
  have hts := hts_g (atoms_spec (ws := ww yX9_way cX9_way 5 (some .int)) B.pre)
  have hown : s.vm.findClass RX9 = some m.cls := findClass_of_methodNamed B.named
  have hlocks := B.notSynchronized
  subst hsz
  have hD := hD0.self (sz := s.heap.size)
  generalize hAe : va_A [(g 60, .inr (9, mF g)), (g 17, .inl (cy 0, 25, .inl (fun _ => 0)))] s.heap.size = A at hD ⊢
  have hA : ∀ q : Nat, s.heap.size ≤ q → A q := fun q h => by rw [← hAe]; exact Or.inr h
  have hS : va_S A s.heap s.heap [] := va_S.rf
  have hl := lv_entry ([.ref (g 60), .int p1, .int p2, .int p3, .int p4]) (n := 5) (Nat.le_of_ble_eq_true rfl)
  rw [lg_entry_eq]
  generalize (lg_sl ([.ref (g 60), .int p1, .int p2, .int p3, .int p4]) ++ List.replicate (5 - (lg_sl ([.ref (g 60), .int p1, .int p2, .int p3, .int p4])).length) Slot.unset).toArray = ls at hl ⊢
  have hl : lv_has ls 5 [(0, .ref (g 60)), (1, .int p1), (2, .int p2), (3, .int p3), (4, .int p4)] := hl
  refine lv_aload_n hx hb dX9_way_0 rfl (lv_at hl 0 rfl) ?_
  refine lv_iconst (v := 0) hx hb dX9_way_1 (by decide) ?_
  refine va_put (D := D) (ci := 9) (v := .int 0) (ty := .int) (C := RX9) (T := TX9) (N := 60) hx hb hts iX9 tyX9 tyX9_ok nmX9 hown hK hP hD hS 0 rfl rfl 0 (by decide) (hts _ q1360) (fun _ h9 => h9) rfl (by decide +kernel) rfl rfl (Nat.le_of_ble_eq_true rfl) dX9_way_2 (fun H locs hP hD hS => ?_)
  have hP : va_P D clz [(g 60, .inr (9, mF g)), (g 17, .inl (cy 0, 25, .inl (fun _ => 0)))] H := hP
  have hD : va_D A [(g 60, .inr (9, mF g)), (g 17, .inl (cy 0, 25, .inl (fun _ => 0)))] := hD
  refine lv_aload_n hx hb dX9_way_5 rfl (lv_at hl 0 rfl) ?_
  refine lv_iload_n hx hb dX9_way_6 rfl (lv_at hl 1 rfl) ?_
  have hPc := hP.sub (ws' := [(g 60, .inr (9, mF g)), (g 17, .inl (cy 0, 25, .inl (fun _ => 0)))]) [0, 1] rfl
  have hDc := hD.sub (ws' := [(g 60, .inr (9, mF g)), (g 17, .inl (cy 0, 25, .inl (fun _ => 0)))]) [0, 1] (by decide) rfl
  have hFc := va_free (wc := [(g 60, .inr (9, mF g)), (g 17, .inl (cy 0, 25, .inl (fun _ => 0)))]) hD hS hA [0, 1] rfl
  refine va_calli (va_runV (As := [.int p1]) (rest := []) ⟨hx, hb, hml, hown, hts⟩ (c_X9_isBrass l D cy g p1 H.size) (cwV 1 hts (gd_V q1701 q1703 q71 q134 q1704) rfl rfl rfl (by decide +kernel) ⟨Nat.le_of_ble_eq_true rfl, Nat.le_of_ble_eq_true rfl⟩) (pr_V hPc hK hDc (va_recv hK hPc (ci := 9) (q0 := 0) rfl rfl)) rfl rfl hl.1 rfl (lv_room (Nat.le_of_ble_eq_true rfl)) dX9_way_7 ⟨Nat.le_of_ble_eq_true rfl, Nat.le_of_ble_eq_true rfl⟩) hS (fun q _ h => hFc q h) hFc (fun r_1 u tS H1 locs ht hvm hw hB hz1 hk1 hS => ?_)
  obtain ⟨hP1, hK1, hD1⟩ := hB
  rw [ht] at hP1
  try dsimp only at hw
  obtain ⟨hP, hD⟩ := va_join (wr := []) (w1 := [(g 60, .inr (9, mF g)), (g 17, .inl (cy 0, 25, .inl (fun _ => 0)))]) hP hD [0, 1] [] rfl rfl (by decide) (by decide) hk1 hFc hP1 hD1
  generalize H1 = H at hP hS ⊢
  have hP : va_P D clz [(g 60, .inr (9, mF g)), (g 17, .inl (cy 0, 25, .inl (fun _ => 0)))] H := hP
  have hD : va_D A [(g 60, .inr (9, mF g)), (g 17, .inl (cy 0, 25, .inl (fun _ => 0)))] := hD
  subst hw
  refine lv_if_eq (tgt := 32) hx hb dX9_way_10 (by decide) (fun _ => ?_) (fun c9 => absurd c9 (by decide))
  refine lv_bipush (v := (-2)) hx hb dX9_way_32 (by decide) ?_
  have hP9 := hP.sub (ws' := [(g 60, .inr (9, mF g)), (g 17, .inl (cy 0, 25, .inl (fun _ => 0)))]) [0, 1] rfl
  have hD9 := hD.sub (ws' := [(g 60, .inr (9, mF g)), (g 17, .inl (cy 0, 25, .inl (fun _ => 0)))]) [0, 1] (by decide) rfl
  exact W.iret (v := (-2)) hx hb hr (fun tS ht hW => ⟨⟨(-2), (), rfl, rfl, by rw [ht]; exact hP9, va_K.moved hW.alike hK, hD9⟩, hS.F ht⟩) hS.2.2 dX9_way_34

theorem q1813 : Cond.code yX9_range cX9_range 7 (some .int) ∈ lw_g := lw_gm (List.mem_of_getElem? (i := 1813) (by decide +kernel)) rfl
theorem dX9_range_0 : decode cX9_range 0 = .ok (.aload_n 0, 1) := by decide +kernel
theorem dX9_range_1 : decode cX9_range 1 = .ok (.iconst 0, 1) := by decide +kernel
theorem dX9_range_2 : decode cX9_range 2 = .ok (.putfield 129, 3) := by decide +kernel
theorem dX9_range_5 : decode cX9_range 5 = .ok (.aload_n 0, 1) := by decide +kernel
theorem dX9_range_6 : decode cX9_range 6 = .ok (.iload_n 1, 1) := by decide +kernel
theorem dX9_range_7 : decode cX9_range 7 = .ok (.invokevirtual 312, 3) := by decide +kernel
theorem dX9_range_10 : decode cX9_range 10 = .ok (.ifCond .eq 15, 3) := by decide +kernel
theorem dX9_range_25 : decode cX9_range 25 = .ok (.bipush (-2), 2) := by decide +kernel
theorem dX9_range_27 : decode cX9_range 27 = .ok (.ireturn, 1) := by decide +kernel
set_option maxHeartbeats 4000000 in
set_option maxRecDepth 100000 in
theorem c_X9_range (l : Launch) (D : va_G) (cy : Nat → ClassId) (g : Nat → Nat) (p1 : Int32) (p2 : Int32) (sz : Nat) : Met l yX9_range (ww yX9_range cX9_range 7 (some .int)) ({ frames := 3, cells := 0, slots := 0, locals := 192 }) (va_Pc [.ref (g 60), .int p1, .int p2] (pre D cy [(g 60, .inr (9, mF g)), (g 17, .inl (cy 0, 25, .inl (fun _ => 0)))] sz)) (qi D cy (va_A [(g 60, .inr (9, mF g)), (g 17, .inl (cy 0, 25, .inl (fun _ => 0)))] sz) (fun (r : Int32) (_ : Unit) => r = (-2)) (fun (_ : Unit) => [(g 60, .inr (9, mF g)), (g 17, .inl (cy 0, 25, .inl (fun _ => 0)))])) 0 0 (va_A [(g 60, .inr (9, mF g)), (g 17, .inl (cy 0, 25, .inl (fun _ => 0)))] sz) := by
  refine Met.ofW (cc := cX9_range) (maxL := 7) (ret := (some .int)) (by decide) rfl ?_
  intro p e s m args below meth c s₁ B hml hv
  obtain ⟨rfl, hsz, hP, hK, hD0⟩ := hv
  have hx := B.exec
  have hb := B.bytes
  have hr := B.returns
  have hts := hts_g (atoms_spec (ws := ww yX9_range cX9_range 7 (some .int)) B.pre)
  have hown : s.vm.findClass RX9 = some m.cls := findClass_of_methodNamed B.named
  have hlocks := B.notSynchronized
  subst hsz
  have hD := hD0.self (sz := s.heap.size)
  generalize hAe : va_A [(g 60, .inr (9, mF g)), (g 17, .inl (cy 0, 25, .inl (fun _ => 0)))] s.heap.size = A at hD ⊢
  have hA : ∀ q : Nat, s.heap.size ≤ q → A q := fun q h => by rw [← hAe]; exact Or.inr h
  have hS : va_S A s.heap s.heap [] := va_S.rf
  have hl := lv_entry ([.ref (g 60), .int p1, .int p2]) (n := 7) (Nat.le_of_ble_eq_true rfl)
  rw [lg_entry_eq]
  generalize (lg_sl ([.ref (g 60), .int p1, .int p2]) ++ List.replicate (7 - (lg_sl ([.ref (g 60), .int p1, .int p2])).length) Slot.unset).toArray = ls at hl ⊢
  have hl : lv_has ls 7 [(0, .ref (g 60)), (1, .int p1), (2, .int p2)] := hl
  refine lv_aload_n hx hb dX9_range_0 rfl (lv_at hl 0 rfl) ?_
  refine lv_iconst (v := 0) hx hb dX9_range_1 (by decide) ?_
  refine va_put (D := D) (ci := 9) (v := .int 0) (ty := .int) (C := RX9) (T := TX9) (N := 60) hx hb hts iX9 tyX9 tyX9_ok nmX9 hown hK hP hD hS 0 rfl rfl 0 (by decide) (hts _ q1360) (fun _ h9 => h9) rfl (by decide +kernel) rfl rfl (Nat.le_of_ble_eq_true rfl) dX9_range_2 (fun H locs hP hD hS => ?_)
  have hP : va_P D clz [(g 60, .inr (9, mF g)), (g 17, .inl (cy 0, 25, .inl (fun _ => 0)))] H := hP
  have hD : va_D A [(g 60, .inr (9, mF g)), (g 17, .inl (cy 0, 25, .inl (fun _ => 0)))] := hD
  refine lv_aload_n hx hb dX9_range_5 rfl (lv_at hl 0 rfl) ?_
  refine lv_iload_n hx hb dX9_range_6 rfl (lv_at hl 1 rfl) ?_
  have hPc := hP.sub (ws' := [(g 60, .inr (9, mF g)), (g 17, .inl (cy 0, 25, .inl (fun _ => 0)))]) [0, 1] rfl
  have hDc := hD.sub (ws' := [(g 60, .inr (9, mF g)), (g 17, .inl (cy 0, 25, .inl (fun _ => 0)))]) [0, 1] (by decide) rfl
  have hFc := va_free (wc := [(g 60, .inr (9, mF g)), (g 17, .inl (cy 0, 25, .inl (fun _ => 0)))]) hD hS hA [0, 1] rfl
  refine va_calli (va_runV (As := [.int p1]) (rest := []) ⟨hx, hb, hml, hown, hts⟩ (c_X9_isBrass l D cy g p1 H.size) (cwV 1 hts (gd_V q1701 q1703 q71 q134 q1704) rfl rfl rfl (by decide +kernel) ⟨Nat.le_of_ble_eq_true rfl, Nat.le_of_ble_eq_true rfl⟩) (pr_V hPc hK hDc (va_recv hK hPc (ci := 9) (q0 := 0) rfl rfl)) rfl rfl hl.1 rfl (lv_room (Nat.le_of_ble_eq_true rfl)) dX9_range_7 ⟨Nat.le_of_ble_eq_true rfl, Nat.le_of_ble_eq_true rfl⟩) hS (fun q _ h => hFc q h) hFc (fun r_1 u tS H1 locs ht hvm hw hB hz1 hk1 hS => ?_)
  obtain ⟨hP1, hK1, hD1⟩ := hB
  rw [ht] at hP1
  try dsimp only at hw
  obtain ⟨hP, hD⟩ := va_join (wr := []) (w1 := [(g 60, .inr (9, mF g)), (g 17, .inl (cy 0, 25, .inl (fun _ => 0)))]) hP hD [0, 1] [] rfl rfl (by decide) (by decide) hk1 hFc hP1 hD1
  generalize H1 = H at hP hS ⊢
  have hP : va_P D clz [(g 60, .inr (9, mF g)), (g 17, .inl (cy 0, 25, .inl (fun _ => 0)))] H := hP
  have hD : va_D A [(g 60, .inr (9, mF g)), (g 17, .inl (cy 0, 25, .inl (fun _ => 0)))] := hD
  subst hw
  refine lv_if_eq (tgt := 25) hx hb dX9_range_10 (by decide) (fun _ => ?_) (fun c9 => absurd c9 (by decide))
  refine lv_bipush (v := (-2)) hx hb dX9_range_25 (by decide) ?_
  have hP9 := hP.sub (ws' := [(g 60, .inr (9, mF g)), (g 17, .inl (cy 0, 25, .inl (fun _ => 0)))]) [0, 1] rfl
  have hD9 := hD.sub (ws' := [(g 60, .inr (9, mF g)), (g 17, .inl (cy 0, 25, .inl (fun _ => 0)))]) [0, 1] (by decide) rfl
  exact W.iret (v := (-2)) hx hb hr (fun tS ht hW => ⟨⟨(-2), (), rfl, rfl, by rw [ht]; exact hP9, va_K.moved hW.alike hK, hD9⟩, hS.F ht⟩) hS.2.2 dX9_range_27

theorem q1817 : Cond.code yX9_common cX9_common 5 (some .int) ∈ lw_g := lw_gm (List.mem_of_getElem? (i := 1817) (by decide +kernel)) rfl
theorem dX9_common_0 : decode cX9_common 0 = .ok (.aload_n 0, 1) := by decide +kernel
theorem dX9_common_1 : decode cX9_common 1 = .ok (.iconst 0, 1) := by decide +kernel
theorem dX9_common_2 : decode cX9_common 2 = .ok (.putfield 129, 3) := by decide +kernel
theorem dX9_common_5 : decode cX9_common 5 = .ok (.aload_n 0, 1) := by decide +kernel
theorem dX9_common_6 : decode cX9_common 6 = .ok (.iload_n 1, 1) := by decide +kernel
theorem dX9_common_7 : decode cX9_common 7 = .ok (.invokevirtual 312, 3) := by decide +kernel
theorem dX9_common_10 : decode cX9_common 10 = .ok (.ifCond .eq 16, 3) := by decide +kernel
theorem dX9_common_26 : decode cX9_common 26 = .ok (.bipush (-2), 2) := by decide +kernel
theorem dX9_common_28 : decode cX9_common 28 = .ok (.ireturn, 1) := by decide +kernel
set_option maxHeartbeats 4000000 in
set_option maxRecDepth 100000 in
theorem c_X9_common (l : Launch) (D : va_G) (cy : Nat → ClassId) (g : Nat → Nat) (p1 : Int32) (p2 : Int32) (sz : Nat) : Met l yX9_common (ww yX9_common cX9_common 5 (some .int)) ({ frames := 3, cells := 0, slots := 0, locals := 192 }) (va_Pc [.ref (g 60), .int p1, .int p2] (pre D cy [(g 60, .inr (9, mF g)), (g 17, .inl (cy 0, 25, .inl (fun _ => 0)))] sz)) (qi D cy (va_A [(g 60, .inr (9, mF g)), (g 17, .inl (cy 0, 25, .inl (fun _ => 0)))] sz) (fun (r : Int32) (_ : Unit) => r = (-2)) (fun (_ : Unit) => [(g 60, .inr (9, mF g)), (g 17, .inl (cy 0, 25, .inl (fun _ => 0)))])) 0 0 (va_A [(g 60, .inr (9, mF g)), (g 17, .inl (cy 0, 25, .inl (fun _ => 0)))] sz) := by
  refine Met.ofW (cc := cX9_common) (maxL := 5) (ret := (some .int)) (by decide) rfl ?_
  intro p e s m args below meth c s₁ B hml hv
  obtain ⟨rfl, hsz, hP, hK, hD0⟩ := hv
  have hx := B.exec
  have hb := B.bytes
  have hr := B.returns
  have hts := hts_g (atoms_spec (ws := ww yX9_common cX9_common 5 (some .int)) B.pre)
  have hown : s.vm.findClass RX9 = some m.cls := findClass_of_methodNamed B.named
  have hlocks := B.notSynchronized
  subst hsz
  have hD := hD0.self (sz := s.heap.size)
  generalize hAe : va_A [(g 60, .inr (9, mF g)), (g 17, .inl (cy 0, 25, .inl (fun _ => 0)))] s.heap.size = A at hD ⊢
  have hA : ∀ q : Nat, s.heap.size ≤ q → A q := fun q h => by rw [← hAe]; exact Or.inr h
  have hS : va_S A s.heap s.heap [] := va_S.rf
  have hl := lv_entry ([.ref (g 60), .int p1, .int p2]) (n := 5) (Nat.le_of_ble_eq_true rfl)
  rw [lg_entry_eq]
  generalize (lg_sl ([.ref (g 60), .int p1, .int p2]) ++ List.replicate (5 - (lg_sl ([.ref (g 60), .int p1, .int p2])).length) Slot.unset).toArray = ls at hl ⊢
  have hl : lv_has ls 5 [(0, .ref (g 60)), (1, .int p1), (2, .int p2)] := hl
  refine lv_aload_n hx hb dX9_common_0 rfl (lv_at hl 0 rfl) ?_
  refine lv_iconst (v := 0) hx hb dX9_common_1 (by decide) ?_
  refine va_put (D := D) (ci := 9) (v := .int 0) (ty := .int) (C := RX9) (T := TX9) (N := 60) hx hb hts iX9 tyX9 tyX9_ok nmX9 hown hK hP hD hS 0 rfl rfl 0 (by decide) (hts _ q1360) (fun _ h9 => h9) rfl (by decide +kernel) rfl rfl (Nat.le_of_ble_eq_true rfl) dX9_common_2 (fun H locs hP hD hS => ?_)
  have hP : va_P D clz [(g 60, .inr (9, mF g)), (g 17, .inl (cy 0, 25, .inl (fun _ => 0)))] H := hP
  have hD : va_D A [(g 60, .inr (9, mF g)), (g 17, .inl (cy 0, 25, .inl (fun _ => 0)))] := hD
  refine lv_aload_n hx hb dX9_common_5 rfl (lv_at hl 0 rfl) ?_
  refine lv_iload_n hx hb dX9_common_6 rfl (lv_at hl 1 rfl) ?_
  have hPc := hP.sub (ws' := [(g 60, .inr (9, mF g)), (g 17, .inl (cy 0, 25, .inl (fun _ => 0)))]) [0, 1] rfl
  have hDc := hD.sub (ws' := [(g 60, .inr (9, mF g)), (g 17, .inl (cy 0, 25, .inl (fun _ => 0)))]) [0, 1] (by decide) rfl
  have hFc := va_free (wc := [(g 60, .inr (9, mF g)), (g 17, .inl (cy 0, 25, .inl (fun _ => 0)))]) hD hS hA [0, 1] rfl
  refine va_calli (va_runV (As := [.int p1]) (rest := []) ⟨hx, hb, hml, hown, hts⟩ (c_X9_isBrass l D cy g p1 H.size) (cwV 1 hts (gd_V q1701 q1703 q71 q134 q1704) rfl rfl rfl (by decide +kernel) ⟨Nat.le_of_ble_eq_true rfl, Nat.le_of_ble_eq_true rfl⟩) (pr_V hPc hK hDc (va_recv hK hPc (ci := 9) (q0 := 0) rfl rfl)) rfl rfl hl.1 rfl (lv_room (Nat.le_of_ble_eq_true rfl)) dX9_common_7 ⟨Nat.le_of_ble_eq_true rfl, Nat.le_of_ble_eq_true rfl⟩) hS (fun q _ h => hFc q h) hFc (fun r_1 u tS H1 locs ht hvm hw hB hz1 hk1 hS => ?_)
  obtain ⟨hP1, hK1, hD1⟩ := hB
  rw [ht] at hP1
  try dsimp only at hw
  obtain ⟨hP, hD⟩ := va_join (wr := []) (w1 := [(g 60, .inr (9, mF g)), (g 17, .inl (cy 0, 25, .inl (fun _ => 0)))]) hP hD [0, 1] [] rfl rfl (by decide) (by decide) hk1 hFc hP1 hD1
  generalize H1 = H at hP hS ⊢
  have hP : va_P D clz [(g 60, .inr (9, mF g)), (g 17, .inl (cy 0, 25, .inl (fun _ => 0)))] H := hP
  have hD : va_D A [(g 60, .inr (9, mF g)), (g 17, .inl (cy 0, 25, .inl (fun _ => 0)))] := hD
  subst hw
  refine lv_if_eq (tgt := 26) hx hb dX9_common_10 (by decide) (fun _ => ?_) (fun c9 => absurd c9 (by decide))
  refine lv_bipush (v := (-2)) hx hb dX9_common_26 (by decide) ?_
  have hP9 := hP.sub (ws' := [(g 60, .inr (9, mF g)), (g 17, .inl (cy 0, 25, .inl (fun _ => 0)))]) [0, 1] rfl
  have hD9 := hD.sub (ws' := [(g 60, .inr (9, mF g)), (g 17, .inl (cy 0, 25, .inl (fun _ => 0)))]) [0, 1] (by decide) rfl
  exact W.iret (v := (-2)) hx hb hr (fun tS ht hW => ⟨⟨(-2), (), rfl, rfl, by rw [ht]; exact hP9, va_K.moved hW.alike hK, hD9⟩, hS.F ht⟩) hS.2.2 dX9_common_28

theorem q1789 : Cond.code yX9_move cX9_move 4 (some .int) ∈ lw_g := lw_gm (List.mem_of_getElem? (i := 1789) (by decide +kernel)) rfl
theorem dX9_move_0 : decode cX9_move 0 = .ok (.aload_n 0, 1) := by decide +kernel
theorem dX9_move_1 : decode cX9_move 1 = .ok (.iconst 0, 1) := by decide +kernel
theorem dX9_move_2 : decode cX9_move 2 = .ok (.putfield 129, 3) := by decide +kernel
theorem dX9_move_5 : decode cX9_move 5 = .ok (.aload_n 0, 1) := by decide +kernel
theorem dX9_move_6 : decode cX9_move 6 = .ok (.iload_n 1, 1) := by decide +kernel
theorem dX9_move_7 : decode cX9_move 7 = .ok (.invokevirtual 312, 3) := by decide +kernel
theorem dX9_move_10 : decode cX9_move 10 = .ok (.ifCond .eq 33, 3) := by decide +kernel
theorem dX9_move_43 : decode cX9_move 43 = .ok (.bipush (-2), 2) := by decide +kernel
theorem dX9_move_45 : decode cX9_move 45 = .ok (.ireturn, 1) := by decide +kernel
set_option maxHeartbeats 4000000 in
set_option maxRecDepth 100000 in
theorem c_X9_move (l : Launch) (D : va_G) (cy : Nat → ClassId) (g : Nat → Nat) (p1 : Int32) (p2 : Int32) (p3 : Int32) (sz : Nat) : Met l yX9_move (ww yX9_move cX9_move 4 (some .int)) ({ frames := 3, cells := 0, slots := 0, locals := 192 }) (va_Pc [.ref (g 60), .int p1, .int p2, .int p3] (pre D cy [(g 60, .inr (9, mF g)), (g 17, .inl (cy 0, 25, .inl (fun _ => 0)))] sz)) (qi D cy (va_A [(g 60, .inr (9, mF g)), (g 17, .inl (cy 0, 25, .inl (fun _ => 0)))] sz) (fun (r : Int32) (_ : Unit) => r = (-2)) (fun (_ : Unit) => [(g 60, .inr (9, mF g)), (g 17, .inl (cy 0, 25, .inl (fun _ => 0)))])) 0 0 (va_A [(g 60, .inr (9, mF g)), (g 17, .inl (cy 0, 25, .inl (fun _ => 0)))] sz) := by
  refine Met.ofW (cc := cX9_move) (maxL := 4) (ret := (some .int)) (by decide) rfl ?_
  intro p e s m args below meth c s₁ B hml hv
  obtain ⟨rfl, hsz, hP, hK, hD0⟩ := hv
  have hx := B.exec
  have hb := B.bytes
  have hr := B.returns
  have hts := hts_g (atoms_spec (ws := ww yX9_move cX9_move 4 (some .int)) B.pre)
  have hown : s.vm.findClass RX9 = some m.cls := findClass_of_methodNamed B.named
  have hlocks := B.notSynchronized
  subst hsz
  have hD := hD0.self (sz := s.heap.size)
  generalize hAe : va_A [(g 60, .inr (9, mF g)), (g 17, .inl (cy 0, 25, .inl (fun _ => 0)))] s.heap.size = A at hD ⊢
  have hA : ∀ q : Nat, s.heap.size ≤ q → A q := fun q h => by rw [← hAe]; exact Or.inr h
  have hS : va_S A s.heap s.heap [] := va_S.rf
  have hl := lv_entry ([.ref (g 60), .int p1, .int p2, .int p3]) (n := 4) (Nat.le_of_ble_eq_true rfl)
  rw [lg_entry_eq]
  generalize (lg_sl ([.ref (g 60), .int p1, .int p2, .int p3]) ++ List.replicate (4 - (lg_sl ([.ref (g 60), .int p1, .int p2, .int p3])).length) Slot.unset).toArray = ls at hl ⊢
  have hl : lv_has ls 4 [(0, .ref (g 60)), (1, .int p1), (2, .int p2), (3, .int p3)] := hl
  refine lv_aload_n hx hb dX9_move_0 rfl (lv_at hl 0 rfl) ?_
  refine lv_iconst (v := 0) hx hb dX9_move_1 (by decide) ?_
  refine va_put (D := D) (ci := 9) (v := .int 0) (ty := .int) (C := RX9) (T := TX9) (N := 60) hx hb hts iX9 tyX9 tyX9_ok nmX9 hown hK hP hD hS 0 rfl rfl 0 (by decide) (hts _ q1360) (fun _ h9 => h9) rfl (by decide +kernel) rfl rfl (Nat.le_of_ble_eq_true rfl) dX9_move_2 (fun H locs hP hD hS => ?_)
  have hP : va_P D clz [(g 60, .inr (9, mF g)), (g 17, .inl (cy 0, 25, .inl (fun _ => 0)))] H := hP
  have hD : va_D A [(g 60, .inr (9, mF g)), (g 17, .inl (cy 0, 25, .inl (fun _ => 0)))] := hD
  refine lv_aload_n hx hb dX9_move_5 rfl (lv_at hl 0 rfl) ?_
  refine lv_iload_n hx hb dX9_move_6 rfl (lv_at hl 1 rfl) ?_
  have hPc := hP.sub (ws' := [(g 60, .inr (9, mF g)), (g 17, .inl (cy 0, 25, .inl (fun _ => 0)))]) [0, 1] rfl
  have hDc := hD.sub (ws' := [(g 60, .inr (9, mF g)), (g 17, .inl (cy 0, 25, .inl (fun _ => 0)))]) [0, 1] (by decide) rfl
  have hFc := va_free (wc := [(g 60, .inr (9, mF g)), (g 17, .inl (cy 0, 25, .inl (fun _ => 0)))]) hD hS hA [0, 1] rfl
  refine va_calli (va_runV (As := [.int p1]) (rest := []) ⟨hx, hb, hml, hown, hts⟩ (c_X9_isBrass l D cy g p1 H.size) (cwV 1 hts (gd_V q1701 q1703 q71 q134 q1704) rfl rfl rfl (by decide +kernel) ⟨Nat.le_of_ble_eq_true rfl, Nat.le_of_ble_eq_true rfl⟩) (pr_V hPc hK hDc (va_recv hK hPc (ci := 9) (q0 := 0) rfl rfl)) rfl rfl hl.1 rfl (lv_room (Nat.le_of_ble_eq_true rfl)) dX9_move_7 ⟨Nat.le_of_ble_eq_true rfl, Nat.le_of_ble_eq_true rfl⟩) hS (fun q _ h => hFc q h) hFc (fun r_1 u tS H1 locs ht hvm hw hB hz1 hk1 hS => ?_)
  obtain ⟨hP1, hK1, hD1⟩ := hB
  rw [ht] at hP1
  try dsimp only at hw
  obtain ⟨hP, hD⟩ := va_join (wr := []) (w1 := [(g 60, .inr (9, mF g)), (g 17, .inl (cy 0, 25, .inl (fun _ => 0)))]) hP hD [0, 1] [] rfl rfl (by decide) (by decide) hk1 hFc hP1 hD1
  generalize H1 = H at hP hS ⊢
  have hP : va_P D clz [(g 60, .inr (9, mF g)), (g 17, .inl (cy 0, 25, .inl (fun _ => 0)))] H := hP
  have hD : va_D A [(g 60, .inr (9, mF g)), (g 17, .inl (cy 0, 25, .inl (fun _ => 0)))] := hD
  subst hw
  refine lv_if_eq (tgt := 43) hx hb dX9_move_10 (by decide) (fun _ => ?_) (fun c9 => absurd c9 (by decide))
  refine lv_bipush (v := (-2)) hx hb dX9_move_43 (by decide) ?_
  have hP9 := hP.sub (ws' := [(g 60, .inr (9, mF g)), (g 17, .inl (cy 0, 25, .inl (fun _ => 0)))]) [0, 1] rfl
  have hD9 := hD.sub (ws' := [(g 60, .inr (9, mF g)), (g 17, .inl (cy 0, 25, .inl (fun _ => 0)))]) [0, 1] (by decide) rfl
  exact W.iret (v := (-2)) hx hb hr (fun tS ht hW => ⟨⟨(-2), (), rfl, rfl, by rw [ht]; exact hP9, va_K.moved hW.alike hK, hD9⟩, hS.F ht⟩) hS.2.2 dX9_move_45

theorem q1821 : Cond.code yX9_plays cX9_plays 3 (some .int) ∈ lw_g := lw_gm (List.mem_of_getElem? (i := 1821) (by decide +kernel)) rfl
theorem dX9_plays_0 : decode cX9_plays 0 = .ok (.aload_n 0, 1) := by decide +kernel
theorem dX9_plays_1 : decode cX9_plays 1 = .ok (.iconst 0, 1) := by decide +kernel
theorem dX9_plays_2 : decode cX9_plays 2 = .ok (.putfield 129, 3) := by decide +kernel
theorem dX9_plays_5 : decode cX9_plays 5 = .ok (.aload_n 0, 1) := by decide +kernel
theorem dX9_plays_6 : decode cX9_plays 6 = .ok (.iload_n 1, 1) := by decide +kernel
theorem dX9_plays_7 : decode cX9_plays 7 = .ok (.iload_n 2, 1) := by decide +kernel
theorem dX9_plays_8 : decode cX9_plays 8 = .ok (.invokevirtual 433, 3) := by decide +kernel
theorem dX9_plays_11 : decode cX9_plays 11 = .ok (.ifCond .eq 20, 3) := by decide +kernel
theorem dX9_plays_31 : decode cX9_plays 31 = .ok (.bipush (-2), 2) := by decide +kernel
theorem dX9_plays_33 : decode cX9_plays 33 = .ok (.ireturn, 1) := by decide +kernel
set_option maxHeartbeats 4000000 in
set_option maxRecDepth 100000 in
theorem c_X9_plays (l : Launch) (D : va_G) (cy : Nat → ClassId) (g : Nat → Nat) (p1 : Int32) (p2 : Int32) (sz : Nat) : Met l yX9_plays (ww yX9_plays cX9_plays 3 (some .int)) ({ frames := 4, cells := 0, slots := 0, locals := 256 }) (va_Pc [.ref (g 60), .int p1, .int p2] (pre D cy [(g 60, .inr (9, mF g)), (g 17, .inl (cy 0, 25, .inl (fun _ => 0)))] sz)) (qi D cy (va_A [(g 60, .inr (9, mF g)), (g 17, .inl (cy 0, 25, .inl (fun _ => 0)))] sz) (fun (r : Int32) (_ : Unit) => r = (-2)) (fun (_ : Unit) => [(g 60, .inr (9, mF g)), (g 17, .inl (cy 0, 25, .inl (fun _ => 0)))])) 0 0 (va_A [(g 60, .inr (9, mF g)), (g 17, .inl (cy 0, 25, .inl (fun _ => 0)))] sz) := by
  refine Met.ofW (cc := cX9_plays) (maxL := 3) (ret := (some .int)) (by decide) rfl ?_
  intro p e s m args below meth c s₁ B hml hv
  obtain ⟨rfl, hsz, hP, hK, hD0⟩ := hv
  have hx := B.exec
  have hb := B.bytes
  have hr := B.returns
  have hts := hts_g (atoms_spec (ws := ww yX9_plays cX9_plays 3 (some .int)) B.pre)
  have hown : s.vm.findClass RX9 = some m.cls := findClass_of_methodNamed B.named
  have hlocks := B.notSynchronized
  subst hsz
  have hD := hD0.self (sz := s.heap.size)
  generalize hAe : va_A [(g 60, .inr (9, mF g)), (g 17, .inl (cy 0, 25, .inl (fun _ => 0)))] s.heap.size = A at hD ⊢
  have hA : ∀ q : Nat, s.heap.size ≤ q → A q := fun q h => by rw [← hAe]; exact Or.inr h
  have hS : va_S A s.heap s.heap [] := va_S.rf
  have hl := lv_entry ([.ref (g 60), .int p1, .int p2]) (n := 3) (Nat.le_of_ble_eq_true rfl)
  rw [lg_entry_eq]
  generalize (lg_sl ([.ref (g 60), .int p1, .int p2]) ++ List.replicate (3 - (lg_sl ([.ref (g 60), .int p1, .int p2])).length) Slot.unset).toArray = ls at hl ⊢
  have hl : lv_has ls 3 [(0, .ref (g 60)), (1, .int p1), (2, .int p2)] := hl
  refine lv_aload_n hx hb dX9_plays_0 rfl (lv_at hl 0 rfl) ?_
  refine lv_iconst (v := 0) hx hb dX9_plays_1 (by decide) ?_
  refine va_put (D := D) (ci := 9) (v := .int 0) (ty := .int) (C := RX9) (T := TX9) (N := 60) hx hb hts iX9 tyX9 tyX9_ok nmX9 hown hK hP hD hS 0 rfl rfl 0 (by decide) (hts _ q1360) (fun _ h9 => h9) rfl (by decide +kernel) rfl rfl (Nat.le_of_ble_eq_true rfl) dX9_plays_2 (fun H locs hP hD hS => ?_)
  have hP : va_P D clz [(g 60, .inr (9, mF g)), (g 17, .inl (cy 0, 25, .inl (fun _ => 0)))] H := hP
  have hD : va_D A [(g 60, .inr (9, mF g)), (g 17, .inl (cy 0, 25, .inl (fun _ => 0)))] := hD
  refine lv_aload_n hx hb dX9_plays_5 rfl (lv_at hl 0 rfl) ?_
  refine lv_iload_n hx hb dX9_plays_6 rfl (lv_at hl 1 rfl) ?_
  refine lv_iload_n hx hb dX9_plays_7 rfl (lv_at hl 2 rfl) ?_
  have hPc := hP.sub (ws' := [(g 60, .inr (9, mF g)), (g 17, .inl (cy 0, 25, .inl (fun _ => 0)))]) [0, 1] rfl
  have hDc := hD.sub (ws' := [(g 60, .inr (9, mF g)), (g 17, .inl (cy 0, 25, .inl (fun _ => 0)))]) [0, 1] (by decide) rfl
  have hFc := va_free (wc := [(g 60, .inr (9, mF g)), (g 17, .inl (cy 0, 25, .inl (fun _ => 0)))]) hD hS hA [0, 1] rfl
  refine va_calli (va_runV (As := [.int p1, .int p2]) (rest := []) ⟨hx, hb, hml, hown, hts⟩ (c_X9_isPlaying l D cy g p1 p2 H.size) (cwV 2 hts (gd_V q1822 q1824 q87 q134 q1825) rfl rfl rfl (by decide +kernel) ⟨Nat.le_of_ble_eq_true rfl, Nat.le_of_ble_eq_true rfl⟩) (pr_V hPc hK hDc (va_recv hK hPc (ci := 9) (q0 := 0) rfl rfl)) rfl rfl hl.1 rfl (lv_room (Nat.le_of_ble_eq_true rfl)) dX9_plays_8 ⟨Nat.le_of_ble_eq_true rfl, Nat.le_of_ble_eq_true rfl⟩) hS (fun q _ h => hFc q h) hFc (fun r_1 u tS H1 locs ht hvm hw hB hz1 hk1 hS => ?_)
  obtain ⟨hP1, hK1, hD1⟩ := hB
  rw [ht] at hP1
  try dsimp only at hw
  obtain ⟨hP, hD⟩ := va_join (wr := []) (w1 := [(g 60, .inr (9, mF g)), (g 17, .inl (cy 0, 25, .inl (fun _ => 0)))]) hP hD [0, 1] [] rfl rfl (by decide) (by decide) hk1 hFc hP1 hD1
  generalize H1 = H at hP hS ⊢
  have hP : va_P D clz [(g 60, .inr (9, mF g)), (g 17, .inl (cy 0, 25, .inl (fun _ => 0)))] H := hP
  have hD : va_D A [(g 60, .inr (9, mF g)), (g 17, .inl (cy 0, 25, .inl (fun _ => 0)))] := hD
  subst hw
  refine lv_if_eq (tgt := 31) hx hb dX9_plays_11 (by decide) (fun _ => ?_) (fun c9 => absurd c9 (by decide))
  refine lv_bipush (v := (-2)) hx hb dX9_plays_31 (by decide) ?_
  have hP9 := hP.sub (ws' := [(g 60, .inr (9, mF g)), (g 17, .inl (cy 0, 25, .inl (fun _ => 0)))]) [0, 1] rfl
  have hD9 := hD.sub (ws' := [(g 60, .inr (9, mF g)), (g 17, .inl (cy 0, 25, .inl (fun _ => 0)))]) [0, 1] (by decide) rfl
  exact W.iret (v := (-2)) hx hb hr (fun tS ht hW => ⟨⟨(-2), (), rfl, rfl, by rw [ht]; exact hP9, va_K.moved hW.alike hK, hD9⟩, hS.F ht⟩) hS.2.2 dX9_plays_33

theorem q1875 : Cond.code yX9_cost cX9_cost 3 (some .int) ∈ lw_g := lw_gm (List.mem_of_getElem? (i := 1875) (by decide +kernel)) rfl
theorem dX9_cost_0 : decode cX9_cost 0 = .ok (.aload_n 0, 1) := by decide +kernel
theorem dX9_cost_1 : decode cX9_cost 1 = .ok (.iconst 0, 1) := by decide +kernel
theorem dX9_cost_2 : decode cX9_cost 2 = .ok (.putfield 129, 3) := by decide +kernel
theorem dX9_cost_5 : decode cX9_cost 5 = .ok (.aload_n 0, 1) := by decide +kernel
theorem dX9_cost_6 : decode cX9_cost 6 = .ok (.iload_n 1, 1) := by decide +kernel
theorem dX9_cost_7 : decode cX9_cost 7 = .ok (.iload_n 2, 1) := by decide +kernel
theorem dX9_cost_8 : decode cX9_cost 8 = .ok (.invokevirtual 433, 3) := by decide +kernel
theorem dX9_cost_11 : decode cX9_cost 11 = .ok (.ifCond .ne 8, 3) := by decide +kernel
theorem dX9_cost_14 : decode cX9_cost 14 = .ok (.bipush (-2), 2) := by decide +kernel
theorem dX9_cost_16 : decode cX9_cost 16 = .ok (.goto 20, 3) := by decide +kernel
theorem dX9_cost_36 : decode cX9_cost 36 = .ok (.ireturn, 1) := by decide +kernel
set_option maxHeartbeats 4000000 in
set_option maxRecDepth 100000 in
theorem c_X9_cost (l : Launch) (D : va_G) (cy : Nat → ClassId) (g : Nat → Nat) (p1 : Int32) (p2 : Int32) (sz : Nat) : Met l yX9_cost (ww yX9_cost cX9_cost 3 (some .int)) ({ frames := 4, cells := 0, slots := 0, locals := 256 }) (va_Pc [.ref (g 60), .int p1, .int p2] (pre D cy [(g 60, .inr (9, mF g)), (g 17, .inl (cy 0, 25, .inl (fun _ => 0)))] sz)) (qi D cy (va_A [(g 60, .inr (9, mF g)), (g 17, .inl (cy 0, 25, .inl (fun _ => 0)))] sz) (fun (r : Int32) (_ : Unit) => r = (-2)) (fun (_ : Unit) => [(g 60, .inr (9, mF g)), (g 17, .inl (cy 0, 25, .inl (fun _ => 0)))])) 0 0 (va_A [(g 60, .inr (9, mF g)), (g 17, .inl (cy 0, 25, .inl (fun _ => 0)))] sz) := by
  refine Met.ofW (cc := cX9_cost) (maxL := 3) (ret := (some .int)) (by decide) rfl ?_
  intro p e s m args below meth c s₁ B hml hv
  obtain ⟨rfl, hsz, hP, hK, hD0⟩ := hv
  have hx := B.exec
  have hb := B.bytes
  have hr := B.returns
  have hts := hts_g (atoms_spec (ws := ww yX9_cost cX9_cost 3 (some .int)) B.pre)
  have hown : s.vm.findClass RX9 = some m.cls := findClass_of_methodNamed B.named
  have hlocks := B.notSynchronized
  subst hsz
  have hD := hD0.self (sz := s.heap.size)
  generalize hAe : va_A [(g 60, .inr (9, mF g)), (g 17, .inl (cy 0, 25, .inl (fun _ => 0)))] s.heap.size = A at hD ⊢
  have hA : ∀ q : Nat, s.heap.size ≤ q → A q := fun q h => by rw [← hAe]; exact Or.inr h
  have hS : va_S A s.heap s.heap [] := va_S.rf
  have hl := lv_entry ([.ref (g 60), .int p1, .int p2]) (n := 3) (Nat.le_of_ble_eq_true rfl)
  rw [lg_entry_eq]
  generalize (lg_sl ([.ref (g 60), .int p1, .int p2]) ++ List.replicate (3 - (lg_sl ([.ref (g 60), .int p1, .int p2])).length) Slot.unset).toArray = ls at hl ⊢
  have hl : lv_has ls 3 [(0, .ref (g 60)), (1, .int p1), (2, .int p2)] := hl
  refine lv_aload_n hx hb dX9_cost_0 rfl (lv_at hl 0 rfl) ?_
  refine lv_iconst (v := 0) hx hb dX9_cost_1 (by decide) ?_
  refine va_put (D := D) (ci := 9) (v := .int 0) (ty := .int) (C := RX9) (T := TX9) (N := 60) hx hb hts iX9 tyX9 tyX9_ok nmX9 hown hK hP hD hS 0 rfl rfl 0 (by decide) (hts _ q1360) (fun _ h9 => h9) rfl (by decide +kernel) rfl rfl (Nat.le_of_ble_eq_true rfl) dX9_cost_2 (fun H locs hP hD hS => ?_)
  have hP : va_P D clz [(g 60, .inr (9, mF g)), (g 17, .inl (cy 0, 25, .inl (fun _ => 0)))] H := hP
  have hD : va_D A [(g 60, .inr (9, mF g)), (g 17, .inl (cy 0, 25, .inl (fun _ => 0)))] := hD
  refine lv_aload_n hx hb dX9_cost_5 rfl (lv_at hl 0 rfl) ?_
  refine lv_iload_n hx hb dX9_cost_6 rfl (lv_at hl 1 rfl) ?_
  refine lv_iload_n hx hb dX9_cost_7 rfl (lv_at hl 2 rfl) ?_
  have hPc := hP.sub (ws' := [(g 60, .inr (9, mF g)), (g 17, .inl (cy 0, 25, .inl (fun _ => 0)))]) [0, 1] rfl
  have hDc := hD.sub (ws' := [(g 60, .inr (9, mF g)), (g 17, .inl (cy 0, 25, .inl (fun _ => 0)))]) [0, 1] (by decide) rfl
  have hFc := va_free (wc := [(g 60, .inr (9, mF g)), (g 17, .inl (cy 0, 25, .inl (fun _ => 0)))]) hD hS hA [0, 1] rfl
  refine va_calli (va_runV (As := [.int p1, .int p2]) (rest := []) ⟨hx, hb, hml, hown, hts⟩ (c_X9_isPlaying l D cy g p1 p2 H.size) (cwV 2 hts (gd_V q1822 q1824 q87 q134 q1825) rfl rfl rfl (by decide +kernel) ⟨Nat.le_of_ble_eq_true rfl, Nat.le_of_ble_eq_true rfl⟩) (pr_V hPc hK hDc (va_recv hK hPc (ci := 9) (q0 := 0) rfl rfl)) rfl rfl hl.1 rfl (lv_room (Nat.le_of_ble_eq_true rfl)) dX9_cost_8 ⟨Nat.le_of_ble_eq_true rfl, Nat.le_of_ble_eq_true rfl⟩) hS (fun q _ h => hFc q h) hFc (fun r_1 u tS H1 locs ht hvm hw hB hz1 hk1 hS => ?_)
  obtain ⟨hP1, hK1, hD1⟩ := hB
  rw [ht] at hP1
  try dsimp only at hw
  obtain ⟨hP, hD⟩ := va_join (wr := []) (w1 := [(g 60, .inr (9, mF g)), (g 17, .inl (cy 0, 25, .inl (fun _ => 0)))]) hP hD [0, 1] [] rfl rfl (by decide) (by decide) hk1 hFc hP1 hD1
  generalize H1 = H at hP hS ⊢
  have hP : va_P D clz [(g 60, .inr (9, mF g)), (g 17, .inl (cy 0, 25, .inl (fun _ => 0)))] H := hP
  have hD : va_D A [(g 60, .inr (9, mF g)), (g 17, .inl (cy 0, 25, .inl (fun _ => 0)))] := hD
  subst hw
  refine lv_if_ne (tgt := 19) hx hb dX9_cost_11 (by decide) (fun c9 => absurd c9 (by decide)) (fun _ => ?_)
  refine lv_bipush (v := (-2)) hx hb dX9_cost_14 (by decide) ?_
  refine lv_goto (tgt := 36) hx hb dX9_cost_16 (by decide) ?_
  have hP9 := hP.sub (ws' := [(g 60, .inr (9, mF g)), (g 17, .inl (cy 0, 25, .inl (fun _ => 0)))]) [0, 1] rfl
  have hD9 := hD.sub (ws' := [(g 60, .inr (9, mF g)), (g 17, .inl (cy 0, 25, .inl (fun _ => 0)))]) [0, 1] (by decide) rfl
  exact W.iret (v := (-2)) hx hb hr (fun tS ht hW => ⟨⟨(-2), (), rfl, rfl, by rw [ht]; exact hP9, va_K.moved hW.alike hK, hD9⟩, hS.F ht⟩) hS.2.2 dX9_cost_36

theorem q1879 : Cond.code yX9_sour cX9_sour 3 (some .int) ∈ lw_g := lw_gm (List.mem_of_getElem? (i := 1879) (by decide +kernel)) rfl
theorem dX9_sour_0 : decode cX9_sour 0 = .ok (.aload_n 0, 1) := by decide +kernel
theorem dX9_sour_1 : decode cX9_sour 1 = .ok (.iconst 0, 1) := by decide +kernel
theorem dX9_sour_2 : decode cX9_sour 2 = .ok (.putfield 129, 3) := by decide +kernel
theorem dX9_sour_5 : decode cX9_sour 5 = .ok (.aload_n 0, 1) := by decide +kernel
theorem dX9_sour_6 : decode cX9_sour 6 = .ok (.iload_n 1, 1) := by decide +kernel
theorem dX9_sour_7 : decode cX9_sour 7 = .ok (.iload_n 2, 1) := by decide +kernel
theorem dX9_sour_8 : decode cX9_sour 8 = .ok (.invokevirtual 433, 3) := by decide +kernel
theorem dX9_sour_11 : decode cX9_sour 11 = .ok (.ifCond .ne 8, 3) := by decide +kernel
theorem dX9_sour_14 : decode cX9_sour 14 = .ok (.bipush (-2), 2) := by decide +kernel
theorem dX9_sour_16 : decode cX9_sour 16 = .ok (.goto 20, 3) := by decide +kernel
theorem dX9_sour_36 : decode cX9_sour 36 = .ok (.ireturn, 1) := by decide +kernel
set_option maxHeartbeats 4000000 in
set_option maxRecDepth 100000 in
theorem c_X9_sour (l : Launch) (D : va_G) (cy : Nat → ClassId) (g : Nat → Nat) (p1 : Int32) (p2 : Int32) (sz : Nat) : Met l yX9_sour (ww yX9_sour cX9_sour 3 (some .int)) ({ frames := 4, cells := 0, slots := 0, locals := 256 }) (va_Pc [.ref (g 60), .int p1, .int p2] (pre D cy [(g 60, .inr (9, mF g)), (g 17, .inl (cy 0, 25, .inl (fun _ => 0)))] sz)) (qi D cy (va_A [(g 60, .inr (9, mF g)), (g 17, .inl (cy 0, 25, .inl (fun _ => 0)))] sz) (fun (r : Int32) (_ : Unit) => r = (-2)) (fun (_ : Unit) => [(g 60, .inr (9, mF g)), (g 17, .inl (cy 0, 25, .inl (fun _ => 0)))])) 0 0 (va_A [(g 60, .inr (9, mF g)), (g 17, .inl (cy 0, 25, .inl (fun _ => 0)))] sz) := by
  refine Met.ofW (cc := cX9_sour) (maxL := 3) (ret := (some .int)) (by decide) rfl ?_
  intro p e s m args below meth c s₁ B hml hv
  obtain ⟨rfl, hsz, hP, hK, hD0⟩ := hv
  have hx := B.exec
  have hb := B.bytes
  have hr := B.returns
  have hts := hts_g (atoms_spec (ws := ww yX9_sour cX9_sour 3 (some .int)) B.pre)
  have hown : s.vm.findClass RX9 = some m.cls := findClass_of_methodNamed B.named
  have hlocks := B.notSynchronized
  subst hsz
  have hD := hD0.self (sz := s.heap.size)
  generalize hAe : va_A [(g 60, .inr (9, mF g)), (g 17, .inl (cy 0, 25, .inl (fun _ => 0)))] s.heap.size = A at hD ⊢
  have hA : ∀ q : Nat, s.heap.size ≤ q → A q := fun q h => by rw [← hAe]; exact Or.inr h
  have hS : va_S A s.heap s.heap [] := va_S.rf
  have hl := lv_entry ([.ref (g 60), .int p1, .int p2]) (n := 3) (Nat.le_of_ble_eq_true rfl)
  rw [lg_entry_eq]
  generalize (lg_sl ([.ref (g 60), .int p1, .int p2]) ++ List.replicate (3 - (lg_sl ([.ref (g 60), .int p1, .int p2])).length) Slot.unset).toArray = ls at hl ⊢
  have hl : lv_has ls 3 [(0, .ref (g 60)), (1, .int p1), (2, .int p2)] := hl
  refine lv_aload_n hx hb dX9_sour_0 rfl (lv_at hl 0 rfl) ?_
  refine lv_iconst (v := 0) hx hb dX9_sour_1 (by decide) ?_
  refine va_put (D := D) (ci := 9) (v := .int 0) (ty := .int) (C := RX9) (T := TX9) (N := 60) hx hb hts iX9 tyX9 tyX9_ok nmX9 hown hK hP hD hS 0 rfl rfl 0 (by decide) (hts _ q1360) (fun _ h9 => h9) rfl (by decide +kernel) rfl rfl (Nat.le_of_ble_eq_true rfl) dX9_sour_2 (fun H locs hP hD hS => ?_)
  have hP : va_P D clz [(g 60, .inr (9, mF g)), (g 17, .inl (cy 0, 25, .inl (fun _ => 0)))] H := hP
  have hD : va_D A [(g 60, .inr (9, mF g)), (g 17, .inl (cy 0, 25, .inl (fun _ => 0)))] := hD
  refine lv_aload_n hx hb dX9_sour_5 rfl (lv_at hl 0 rfl) ?_
  refine lv_iload_n hx hb dX9_sour_6 rfl (lv_at hl 1 rfl) ?_
  refine lv_iload_n hx hb dX9_sour_7 rfl (lv_at hl 2 rfl) ?_
  have hPc := hP.sub (ws' := [(g 60, .inr (9, mF g)), (g 17, .inl (cy 0, 25, .inl (fun _ => 0)))]) [0, 1] rfl
  have hDc := hD.sub (ws' := [(g 60, .inr (9, mF g)), (g 17, .inl (cy 0, 25, .inl (fun _ => 0)))]) [0, 1] (by decide) rfl
  have hFc := va_free (wc := [(g 60, .inr (9, mF g)), (g 17, .inl (cy 0, 25, .inl (fun _ => 0)))]) hD hS hA [0, 1] rfl
  refine va_calli (va_runV (As := [.int p1, .int p2]) (rest := []) ⟨hx, hb, hml, hown, hts⟩ (c_X9_isPlaying l D cy g p1 p2 H.size) (cwV 2 hts (gd_V q1822 q1824 q87 q134 q1825) rfl rfl rfl (by decide +kernel) ⟨Nat.le_of_ble_eq_true rfl, Nat.le_of_ble_eq_true rfl⟩) (pr_V hPc hK hDc (va_recv hK hPc (ci := 9) (q0 := 0) rfl rfl)) rfl rfl hl.1 rfl (lv_room (Nat.le_of_ble_eq_true rfl)) dX9_sour_8 ⟨Nat.le_of_ble_eq_true rfl, Nat.le_of_ble_eq_true rfl⟩) hS (fun q _ h => hFc q h) hFc (fun r_1 u tS H1 locs ht hvm hw hB hz1 hk1 hS => ?_)
  obtain ⟨hP1, hK1, hD1⟩ := hB
  rw [ht] at hP1
  try dsimp only at hw
  obtain ⟨hP, hD⟩ := va_join (wr := []) (w1 := [(g 60, .inr (9, mF g)), (g 17, .inl (cy 0, 25, .inl (fun _ => 0)))]) hP hD [0, 1] [] rfl rfl (by decide) (by decide) hk1 hFc hP1 hD1
  generalize H1 = H at hP hS ⊢
  have hP : va_P D clz [(g 60, .inr (9, mF g)), (g 17, .inl (cy 0, 25, .inl (fun _ => 0)))] H := hP
  have hD : va_D A [(g 60, .inr (9, mF g)), (g 17, .inl (cy 0, 25, .inl (fun _ => 0)))] := hD
  subst hw
  refine lv_if_ne (tgt := 19) hx hb dX9_sour_11 (by decide) (fun c9 => absurd c9 (by decide)) (fun _ => ?_)
  refine lv_bipush (v := (-2)) hx hb dX9_sour_14 (by decide) ?_
  refine lv_goto (tgt := 36) hx hb dX9_sour_16 (by decide) ?_
  have hP9 := hP.sub (ws' := [(g 60, .inr (9, mF g)), (g 17, .inl (cy 0, 25, .inl (fun _ => 0)))]) [0, 1] rfl
  have hD9 := hD.sub (ws' := [(g 60, .inr (9, mF g)), (g 17, .inl (cy 0, 25, .inl (fun _ => 0)))]) [0, 1] (by decide) rfl
  exact W.iret (v := (-2)) hx hb hr (fun tS ht hW => ⟨⟨(-2), (), rfl, rfl, by rw [ht]; exact hP9, va_K.moved hW.alike hK, hD9⟩, hS.F ht⟩) hS.2.2 dX9_sour_36

theorem q1883 : Cond.code yX9_chosen cX9_chosen 7 (some .int) ∈ lw_g := lw_gm (List.mem_of_getElem? (i := 1883) (by decide +kernel)) rfl
theorem dX9_chosen_0 : decode cX9_chosen 0 = .ok (.aload_n 0, 1) := by decide +kernel
theorem dX9_chosen_1 : decode cX9_chosen 1 = .ok (.iconst 0, 1) := by decide +kernel
theorem dX9_chosen_2 : decode cX9_chosen 2 = .ok (.putfield 129, 3) := by decide +kernel
theorem dX9_chosen_5 : decode cX9_chosen 5 = .ok (.aload_n 0, 1) := by decide +kernel
theorem dX9_chosen_6 : decode cX9_chosen 6 = .ok (.iload_n 1, 1) := by decide +kernel
theorem dX9_chosen_7 : decode cX9_chosen 7 = .ok (.iload_n 2, 1) := by decide +kernel
theorem dX9_chosen_8 : decode cX9_chosen 8 = .ok (.invokevirtual 433, 3) := by decide +kernel
theorem dX9_chosen_11 : decode cX9_chosen 11 = .ok (.ifCond .eq 16, 3) := by decide +kernel
theorem dX9_chosen_27 : decode cX9_chosen 27 = .ok (.bipush (-2), 2) := by decide +kernel
theorem dX9_chosen_29 : decode cX9_chosen 29 = .ok (.ireturn, 1) := by decide +kernel
set_option maxHeartbeats 4000000 in
set_option maxRecDepth 100000 in
theorem c_X9_chosen (l : Launch) (D : va_G) (cy : Nat → ClassId) (g : Nat → Nat) (p1 : Int32) (p2 : Int32) (p3 : Int32) (p4 : Int32) (sz : Nat) : Met l yX9_chosen (ww yX9_chosen cX9_chosen 7 (some .int)) ({ frames := 4, cells := 0, slots := 0, locals := 256 }) (va_Pc [.ref (g 60), .int p1, .int p2, .int p3, .int p4] (pre D cy [(g 60, .inr (9, mF g)), (g 17, .inl (cy 0, 25, .inl (fun _ => 0)))] sz)) (qi D cy (va_A [(g 60, .inr (9, mF g)), (g 17, .inl (cy 0, 25, .inl (fun _ => 0)))] sz) (fun (r : Int32) (_ : Unit) => r = (-2)) (fun (_ : Unit) => [(g 60, .inr (9, mF g)), (g 17, .inl (cy 0, 25, .inl (fun _ => 0)))])) 0 0 (va_A [(g 60, .inr (9, mF g)), (g 17, .inl (cy 0, 25, .inl (fun _ => 0)))] sz) := by
  refine Met.ofW (cc := cX9_chosen) (maxL := 7) (ret := (some .int)) (by decide) rfl ?_
  intro p e s m args below meth c s₁ B hml hv
  obtain ⟨rfl, hsz, hP, hK, hD0⟩ := hv
  have hx := B.exec
  have hb := B.bytes
  have hr := B.returns
  have hts := hts_g (atoms_spec (ws := ww yX9_chosen cX9_chosen 7 (some .int)) B.pre)
  have hown : s.vm.findClass RX9 = some m.cls := findClass_of_methodNamed B.named
  have hlocks := B.notSynchronized
  subst hsz
  have hD := hD0.self (sz := s.heap.size)
  generalize hAe : va_A [(g 60, .inr (9, mF g)), (g 17, .inl (cy 0, 25, .inl (fun _ => 0)))] s.heap.size = A at hD ⊢
  have hA : ∀ q : Nat, s.heap.size ≤ q → A q := fun q h => by rw [← hAe]; exact Or.inr h
  have hS : va_S A s.heap s.heap [] := va_S.rf
  have hl := lv_entry ([.ref (g 60), .int p1, .int p2, .int p3, .int p4]) (n := 7) (Nat.le_of_ble_eq_true rfl)
  rw [lg_entry_eq]
  generalize (lg_sl ([.ref (g 60), .int p1, .int p2, .int p3, .int p4]) ++ List.replicate (7 - (lg_sl ([.ref (g 60), .int p1, .int p2, .int p3, .int p4])).length) Slot.unset).toArray = ls at hl ⊢
  have hl : lv_has ls 7 [(0, .ref (g 60)), (1, .int p1), (2, .int p2), (3, .int p3), (4, .int p4)] := hl
  refine lv_aload_n hx hb dX9_chosen_0 rfl (lv_at hl 0 rfl) ?_
  refine lv_iconst (v := 0) hx hb dX9_chosen_1 (by decide) ?_
  refine va_put (D := D) (ci := 9) (v := .int 0) (ty := .int) (C := RX9) (T := TX9) (N := 60) hx hb hts iX9 tyX9 tyX9_ok nmX9 hown hK hP hD hS 0 rfl rfl 0 (by decide) (hts _ q1360) (fun _ h9 => h9) rfl (by decide +kernel) rfl rfl (Nat.le_of_ble_eq_true rfl) dX9_chosen_2 (fun H locs hP hD hS => ?_)
  have hP : va_P D clz [(g 60, .inr (9, mF g)), (g 17, .inl (cy 0, 25, .inl (fun _ => 0)))] H := hP
  have hD : va_D A [(g 60, .inr (9, mF g)), (g 17, .inl (cy 0, 25, .inl (fun _ => 0)))] := hD
  refine lv_aload_n hx hb dX9_chosen_5 rfl (lv_at hl 0 rfl) ?_
  refine lv_iload_n hx hb dX9_chosen_6 rfl (lv_at hl 1 rfl) ?_
  refine lv_iload_n hx hb dX9_chosen_7 rfl (lv_at hl 2 rfl) ?_
  have hPc := hP.sub (ws' := [(g 60, .inr (9, mF g)), (g 17, .inl (cy 0, 25, .inl (fun _ => 0)))]) [0, 1] rfl
  have hDc := hD.sub (ws' := [(g 60, .inr (9, mF g)), (g 17, .inl (cy 0, 25, .inl (fun _ => 0)))]) [0, 1] (by decide) rfl
  have hFc := va_free (wc := [(g 60, .inr (9, mF g)), (g 17, .inl (cy 0, 25, .inl (fun _ => 0)))]) hD hS hA [0, 1] rfl
  refine va_calli (va_runV (As := [.int p1, .int p2]) (rest := []) ⟨hx, hb, hml, hown, hts⟩ (c_X9_isPlaying l D cy g p1 p2 H.size) (cwV 2 hts (gd_V q1822 q1824 q87 q134 q1825) rfl rfl rfl (by decide +kernel) ⟨Nat.le_of_ble_eq_true rfl, Nat.le_of_ble_eq_true rfl⟩) (pr_V hPc hK hDc (va_recv hK hPc (ci := 9) (q0 := 0) rfl rfl)) rfl rfl hl.1 rfl (lv_room (Nat.le_of_ble_eq_true rfl)) dX9_chosen_8 ⟨Nat.le_of_ble_eq_true rfl, Nat.le_of_ble_eq_true rfl⟩) hS (fun q _ h => hFc q h) hFc (fun r_1 u tS H1 locs ht hvm hw hB hz1 hk1 hS => ?_)
  obtain ⟨hP1, hK1, hD1⟩ := hB
  rw [ht] at hP1
  try dsimp only at hw
  obtain ⟨hP, hD⟩ := va_join (wr := []) (w1 := [(g 60, .inr (9, mF g)), (g 17, .inl (cy 0, 25, .inl (fun _ => 0)))]) hP hD [0, 1] [] rfl rfl (by decide) (by decide) hk1 hFc hP1 hD1
  generalize H1 = H at hP hS ⊢
  have hP : va_P D clz [(g 60, .inr (9, mF g)), (g 17, .inl (cy 0, 25, .inl (fun _ => 0)))] H := hP
  have hD : va_D A [(g 60, .inr (9, mF g)), (g 17, .inl (cy 0, 25, .inl (fun _ => 0)))] := hD
  subst hw
  refine lv_if_eq (tgt := 27) hx hb dX9_chosen_11 (by decide) (fun _ => ?_) (fun c9 => absurd c9 (by decide))
  refine lv_bipush (v := (-2)) hx hb dX9_chosen_27 (by decide) ?_
  have hP9 := hP.sub (ws' := [(g 60, .inr (9, mF g)), (g 17, .inl (cy 0, 25, .inl (fun _ => 0)))]) [0, 1] rfl
  have hD9 := hD.sub (ws' := [(g 60, .inr (9, mF g)), (g 17, .inl (cy 0, 25, .inl (fun _ => 0)))]) [0, 1] (by decide) rfl
  exact W.iret (v := (-2)) hx hb hr (fun tS ht hW => ⟨⟨(-2), (), rfl, rfl, by rw [ht]; exact hP9, va_K.moved hW.alike hK, hD9⟩, hS.F ht⟩) hS.2.2 dX9_chosen_29

theorem q1891 : Cond.code yX9_slurs cX9_slurs 9 (some .int) ∈ lw_g := lw_gm (List.mem_of_getElem? (i := 1891) (by decide +kernel)) rfl
theorem dX9_slurs_0 : decode cX9_slurs 0 = .ok (.aload_n 0, 1) := by decide +kernel
theorem dX9_slurs_1 : decode cX9_slurs 1 = .ok (.iconst 0, 1) := by decide +kernel
theorem dX9_slurs_2 : decode cX9_slurs 2 = .ok (.putfield 129, 3) := by decide +kernel
theorem dX9_slurs_5 : decode cX9_slurs 5 = .ok (.aload_n 0, 1) := by decide +kernel
theorem dX9_slurs_6 : decode cX9_slurs 6 = .ok (.iload_n 1, 1) := by decide +kernel
theorem dX9_slurs_7 : decode cX9_slurs 7 = .ok (.iload_n 2, 1) := by decide +kernel
theorem dX9_slurs_8 : decode cX9_slurs 8 = .ok (.invokevirtual 433, 3) := by decide +kernel
theorem dX9_slurs_11 : decode cX9_slurs 11 = .ok (.ifCond .eq 15, 3) := by decide +kernel
theorem dX9_slurs_26 : decode cX9_slurs 26 = .ok (.bipush (-2), 2) := by decide +kernel
theorem dX9_slurs_28 : decode cX9_slurs 28 = .ok (.ireturn, 1) := by decide +kernel
set_option maxHeartbeats 4000000 in
set_option maxRecDepth 100000 in
theorem c_X9_slurs (l : Launch) (D : va_G) (cy : Nat → ClassId) (g : Nat → Nat) (p1 : Int32) (p2 : Int32) (p3 : Int32) (sz : Nat) : Met l yX9_slurs (ww yX9_slurs cX9_slurs 9 (some .int)) ({ frames := 4, cells := 0, slots := 0, locals := 256 }) (va_Pc [.ref (g 60), .int p1, .int p2, .int p3] (pre D cy [(g 60, .inr (9, mF g)), (g 17, .inl (cy 0, 25, .inl (fun _ => 0)))] sz)) (qi D cy (va_A [(g 60, .inr (9, mF g)), (g 17, .inl (cy 0, 25, .inl (fun _ => 0)))] sz) (fun (r : Int32) (_ : Unit) => r = (-2)) (fun (_ : Unit) => [(g 60, .inr (9, mF g)), (g 17, .inl (cy 0, 25, .inl (fun _ => 0)))])) 0 0 (va_A [(g 60, .inr (9, mF g)), (g 17, .inl (cy 0, 25, .inl (fun _ => 0)))] sz) := by
  refine Met.ofW (cc := cX9_slurs) (maxL := 9) (ret := (some .int)) (by decide) rfl ?_
  intro p e s m args below meth c s₁ B hml hv
  obtain ⟨rfl, hsz, hP, hK, hD0⟩ := hv
  have hx := B.exec
  have hb := B.bytes
  have hr := B.returns
  have hts := hts_g (atoms_spec (ws := ww yX9_slurs cX9_slurs 9 (some .int)) B.pre)
  have hown : s.vm.findClass RX9 = some m.cls := findClass_of_methodNamed B.named
  have hlocks := B.notSynchronized
  subst hsz
  have hD := hD0.self (sz := s.heap.size)
  generalize hAe : va_A [(g 60, .inr (9, mF g)), (g 17, .inl (cy 0, 25, .inl (fun _ => 0)))] s.heap.size = A at hD ⊢
  have hA : ∀ q : Nat, s.heap.size ≤ q → A q := fun q h => by rw [← hAe]; exact Or.inr h
  have hS : va_S A s.heap s.heap [] := va_S.rf
  have hl := lv_entry ([.ref (g 60), .int p1, .int p2, .int p3]) (n := 9) (Nat.le_of_ble_eq_true rfl)
  rw [lg_entry_eq]
  generalize (lg_sl ([.ref (g 60), .int p1, .int p2, .int p3]) ++ List.replicate (9 - (lg_sl ([.ref (g 60), .int p1, .int p2, .int p3])).length) Slot.unset).toArray = ls at hl ⊢
  have hl : lv_has ls 9 [(0, .ref (g 60)), (1, .int p1), (2, .int p2), (3, .int p3)] := hl
  refine lv_aload_n hx hb dX9_slurs_0 rfl (lv_at hl 0 rfl) ?_
  refine lv_iconst (v := 0) hx hb dX9_slurs_1 (by decide) ?_
  refine va_put (D := D) (ci := 9) (v := .int 0) (ty := .int) (C := RX9) (T := TX9) (N := 60) hx hb hts iX9 tyX9 tyX9_ok nmX9 hown hK hP hD hS 0 rfl rfl 0 (by decide) (hts _ q1360) (fun _ h9 => h9) rfl (by decide +kernel) rfl rfl (Nat.le_of_ble_eq_true rfl) dX9_slurs_2 (fun H locs hP hD hS => ?_)
  have hP : va_P D clz [(g 60, .inr (9, mF g)), (g 17, .inl (cy 0, 25, .inl (fun _ => 0)))] H := hP
  have hD : va_D A [(g 60, .inr (9, mF g)), (g 17, .inl (cy 0, 25, .inl (fun _ => 0)))] := hD
  refine lv_aload_n hx hb dX9_slurs_5 rfl (lv_at hl 0 rfl) ?_
  refine lv_iload_n hx hb dX9_slurs_6 rfl (lv_at hl 1 rfl) ?_
  refine lv_iload_n hx hb dX9_slurs_7 rfl (lv_at hl 2 rfl) ?_
  have hPc := hP.sub (ws' := [(g 60, .inr (9, mF g)), (g 17, .inl (cy 0, 25, .inl (fun _ => 0)))]) [0, 1] rfl
  have hDc := hD.sub (ws' := [(g 60, .inr (9, mF g)), (g 17, .inl (cy 0, 25, .inl (fun _ => 0)))]) [0, 1] (by decide) rfl
  have hFc := va_free (wc := [(g 60, .inr (9, mF g)), (g 17, .inl (cy 0, 25, .inl (fun _ => 0)))]) hD hS hA [0, 1] rfl
  refine va_calli (va_runV (As := [.int p1, .int p2]) (rest := []) ⟨hx, hb, hml, hown, hts⟩ (c_X9_isPlaying l D cy g p1 p2 H.size) (cwV 2 hts (gd_V q1822 q1824 q87 q134 q1825) rfl rfl rfl (by decide +kernel) ⟨Nat.le_of_ble_eq_true rfl, Nat.le_of_ble_eq_true rfl⟩) (pr_V hPc hK hDc (va_recv hK hPc (ci := 9) (q0 := 0) rfl rfl)) rfl rfl hl.1 rfl (lv_room (Nat.le_of_ble_eq_true rfl)) dX9_slurs_8 ⟨Nat.le_of_ble_eq_true rfl, Nat.le_of_ble_eq_true rfl⟩) hS (fun q _ h => hFc q h) hFc (fun r_1 u tS H1 locs ht hvm hw hB hz1 hk1 hS => ?_)
  obtain ⟨hP1, hK1, hD1⟩ := hB
  rw [ht] at hP1
  try dsimp only at hw
  obtain ⟨hP, hD⟩ := va_join (wr := []) (w1 := [(g 60, .inr (9, mF g)), (g 17, .inl (cy 0, 25, .inl (fun _ => 0)))]) hP hD [0, 1] [] rfl rfl (by decide) (by decide) hk1 hFc hP1 hD1
  generalize H1 = H at hP hS ⊢
  have hP : va_P D clz [(g 60, .inr (9, mF g)), (g 17, .inl (cy 0, 25, .inl (fun _ => 0)))] H := hP
  have hD : va_D A [(g 60, .inr (9, mF g)), (g 17, .inl (cy 0, 25, .inl (fun _ => 0)))] := hD
  subst hw
  refine lv_if_eq (tgt := 26) hx hb dX9_slurs_11 (by decide) (fun _ => ?_) (fun c9 => absurd c9 (by decide))
  refine lv_bipush (v := (-2)) hx hb dX9_slurs_26 (by decide) ?_
  have hP9 := hP.sub (ws' := [(g 60, .inr (9, mF g)), (g 17, .inl (cy 0, 25, .inl (fun _ => 0)))]) [0, 1] rfl
  have hD9 := hD.sub (ws' := [(g 60, .inr (9, mF g)), (g 17, .inl (cy 0, 25, .inl (fun _ => 0)))]) [0, 1] (by decide) rfl
  exact W.iret (v := (-2)) hx hb hr (fun tS ht hW => ⟨⟨(-2), (), rfl, rfl, by rw [ht]; exact hP9, va_K.moved hW.alike hK, hD9⟩, hS.F ht⟩) hS.2.2 dX9_slurs_28

theorem q1895 : Cond.code yX9_stuck cX9_stuck 4 (some .int) ∈ lw_g := lw_gm (List.mem_of_getElem? (i := 1895) (by decide +kernel)) rfl
theorem dX9_stuck_0 : decode cX9_stuck 0 = .ok (.aload_n 0, 1) := by decide +kernel
theorem dX9_stuck_1 : decode cX9_stuck 1 = .ok (.iconst 0, 1) := by decide +kernel
theorem dX9_stuck_2 : decode cX9_stuck 2 = .ok (.putfield 129, 3) := by decide +kernel
theorem dX9_stuck_5 : decode cX9_stuck 5 = .ok (.aload_n 0, 1) := by decide +kernel
theorem dX9_stuck_6 : decode cX9_stuck 6 = .ok (.iload_n 1, 1) := by decide +kernel
theorem dX9_stuck_7 : decode cX9_stuck 7 = .ok (.iload_n 2, 1) := by decide +kernel
theorem dX9_stuck_8 : decode cX9_stuck 8 = .ok (.invokevirtual 433, 3) := by decide +kernel
theorem dX9_stuck_11 : decode cX9_stuck 11 = .ok (.ifCond .ne 6, 3) := by decide +kernel
theorem dX9_stuck_14 : decode cX9_stuck 14 = .ok (.bipush (-2), 2) := by decide +kernel
theorem dX9_stuck_16 : decode cX9_stuck 16 = .ok (.ireturn, 1) := by decide +kernel
set_option maxHeartbeats 4000000 in
set_option maxRecDepth 100000 in
theorem c_X9_stuck (l : Launch) (D : va_G) (cy : Nat → ClassId) (g : Nat → Nat) (p1 : Int32) (p2 : Int32) (sz : Nat) : Met l yX9_stuck (ww yX9_stuck cX9_stuck 4 (some .int)) ({ frames := 4, cells := 0, slots := 0, locals := 256 }) (va_Pc [.ref (g 60), .int p1, .int p2] (pre D cy [(g 60, .inr (9, mF g)), (g 17, .inl (cy 0, 25, .inl (fun _ => 0)))] sz)) (qi D cy (va_A [(g 60, .inr (9, mF g)), (g 17, .inl (cy 0, 25, .inl (fun _ => 0)))] sz) (fun (r : Int32) (_ : Unit) => r = (-2)) (fun (_ : Unit) => [(g 60, .inr (9, mF g)), (g 17, .inl (cy 0, 25, .inl (fun _ => 0)))])) 0 0 (va_A [(g 60, .inr (9, mF g)), (g 17, .inl (cy 0, 25, .inl (fun _ => 0)))] sz) := by
  refine Met.ofW (cc := cX9_stuck) (maxL := 4) (ret := (some .int)) (by decide) rfl ?_
  intro p e s m args below meth c s₁ B hml hv
  obtain ⟨rfl, hsz, hP, hK, hD0⟩ := hv
  have hx := B.exec
  have hb := B.bytes
  have hr := B.returns
  have hts := hts_g (atoms_spec (ws := ww yX9_stuck cX9_stuck 4 (some .int)) B.pre)
  have hown : s.vm.findClass RX9 = some m.cls := findClass_of_methodNamed B.named
  have hlocks := B.notSynchronized
  subst hsz
  have hD := hD0.self (sz := s.heap.size)
  generalize hAe : va_A [(g 60, .inr (9, mF g)), (g 17, .inl (cy 0, 25, .inl (fun _ => 0)))] s.heap.size = A at hD ⊢
  have hA : ∀ q : Nat, s.heap.size ≤ q → A q := fun q h => by rw [← hAe]; exact Or.inr h
  have hS : va_S A s.heap s.heap [] := va_S.rf
  have hl := lv_entry ([.ref (g 60), .int p1, .int p2]) (n := 4) (Nat.le_of_ble_eq_true rfl)
  rw [lg_entry_eq]
  generalize (lg_sl ([.ref (g 60), .int p1, .int p2]) ++ List.replicate (4 - (lg_sl ([.ref (g 60), .int p1, .int p2])).length) Slot.unset).toArray = ls at hl ⊢
  have hl : lv_has ls 4 [(0, .ref (g 60)), (1, .int p1), (2, .int p2)] := hl
  refine lv_aload_n hx hb dX9_stuck_0 rfl (lv_at hl 0 rfl) ?_
  refine lv_iconst (v := 0) hx hb dX9_stuck_1 (by decide) ?_
  refine va_put (D := D) (ci := 9) (v := .int 0) (ty := .int) (C := RX9) (T := TX9) (N := 60) hx hb hts iX9 tyX9 tyX9_ok nmX9 hown hK hP hD hS 0 rfl rfl 0 (by decide) (hts _ q1360) (fun _ h9 => h9) rfl (by decide +kernel) rfl rfl (Nat.le_of_ble_eq_true rfl) dX9_stuck_2 (fun H locs hP hD hS => ?_)
  have hP : va_P D clz [(g 60, .inr (9, mF g)), (g 17, .inl (cy 0, 25, .inl (fun _ => 0)))] H := hP
  have hD : va_D A [(g 60, .inr (9, mF g)), (g 17, .inl (cy 0, 25, .inl (fun _ => 0)))] := hD
  refine lv_aload_n hx hb dX9_stuck_5 rfl (lv_at hl 0 rfl) ?_
  refine lv_iload_n hx hb dX9_stuck_6 rfl (lv_at hl 1 rfl) ?_
  refine lv_iload_n hx hb dX9_stuck_7 rfl (lv_at hl 2 rfl) ?_
  have hPc := hP.sub (ws' := [(g 60, .inr (9, mF g)), (g 17, .inl (cy 0, 25, .inl (fun _ => 0)))]) [0, 1] rfl
  have hDc := hD.sub (ws' := [(g 60, .inr (9, mF g)), (g 17, .inl (cy 0, 25, .inl (fun _ => 0)))]) [0, 1] (by decide) rfl
  have hFc := va_free (wc := [(g 60, .inr (9, mF g)), (g 17, .inl (cy 0, 25, .inl (fun _ => 0)))]) hD hS hA [0, 1] rfl
  refine va_calli (va_runV (As := [.int p1, .int p2]) (rest := []) ⟨hx, hb, hml, hown, hts⟩ (c_X9_isPlaying l D cy g p1 p2 H.size) (cwV 2 hts (gd_V q1822 q1824 q87 q134 q1825) rfl rfl rfl (by decide +kernel) ⟨Nat.le_of_ble_eq_true rfl, Nat.le_of_ble_eq_true rfl⟩) (pr_V hPc hK hDc (va_recv hK hPc (ci := 9) (q0 := 0) rfl rfl)) rfl rfl hl.1 rfl (lv_room (Nat.le_of_ble_eq_true rfl)) dX9_stuck_8 ⟨Nat.le_of_ble_eq_true rfl, Nat.le_of_ble_eq_true rfl⟩) hS (fun q _ h => hFc q h) hFc (fun r_1 u tS H1 locs ht hvm hw hB hz1 hk1 hS => ?_)
  obtain ⟨hP1, hK1, hD1⟩ := hB
  rw [ht] at hP1
  try dsimp only at hw
  obtain ⟨hP, hD⟩ := va_join (wr := []) (w1 := [(g 60, .inr (9, mF g)), (g 17, .inl (cy 0, 25, .inl (fun _ => 0)))]) hP hD [0, 1] [] rfl rfl (by decide) (by decide) hk1 hFc hP1 hD1
  generalize H1 = H at hP hS ⊢
  have hP : va_P D clz [(g 60, .inr (9, mF g)), (g 17, .inl (cy 0, 25, .inl (fun _ => 0)))] H := hP
  have hD : va_D A [(g 60, .inr (9, mF g)), (g 17, .inl (cy 0, 25, .inl (fun _ => 0)))] := hD
  subst hw
  refine lv_if_ne (tgt := 17) hx hb dX9_stuck_11 (by decide) (fun c9 => absurd c9 (by decide)) (fun _ => ?_)
  refine lv_bipush (v := (-2)) hx hb dX9_stuck_14 (by decide) ?_
  have hP9 := hP.sub (ws' := [(g 60, .inr (9, mF g)), (g 17, .inl (cy 0, 25, .inl (fun _ => 0)))]) [0, 1] rfl
  have hD9 := hD.sub (ws' := [(g 60, .inr (9, mF g)), (g 17, .inl (cy 0, 25, .inl (fun _ => 0)))]) [0, 1] (by decide) rfl
  exact W.iret (v := (-2)) hx hb hr (fun tS ht hW => ⟨⟨(-2), (), rfl, rfl, by rw [ht]; exact hP9, va_K.moved hW.alike hK, hD9⟩, hS.F ht⟩) hS.2.2 dX9_stuck_16

theorem q1903 : Cond.code yX9_quick cX9_quick 4 (some .int) ∈ lw_g := lw_gm (List.mem_of_getElem? (i := 1903) (by decide +kernel)) rfl
theorem dX9_quick_0 : decode cX9_quick 0 = .ok (.aload_n 0, 1) := by decide +kernel
theorem dX9_quick_1 : decode cX9_quick 1 = .ok (.iconst 0, 1) := by decide +kernel
theorem dX9_quick_2 : decode cX9_quick 2 = .ok (.putfield 129, 3) := by decide +kernel
theorem dX9_quick_5 : decode cX9_quick 5 = .ok (.aload_n 0, 1) := by decide +kernel
theorem dX9_quick_6 : decode cX9_quick 6 = .ok (.iload_n 1, 1) := by decide +kernel
theorem dX9_quick_7 : decode cX9_quick 7 = .ok (.iload_n 2, 1) := by decide +kernel
theorem dX9_quick_8 : decode cX9_quick 8 = .ok (.invokevirtual 433, 3) := by decide +kernel
theorem dX9_quick_11 : decode cX9_quick 11 = .ok (.ifCond .ne 6, 3) := by decide +kernel
theorem dX9_quick_14 : decode cX9_quick 14 = .ok (.bipush (-2), 2) := by decide +kernel
theorem dX9_quick_16 : decode cX9_quick 16 = .ok (.ireturn, 1) := by decide +kernel
set_option maxHeartbeats 4000000 in
set_option maxRecDepth 100000 in
theorem c_X9_quick (l : Launch) (D : va_G) (cy : Nat → ClassId) (g : Nat → Nat) (p1 : Int32) (p2 : Int32) (sz : Nat) : Met l yX9_quick (ww yX9_quick cX9_quick 4 (some .int)) ({ frames := 4, cells := 0, slots := 0, locals := 256 }) (va_Pc [.ref (g 60), .int p1, .int p2] (pre D cy [(g 60, .inr (9, mF g)), (g 17, .inl (cy 0, 25, .inl (fun _ => 0)))] sz)) (qi D cy (va_A [(g 60, .inr (9, mF g)), (g 17, .inl (cy 0, 25, .inl (fun _ => 0)))] sz) (fun (r : Int32) (_ : Unit) => r = (-2)) (fun (_ : Unit) => [(g 60, .inr (9, mF g)), (g 17, .inl (cy 0, 25, .inl (fun _ => 0)))])) 0 0 (va_A [(g 60, .inr (9, mF g)), (g 17, .inl (cy 0, 25, .inl (fun _ => 0)))] sz) := by
  refine Met.ofW (cc := cX9_quick) (maxL := 4) (ret := (some .int)) (by decide) rfl ?_
  intro p e s m args below meth c s₁ B hml hv
  obtain ⟨rfl, hsz, hP, hK, hD0⟩ := hv
  have hx := B.exec
  have hb := B.bytes
  have hr := B.returns
  have hts := hts_g (atoms_spec (ws := ww yX9_quick cX9_quick 4 (some .int)) B.pre)
  have hown : s.vm.findClass RX9 = some m.cls := findClass_of_methodNamed B.named
  have hlocks := B.notSynchronized
  subst hsz
  have hD := hD0.self (sz := s.heap.size)
  generalize hAe : va_A [(g 60, .inr (9, mF g)), (g 17, .inl (cy 0, 25, .inl (fun _ => 0)))] s.heap.size = A at hD ⊢
  have hA : ∀ q : Nat, s.heap.size ≤ q → A q := fun q h => by rw [← hAe]; exact Or.inr h
  have hS : va_S A s.heap s.heap [] := va_S.rf
  have hl := lv_entry ([.ref (g 60), .int p1, .int p2]) (n := 4) (Nat.le_of_ble_eq_true rfl)
  rw [lg_entry_eq]
  generalize (lg_sl ([.ref (g 60), .int p1, .int p2]) ++ List.replicate (4 - (lg_sl ([.ref (g 60), .int p1, .int p2])).length) Slot.unset).toArray = ls at hl ⊢
  have hl : lv_has ls 4 [(0, .ref (g 60)), (1, .int p1), (2, .int p2)] := hl
  refine lv_aload_n hx hb dX9_quick_0 rfl (lv_at hl 0 rfl) ?_
  refine lv_iconst (v := 0) hx hb dX9_quick_1 (by decide) ?_
  refine va_put (D := D) (ci := 9) (v := .int 0) (ty := .int) (C := RX9) (T := TX9) (N := 60) hx hb hts iX9 tyX9 tyX9_ok nmX9 hown hK hP hD hS 0 rfl rfl 0 (by decide) (hts _ q1360) (fun _ h9 => h9) rfl (by decide +kernel) rfl rfl (Nat.le_of_ble_eq_true rfl) dX9_quick_2 (fun H locs hP hD hS => ?_)
  have hP : va_P D clz [(g 60, .inr (9, mF g)), (g 17, .inl (cy 0, 25, .inl (fun _ => 0)))] H := hP
  have hD : va_D A [(g 60, .inr (9, mF g)), (g 17, .inl (cy 0, 25, .inl (fun _ => 0)))] := hD
  refine lv_aload_n hx hb dX9_quick_5 rfl (lv_at hl 0 rfl) ?_
  refine lv_iload_n hx hb dX9_quick_6 rfl (lv_at hl 1 rfl) ?_
  refine lv_iload_n hx hb dX9_quick_7 rfl (lv_at hl 2 rfl) ?_
  have hPc := hP.sub (ws' := [(g 60, .inr (9, mF g)), (g 17, .inl (cy 0, 25, .inl (fun _ => 0)))]) [0, 1] rfl
  have hDc := hD.sub (ws' := [(g 60, .inr (9, mF g)), (g 17, .inl (cy 0, 25, .inl (fun _ => 0)))]) [0, 1] (by decide) rfl
  have hFc := va_free (wc := [(g 60, .inr (9, mF g)), (g 17, .inl (cy 0, 25, .inl (fun _ => 0)))]) hD hS hA [0, 1] rfl
  refine va_calli (va_runV (As := [.int p1, .int p2]) (rest := []) ⟨hx, hb, hml, hown, hts⟩ (c_X9_isPlaying l D cy g p1 p2 H.size) (cwV 2 hts (gd_V q1822 q1824 q87 q134 q1825) rfl rfl rfl (by decide +kernel) ⟨Nat.le_of_ble_eq_true rfl, Nat.le_of_ble_eq_true rfl⟩) (pr_V hPc hK hDc (va_recv hK hPc (ci := 9) (q0 := 0) rfl rfl)) rfl rfl hl.1 rfl (lv_room (Nat.le_of_ble_eq_true rfl)) dX9_quick_8 ⟨Nat.le_of_ble_eq_true rfl, Nat.le_of_ble_eq_true rfl⟩) hS (fun q _ h => hFc q h) hFc (fun r_1 u tS H1 locs ht hvm hw hB hz1 hk1 hS => ?_)
  obtain ⟨hP1, hK1, hD1⟩ := hB
  rw [ht] at hP1
  try dsimp only at hw
  obtain ⟨hP, hD⟩ := va_join (wr := []) (w1 := [(g 60, .inr (9, mF g)), (g 17, .inl (cy 0, 25, .inl (fun _ => 0)))]) hP hD [0, 1] [] rfl rfl (by decide) (by decide) hk1 hFc hP1 hD1
  generalize H1 = H at hP hS ⊢
  have hP : va_P D clz [(g 60, .inr (9, mF g)), (g 17, .inl (cy 0, 25, .inl (fun _ => 0)))] H := hP
  have hD : va_D A [(g 60, .inr (9, mF g)), (g 17, .inl (cy 0, 25, .inl (fun _ => 0)))] := hD
  subst hw
  refine lv_if_ne (tgt := 17) hx hb dX9_quick_11 (by decide) (fun c9 => absurd c9 (by decide)) (fun _ => ?_)
  refine lv_bipush (v := (-2)) hx hb dX9_quick_14 (by decide) ?_
  have hP9 := hP.sub (ws' := [(g 60, .inr (9, mF g)), (g 17, .inl (cy 0, 25, .inl (fun _ => 0)))]) [0, 1] rfl
  have hD9 := hD.sub (ws' := [(g 60, .inr (9, mF g)), (g 17, .inl (cy 0, 25, .inl (fun _ => 0)))]) [0, 1] (by decide) rfl
  exact W.iret (v := (-2)) hx hb hr (fun tS ht hW => ⟨⟨(-2), (), rfl, rfl, by rw [ht]; exact hP9, va_K.moved hW.alike hK, hD9⟩, hS.F ht⟩) hS.2.2 dX9_quick_16

theorem q1907 : Cond.code yX9_cents cX9_cents 4 (some .int) ∈ lw_g := lw_gm (List.mem_of_getElem? (i := 1907) (by decide +kernel)) rfl
theorem dX9_cents_0 : decode cX9_cents 0 = .ok (.aload_n 0, 1) := by decide +kernel
theorem dX9_cents_1 : decode cX9_cents 1 = .ok (.iconst 0, 1) := by decide +kernel
theorem dX9_cents_2 : decode cX9_cents 2 = .ok (.putfield 129, 3) := by decide +kernel
theorem dX9_cents_5 : decode cX9_cents 5 = .ok (.aload_n 0, 1) := by decide +kernel
theorem dX9_cents_6 : decode cX9_cents 6 = .ok (.iload_n 1, 1) := by decide +kernel
theorem dX9_cents_7 : decode cX9_cents 7 = .ok (.iload_n 2, 1) := by decide +kernel
theorem dX9_cents_8 : decode cX9_cents 8 = .ok (.invokevirtual 433, 3) := by decide +kernel
theorem dX9_cents_11 : decode cX9_cents 11 = .ok (.ifCond .ne 6, 3) := by decide +kernel
theorem dX9_cents_14 : decode cX9_cents 14 = .ok (.bipush (-2), 2) := by decide +kernel
theorem dX9_cents_16 : decode cX9_cents 16 = .ok (.ireturn, 1) := by decide +kernel
set_option maxHeartbeats 4000000 in
set_option maxRecDepth 100000 in
theorem c_X9_cents (l : Launch) (D : va_G) (cy : Nat → ClassId) (g : Nat → Nat) (p1 : Int32) (p2 : Int32) (sz : Nat) : Met l yX9_cents (ww yX9_cents cX9_cents 4 (some .int)) ({ frames := 4, cells := 0, slots := 0, locals := 256 }) (va_Pc [.ref (g 60), .int p1, .int p2] (pre D cy [(g 60, .inr (9, mF g)), (g 17, .inl (cy 0, 25, .inl (fun _ => 0)))] sz)) (qi D cy (va_A [(g 60, .inr (9, mF g)), (g 17, .inl (cy 0, 25, .inl (fun _ => 0)))] sz) (fun (r : Int32) (_ : Unit) => r = (-2)) (fun (_ : Unit) => [(g 60, .inr (9, mF g)), (g 17, .inl (cy 0, 25, .inl (fun _ => 0)))])) 0 0 (va_A [(g 60, .inr (9, mF g)), (g 17, .inl (cy 0, 25, .inl (fun _ => 0)))] sz) := by
  refine Met.ofW (cc := cX9_cents) (maxL := 4) (ret := (some .int)) (by decide) rfl ?_
  intro p e s m args below meth c s₁ B hml hv
  obtain ⟨rfl, hsz, hP, hK, hD0⟩ := hv
  have hx := B.exec
  have hb := B.bytes
  have hr := B.returns
  have hts := hts_g (atoms_spec (ws := ww yX9_cents cX9_cents 4 (some .int)) B.pre)
  have hown : s.vm.findClass RX9 = some m.cls := findClass_of_methodNamed B.named
  have hlocks := B.notSynchronized
  subst hsz
  have hD := hD0.self (sz := s.heap.size)
  generalize hAe : va_A [(g 60, .inr (9, mF g)), (g 17, .inl (cy 0, 25, .inl (fun _ => 0)))] s.heap.size = A at hD ⊢
  have hA : ∀ q : Nat, s.heap.size ≤ q → A q := fun q h => by rw [← hAe]; exact Or.inr h
  have hS : va_S A s.heap s.heap [] := va_S.rf
  have hl := lv_entry ([.ref (g 60), .int p1, .int p2]) (n := 4) (Nat.le_of_ble_eq_true rfl)
  rw [lg_entry_eq]
  generalize (lg_sl ([.ref (g 60), .int p1, .int p2]) ++ List.replicate (4 - (lg_sl ([.ref (g 60), .int p1, .int p2])).length) Slot.unset).toArray = ls at hl ⊢
  have hl : lv_has ls 4 [(0, .ref (g 60)), (1, .int p1), (2, .int p2)] := hl
  refine lv_aload_n hx hb dX9_cents_0 rfl (lv_at hl 0 rfl) ?_
  refine lv_iconst (v := 0) hx hb dX9_cents_1 (by decide) ?_
  refine va_put (D := D) (ci := 9) (v := .int 0) (ty := .int) (C := RX9) (T := TX9) (N := 60) hx hb hts iX9 tyX9 tyX9_ok nmX9 hown hK hP hD hS 0 rfl rfl 0 (by decide) (hts _ q1360) (fun _ h9 => h9) rfl (by decide +kernel) rfl rfl (Nat.le_of_ble_eq_true rfl) dX9_cents_2 (fun H locs hP hD hS => ?_)
  have hP : va_P D clz [(g 60, .inr (9, mF g)), (g 17, .inl (cy 0, 25, .inl (fun _ => 0)))] H := hP
  have hD : va_D A [(g 60, .inr (9, mF g)), (g 17, .inl (cy 0, 25, .inl (fun _ => 0)))] := hD
  refine lv_aload_n hx hb dX9_cents_5 rfl (lv_at hl 0 rfl) ?_
  refine lv_iload_n hx hb dX9_cents_6 rfl (lv_at hl 1 rfl) ?_
  refine lv_iload_n hx hb dX9_cents_7 rfl (lv_at hl 2 rfl) ?_
  have hPc := hP.sub (ws' := [(g 60, .inr (9, mF g)), (g 17, .inl (cy 0, 25, .inl (fun _ => 0)))]) [0, 1] rfl
  have hDc := hD.sub (ws' := [(g 60, .inr (9, mF g)), (g 17, .inl (cy 0, 25, .inl (fun _ => 0)))]) [0, 1] (by decide) rfl
  have hFc := va_free (wc := [(g 60, .inr (9, mF g)), (g 17, .inl (cy 0, 25, .inl (fun _ => 0)))]) hD hS hA [0, 1] rfl
  refine va_calli (va_runV (As := [.int p1, .int p2]) (rest := []) ⟨hx, hb, hml, hown, hts⟩ (c_X9_isPlaying l D cy g p1 p2 H.size) (cwV 2 hts (gd_V q1822 q1824 q87 q134 q1825) rfl rfl rfl (by decide +kernel) ⟨Nat.le_of_ble_eq_true rfl, Nat.le_of_ble_eq_true rfl⟩) (pr_V hPc hK hDc (va_recv hK hPc (ci := 9) (q0 := 0) rfl rfl)) rfl rfl hl.1 rfl (lv_room (Nat.le_of_ble_eq_true rfl)) dX9_cents_8 ⟨Nat.le_of_ble_eq_true rfl, Nat.le_of_ble_eq_true rfl⟩) hS (fun q _ h => hFc q h) hFc (fun r_1 u tS H1 locs ht hvm hw hB hz1 hk1 hS => ?_)
  obtain ⟨hP1, hK1, hD1⟩ := hB
  rw [ht] at hP1
  try dsimp only at hw
  obtain ⟨hP, hD⟩ := va_join (wr := []) (w1 := [(g 60, .inr (9, mF g)), (g 17, .inl (cy 0, 25, .inl (fun _ => 0)))]) hP hD [0, 1] [] rfl rfl (by decide) (by decide) hk1 hFc hP1 hD1
  generalize H1 = H at hP hS ⊢
  have hP : va_P D clz [(g 60, .inr (9, mF g)), (g 17, .inl (cy 0, 25, .inl (fun _ => 0)))] H := hP
  have hD : va_D A [(g 60, .inr (9, mF g)), (g 17, .inl (cy 0, 25, .inl (fun _ => 0)))] := hD
  subst hw
  refine lv_if_ne (tgt := 17) hx hb dX9_cents_11 (by decide) (fun c9 => absurd c9 (by decide)) (fun _ => ?_)
  refine lv_bipush (v := (-2)) hx hb dX9_cents_14 (by decide) ?_
  have hP9 := hP.sub (ws' := [(g 60, .inr (9, mF g)), (g 17, .inl (cy 0, 25, .inl (fun _ => 0)))]) [0, 1] rfl
  have hD9 := hD.sub (ws' := [(g 60, .inr (9, mF g)), (g 17, .inl (cy 0, 25, .inl (fun _ => 0)))]) [0, 1] (by decide) rfl
  exact W.iret (v := (-2)) hx hb hr (fun tS ht hW => ⟨⟨(-2), (), rfl, rfl, by rw [ht]; exact hP9, va_K.moved hW.alike hK, hD9⟩, hS.F ht⟩) hS.2.2 dX9_cents_16

theorem q1911 : Cond.code yX9_many cX9_many 3 (some .int) ∈ lw_g := lw_gm (List.mem_of_getElem? (i := 1911) (by decide +kernel)) rfl
theorem dX9_many_0 : decode cX9_many 0 = .ok (.aload_n 0, 1) := by decide +kernel
theorem dX9_many_1 : decode cX9_many 1 = .ok (.iconst 0, 1) := by decide +kernel
theorem dX9_many_2 : decode cX9_many 2 = .ok (.putfield 129, 3) := by decide +kernel
theorem dX9_many_5 : decode cX9_many 5 = .ok (.aload_n 0, 1) := by decide +kernel
theorem dX9_many_6 : decode cX9_many 6 = .ok (.iload_n 1, 1) := by decide +kernel
theorem dX9_many_7 : decode cX9_many 7 = .ok (.iload_n 2, 1) := by decide +kernel
theorem dX9_many_8 : decode cX9_many 8 = .ok (.invokevirtual 433, 3) := by decide +kernel
theorem dX9_many_11 : decode cX9_many 11 = .ok (.ifCond .ne 6, 3) := by decide +kernel
theorem dX9_many_14 : decode cX9_many 14 = .ok (.bipush (-2), 2) := by decide +kernel
theorem dX9_many_16 : decode cX9_many 16 = .ok (.ireturn, 1) := by decide +kernel
set_option maxHeartbeats 4000000 in
set_option maxRecDepth 100000 in
theorem c_X9_many (l : Launch) (D : va_G) (cy : Nat → ClassId) (g : Nat → Nat) (p1 : Int32) (p2 : Int32) (sz : Nat) : Met l yX9_many (ww yX9_many cX9_many 3 (some .int)) ({ frames := 4, cells := 0, slots := 0, locals := 256 }) (va_Pc [.ref (g 60), .int p1, .int p2] (pre D cy [(g 60, .inr (9, mF g)), (g 17, .inl (cy 0, 25, .inl (fun _ => 0)))] sz)) (qi D cy (va_A [(g 60, .inr (9, mF g)), (g 17, .inl (cy 0, 25, .inl (fun _ => 0)))] sz) (fun (r : Int32) (_ : Unit) => r = (-2)) (fun (_ : Unit) => [(g 60, .inr (9, mF g)), (g 17, .inl (cy 0, 25, .inl (fun _ => 0)))])) 0 0 (va_A [(g 60, .inr (9, mF g)), (g 17, .inl (cy 0, 25, .inl (fun _ => 0)))] sz) := by
  refine Met.ofW (cc := cX9_many) (maxL := 3) (ret := (some .int)) (by decide) rfl ?_
  intro p e s m args below meth c s₁ B hml hv
  obtain ⟨rfl, hsz, hP, hK, hD0⟩ := hv
  have hx := B.exec
  have hb := B.bytes
  have hr := B.returns
  have hts := hts_g (atoms_spec (ws := ww yX9_many cX9_many 3 (some .int)) B.pre)
  have hown : s.vm.findClass RX9 = some m.cls := findClass_of_methodNamed B.named
  have hlocks := B.notSynchronized
  subst hsz
  have hD := hD0.self (sz := s.heap.size)
  generalize hAe : va_A [(g 60, .inr (9, mF g)), (g 17, .inl (cy 0, 25, .inl (fun _ => 0)))] s.heap.size = A at hD ⊢
  have hA : ∀ q : Nat, s.heap.size ≤ q → A q := fun q h => by rw [← hAe]; exact Or.inr h
  have hS : va_S A s.heap s.heap [] := va_S.rf
  have hl := lv_entry ([.ref (g 60), .int p1, .int p2]) (n := 3) (Nat.le_of_ble_eq_true rfl)
  rw [lg_entry_eq]
  generalize (lg_sl ([.ref (g 60), .int p1, .int p2]) ++ List.replicate (3 - (lg_sl ([.ref (g 60), .int p1, .int p2])).length) Slot.unset).toArray = ls at hl ⊢
  have hl : lv_has ls 3 [(0, .ref (g 60)), (1, .int p1), (2, .int p2)] := hl
  refine lv_aload_n hx hb dX9_many_0 rfl (lv_at hl 0 rfl) ?_
  refine lv_iconst (v := 0) hx hb dX9_many_1 (by decide) ?_
  refine va_put (D := D) (ci := 9) (v := .int 0) (ty := .int) (C := RX9) (T := TX9) (N := 60) hx hb hts iX9 tyX9 tyX9_ok nmX9 hown hK hP hD hS 0 rfl rfl 0 (by decide) (hts _ q1360) (fun _ h9 => h9) rfl (by decide +kernel) rfl rfl (Nat.le_of_ble_eq_true rfl) dX9_many_2 (fun H locs hP hD hS => ?_)
  have hP : va_P D clz [(g 60, .inr (9, mF g)), (g 17, .inl (cy 0, 25, .inl (fun _ => 0)))] H := hP
  have hD : va_D A [(g 60, .inr (9, mF g)), (g 17, .inl (cy 0, 25, .inl (fun _ => 0)))] := hD
  refine lv_aload_n hx hb dX9_many_5 rfl (lv_at hl 0 rfl) ?_
  refine lv_iload_n hx hb dX9_many_6 rfl (lv_at hl 1 rfl) ?_
  refine lv_iload_n hx hb dX9_many_7 rfl (lv_at hl 2 rfl) ?_
  have hPc := hP.sub (ws' := [(g 60, .inr (9, mF g)), (g 17, .inl (cy 0, 25, .inl (fun _ => 0)))]) [0, 1] rfl
  have hDc := hD.sub (ws' := [(g 60, .inr (9, mF g)), (g 17, .inl (cy 0, 25, .inl (fun _ => 0)))]) [0, 1] (by decide) rfl
  have hFc := va_free (wc := [(g 60, .inr (9, mF g)), (g 17, .inl (cy 0, 25, .inl (fun _ => 0)))]) hD hS hA [0, 1] rfl
  refine va_calli (va_runV (As := [.int p1, .int p2]) (rest := []) ⟨hx, hb, hml, hown, hts⟩ (c_X9_isPlaying l D cy g p1 p2 H.size) (cwV 2 hts (gd_V q1822 q1824 q87 q134 q1825) rfl rfl rfl (by decide +kernel) ⟨Nat.le_of_ble_eq_true rfl, Nat.le_of_ble_eq_true rfl⟩) (pr_V hPc hK hDc (va_recv hK hPc (ci := 9) (q0 := 0) rfl rfl)) rfl rfl hl.1 rfl (lv_room (Nat.le_of_ble_eq_true rfl)) dX9_many_8 ⟨Nat.le_of_ble_eq_true rfl, Nat.le_of_ble_eq_true rfl⟩) hS (fun q _ h => hFc q h) hFc (fun r_1 u tS H1 locs ht hvm hw hB hz1 hk1 hS => ?_)
  obtain ⟨hP1, hK1, hD1⟩ := hB
  rw [ht] at hP1
  try dsimp only at hw
  obtain ⟨hP, hD⟩ := va_join (wr := []) (w1 := [(g 60, .inr (9, mF g)), (g 17, .inl (cy 0, 25, .inl (fun _ => 0)))]) hP hD [0, 1] [] rfl rfl (by decide) (by decide) hk1 hFc hP1 hD1
  generalize H1 = H at hP hS ⊢
  have hP : va_P D clz [(g 60, .inr (9, mF g)), (g 17, .inl (cy 0, 25, .inl (fun _ => 0)))] H := hP
  have hD : va_D A [(g 60, .inr (9, mF g)), (g 17, .inl (cy 0, 25, .inl (fun _ => 0)))] := hD
  subst hw
  refine lv_if_ne (tgt := 17) hx hb dX9_many_11 (by decide) (fun c9 => absurd c9 (by decide)) (fun _ => ?_)
  refine lv_bipush (v := (-2)) hx hb dX9_many_14 (by decide) ?_
  have hP9 := hP.sub (ws' := [(g 60, .inr (9, mF g)), (g 17, .inl (cy 0, 25, .inl (fun _ => 0)))]) [0, 1] rfl
  have hD9 := hD.sub (ws' := [(g 60, .inr (9, mF g)), (g 17, .inl (cy 0, 25, .inl (fun _ => 0)))]) [0, 1] (by decide) rfl
  exact W.iret (v := (-2)) hx hb hr (fun tS ht hW => ⟨⟨(-2), (), rfl, rfl, by rw [ht]; exact hP9, va_K.moved hW.alike hK, hD9⟩, hS.F ht⟩) hS.2.2 dX9_many_16

theorem q1915 : Cond.code yX9_moved cX9_moved 4 (some .int) ∈ lw_g := lw_gm (List.mem_of_getElem? (i := 1915) (by decide +kernel)) rfl
theorem dX9_moved_0 : decode cX9_moved 0 = .ok (.aload_n 0, 1) := by decide +kernel
theorem dX9_moved_1 : decode cX9_moved 1 = .ok (.iconst 0, 1) := by decide +kernel
theorem dX9_moved_2 : decode cX9_moved 2 = .ok (.putfield 129, 3) := by decide +kernel
theorem dX9_moved_5 : decode cX9_moved 5 = .ok (.aload_n 0, 1) := by decide +kernel
theorem dX9_moved_6 : decode cX9_moved 6 = .ok (.iload_n 1, 1) := by decide +kernel
theorem dX9_moved_7 : decode cX9_moved 7 = .ok (.iload_n 2, 1) := by decide +kernel
theorem dX9_moved_8 : decode cX9_moved 8 = .ok (.invokevirtual 433, 3) := by decide +kernel
theorem dX9_moved_11 : decode cX9_moved 11 = .ok (.ifCond .ne 6, 3) := by decide +kernel
theorem dX9_moved_14 : decode cX9_moved 14 = .ok (.bipush (-2), 2) := by decide +kernel
theorem dX9_moved_16 : decode cX9_moved 16 = .ok (.ireturn, 1) := by decide +kernel
set_option maxHeartbeats 4000000 in
set_option maxRecDepth 100000 in
theorem c_X9_moved (l : Launch) (D : va_G) (cy : Nat → ClassId) (g : Nat → Nat) (p1 : Int32) (p2 : Int32) (sz : Nat) : Met l yX9_moved (ww yX9_moved cX9_moved 4 (some .int)) ({ frames := 4, cells := 0, slots := 0, locals := 256 }) (va_Pc [.ref (g 60), .int p1, .int p2] (pre D cy [(g 60, .inr (9, mF g)), (g 17, .inl (cy 0, 25, .inl (fun _ => 0)))] sz)) (qi D cy (va_A [(g 60, .inr (9, mF g)), (g 17, .inl (cy 0, 25, .inl (fun _ => 0)))] sz) (fun (r : Int32) (_ : Unit) => r = (-2)) (fun (_ : Unit) => [(g 60, .inr (9, mF g)), (g 17, .inl (cy 0, 25, .inl (fun _ => 0)))])) 0 0 (va_A [(g 60, .inr (9, mF g)), (g 17, .inl (cy 0, 25, .inl (fun _ => 0)))] sz) := by
  refine Met.ofW (cc := cX9_moved) (maxL := 4) (ret := (some .int)) (by decide) rfl ?_
  intro p e s m args below meth c s₁ B hml hv
  obtain ⟨rfl, hsz, hP, hK, hD0⟩ := hv
  have hx := B.exec
  have hb := B.bytes
  have hr := B.returns
  have hts := hts_g (atoms_spec (ws := ww yX9_moved cX9_moved 4 (some .int)) B.pre)
  have hown : s.vm.findClass RX9 = some m.cls := findClass_of_methodNamed B.named
  have hlocks := B.notSynchronized
  subst hsz
  have hD := hD0.self (sz := s.heap.size)
  generalize hAe : va_A [(g 60, .inr (9, mF g)), (g 17, .inl (cy 0, 25, .inl (fun _ => 0)))] s.heap.size = A at hD ⊢
  have hA : ∀ q : Nat, s.heap.size ≤ q → A q := fun q h => by rw [← hAe]; exact Or.inr h
  have hS : va_S A s.heap s.heap [] := va_S.rf
  have hl := lv_entry ([.ref (g 60), .int p1, .int p2]) (n := 4) (Nat.le_of_ble_eq_true rfl)
  rw [lg_entry_eq]
  generalize (lg_sl ([.ref (g 60), .int p1, .int p2]) ++ List.replicate (4 - (lg_sl ([.ref (g 60), .int p1, .int p2])).length) Slot.unset).toArray = ls at hl ⊢
  have hl : lv_has ls 4 [(0, .ref (g 60)), (1, .int p1), (2, .int p2)] := hl
  refine lv_aload_n hx hb dX9_moved_0 rfl (lv_at hl 0 rfl) ?_
  refine lv_iconst (v := 0) hx hb dX9_moved_1 (by decide) ?_
  refine va_put (D := D) (ci := 9) (v := .int 0) (ty := .int) (C := RX9) (T := TX9) (N := 60) hx hb hts iX9 tyX9 tyX9_ok nmX9 hown hK hP hD hS 0 rfl rfl 0 (by decide) (hts _ q1360) (fun _ h9 => h9) rfl (by decide +kernel) rfl rfl (Nat.le_of_ble_eq_true rfl) dX9_moved_2 (fun H locs hP hD hS => ?_)
  have hP : va_P D clz [(g 60, .inr (9, mF g)), (g 17, .inl (cy 0, 25, .inl (fun _ => 0)))] H := hP
  have hD : va_D A [(g 60, .inr (9, mF g)), (g 17, .inl (cy 0, 25, .inl (fun _ => 0)))] := hD
  refine lv_aload_n hx hb dX9_moved_5 rfl (lv_at hl 0 rfl) ?_
  refine lv_iload_n hx hb dX9_moved_6 rfl (lv_at hl 1 rfl) ?_
  refine lv_iload_n hx hb dX9_moved_7 rfl (lv_at hl 2 rfl) ?_
  have hPc := hP.sub (ws' := [(g 60, .inr (9, mF g)), (g 17, .inl (cy 0, 25, .inl (fun _ => 0)))]) [0, 1] rfl
  have hDc := hD.sub (ws' := [(g 60, .inr (9, mF g)), (g 17, .inl (cy 0, 25, .inl (fun _ => 0)))]) [0, 1] (by decide) rfl
  have hFc := va_free (wc := [(g 60, .inr (9, mF g)), (g 17, .inl (cy 0, 25, .inl (fun _ => 0)))]) hD hS hA [0, 1] rfl
  refine va_calli (va_runV (As := [.int p1, .int p2]) (rest := []) ⟨hx, hb, hml, hown, hts⟩ (c_X9_isPlaying l D cy g p1 p2 H.size) (cwV 2 hts (gd_V q1822 q1824 q87 q134 q1825) rfl rfl rfl (by decide +kernel) ⟨Nat.le_of_ble_eq_true rfl, Nat.le_of_ble_eq_true rfl⟩) (pr_V hPc hK hDc (va_recv hK hPc (ci := 9) (q0 := 0) rfl rfl)) rfl rfl hl.1 rfl (lv_room (Nat.le_of_ble_eq_true rfl)) dX9_moved_8 ⟨Nat.le_of_ble_eq_true rfl, Nat.le_of_ble_eq_true rfl⟩) hS (fun q _ h => hFc q h) hFc (fun r_1 u tS H1 locs ht hvm hw hB hz1 hk1 hS => ?_)
  obtain ⟨hP1, hK1, hD1⟩ := hB
  rw [ht] at hP1
  try dsimp only at hw
  obtain ⟨hP, hD⟩ := va_join (wr := []) (w1 := [(g 60, .inr (9, mF g)), (g 17, .inl (cy 0, 25, .inl (fun _ => 0)))]) hP hD [0, 1] [] rfl rfl (by decide) (by decide) hk1 hFc hP1 hD1
  generalize H1 = H at hP hS ⊢
  have hP : va_P D clz [(g 60, .inr (9, mF g)), (g 17, .inl (cy 0, 25, .inl (fun _ => 0)))] H := hP
  have hD : va_D A [(g 60, .inr (9, mF g)), (g 17, .inl (cy 0, 25, .inl (fun _ => 0)))] := hD
  subst hw
  refine lv_if_ne (tgt := 17) hx hb dX9_moved_11 (by decide) (fun c9 => absurd c9 (by decide)) (fun _ => ?_)
  refine lv_bipush (v := (-2)) hx hb dX9_moved_14 (by decide) ?_
  have hP9 := hP.sub (ws' := [(g 60, .inr (9, mF g)), (g 17, .inl (cy 0, 25, .inl (fun _ => 0)))]) [0, 1] rfl
  have hD9 := hD.sub (ws' := [(g 60, .inr (9, mF g)), (g 17, .inl (cy 0, 25, .inl (fun _ => 0)))]) [0, 1] (by decide) rfl
  exact W.iret (v := (-2)) hx hb hr (fun tS ht hW => ⟨⟨(-2), (), rfl, rfl, by rw [ht]; exact hP9, va_K.moved hW.alike hK, hD9⟩, hS.F ht⟩) hS.2.2 dX9_moved_16

theorem q1939 : Cond.code yX9_put cX9_put 5 (some .int) ∈ lw_g := lw_gm (List.mem_of_getElem? (i := 1939) (by decide +kernel)) rfl
theorem dX9_put_0 : decode cX9_put 0 = .ok (.aload_n 0, 1) := by decide +kernel
theorem dX9_put_1 : decode cX9_put 1 = .ok (.iconst 0, 1) := by decide +kernel
theorem dX9_put_2 : decode cX9_put 2 = .ok (.putfield 129, 3) := by decide +kernel
theorem dX9_put_5 : decode cX9_put 5 = .ok (.aload_n 0, 1) := by decide +kernel
theorem dX9_put_6 : decode cX9_put 6 = .ok (.iload_n 1, 1) := by decide +kernel
theorem dX9_put_7 : decode cX9_put 7 = .ok (.iload_n 2, 1) := by decide +kernel
theorem dX9_put_8 : decode cX9_put 8 = .ok (.invokevirtual 433, 3) := by decide +kernel
theorem dX9_put_11 : decode cX9_put 11 = .ok (.ifCond .ne 6, 3) := by decide +kernel
theorem dX9_put_14 : decode cX9_put 14 = .ok (.bipush (-2), 2) := by decide +kernel
theorem dX9_put_16 : decode cX9_put 16 = .ok (.ireturn, 1) := by decide +kernel
set_option maxHeartbeats 4000000 in
set_option maxRecDepth 100000 in
theorem c_X9_put (l : Launch) (D : va_G) (cy : Nat → ClassId) (g : Nat → Nat) (p1 : Int32) (p2 : Int32) (p3 : Int32) (sz : Nat) : Met l yX9_put (ww yX9_put cX9_put 5 (some .int)) ({ frames := 4, cells := 0, slots := 0, locals := 256 }) (va_Pc [.ref (g 60), .int p1, .int p2, .int p3] (pre D cy [(g 60, .inr (9, mF g)), (g 17, .inl (cy 0, 25, .inl (fun _ => 0)))] sz)) (qi D cy (va_A [(g 60, .inr (9, mF g)), (g 17, .inl (cy 0, 25, .inl (fun _ => 0)))] sz) (fun (r : Int32) (_ : Unit) => r = (-2)) (fun (_ : Unit) => [(g 60, .inr (9, mF g)), (g 17, .inl (cy 0, 25, .inl (fun _ => 0)))])) 0 0 (va_A [(g 60, .inr (9, mF g)), (g 17, .inl (cy 0, 25, .inl (fun _ => 0)))] sz) := by
  refine Met.ofW (cc := cX9_put) (maxL := 5) (ret := (some .int)) (by decide) rfl ?_
  intro p e s m args below meth c s₁ B hml hv
  obtain ⟨rfl, hsz, hP, hK, hD0⟩ := hv
  have hx := B.exec
  have hb := B.bytes
  have hr := B.returns
  have hts := hts_g (atoms_spec (ws := ww yX9_put cX9_put 5 (some .int)) B.pre)
  have hown : s.vm.findClass RX9 = some m.cls := findClass_of_methodNamed B.named
  have hlocks := B.notSynchronized
  subst hsz
  have hD := hD0.self (sz := s.heap.size)
  generalize hAe : va_A [(g 60, .inr (9, mF g)), (g 17, .inl (cy 0, 25, .inl (fun _ => 0)))] s.heap.size = A at hD ⊢
  have hA : ∀ q : Nat, s.heap.size ≤ q → A q := fun q h => by rw [← hAe]; exact Or.inr h
  have hS : va_S A s.heap s.heap [] := va_S.rf
  have hl := lv_entry ([.ref (g 60), .int p1, .int p2, .int p3]) (n := 5) (Nat.le_of_ble_eq_true rfl)
  rw [lg_entry_eq]
  generalize (lg_sl ([.ref (g 60), .int p1, .int p2, .int p3]) ++ List.replicate (5 - (lg_sl ([.ref (g 60), .int p1, .int p2, .int p3])).length) Slot.unset).toArray = ls at hl ⊢
  have hl : lv_has ls 5 [(0, .ref (g 60)), (1, .int p1), (2, .int p2), (3, .int p3)] := hl
  refine lv_aload_n hx hb dX9_put_0 rfl (lv_at hl 0 rfl) ?_
  refine lv_iconst (v := 0) hx hb dX9_put_1 (by decide) ?_
  refine va_put (D := D) (ci := 9) (v := .int 0) (ty := .int) (C := RX9) (T := TX9) (N := 60) hx hb hts iX9 tyX9 tyX9_ok nmX9 hown hK hP hD hS 0 rfl rfl 0 (by decide) (hts _ q1360) (fun _ h9 => h9) rfl (by decide +kernel) rfl rfl (Nat.le_of_ble_eq_true rfl) dX9_put_2 (fun H locs hP hD hS => ?_)
  have hP : va_P D clz [(g 60, .inr (9, mF g)), (g 17, .inl (cy 0, 25, .inl (fun _ => 0)))] H := hP
  have hD : va_D A [(g 60, .inr (9, mF g)), (g 17, .inl (cy 0, 25, .inl (fun _ => 0)))] := hD
  refine lv_aload_n hx hb dX9_put_5 rfl (lv_at hl 0 rfl) ?_
  refine lv_iload_n hx hb dX9_put_6 rfl (lv_at hl 1 rfl) ?_
  refine lv_iload_n hx hb dX9_put_7 rfl (lv_at hl 2 rfl) ?_
  have hPc := hP.sub (ws' := [(g 60, .inr (9, mF g)), (g 17, .inl (cy 0, 25, .inl (fun _ => 0)))]) [0, 1] rfl
  have hDc := hD.sub (ws' := [(g 60, .inr (9, mF g)), (g 17, .inl (cy 0, 25, .inl (fun _ => 0)))]) [0, 1] (by decide) rfl
  have hFc := va_free (wc := [(g 60, .inr (9, mF g)), (g 17, .inl (cy 0, 25, .inl (fun _ => 0)))]) hD hS hA [0, 1] rfl
  refine va_calli (va_runV (As := [.int p1, .int p2]) (rest := []) ⟨hx, hb, hml, hown, hts⟩ (c_X9_isPlaying l D cy g p1 p2 H.size) (cwV 2 hts (gd_V q1822 q1824 q87 q134 q1825) rfl rfl rfl (by decide +kernel) ⟨Nat.le_of_ble_eq_true rfl, Nat.le_of_ble_eq_true rfl⟩) (pr_V hPc hK hDc (va_recv hK hPc (ci := 9) (q0 := 0) rfl rfl)) rfl rfl hl.1 rfl (lv_room (Nat.le_of_ble_eq_true rfl)) dX9_put_8 ⟨Nat.le_of_ble_eq_true rfl, Nat.le_of_ble_eq_true rfl⟩) hS (fun q _ h => hFc q h) hFc (fun r_1 u tS H1 locs ht hvm hw hB hz1 hk1 hS => ?_)
  obtain ⟨hP1, hK1, hD1⟩ := hB
  rw [ht] at hP1
  try dsimp only at hw
  obtain ⟨hP, hD⟩ := va_join (wr := []) (w1 := [(g 60, .inr (9, mF g)), (g 17, .inl (cy 0, 25, .inl (fun _ => 0)))]) hP hD [0, 1] [] rfl rfl (by decide) (by decide) hk1 hFc hP1 hD1
  generalize H1 = H at hP hS ⊢
  have hP : va_P D clz [(g 60, .inr (9, mF g)), (g 17, .inl (cy 0, 25, .inl (fun _ => 0)))] H := hP
  have hD : va_D A [(g 60, .inr (9, mF g)), (g 17, .inl (cy 0, 25, .inl (fun _ => 0)))] := hD
  subst hw
  refine lv_if_ne (tgt := 17) hx hb dX9_put_11 (by decide) (fun c9 => absurd c9 (by decide)) (fun _ => ?_)
  refine lv_bipush (v := (-2)) hx hb dX9_put_14 (by decide) ?_
  have hP9 := hP.sub (ws' := [(g 60, .inr (9, mF g)), (g 17, .inl (cy 0, 25, .inl (fun _ => 0)))]) [0, 1] rfl
  have hD9 := hD.sub (ws' := [(g 60, .inr (9, mF g)), (g 17, .inl (cy 0, 25, .inl (fun _ => 0)))]) [0, 1] (by decide) rfl
  exact W.iret (v := (-2)) hx hb hr (fun tS ht hW => ⟨⟨(-2), (), rfl, rfl, by rw [ht]; exact hP9, va_K.moved hW.alike hK, hD9⟩, hS.F ht⟩) hS.2.2 dX9_put_16

