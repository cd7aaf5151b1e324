theorem q781 : Cond.code yX8_pitch cX8_pitch 5 (some .int) ∈ lw_g := lw_gm (List.mem_of_getElem? (i := 781) (by decide +kernel)) rfl
theorem q782 : Cond.methodLink RX8 179 yX0_isSounding ∈ lw_g := lw_gm (List.mem_of_getElem? (i := 782) (by decide +kernel)) rfl
theorem q783 : Cond.instanceMethod yX0_isSounding ∈ lw_g := lw_gm (List.mem_of_getElem? (i := 783) (by decide +kernel)) rfl
theorem q784 : Cond.selects RX0 yX0_isSounding yX0_isSounding ∈ lw_g := lw_gm (List.mem_of_getElem? (i := 784) (by decide +kernel)) rfl
theorem dX8_pitch_0 : decode cX8_pitch 0 = .ok (.aload_n 0, 1) := by decide +kernel
theorem dX8_pitch_1 : decode cX8_pitch 1 = .ok (.getfield 19, 3) := by decide +kernel
theorem dX8_pitch_4 : decode cX8_pitch 4 = .ok (.iload_n 1, 1) := by decide +kernel
theorem dX8_pitch_5 : decode cX8_pitch 5 = .ok (.iload_n 2, 1) := by decide +kernel
theorem dX8_pitch_6 : decode cX8_pitch 6 = .ok (.invokevirtual 179, 3) := by decide +kernel
theorem dX8_pitch_9 : decode cX8_pitch 9 = .ok (.ifCond .eq 13, 3) := by decide +kernel
theorem dX8_pitch_22 : decode cX8_pitch 22 = .ok (.bipush (-2), 2) := by decide +kernel
theorem dX8_pitch_24 : decode cX8_pitch 24 = .ok (.ireturn, 1) := by decide +kernel
set_option maxHeartbeats 4000000 in
set_option maxRecDepth 100000 in
theorem c_X8_pitch (l : Launch) (D : va_G) (cy : Nat → ClassId) (g : Nat → Nat) (p1 : Int32) (p2 : Int32) (p3 : Int32) (sz : Nat) : Met l yX8_pitch (ww yX8_pitch cX8_pitch 5 (some .int)) ({ frames := 3, cells := 0, slots := 0, locals := 192 }) (va_Pc [.ref (g 0), .int p1, .int p2, .int p3] (pre D cy [(g 0, .inr (8, xF g)), (g 3, .inr (0, [.int 0, .int 0, .int 0, .int 0, .int 0, .int 0, .ref (g 4), .ref (g 5), .ref (g 6), .ref (g 7)]))] sz)) (qi D cy (va_A [(g 0, .inr (8, xF g)), (g 3, .inr (0, [.int 0, .int 0, .int 0, .int 0, .int 0, .int 0, .ref (g 4), .ref (g 5), .ref (g 6), .ref (g 7)]))] sz) (fun (r : Int32) (_ : Unit) => r = (-2)) (fun (_ : Unit) => [(g 0, .inr (8, xF g)), (g 3, .inr (0, [.int 0, .int 0, .int 0, .int 0, .int 0, .int 0, .ref (g 4), .ref (g 5), .ref (g 6), .ref (g 7)]))])) 0 0 (va_A [(g 0, .inr (8, xF g)), (g 3, .inr (0, [.int 0, .int 0, .int 0, .int 0, .int 0, .int 0, .ref (g 4), .ref (g 5), .ref (g 6), .ref (g 7)]))] sz) := by
  refine Met.ofW (cc := cX8_pitch) (maxL := 5) (ret := (some .int)) (by decide) rfl ?_
  intro p e s m args below meth c s₁ B hml hv
  obtain ⟨rfl, hsz, hP, hK, hD0⟩ := hv
  have hx := B.exec
  have hb := B.bytes
  have hr := B.returns
  have hts := hts_g (atoms_spec (ws := ww yX8_pitch cX8_pitch 5 (some .int)) B.pre)
  have hown : s.vm.findClass RX8 = some m.cls := findClass_of_methodNamed B.named
  have hlocks := B.notSynchronized
  subst hsz
  have hD := hD0.self (sz := s.heap.size)
  generalize hAe : va_A [(g 0, .inr (8, xF g)), (g 3, .inr (0, [.int 0, .int 0, .int 0, .int 0, .int 0, .int 0, .ref (g 4), .ref (g 5), .ref (g 6), .ref (g 7)]))] s.heap.size = A at hD ⊢
  have hA : ∀ q : Nat, s.heap.size ≤ q → A q := fun q h => by rw [← hAe]; exact Or.inr h
  have hS : va_S A s.heap s.heap [] := va_S.rf
  have hl := lv_entry ([.ref (g 0), .int p1, .int p2, .int p3]) (n := 5) (Nat.le_of_ble_eq_true rfl)
  rw [lg_entry_eq]
  generalize (lg_sl ([.ref (g 0), .int p1, .int p2, .int p3]) ++ List.replicate (5 - (lg_sl ([.ref (g 0), .int p1, .int p2, .int p3])).length) Slot.unset).toArray = ls at hl ⊢
  have hl : lv_has ls 5 [(0, .ref (g 0)), (1, .int p1), (2, .int p2), (3, .int p3)] := hl
  refine lv_aload_n hx hb dX8_pitch_0 rfl (lv_at hl 0 rfl) ?_
  refine va_get (D := D) (ci := 8) (v := .ref (g 3)) (C := RX8) (T := TX8) (N := 12) hx hb hts iX8 hown hK hP 0 rfl rfl 1 (by decide) (hts _ q435) (fun _ h9 => h9) rfl dX8_pitch_1 ?_
  refine lv_iload_n hx hb dX8_pitch_4 rfl (lv_at hl 1 rfl) ?_
  refine lv_iload_n hx hb dX8_pitch_5 rfl (lv_at hl 2 rfl) ?_
  have hPc := hP.sub (ws' := [(g 3, .inr (0, [.int 0, .int 0, .int 0, .int 0, .int 0, .int 0, .ref (g 4), .ref (g 5), .ref (g 6), .ref (g 7)]))]) [1] rfl
  have hDc := hD.sub (ws' := [(g 3, .inr (0, [.int 0, .int 0, .int 0, .int 0, .int 0, .int 0, .ref (g 4), .ref (g 5), .ref (g 6), .ref (g 7)]))]) [1] (by decide) rfl
  have hFc := va_free (wc := [(g 3, .inr (0, [.int 0, .int 0, .int 0, .int 0, .int 0, .int 0, .ref (g 4), .ref (g 5), .ref (g 6), .ref (g 7)]))]) hD hS hA [1] rfl
  refine va_calli (va_runV (As := [.int p1, .int p2]) (rest := []) ⟨hx, hb, hml, hown, hts⟩ (c_X0_isSounding l D cy (g 3) (g 4) (g 5) (g 6) (g 7) p1 p2 s.heap.size) (cwV 2 hts (gd_V q782 q783 q784 q127 q785) rfl rfl rfl (by decide +kernel) ⟨Nat.le_of_ble_eq_true rfl, Nat.le_of_ble_eq_true rfl⟩) (pr_V hPc hK hDc (va_recv hK hPc (ci := 0) (q0 := 0) rfl rfl)) rfl rfl hl.1 rfl (lv_room (Nat.le_of_ble_eq_true rfl)) dX8_pitch_6 ⟨Nat.le_of_ble_eq_true rfl, Nat.le_of_ble_eq_true rfl⟩) hS (fun q _ h => hFc q h) hFc (fun r_1 u tS H1 locs ht hvm hw hB hz1 hk1 hS => ?_)
  obtain ⟨hP1, hK1, hD1⟩ := hB
  rw [ht] at hP1
  try dsimp only at hw
  obtain ⟨hP, hD⟩ := va_join (wr := [(g 0, .inr (8, xF g))]) (w1 := [(g 3, .inr (0, [.int 0, .int 0, .int 0, .int 0, .int 0, .int 0, .ref (g 4), .ref (g 5), .ref (g 6), .ref (g 7)]))]) hP hD [1] [0] rfl rfl (by decide) (by decide) hk1 hFc hP1 hD1
  generalize H1 = H at hP hS ⊢
  have hP : va_P D clz [(g 0, .inr (8, xF g)), (g 3, .inr (0, [.int 0, .int 0, .int 0, .int 0, .int 0, .int 0, .ref (g 4), .ref (g 5), .ref (g 6), .ref (g 7)]))] H := hP
  have hD : va_D A [(g 0, .inr (8, xF g)), (g 3, .inr (0, [.int 0, .int 0, .int 0, .int 0, .int 0, .int 0, .ref (g 4), .ref (g 5), .ref (g 6), .ref (g 7)]))] := hD
  subst hw
  refine lv_if_eq (tgt := 22) hx hb dX8_pitch_9 (by decide) (fun _ => ?_) (fun c9 => absurd c9 (by decide))
  refine lv_bipush (v := (-2)) hx hb dX8_pitch_22 (by decide) ?_
  have hP9 := hP.sub (ws' := [(g 0, .inr (8, xF g)), (g 3, .inr (0, [.int 0, .int 0, .int 0, .int 0, .int 0, .int 0, .ref (g 4), .ref (g 5), .ref (g 6), .ref (g 7)]))]) [0, 1] rfl
  have hD9 := hD.sub (ws' := [(g 0, .inr (8, xF g)), (g 3, .inr (0, [.int 0, .int 0, .int 0, .int 0, .int 0, .int 0, .ref (g 4), .ref (g 5), .ref (g 6), .ref (g 7)]))]) [0, 1] (by decide) rfl
  exact W.iret (v := (-2)) hx hb hr (fun tS ht hW => ⟨⟨(-2), (), rfl, rfl, by rw [ht]; exact hP9, va_K.moved hW.alike hK, hD9⟩, hS.F ht⟩) hS.2.2 dX8_pitch_24

theorem q791 : Cond.code yX8_slur cX8_slur 5 (some .int) ∈ lw_g := lw_gm (List.mem_of_getElem? (i := 791) (by decide +kernel)) rfl
theorem dX8_slur_0 : decode cX8_slur 0 = .ok (.aload_n 0, 1) := by decide +kernel
theorem dX8_slur_1 : decode cX8_slur 1 = .ok (.getfield 19, 3) := by decide +kernel
theorem dX8_slur_4 : decode cX8_slur 4 = .ok (.iload_n 1, 1) := by decide +kernel
theorem dX8_slur_5 : decode cX8_slur 5 = .ok (.iload_n 2, 1) := by decide +kernel
theorem dX8_slur_6 : decode cX8_slur 6 = .ok (.invokevirtual 179, 3) := by decide +kernel
theorem dX8_slur_9 : decode cX8_slur 9 = .ok (.ifCond .eq 12, 3) := by decide +kernel
theorem dX8_slur_21 : decode cX8_slur 21 = .ok (.bipush (-2), 2) := by decide +kernel
theorem dX8_slur_23 : decode cX8_slur 23 = .ok (.ireturn, 1) := by decide +kernel
set_option maxHeartbeats 4000000 in
set_option maxRecDepth 100000 in
theorem c_X8_slur (l : Launch) (D : va_G) (cy : Nat → ClassId) (g : Nat → Nat) (p1 : Int32) (p2 : Int32) (p3 : Int32) (sz : Nat) : Met l yX8_slur (ww yX8_slur cX8_slur 5 (some .int)) ({ frames := 3, cells := 0, slots := 0, locals := 192 }) (va_Pc [.ref (g 0), .int p1, .int p2, .int p3] (pre D cy [(g 0, .inr (8, xF g)), (g 3, .inr (0, [.int 0, .int 0, .int 0, .int 0, .int 0, .int 0, .ref (g 4), .ref (g 5), .ref (g 6), .ref (g 7)]))] sz)) (qi D cy (va_A [(g 0, .inr (8, xF g)), (g 3, .inr (0, [.int 0, .int 0, .int 0, .int 0, .int 0, .int 0, .ref (g 4), .ref (g 5), .ref (g 6), .ref (g 7)]))] sz) (fun (r : Int32) (_ : Unit) => r = (-2)) (fun (_ : Unit) => [(g 0, .inr (8, xF g)), (g 3, .inr (0, [.int 0, .int 0, .int 0, .int 0, .int 0, .int 0, .ref (g 4), .ref (g 5), .ref (g 6), .ref (g 7)]))])) 0 0 (va_A [(g 0, .inr (8, xF g)), (g 3, .inr (0, [.int 0, .int 0, .int 0, .int 0, .int 0, .int 0, .ref (g 4), .ref (g 5), .ref (g 6), .ref (g 7)]))] sz) := by
  refine Met.ofW (cc := cX8_slur) (maxL := 5) (ret := (some .int)) (by decide) rfl ?_
  intro p e s m args below meth c s₁ B hml hv
  obtain ⟨rfl, hsz, hP, hK, hD0⟩ := hv
  have hx := B.exec
  have hb := B.bytes
  have hr := B.returns
  have hts := hts_g (atoms_spec (ws := ww yX8_slur cX8_slur 5 (some .int)) B.pre)
  have hown : s.vm.findClass RX8 = some m.cls := findClass_of_methodNamed B.named
  have hlocks := B.notSynchronized
  subst hsz
  have hD := hD0.self (sz := s.heap.size)
  generalize hAe : va_A [(g 0, .inr (8, xF g)), (g 3, .inr (0, [.int 0, .int 0, .int 0, .int 0, .int 0, .int 0, .ref (g 4), .ref (g 5), .ref (g 6), .ref (g 7)]))] s.heap.size = A at hD ⊢
  have hA : ∀ q : Nat, s.heap.size ≤ q → A q := fun q h => by rw [← hAe]; exact Or.inr h
  have hS : va_S A s.heap s.heap [] := va_S.rf
  have hl := lv_entry ([.ref (g 0), .int p1, .int p2, .int p3]) (n := 5) (Nat.le_of_ble_eq_true rfl)
  rw [lg_entry_eq]
  generalize (lg_sl ([.ref (g 0), .int p1, .int p2, .int p3]) ++ List.replicate (5 - (lg_sl ([.ref (g 0), .int p1, .int p2, .int p3])).length) Slot.unset).toArray = ls at hl ⊢
  have hl : lv_has ls 5 [(0, .ref (g 0)), (1, .int p1), (2, .int p2), (3, .int p3)] := hl
  refine lv_aload_n hx hb dX8_slur_0 rfl (lv_at hl 0 rfl) ?_
  refine va_get (D := D) (ci := 8) (v := .ref (g 3)) (C := RX8) (T := TX8) (N := 12) hx hb hts iX8 hown hK hP 0 rfl rfl 1 (by decide) (hts _ q435) (fun _ h9 => h9) rfl dX8_slur_1 ?_
  refine lv_iload_n hx hb dX8_slur_4 rfl (lv_at hl 1 rfl) ?_
  refine lv_iload_n hx hb dX8_slur_5 rfl (lv_at hl 2 rfl) ?_
  have hPc := hP.sub (ws' := [(g 3, .inr (0, [.int 0, .int 0, .int 0, .int 0, .int 0, .int 0, .ref (g 4), .ref (g 5), .ref (g 6), .ref (g 7)]))]) [1] rfl
  have hDc := hD.sub (ws' := [(g 3, .inr (0, [.int 0, .int 0, .int 0, .int 0, .int 0, .int 0, .ref (g 4), .ref (g 5), .ref (g 6), .ref (g 7)]))]) [1] (by decide) rfl
  have hFc := va_free (wc := [(g 3, .inr (0, [.int 0, .int 0, .int 0, .int 0, .int 0, .int 0, .ref (g 4), .ref (g 5), .ref (g 6), .ref (g 7)]))]) hD hS hA [1] rfl
  refine va_calli (va_runV (As := [.int p1, .int p2]) (rest := []) ⟨hx, hb, hml, hown, hts⟩ (c_X0_isSounding l D cy (g 3) (g 4) (g 5) (g 6) (g 7) p1 p2 s.heap.size) (cwV 2 hts (gd_V q782 q783 q784 q127 q785) rfl rfl rfl (by decide +kernel) ⟨Nat.le_of_ble_eq_true rfl, Nat.le_of_ble_eq_true rfl⟩) (pr_V hPc hK hDc (va_recv hK hPc (ci := 0) (q0 := 0) rfl rfl)) rfl rfl hl.1 rfl (lv_room (Nat.le_of_ble_eq_true rfl)) dX8_slur_6 ⟨Nat.le_of_ble_eq_true rfl, Nat.le_of_ble_eq_true rfl⟩) hS (fun q _ h => hFc q h) hFc (fun r_1 u tS H1 locs ht hvm hw hB hz1 hk1 hS => ?_)
  obtain ⟨hP1, hK1, hD1⟩ := hB
  rw [ht] at hP1
  try dsimp only at hw
  obtain ⟨hP, hD⟩ := va_join (wr := [(g 0, .inr (8, xF g))]) (w1 := [(g 3, .inr (0, [.int 0, .int 0, .int 0, .int 0, .int 0, .int 0, .ref (g 4), .ref (g 5), .ref (g 6), .ref (g 7)]))]) hP hD [1] [0] rfl rfl (by decide) (by decide) hk1 hFc hP1 hD1
  generalize H1 = H at hP hS ⊢
  have hP : va_P D clz [(g 0, .inr (8, xF g)), (g 3, .inr (0, [.int 0, .int 0, .int 0, .int 0, .int 0, .int 0, .ref (g 4), .ref (g 5), .ref (g 6), .ref (g 7)]))] H := hP
  have hD : va_D A [(g 0, .inr (8, xF g)), (g 3, .inr (0, [.int 0, .int 0, .int 0, .int 0, .int 0, .int 0, .ref (g 4), .ref (g 5), .ref (g 6), .ref (g 7)]))] := hD
  subst hw
  refine lv_if_eq (tgt := 21) hx hb dX8_slur_9 (by decide) (fun _ => ?_) (fun c9 => absurd c9 (by decide))
  refine lv_bipush (v := (-2)) hx hb dX8_slur_21 (by decide) ?_
  have hP9 := hP.sub (ws' := [(g 0, .inr (8, xF g)), (g 3, .inr (0, [.int 0, .int 0, .int 0, .int 0, .int 0, .int 0, .ref (g 4), .ref (g 5), .ref (g 6), .ref (g 7)]))]) [0, 1] rfl
  have hD9 := hD.sub (ws' := [(g 0, .inr (8, xF g)), (g 3, .inr (0, [.int 0, .int 0, .int 0, .int 0, .int 0, .int 0, .ref (g 4), .ref (g 5), .ref (g 6), .ref (g 7)]))]) [0, 1] (by decide) rfl
  exact W.iret (v := (-2)) hx hb hr (fun tS ht hW => ⟨⟨(-2), (), rfl, rfl, by rw [ht]; exact hP9, va_K.moved hW.alike hK, hD9⟩, hS.F ht⟩) hS.2.2 dX8_slur_23

theorem q795 : Cond.code yX8_flat cX8_flat 3 (some .int) ∈ lw_g := lw_gm (List.mem_of_getElem? (i := 795) (by decide +kernel)) rfl
theorem dX8_flat_0 : decode cX8_flat 0 = .ok (.aload_n 0, 1) := by decide +kernel
theorem dX8_flat_1 : decode cX8_flat 1 = .ok (.aload_n 0, 1) := by decide +kernel
theorem dX8_flat_2 : decode cX8_flat 2 = .ok (.getfield 43, 3) := by decide +kernel
theorem dX8_flat_5 : decode cX8_flat 5 = .ok (.iload_n 1, 1) := by decide +kernel
theorem dX8_flat_6 : decode cX8_flat 6 = .ok (.invokevirtual 186, 3) := by decide +kernel
theorem dX8_flat_9 : decode cX8_flat 9 = .ok (.ifCond .eq 14, 3) := by decide +kernel
theorem dX8_flat_23 : decode cX8_flat 23 = .ok (.bipush (-2), 2) := by decide +kernel
theorem dX8_flat_25 : decode cX8_flat 25 = .ok (.ireturn, 1) := by decide +kernel
set_option maxHeartbeats 4000000 in
set_option maxRecDepth 100000 in
theorem c_X8_flat (l : Launch) (D : va_G) (cy : Nat → ClassId) (g : Nat → Nat) (p1 : Int32) (p2 : Int32) (sz : Nat) : Met l yX8_flat (ww yX8_flat cX8_flat 3 (some .int)) ({ frames := 3, cells := 0, slots := 0, locals := 192 }) (va_Pc [.ref (g 0), .int p1, .int p2] (pre D cy [(g 0, .inr (8, xF g)), (g 3, .inr (0, [.int 0, .int 0, .int 0, .int 0, .int 0, .int 0, .ref (g 4), .ref (g 5), .ref (g 6), .ref (g 7)]))] sz)) (qi D cy (va_A [(g 0, .inr (8, xF g)), (g 3, .inr (0, [.int 0, .int 0, .int 0, .int 0, .int 0, .int 0, .ref (g 4), .ref (g 5), .ref (g 6), .ref (g 7)]))] sz) (fun (r : Int32) (_ : Unit) => r = (-2)) (fun (_ : Unit) => [(g 0, .inr (8, xF g)), (g 3, .inr (0, [.int 0, .int 0, .int 0, .int 0, .int 0, .int 0, .ref (g 4), .ref (g 5), .ref (g 6), .ref (g 7)]))])) 0 0 (va_A [(g 0, .inr (8, xF g)), (g 3, .inr (0, [.int 0, .int 0, .int 0, .int 0, .int 0, .int 0, .ref (g 4), .ref (g 5), .ref (g 6), .ref (g 7)]))] sz) := by
  refine Met.ofW (cc := cX8_flat) (maxL := 3) (ret := (some .int)) (by decide) rfl ?_
  intro p e s m args below meth c s₁ B hml hv
  obtain ⟨rfl, hsz, hP, hK, hD0⟩ := hv
  have hx := B.exec
  have hb := B.bytes
  have hr := B.returns
  have hts := hts_g (atoms_spec (ws := ww yX8_flat cX8_flat 3 (some .int)) B.pre)
  have hown : s.vm.findClass RX8 = some m.cls := findClass_of_methodNamed B.named
  have hlocks := B.notSynchronized
  subst hsz
  have hD := hD0.self (sz := s.heap.size)
  generalize hAe : va_A [(g 0, .inr (8, xF g)), (g 3, .inr (0, [.int 0, .int 0, .int 0, .int 0, .int 0, .int 0, .ref (g 4), .ref (g 5), .ref (g 6), .ref (g 7)]))] s.heap.size = A at hD ⊢
  have hA : ∀ q : Nat, s.heap.size ≤ q → A q := fun q h => by rw [← hAe]; exact Or.inr h
  have hS : va_S A s.heap s.heap [] := va_S.rf
  have hl := lv_entry ([.ref (g 0), .int p1, .int p2]) (n := 3) (Nat.le_of_ble_eq_true rfl)
  rw [lg_entry_eq]
  generalize (lg_sl ([.ref (g 0), .int p1, .int p2]) ++ List.replicate (3 - (lg_sl ([.ref (g 0), .int p1, .int p2])).length) Slot.unset).toArray = ls at hl ⊢
  have hl : lv_has ls 3 [(0, .ref (g 0)), (1, .int p1), (2, .int p2)] := hl
  refine lv_aload_n hx hb dX8_flat_0 rfl (lv_at hl 0 rfl) ?_
  refine lv_aload_n hx hb dX8_flat_1 rfl (lv_at hl 0 rfl) ?_
  refine va_get (D := D) (ci := 8) (v := .ref (g 35)) (C := RX8) (T := TX8) (N := 12) hx hb hts iX8 hown hK hP 0 rfl rfl 6 (by decide) (hts _ q440) (fun _ h9 => h9) rfl dX8_flat_2 ?_
  refine lv_iload_n hx hb dX8_flat_5 rfl (lv_at hl 1 rfl) ?_
  have hPc := hP.sub (ws' := [(g 0, .inr (8, xF g)), (g 3, .inr (0, [.int 0, .int 0, .int 0, .int 0, .int 0, .int 0, .ref (g 4), .ref (g 5), .ref (g 6), .ref (g 7)]))]) [0, 1] rfl
  have hDc := hD.sub (ws' := [(g 0, .inr (8, xF g)), (g 3, .inr (0, [.int 0, .int 0, .int 0, .int 0, .int 0, .int 0, .ref (g 4), .ref (g 5), .ref (g 6), .ref (g 7)]))]) [0, 1] (by decide) rfl
  have hFc := va_free (wc := [(g 0, .inr (8, xF g)), (g 3, .inr (0, [.int 0, .int 0, .int 0, .int 0, .int 0, .int 0, .ref (g 4), .ref (g 5), .ref (g 6), .ref (g 7)]))]) hD hS hA [0, 1] rfl
  refine va_calli (va_runV (As := [.ref (g 35), .int p1]) (rest := []) ⟨hx, hb, hml, hown, hts⟩ (c_X8_aimTube l D cy g (g 35) p1 s.heap.size) (cwV 2 hts (gd_V q796 q798 q14 q125 q799) rfl rfl rfl (by decide +kernel) ⟨Nat.le_of_ble_eq_true rfl, Nat.le_of_ble_eq_true rfl⟩) (pr_V hPc hK hDc (va_recv hK hPc (ci := 8) (q0 := 0) rfl rfl)) rfl rfl hl.1 rfl (lv_room (Nat.le_of_ble_eq_true rfl)) dX8_flat_6 ⟨Nat.le_of_ble_eq_true rfl, Nat.le_of_ble_eq_true rfl⟩) hS (fun q _ h => hFc q h) hFc (fun r_1 u tS H1 locs ht hvm hw hB hz1 hk1 hS => ?_)
  obtain ⟨hP1, hK1, hD1⟩ := hB
  rw [ht] at hP1
  try dsimp only at hw
  obtain ⟨hP, hD⟩ := va_join (wr := []) (w1 := [(g 0, .inr (8, xF g)), (g 3, .inr (0, [.int 0, .int 0, .int 0, .int 0, .int 0, .int 0, .ref (g 4), .ref (g 5), .ref (g 6), .ref (g 7)]))]) hP hD [0, 1] [] rfl rfl (by decide) (by decide) hk1 hFc hP1 hD1
  generalize H1 = H at hP hS ⊢
  have hP : va_P D clz [(g 0, .inr (8, xF g)), (g 3, .inr (0, [.int 0, .int 0, .int 0, .int 0, .int 0, .int 0, .ref (g 4), .ref (g 5), .ref (g 6), .ref (g 7)]))] H := hP
  have hD : va_D A [(g 0, .inr (8, xF g)), (g 3, .inr (0, [.int 0, .int 0, .int 0, .int 0, .int 0, .int 0, .ref (g 4), .ref (g 5), .ref (g 6), .ref (g 7)]))] := hD
  subst hw
  refine lv_if_eq (tgt := 23) hx hb dX8_flat_9 (by decide) (fun _ => ?_) (fun c9 => absurd c9 (by decide))
  refine lv_bipush (v := (-2)) hx hb dX8_flat_23 (by decide) ?_
  have hP9 := hP.sub (ws' := [(g 0, .inr (8, xF g)), (g 3, .inr (0, [.int 0, .int 0, .int 0, .int 0, .int 0, .int 0, .ref (g 4), .ref (g 5), .ref (g 6), .ref (g 7)]))]) [0, 1] rfl
  have hD9 := hD.sub (ws' := [(g 0, .inr (8, xF g)), (g 3, .inr (0, [.int 0, .int 0, .int 0, .int 0, .int 0, .int 0, .ref (g 4), .ref (g 5), .ref (g 6), .ref (g 7)]))]) [0, 1] (by decide) rfl
  exact W.iret (v := (-2)) hx hb hr (fun tS ht hW => ⟨⟨(-2), (), rfl, rfl, by rw [ht]; exact hP9, va_K.moved hW.alike hK, hD9⟩, hS.F ht⟩) hS.2.2 dX8_flat_25

theorem q865 : Cond.code yX8_drawnOut cX8_drawnOut 5 (some .int) ∈ lw_g := lw_gm (List.mem_of_getElem? (i := 865) (by decide +kernel)) rfl
theorem q825 : Cond.methodLink RX8 199 yX8_canBeTried ∈ lw_g := lw_gm (List.mem_of_getElem? (i := 825) (by decide +kernel)) rfl
theorem q827 : Cond.instanceMethod yX8_canBeTried ∈ lw_g := lw_gm (List.mem_of_getElem? (i := 827) (by decide +kernel)) rfl
theorem q16 : Cond.selects RX8 yX8_canBeTried yX8_canBeTried ∈ lw_g := lw_gm (List.mem_of_getElem? (i := 16) (by decide +kernel)) rfl
theorem dX8_drawnOut_0 : decode cX8_drawnOut 0 = .ok (.aload_n 0, 1) := by decide +kernel
theorem dX8_drawnOut_1 : decode cX8_drawnOut 1 = .ok (.iload_n 1, 1) := by decide +kernel
theorem dX8_drawnOut_2 : decode cX8_drawnOut 2 = .ok (.iload_n 2, 1) := by decide +kernel
theorem dX8_drawnOut_3 : decode cX8_drawnOut 3 = .ok (.iload_n 3, 1) := by decide +kernel
theorem dX8_drawnOut_4 : decode cX8_drawnOut 4 = .ok (.iload 4, 2) := by decide +kernel
theorem dX8_drawnOut_6 : decode cX8_drawnOut 6 = .ok (.invokevirtual 199, 3) := by decide +kernel
theorem dX8_drawnOut_9 : decode cX8_drawnOut 9 = .ok (.ifCond .ne 6, 3) := by decide +kernel
theorem dX8_drawnOut_12 : decode cX8_drawnOut 12 = .ok (.bipush (-2), 2) := by decide +kernel
theorem dX8_drawnOut_14 : decode cX8_drawnOut 14 = .ok (.ireturn, 1) := by decide +kernel
set_option maxHeartbeats 4000000 in
set_option maxRecDepth 100000 in
theorem c_X8_drawnOut (l : Launch) (D : va_G) (cy : Nat → ClassId) (g : Nat → Nat) (p1 : Int32) (p2 : Int32) (p3 : Int32) (p4 : Int32) (sz : Nat) : Met l yX8_drawnOut (ww yX8_drawnOut cX8_drawnOut 5 (some .int)) ({ frames := 4, cells := 0, slots := 0, locals := 256 }) (va_Pc [.ref (g 0), .int p1, .int p2, .int p3, .int p4] (pre D cy [(g 0, .inr (8, xF g)), (g 3, .inr (0, [.int 0, .int 0, .int 0, .int 0, .int 0, .int 0, .ref (g 4), .ref (g 5), .ref (g 6), .ref (g 7)]))] sz)) (qi D cy (va_A [(g 0, .inr (8, xF g)), (g 3, .inr (0, [.int 0, .int 0, .int 0, .int 0, .int 0, .int 0, .ref (g 4), .ref (g 5), .ref (g 6), .ref (g 7)]))] sz) (fun (r : Int32) (_ : Unit) => r = (-2)) (fun (_ : Unit) => [(g 0, .inr (8, xF g)), (g 3, .inr (0, [.int 0, .int 0, .int 0, .int 0, .int 0, .int 0, .ref (g 4), .ref (g 5), .ref (g 6), .ref (g 7)]))])) 0 0 (va_A [(g 0, .inr (8, xF g)), (g 3, .inr (0, [.int 0, .int 0, .int 0, .int 0, .int 0, .int 0, .ref (g 4), .ref (g 5), .ref (g 6), .ref (g 7)]))] sz) := by
  refine Met.ofW (cc := cX8_drawnOut) (maxL := 5) (ret := (some .int)) (by decide) rfl ?_
  intro p e s m args below meth c s₁ B hml hv
  obtain ⟨rfl, hsz, hP, hK, hD0⟩ := hv
  have hx := B.exec
  have hb := B.bytes
  have hr := B.returns
  have hts := hts_g (atoms_spec (ws := ww yX8_drawnOut cX8_drawnOut 5 (some .int)) B.pre)
  have hown : s.vm.findClass RX8 = some m.cls := findClass_of_methodNamed B.named
  have hlocks := B.notSynchronized
  subst hsz
  have hD := hD0.self (sz := s.heap.size)
  generalize hAe : va_A [(g 0, .inr (8, xF g)), (g 3, .inr (0, [.int 0, .int 0, .int 0, .int 0, .int 0, .int 0, .ref (g 4), .ref (g 5), .ref (g 6), .ref (g 7)]))] s.heap.size = A at hD ⊢
  have hA : ∀ q : Nat, s.heap.size ≤ q → A q := fun q h => by rw [← hAe]; exact Or.inr h
  have hS : va_S A s.heap s.heap [] := va_S.rf
  have hl := lv_entry ([.ref (g 0), .int p1, .int p2, .int p3, .int p4]) (n := 5) (Nat.le_of_ble_eq_true rfl)
  rw [lg_entry_eq]
  generalize (lg_sl ([.ref (g 0), .int p1, .int p2, .int p3, .int p4]) ++ List.replicate (5 - (lg_sl ([.ref (g 0), .int p1, .int p2, .int p3, .int p4])).length) Slot.unset).toArray = ls at hl ⊢
  have hl : lv_has ls 5 [(0, .ref (g 0)), (1, .int p1), (2, .int p2), (3, .int p3), (4, .int p4)] := hl
  refine lv_aload_n hx hb dX8_drawnOut_0 rfl (lv_at hl 0 rfl) ?_
  refine lv_iload_n hx hb dX8_drawnOut_1 rfl (lv_at hl 1 rfl) ?_
  refine lv_iload_n hx hb dX8_drawnOut_2 rfl (lv_at hl 2 rfl) ?_
  refine lv_iload_n hx hb dX8_drawnOut_3 rfl (lv_at hl 3 rfl) ?_
  refine lv_iload hx hb dX8_drawnOut_4 (lv_at hl 4 rfl) ?_
  have hPc := hP.sub (ws' := [(g 0, .inr (8, xF g)), (g 3, .inr (0, [.int 0, .int 0, .int 0, .int 0, .int 0, .int 0, .ref (g 4), .ref (g 5), .ref (g 6), .ref (g 7)]))]) [0, 1] rfl
  have hDc := hD.sub (ws' := [(g 0, .inr (8, xF g)), (g 3, .inr (0, [.int 0, .int 0, .int 0, .int 0, .int 0, .int 0, .ref (g 4), .ref (g 5), .ref (g 6), .ref (g 7)]))]) [0, 1] (by decide) rfl
  have hFc := va_free (wc := [(g 0, .inr (8, xF g)), (g 3, .inr (0, [.int 0, .int 0, .int 0, .int 0, .int 0, .int 0, .ref (g 4), .ref (g 5), .ref (g 6), .ref (g 7)]))]) hD hS hA [0, 1] rfl
  refine va_calli (va_runV (As := [.int p1, .int p2, .int p3, .int p4]) (rest := []) ⟨hx, hb, hml, hown, hts⟩ (c_X8_canBeTried l D cy g p1 p2 p3 p4 s.heap.size) (cwV 4 hts (gd_V q825 q827 q16 q125 q828) rfl rfl rfl (by decide +kernel) ⟨Nat.le_of_ble_eq_true rfl, Nat.le_of_ble_eq_true rfl⟩) (pr_V hPc hK hDc (va_recv hK hPc (ci := 8) (q0 := 0) rfl rfl)) rfl rfl hl.1 rfl (lv_room (Nat.le_of_ble_eq_true rfl)) dX8_drawnOut_6 ⟨Nat.le_of_ble_eq_true rfl, Nat.le_of_ble_eq_true rfl⟩) hS (fun q _ h => hFc q h) hFc (fun r_1 u tS H1 locs ht hvm hw hB hz1 hk1 hS => ?_)
  obtain ⟨hP1, hK1, hD1⟩ := hB
  rw [ht] at hP1
  try dsimp only at hw
  obtain ⟨hP, hD⟩ := va_join (wr := []) (w1 := [(g 0, .inr (8, xF g)), (g 3, .inr (0, [.int 0, .int 0, .int 0, .int 0, .int 0, .int 0, .ref (g 4), .ref (g 5), .ref (g 6), .ref (g 7)]))]) hP hD [0, 1] [] rfl rfl (by decide) (by decide) hk1 hFc hP1 hD1
  generalize H1 = H at hP hS ⊢
  have hP : va_P D clz [(g 0, .inr (8, xF g)), (g 3, .inr (0, [.int 0, .int 0, .int 0, .int 0, .int 0, .int 0, .ref (g 4), .ref (g 5), .ref (g 6), .ref (g 7)]))] H := hP
  have hD : va_D A [(g 0, .inr (8, xF g)), (g 3, .inr (0, [.int 0, .int 0, .int 0, .int 0, .int 0, .int 0, .ref (g 4), .ref (g 5), .ref (g 6), .ref (g 7)]))] := hD
  subst hw
  refine lv_if_ne (tgt := 15) hx hb dX8_drawnOut_9 (by decide) (fun c9 => absurd c9 (by decide)) (fun _ => ?_)
  refine lv_bipush (v := (-2)) hx hb dX8_drawnOut_12 (by decide) ?_
  have hP9 := hP.sub (ws' := [(g 0, .inr (8, xF g)), (g 3, .inr (0, [.int 0, .int 0, .int 0, .int 0, .int 0, .int 0, .ref (g 4), .ref (g 5), .ref (g 6), .ref (g 7)]))]) [0, 1] rfl
  have hD9 := hD.sub (ws' := [(g 0, .inr (8, xF g)), (g 3, .inr (0, [.int 0, .int 0, .int 0, .int 0, .int 0, .int 0, .ref (g 4), .ref (g 5), .ref (g 6), .ref (g 7)]))]) [0, 1] (by decide) rfl
  exact W.iret (v := (-2)) hx hb hr (fun tS ht hW => ⟨⟨(-2), (), rfl, rfl, by rw [ht]; exact hP9, va_K.moved hW.alike hK, hD9⟩, hS.F ht⟩) hS.2.2 dX8_drawnOut_14

theorem q871 : Cond.code yX8_ways cX8_ways 3 (some .int) ∈ lw_g := lw_gm (List.mem_of_getElem? (i := 871) (by decide +kernel)) rfl
theorem dX8_ways_0 : decode cX8_ways 0 = .ok (.aload_n 0, 1) := by decide +kernel
theorem dX8_ways_1 : decode cX8_ways 1 = .ok (.aload_n 0, 1) := by decide +kernel
theorem dX8_ways_2 : decode cX8_ways 2 = .ok (.getfield 43, 3) := by decide +kernel
theorem dX8_ways_5 : decode cX8_ways 5 = .ok (.iload_n 1, 1) := by decide +kernel
theorem dX8_ways_6 : decode cX8_ways 6 = .ok (.invokevirtual 186, 3) := by decide +kernel
theorem dX8_ways_9 : decode cX8_ways 9 = .ok (.ifCond .eq 11, 3) := by decide +kernel
theorem dX8_ways_20 : decode cX8_ways 20 = .ok (.bipush (-2), 2) := by decide +kernel
theorem dX8_ways_22 : decode cX8_ways 22 = .ok (.ireturn, 1) := by decide +kernel
set_option maxHeartbeats 4000000 in
set_option maxRecDepth 100000 in
theorem c_X8_ways (l : Launch) (D : va_G) (cy : Nat → ClassId) (g : Nat → Nat) (p1 : Int32) (p2 : Int32) (sz : Nat) : Met l yX8_ways (ww yX8_ways cX8_ways 3 (some .int)) ({ frames := 3, cells := 0, slots := 0, locals := 192 }) (va_Pc [.ref (g 0), .int p1, .int p2] (pre D cy [(g 0, .inr (8, xF g)), (g 3, .inr (0, [.int 0, .int 0, .int 0, .int 0, .int 0, .int 0, .ref (g 4), .ref (g 5), .ref (g 6), .ref (g 7)]))] sz)) (qi D cy (va_A [(g 0, .inr (8, xF g)), (g 3, .inr (0, [.int 0, .int 0, .int 0, .int 0, .int 0, .int 0, .ref (g 4), .ref (g 5), .ref (g 6), .ref (g 7)]))] sz) (fun (r : Int32) (_ : Unit) => r = (-2)) (fun (_ : Unit) => [(g 0, .inr (8, xF g)), (g 3, .inr (0, [.int 0, .int 0, .int 0, .int 0, .int 0, .int 0, .ref (g 4), .ref (g 5), .ref (g 6), .ref (g 7)]))])) 0 0 (va_A [(g 0, .inr (8, xF g)), (g 3, .inr (0, [.int 0, .int 0, .int 0, .int 0, .int 0, .int 0, .ref (g 4), .ref (g 5), .ref (g 6), .ref (g 7)]))] sz) := by
  refine Met.ofW (cc := cX8_ways) (maxL := 3) (ret := (some .int)) (by decide) rfl ?_
  intro p e s m args below meth c s₁ B hml hv
  obtain ⟨rfl, hsz, hP, hK, hD0⟩ := hv
  have hx := B.exec
  have hb := B.bytes
  have hr := B.returns
  have hts := hts_g (atoms_spec (ws := ww yX8_ways cX8_ways 3 (some .int)) B.pre)
  have hown : s.vm.findClass RX8 = some m.cls := findClass_of_methodNamed B.named
  have hlocks := B.notSynchronized
  subst hsz
  have hD := hD0.self (sz := s.heap.size)
  generalize hAe : va_A [(g 0, .inr (8, xF g)), (g 3, .inr (0, [.int 0, .int 0, .int 0, .int 0, .int 0, .int 0, .ref (g 4), .ref (g 5), .ref (g 6), .ref (g 7)]))] s.heap.size = A at hD ⊢
  have hA : ∀ q : Nat, s.heap.size ≤ q → A q := fun q h => by rw [← hAe]; exact Or.inr h
  have hS : va_S A s.heap s.heap [] := va_S.rf
  have hl := lv_entry ([.ref (g 0), .int p1, .int p2]) (n := 3) (Nat.le_of_ble_eq_true rfl)
  rw [lg_entry_eq]
  generalize (lg_sl ([.ref (g 0), .int p1, .int p2]) ++ List.replicate (3 - (lg_sl ([.ref (g 0), .int p1, .int p2])).length) Slot.unset).toArray = ls at hl ⊢
  have hl : lv_has ls 3 [(0, .ref (g 0)), (1, .int p1), (2, .int p2)] := hl
  refine lv_aload_n hx hb dX8_ways_0 rfl (lv_at hl 0 rfl) ?_
  refine lv_aload_n hx hb dX8_ways_1 rfl (lv_at hl 0 rfl) ?_
  refine va_get (D := D) (ci := 8) (v := .ref (g 35)) (C := RX8) (T := TX8) (N := 12) hx hb hts iX8 hown hK hP 0 rfl rfl 6 (by decide) (hts _ q440) (fun _ h9 => h9) rfl dX8_ways_2 ?_
  refine lv_iload_n hx hb dX8_ways_5 rfl (lv_at hl 1 rfl) ?_
  have hPc := hP.sub (ws' := [(g 0, .inr (8, xF g)), (g 3, .inr (0, [.int 0, .int 0, .int 0, .int 0, .int 0, .int 0, .ref (g 4), .ref (g 5), .ref (g 6), .ref (g 7)]))]) [0, 1] rfl
  have hDc := hD.sub (ws' := [(g 0, .inr (8, xF g)), (g 3, .inr (0, [.int 0, .int 0, .int 0, .int 0, .int 0, .int 0, .ref (g 4), .ref (g 5), .ref (g 6), .ref (g 7)]))]) [0, 1] (by decide) rfl
  have hFc := va_free (wc := [(g 0, .inr (8, xF g)), (g 3, .inr (0, [.int 0, .int 0, .int 0, .int 0, .int 0, .int 0, .ref (g 4), .ref (g 5), .ref (g 6), .ref (g 7)]))]) hD hS hA [0, 1] rfl
  refine va_calli (va_runV (As := [.ref (g 35), .int p1]) (rest := []) ⟨hx, hb, hml, hown, hts⟩ (c_X8_aimTube l D cy g (g 35) p1 s.heap.size) (cwV 2 hts (gd_V q796 q798 q14 q125 q799) rfl rfl rfl (by decide +kernel) ⟨Nat.le_of_ble_eq_true rfl, Nat.le_of_ble_eq_true rfl⟩) (pr_V hPc hK hDc (va_recv hK hPc (ci := 8) (q0 := 0) rfl rfl)) rfl rfl hl.1 rfl (lv_room (Nat.le_of_ble_eq_true rfl)) dX8_ways_6 ⟨Nat.le_of_ble_eq_true rfl, Nat.le_of_ble_eq_true rfl⟩) hS (fun q _ h => hFc q h) hFc (fun r_1 u tS H1 locs ht hvm hw hB hz1 hk1 hS => ?_)
  obtain ⟨hP1, hK1, hD1⟩ := hB
  rw [ht] at hP1
  try dsimp only at hw
  obtain ⟨hP, hD⟩ := va_join (wr := []) (w1 := [(g 0, .inr (8, xF g)), (g 3, .inr (0, [.int 0, .int 0, .int 0, .int 0, .int 0, .int 0, .ref (g 4), .ref (g 5), .ref (g 6), .ref (g 7)]))]) hP hD [0, 1] [] rfl rfl (by decide) (by decide) hk1 hFc hP1 hD1
  generalize H1 = H at hP hS ⊢
  have hP : va_P D clz [(g 0, .inr (8, xF g)), (g 3, .inr (0, [.int 0, .int 0, .int 0, .int 0, .int 0, .int 0, .ref (g 4), .ref (g 5), .ref (g 6), .ref (g 7)]))] H := hP
  have hD : va_D A [(g 0, .inr (8, xF g)), (g 3, .inr (0, [.int 0, .int 0, .int 0, .int 0, .int 0, .int 0, .ref (g 4), .ref (g 5), .ref (g 6), .ref (g 7)]))] := hD
  subst hw
  refine lv_if_eq (tgt := 20) hx hb dX8_ways_9 (by decide) (fun _ => ?_) (fun c9 => absurd c9 (by decide))
  refine lv_bipush (v := (-2)) hx hb dX8_ways_20 (by decide) ?_
  have hP9 := hP.sub (ws' := [(g 0, .inr (8, xF g)), (g 3, .inr (0, [.int 0, .int 0, .int 0, .int 0, .int 0, .int 0, .ref (g 4), .ref (g 5), .ref (g 6), .ref (g 7)]))]) [0, 1] rfl
  have hD9 := hD.sub (ws' := [(g 0, .inr (8, xF g)), (g 3, .inr (0, [.int 0, .int 0, .int 0, .int 0, .int 0, .int 0, .ref (g 4), .ref (g 5), .ref (g 6), .ref (g 7)]))]) [0, 1] (by decide) rfl
  exact W.iret (v := (-2)) hx hb hr (fun tS ht hW => ⟨⟨(-2), (), rfl, rfl, by rw [ht]; exact hP9, va_K.moved hW.alike hK, hD9⟩, hS.F ht⟩) hS.2.2 dX8_ways_22

theorem q883 : Cond.code yX8_way cX8_way 6 (some .int) ∈ lw_g := lw_gm (List.mem_of_getElem? (i := 883) (by decide +kernel)) rfl
theorem dX8_way_0 : decode cX8_way 0 = .ok (.aload_n 0, 1) := by decide +kernel
theorem dX8_way_1 : decode cX8_way 1 = .ok (.aload_n 0, 1) := by decide +kernel
theorem dX8_way_2 : decode cX8_way 2 = .ok (.getfield 43, 3) := by decide +kernel
theorem dX8_way_5 : decode cX8_way 5 = .ok (.iload_n 1, 1) := by decide +kernel
theorem dX8_way_6 : decode cX8_way 6 = .ok (.invokevirtual 186, 3) := by decide +kernel
theorem dX8_way_9 : decode cX8_way 9 = .ok (.ifCond .eq 22, 3) := by decide +kernel
theorem dX8_way_31 : decode cX8_way 31 = .ok (.bipush (-2), 2) := by decide +kernel
theorem dX8_way_33 : decode cX8_way 33 = .ok (.ireturn, 1) := by decide +kernel
set_option maxHeartbeats 4000000 in
set_option maxRecDepth 100000 in
theorem c_X8_way (l : Launch) (D : va_G) (cy : Nat → ClassId) (g : Nat → Nat) (p1 : Int32) (p2 : Int32) (p3 : Int32) (p4 : Int32) (sz : Nat) : Met l yX8_way (ww yX8_way cX8_way 6 (some .int)) ({ frames := 3, cells := 0, slots := 0, locals := 192 }) (va_Pc [.ref (g 0), .int p1, .int p2, .int p3, .int p4] (pre D cy [(g 0, .inr (8, xF g)), (g 3, .inr (0, [.int 0, .int 0, .int 0, .int 0, .int 0, .int 0, .ref (g 4), .ref (g 5), .ref (g 6), .ref (g 7)]))] sz)) (qi D cy (va_A [(g 0, .inr (8, xF g)), (g 3, .inr (0, [.int 0, .int 0, .int 0, .int 0, .int 0, .int 0, .ref (g 4), .ref (g 5), .ref (g 6), .ref (g 7)]))] sz) (fun (r : Int32) (_ : Unit) => r = (-2)) (fun (_ : Unit) => [(g 0, .inr (8, xF g)), (g 3, .inr (0, [.int 0, .int 0, .int 0, .int 0, .int 0, .int 0, .ref (g 4), .ref (g 5), .ref (g 6), .ref (g 7)]))])) 0 0 (va_A [(g 0, .inr (8, xF g)), (g 3, .inr (0, [.int 0, .int 0, .int 0, .int 0, .int 0, .int 0, .ref (g 4), .ref (g 5), .ref (g 6), .ref (g 7)]))] sz) := by
  refine Met.ofW (cc := cX8_way) (maxL := 6) (ret := (some .int)) (by decide) rfl ?_
  intro p e s m args below meth c s₁ B hml hv
  obtain ⟨rfl, hsz, hP, hK, hD0⟩ := hv
  have hx := B.exec
  have hb := B.bytes
  have hr := B.returns
  have hts := hts_g (atoms_spec (ws := ww yX8_way cX8_way 6 (some .int)) B.pre)
  have hown : s.vm.findClass RX8 = some m.cls := findClass_of_methodNamed B.named
  have hlocks := B.notSynchronized
  subst hsz
  have hD := hD0.self (sz := s.heap.size)
  generalize hAe : va_A [(g 0, .inr (8, xF g)), (g 3, .inr (0, [.int 0, .int 0, .int 0, .int 0, .int 0, .int 0, .ref (g 4), .ref (g 5), .ref (g 6), .ref (g 7)]))] s.heap.size = A at hD ⊢
  have hA : ∀ q : Nat, s.heap.size ≤ q → A q := fun q h => by rw [← hAe]; exact Or.inr h
  have hS : va_S A s.heap s.heap [] := va_S.rf
  have hl := lv_entry ([.ref (g 0), .int p1, .int p2, .int p3, .int p4]) (n := 6) (Nat.le_of_ble_eq_true rfl)
  rw [lg_entry_eq]
  generalize (lg_sl ([.ref (g 0), .int p1, .int p2, .int p3, .int p4]) ++ List.replicate (6 - (lg_sl ([.ref (g 0), .int p1, .int p2, .int p3, .int p4])).length) Slot.unset).toArray = ls at hl ⊢
  have hl : lv_has ls 6 [(0, .ref (g 0)), (1, .int p1), (2, .int p2), (3, .int p3), (4, .int p4)] := hl
  refine lv_aload_n hx hb dX8_way_0 rfl (lv_at hl 0 rfl) ?_
  refine lv_aload_n hx hb dX8_way_1 rfl (lv_at hl 0 rfl) ?_
  refine va_get (D := D) (ci := 8) (v := .ref (g 35)) (C := RX8) (T := TX8) (N := 12) hx hb hts iX8 hown hK hP 0 rfl rfl 6 (by decide) (hts _ q440) (fun _ h9 => h9) rfl dX8_way_2 ?_
  refine lv_iload_n hx hb dX8_way_5 rfl (lv_at hl 1 rfl) ?_
  have hPc := hP.sub (ws' := [(g 0, .inr (8, xF g)), (g 3, .inr (0, [.int 0, .int 0, .int 0, .int 0, .int 0, .int 0, .ref (g 4), .ref (g 5), .ref (g 6), .ref (g 7)]))]) [0, 1] rfl
  have hDc := hD.sub (ws' := [(g 0, .inr (8, xF g)), (g 3, .inr (0, [.int 0, .int 0, .int 0, .int 0, .int 0, .int 0, .ref (g 4), .ref (g 5), .ref (g 6), .ref (g 7)]))]) [0, 1] (by decide) rfl
  have hFc := va_free (wc := [(g 0, .inr (8, xF g)), (g 3, .inr (0, [.int 0, .int 0, .int 0, .int 0, .int 0, .int 0, .ref (g 4), .ref (g 5), .ref (g 6), .ref (g 7)]))]) hD hS hA [0, 1] rfl
  refine va_calli (va_runV (As := [.ref (g 35), .int p1]) (rest := []) ⟨hx, hb, hml, hown, hts⟩ (c_X8_aimTube l D cy g (g 35) p1 s.heap.size) (cwV 2 hts (gd_V q796 q798 q14 q125 q799) rfl rfl rfl (by decide +kernel) ⟨Nat.le_of_ble_eq_true rfl, Nat.le_of_ble_eq_true rfl⟩) (pr_V hPc hK hDc (va_recv hK hPc (ci := 8) (q0 := 0) rfl rfl)) rfl rfl hl.1 rfl (lv_room (Nat.le_of_ble_eq_true rfl)) dX8_way_6 ⟨Nat.le_of_ble_eq_true rfl, Nat.le_of_ble_eq_true rfl⟩) hS (fun q _ h => hFc q h) hFc (fun r_1 u tS H1 locs ht hvm hw hB hz1 hk1 hS => ?_)
  obtain ⟨hP1, hK1, hD1⟩ := hB
  rw [ht] at hP1
  try dsimp only at hw
  obtain ⟨hP, hD⟩ := va_join (wr := []) (w1 := [(g 0, .inr (8, xF g)), (g 3, .inr (0, [.int 0, .int 0, .int 0, .int 0, .int 0, .int 0, .ref (g 4), .ref (g 5), .ref (g 6), .ref (g 7)]))]) hP hD [0, 1] [] rfl rfl (by decide) (by decide) hk1 hFc hP1 hD1
  generalize H1 = H at hP hS ⊢
  have hP : va_P D clz [(g 0, .inr (8, xF g)), (g 3, .inr (0, [.int 0, .int 0, .int 0, .int 0, .int 0, .int 0, .ref (g 4), .ref (g 5), .ref (g 6), .ref (g 7)]))] H := hP
  have hD : va_D A [(g 0, .inr (8, xF g)), (g 3, .inr (0, [.int 0, .int 0, .int 0, .int 0, .int 0, .int 0, .ref (g 4), .ref (g 5), .ref (g 6), .ref (g 7)]))] := hD
  subst hw
  refine lv_if_eq (tgt := 31) hx hb dX8_way_9 (by decide) (fun _ => ?_) (fun c9 => absurd c9 (by decide))
  refine lv_bipush (v := (-2)) hx hb dX8_way_31 (by decide) ?_
  have hP9 := hP.sub (ws' := [(g 0, .inr (8, xF g)), (g 3, .inr (0, [.int 0, .int 0, .int 0, .int 0, .int 0, .int 0, .ref (g 4), .ref (g 5), .ref (g 6), .ref (g 7)]))]) [0, 1] rfl
  have hD9 := hD.sub (ws' := [(g 0, .inr (8, xF g)), (g 3, .inr (0, [.int 0, .int 0, .int 0, .int 0, .int 0, .int 0, .ref (g 4), .ref (g 5), .ref (g 6), .ref (g 7)]))]) [0, 1] (by decide) rfl
  exact W.iret (v := (-2)) hx hb hr (fun tS ht hW => ⟨⟨(-2), (), rfl, rfl, by rw [ht]; exact hP9, va_K.moved hW.alike hK, hD9⟩, hS.F ht⟩) hS.2.2 dX8_way_33

theorem q891 : Cond.code yX8_range cX8_range 7 (some .int) ∈ lw_g := lw_gm (List.mem_of_getElem? (i := 891) (by decide +kernel)) rfl
theorem dX8_range_0 : decode cX8_range 0 = .ok (.aload_n 0, 1) := by decide +kernel
theorem dX8_range_1 : decode cX8_range 1 = .ok (.aload_n 0, 1) := by decide +kernel
theorem dX8_range_2 : decode cX8_range 2 = .ok (.getfield 43, 3) := by decide +kernel
theorem dX8_range_5 : decode cX8_range 5 = .ok (.iload_n 1, 1) := by decide +kernel
theorem dX8_range_6 : decode cX8_range 6 = .ok (.invokevirtual 186, 3) := by decide +kernel
theorem dX8_range_9 : decode cX8_range 9 = .ok (.ifCond .eq 12, 3) := by decide +kernel
theorem dX8_range_21 : decode cX8_range 21 = .ok (.bipush (-2), 2) := by decide +kernel
theorem dX8_range_23 : decode cX8_range 23 = .ok (.ireturn, 1) := by decide +kernel
set_option maxHeartbeats 4000000 in
set_option maxRecDepth 100000 in
theorem c_X8_range (l : Launch) (D : va_G) (cy : Nat → ClassId) (g : Nat → Nat) (p1 : Int32) (p2 : Int32) (sz : Nat) : Met l yX8_range (ww yX8_range cX8_range 7 (some .int)) ({ frames := 3, cells := 0, slots := 0, locals := 192 }) (va_Pc [.ref (g 0), .int p1, .int p2] (pre D cy [(g 0, .inr (8, xF g)), (g 3, .inr (0, [.int 0, .int 0, .int 0, .int 0, .int 0, .int 0, .ref (g 4), .ref (g 5), .ref (g 6), .ref (g 7)]))] sz)) (qi D cy (va_A [(g 0, .inr (8, xF g)), (g 3, .inr (0, [.int 0, .int 0, .int 0, .int 0, .int 0, .int 0, .ref (g 4), .ref (g 5), .ref (g 6), .ref (g 7)]))] sz) (fun (r : Int32) (_ : Unit) => r = (-2)) (fun (_ : Unit) => [(g 0, .inr (8, xF g)), (g 3, .inr (0, [.int 0, .int 0, .int 0, .int 0, .int 0, .int 0, .ref (g 4), .ref (g 5), .ref (g 6), .ref (g 7)]))])) 0 0 (va_A [(g 0, .inr (8, xF g)), (g 3, .inr (0, [.int 0, .int 0, .int 0, .int 0, .int 0, .int 0, .ref (g 4), .ref (g 5), .ref (g 6), .ref (g 7)]))] sz) := by
  refine Met.ofW (cc := cX8_range) (maxL := 7) (ret := (some .int)) (by decide) rfl ?_
  intro p e s m args below meth c s₁ B hml hv
  obtain ⟨rfl, hsz, hP, hK, hD0⟩ := hv
  have hx := B.exec
  have hb := B.bytes
  have hr := B.returns
  have hts := hts_g (atoms_spec (ws := ww yX8_range cX8_range 7 (some .int)) B.pre)
  have hown : s.vm.findClass RX8 = some m.cls := findClass_of_methodNamed B.named
  have hlocks := B.notSynchronized
  subst hsz
  have hD := hD0.self (sz := s.heap.size)
  generalize hAe : va_A [(g 0, .inr (8, xF g)), (g 3, .inr (0, [.int 0, .int 0, .int 0, .int 0, .int 0, .int 0, .ref (g 4), .ref (g 5), .ref (g 6), .ref (g 7)]))] s.heap.size = A at hD ⊢
  have hA : ∀ q : Nat, s.heap.size ≤ q → A q := fun q h => by rw [← hAe]; exact Or.inr h
  have hS : va_S A s.heap s.heap [] := va_S.rf
  have hl := lv_entry ([.ref (g 0), .int p1, .int p2]) (n := 7) (Nat.le_of_ble_eq_true rfl)
  rw [lg_entry_eq]
  generalize (lg_sl ([.ref (g 0), .int p1, .int p2]) ++ List.replicate (7 - (lg_sl ([.ref (g 0), .int p1, .int p2])).length) Slot.unset).toArray = ls at hl ⊢
  have hl : lv_has ls 7 [(0, .ref (g 0)), (1, .int p1), (2, .int p2)] := hl
  refine lv_aload_n hx hb dX8_range_0 rfl (lv_at hl 0 rfl) ?_
  refine lv_aload_n hx hb dX8_range_1 rfl (lv_at hl 0 rfl) ?_
  refine va_get (D := D) (ci := 8) (v := .ref (g 35)) (C := RX8) (T := TX8) (N := 12) hx hb hts iX8 hown hK hP 0 rfl rfl 6 (by decide) (hts _ q440) (fun _ h9 => h9) rfl dX8_range_2 ?_
  refine lv_iload_n hx hb dX8_range_5 rfl (lv_at hl 1 rfl) ?_
  have hPc := hP.sub (ws' := [(g 0, .inr (8, xF g)), (g 3, .inr (0, [.int 0, .int 0, .int 0, .int 0, .int 0, .int 0, .ref (g 4), .ref (g 5), .ref (g 6), .ref (g 7)]))]) [0, 1] rfl
  have hDc := hD.sub (ws' := [(g 0, .inr (8, xF g)), (g 3, .inr (0, [.int 0, .int 0, .int 0, .int 0, .int 0, .int 0, .ref (g 4), .ref (g 5), .ref (g 6), .ref (g 7)]))]) [0, 1] (by decide) rfl
  have hFc := va_free (wc := [(g 0, .inr (8, xF g)), (g 3, .inr (0, [.int 0, .int 0, .int 0, .int 0, .int 0, .int 0, .ref (g 4), .ref (g 5), .ref (g 6), .ref (g 7)]))]) hD hS hA [0, 1] rfl
  refine va_calli (va_runV (As := [.ref (g 35), .int p1]) (rest := []) ⟨hx, hb, hml, hown, hts⟩ (c_X8_aimTube l D cy g (g 35) p1 s.heap.size) (cwV 2 hts (gd_V q796 q798 q14 q125 q799) rfl rfl rfl (by decide +kernel) ⟨Nat.le_of_ble_eq_true rfl, Nat.le_of_ble_eq_true rfl⟩) (pr_V hPc hK hDc (va_recv hK hPc (ci := 8) (q0 := 0) rfl rfl)) rfl rfl hl.1 rfl (lv_room (Nat.le_of_ble_eq_true rfl)) dX8_range_6 ⟨Nat.le_of_ble_eq_true rfl, Nat.le_of_ble_eq_true rfl⟩) hS (fun q _ h => hFc q h) hFc (fun r_1 u tS H1 locs ht hvm hw hB hz1 hk1 hS => ?_)
  obtain ⟨hP1, hK1, hD1⟩ := hB
  rw [ht] at hP1
  try dsimp only at hw
  obtain ⟨hP, hD⟩ := va_join (wr := []) (w1 := [(g 0, .inr (8, xF g)), (g 3, .inr (0, [.int 0, .int 0, .int 0, .int 0, .int 0, .int 0, .ref (g 4), .ref (g 5), .ref (g 6), .ref (g 7)]))]) hP hD [0, 1] [] rfl rfl (by decide) (by decide) hk1 hFc hP1 hD1
  generalize H1 = H at hP hS ⊢
  have hP : va_P D clz [(g 0, .inr (8, xF g)), (g 3, .inr (0, [.int 0, .int 0, .int 0, .int 0, .int 0, .int 0, .ref (g 4), .ref (g 5), .ref (g 6), .ref (g 7)]))] H := hP
  have hD : va_D A [(g 0, .inr (8, xF g)), (g 3, .inr (0, [.int 0, .int 0, .int 0, .int 0, .int 0, .int 0, .ref (g 4), .ref (g 5), .ref (g 6), .ref (g 7)]))] := hD
  subst hw
  refine lv_if_eq (tgt := 21) hx hb dX8_range_9 (by decide) (fun _ => ?_) (fun c9 => absurd c9 (by decide))
  refine lv_bipush (v := (-2)) hx hb dX8_range_21 (by decide) ?_
  have hP9 := hP.sub (ws' := [(g 0, .inr (8, xF g)), (g 3, .inr (0, [.int 0, .int 0, .int 0, .int 0, .int 0, .int 0, .ref (g 4), .ref (g 5), .ref (g 6), .ref (g 7)]))]) [0, 1] rfl
  have hD9 := hD.sub (ws' := [(g 0, .inr (8, xF g)), (g 3, .inr (0, [.int 0, .int 0, .int 0, .int 0, .int 0, .int 0, .ref (g 4), .ref (g 5), .ref (g 6), .ref (g 7)]))]) [0, 1] (by decide) rfl
  exact W.iret (v := (-2)) hx hb hr (fun tS ht hW => ⟨⟨(-2), (), rfl, rfl, by rw [ht]; exact hP9, va_K.moved hW.alike hK, hD9⟩, hS.F ht⟩) hS.2.2 dX8_range_23

theorem q895 : Cond.code yX8_common cX8_common 5 (some .int) ∈ lw_g := lw_gm (List.mem_of_getElem? (i := 895) (by decide +kernel)) rfl
theorem dX8_common_0 : decode cX8_common 0 = .ok (.iload_n 1, 1) := by decide +kernel
theorem dX8_common_1 : decode cX8_common 1 = .ok (.iload_n 2, 1) := by decide +kernel
theorem dX8_common_2 : decode cX8_common 2 = .ok (.if_icmp .eq 27, 3) := by decide +kernel
theorem dX8_common_5 : decode cX8_common 5 = .ok (.aload_n 0, 1) := by decide +kernel
theorem dX8_common_6 : decode cX8_common 6 = .ok (.aload_n 0, 1) := by decide +kernel
theorem dX8_common_7 : decode cX8_common 7 = .ok (.getfield 43, 3) := by decide +kernel
theorem dX8_common_10 : decode cX8_common 10 = .ok (.iload_n 1, 1) := by decide +kernel
theorem dX8_common_11 : decode cX8_common 11 = .ok (.invokevirtual 186, 3) := by decide +kernel
theorem dX8_common_14 : decode cX8_common 14 = .ok (.ifCond .eq 15, 3) := by decide +kernel
theorem dX8_common_29 : decode cX8_common 29 = .ok (.bipush (-2), 2) := by decide +kernel
theorem dX8_common_31 : decode cX8_common 31 = .ok (.ireturn, 1) := by decide +kernel
set_option maxHeartbeats 4000000 in
set_option maxRecDepth 100000 in
theorem c_X8_common (l : Launch) (D : va_G) (cy : Nat → ClassId) (g : Nat → Nat) (p1 : Int32) (p2 : Int32) (sz : Nat) : Met l yX8_common (ww yX8_common cX8_common 5 (some .int)) ({ frames := 3, cells := 0, slots := 0, locals := 192 }) (va_Pc [.ref (g 0), .int p1, .int p2] (pre D cy [(g 0, .inr (8, xF g)), (g 3, .inr (0, [.int 0, .int 0, .int 0, .int 0, .int 0, .int 0, .ref (g 4), .ref (g 5), .ref (g 6), .ref (g 7)]))] sz)) (qi D cy (va_A [(g 0, .inr (8, xF g)), (g 3, .inr (0, [.int 0, .int 0, .int 0, .int 0, .int 0, .int 0, .ref (g 4), .ref (g 5), .ref (g 6), .ref (g 7)]))] sz) (fun (r : Int32) (_ : Unit) => r = (-2)) (fun (_ : Unit) => [(g 0, .inr (8, xF g)), (g 3, .inr (0, [.int 0, .int 0, .int 0, .int 0, .int 0, .int 0, .ref (g 4), .ref (g 5), .ref (g 6), .ref (g 7)]))])) 0 0 (va_A [(g 0, .inr (8, xF g)), (g 3, .inr (0, [.int 0, .int 0, .int 0, .int 0, .int 0, .int 0, .ref (g 4), .ref (g 5), .ref (g 6), .ref (g 7)]))] sz) := by
  refine Met.ofW (cc := cX8_common) (maxL := 5) (ret := (some .int)) (by decide) rfl ?_
  intro p e s m args below meth c s₁ B hml hv
  obtain ⟨rfl, hsz, hP, hK, hD0⟩ := hv
  have hx := B.exec
  have hb := B.bytes
  have hr := B.returns
  have hts := hts_g (atoms_spec (ws := ww yX8_common cX8_common 5 (some .int)) B.pre)
  have hown : s.vm.findClass RX8 = some m.cls := findClass_of_methodNamed B.named
  have hlocks := B.notSynchronized
  subst hsz
  have hD := hD0.self (sz := s.heap.size)
  generalize hAe : va_A [(g 0, .inr (8, xF g)), (g 3, .inr (0, [.int 0, .int 0, .int 0, .int 0, .int 0, .int 0, .ref (g 4), .ref (g 5), .ref (g 6), .ref (g 7)]))] s.heap.size = A at hD ⊢
  have hA : ∀ q : Nat, s.heap.size ≤ q → A q := fun q h => by rw [← hAe]; exact Or.inr h
  have hS : va_S A s.heap s.heap [] := va_S.rf
  have hl := lv_entry ([.ref (g 0), .int p1, .int p2]) (n := 5) (Nat.le_of_ble_eq_true rfl)
  rw [lg_entry_eq]
  generalize (lg_sl ([.ref (g 0), .int p1, .int p2]) ++ List.replicate (5 - (lg_sl ([.ref (g 0), .int p1, .int p2])).length) Slot.unset).toArray = ls at hl ⊢
  have hl : lv_has ls 5 [(0, .ref (g 0)), (1, .int p1), (2, .int p2)] := hl
  refine lv_iload_n hx hb dX8_common_0 rfl (lv_at hl 1 rfl) ?_
  refine lv_iload_n hx hb dX8_common_1 rfl (lv_at hl 2 rfl) ?_
  refine lv_icmp_eq (tgt := 29) hx hb dX8_common_2 (by decide) (fun c_1 => ?_) (fun c_1 => ?_)
  ·
    refine lv_bipush (v := (-2)) hx hb dX8_common_29 (by decide) ?_
    have hP9 := hP.sub (ws' := [(g 0, .inr (8, xF g)), (g 3, .inr (0, [.int 0, .int 0, .int 0, .int 0, .int 0, .int 0, .ref (g 4), .ref (g 5), .ref (g 6), .ref (g 7)]))]) [0, 1] rfl
    have hD9 := hD.sub (ws' := [(g 0, .inr (8, xF g)), (g 3, .inr (0, [.int 0, .int 0, .int 0, .int 0, .int 0, .int 0, .ref (g 4), .ref (g 5), .ref (g 6), .ref (g 7)]))]) [0, 1] (by decide) rfl
    exact W.iret (v := (-2)) hx hb hr (fun tS ht hW => ⟨⟨(-2), (), rfl, rfl, by rw [ht]; exact hP9, va_K.moved hW.alike hK, hD9⟩, hS.F ht⟩) hS.2.2 dX8_common_31
  ·
    refine lv_aload_n hx hb dX8_common_5 rfl (lv_at hl 0 rfl) ?_
    refine lv_aload_n hx hb dX8_common_6 rfl (lv_at hl 0 rfl) ?_
    refine va_get (D := D) (ci := 8) (v := .ref (g 35)) (C := RX8) (T := TX8) (N := 12) hx hb hts iX8 hown hK hP 0 rfl rfl 6 (by decide) (hts _ q440) (fun _ h9 => h9) rfl dX8_common_7 ?_
    refine lv_iload_n hx hb dX8_common_10 rfl (lv_at hl 1 rfl) ?_
    have hPc := hP.sub (ws' := [(g 0, .inr (8, xF g)), (g 3, .inr (0, [.int 0, .int 0, .int 0, .int 0, .int 0, .int 0, .ref (g 4), .ref (g 5), .ref (g 6), .ref (g 7)]))]) [0, 1] rfl
    have hDc := hD.sub (ws' := [(g 0, .inr (8, xF g)), (g 3, .inr (0, [.int 0, .int 0, .int 0, .int 0, .int 0, .int 0, .ref (g 4), .ref (g 5), .ref (g 6), .ref (g 7)]))]) [0, 1] (by decide) rfl
    have hFc := va_free (wc := [(g 0, .inr (8, xF g)), (g 3, .inr (0, [.int 0, .int 0, .int 0, .int 0, .int 0, .int 0, .ref (g 4), .ref (g 5), .ref (g 6), .ref (g 7)]))]) hD hS hA [0, 1] rfl
    refine va_calli (va_runV (As := [.ref (g 35), .int p1]) (rest := []) ⟨hx, hb, hml, hown, hts⟩ (c_X8_aimTube l D cy g (g 35) p1 s.heap.size) (cwV 2 hts (gd_V q796 q798 q14 q125 q799) rfl rfl rfl (by decide +kernel) ⟨Nat.le_of_ble_eq_true rfl, Nat.le_of_ble_eq_true rfl⟩) (pr_V hPc hK hDc (va_recv hK hPc (ci := 8) (q0 := 0) rfl rfl)) rfl rfl hl.1 rfl (lv_room (Nat.le_of_ble_eq_true rfl)) dX8_common_11 ⟨Nat.le_of_ble_eq_true rfl, Nat.le_of_ble_eq_true rfl⟩) hS (fun q _ h => hFc q h) hFc (fun r_2 u tS H1 locs ht hvm hw hB hz1 hk1 hS => ?_)
    obtain ⟨hP1, hK1, hD1⟩ := hB
    rw [ht] at hP1
    try dsimp only at hw
    obtain ⟨hP, hD⟩ := va_join (wr := []) (w1 := [(g 0, .inr (8, xF g)), (g 3, .inr (0, [.int 0, .int 0, .int 0, .int 0, .int 0, .int 0, .ref (g 4), .ref (g 5), .ref (g 6), .ref (g 7)]))]) hP hD [0, 1] [] rfl rfl (by decide) (by decide) hk1 hFc hP1 hD1
    generalize H1 = H at hP hS ⊢
    have hP : va_P D clz [(g 0, .inr (8, xF g)), (g 3, .inr (0, [.int 0, .int 0, .int 0, .int 0, .int 0, .int 0, .ref (g 4), .ref (g 5), .ref (g 6), .ref (g 7)]))] H := hP
    have hD : va_D A [(g 0, .inr (8, xF g)), (g 3, .inr (0, [.int 0, .int 0, .int 0, .int 0, .int 0, .int 0, .ref (g 4), .ref (g 5), .ref (g 6), .ref (g 7)]))] := hD
    subst hw
    refine lv_if_eq (tgt := 29) hx hb dX8_common_14 (by decide) (fun _ => ?_) (fun c9 => absurd c9 (by decide))
    refine lv_bipush (v := (-2)) hx hb dX8_common_29 (by decide) ?_
    have hP9 := hP.sub (ws' := [(g 0, .inr (8, xF g)), (g 3, .inr (0, [.int 0, .int 0, .int 0, .int 0, .int 0, .int 0, .ref (g 4), .ref (g 5), .ref (g 6), .ref (g 7)]))]) [0, 1] rfl
    have hD9 := hD.sub (ws' := [(g 0, .inr (8, xF g)), (g 3, .inr (0, [.int 0, .int 0, .int 0, .int 0, .int 0, .int 0, .ref (g 4), .ref (g 5), .ref (g 6), .ref (g 7)]))]) [0, 1] (by decide) rfl
    exact W.iret (v := (-2)) hx hb hr (fun tS ht hW => ⟨⟨(-2), (), rfl, rfl, by rw [ht]; exact hP9, va_K.moved hW.alike hK, hD9⟩, hS.F ht⟩) hS.2.2 dX8_common_31

theorem q899 : Cond.code yX8_move cX8_move 4 (some .int) ∈ lw_g := lw_gm (List.mem_of_getElem? (i := 899) (by decide +kernel)) rfl
theorem dX8_move_0 : decode cX8_move 0 = .ok (.aload_n 0, 1) := by decide +kernel
theorem dX8_move_1 : decode cX8_move 1 = .ok (.aload_n 0, 1) := by decide +kernel
theorem dX8_move_2 : decode cX8_move 2 = .ok (.getfield 43, 3) := by decide +kernel
theorem dX8_move_5 : decode cX8_move 5 = .ok (.iload_n 1, 1) := by decide +kernel
theorem dX8_move_6 : decode cX8_move 6 = .ok (.invokevirtual 186, 3) := by decide +kernel
theorem dX8_move_9 : decode cX8_move 9 = .ok (.ifCond .eq 25, 3) := by decide +kernel
theorem dX8_move_34 : decode cX8_move 34 = .ok (.bipush (-2), 2) := by decide +kernel
theorem dX8_move_36 : decode cX8_move 36 = .ok (.ireturn, 1) := by decide +kernel
set_option maxHeartbeats 4000000 in
set_option maxRecDepth 100000 in
theorem c_X8_move (l : Launch) (D : va_G) (cy : Nat → ClassId) (g : Nat → Nat) (p1 : Int32) (p2 : Int32) (p3 : Int32) (sz : Nat) : Met l yX8_move (ww yX8_move cX8_move 4 (some .int)) ({ frames := 3, cells := 0, slots := 0, locals := 192 }) (va_Pc [.ref (g 0), .int p1, .int p2, .int p3] (pre D cy [(g 0, .inr (8, xF g)), (g 3, .inr (0, [.int 0, .int 0, .int 0, .int 0, .int 0, .int 0, .ref (g 4), .ref (g 5), .ref (g 6), .ref (g 7)]))] sz)) (qi D cy (va_A [(g 0, .inr (8, xF g)), (g 3, .inr (0, [.int 0, .int 0, .int 0, .int 0, .int 0, .int 0, .ref (g 4), .ref (g 5), .ref (g 6), .ref (g 7)]))] sz) (fun (r : Int32) (_ : Unit) => r = (-2)) (fun (_ : Unit) => [(g 0, .inr (8, xF g)), (g 3, .inr (0, [.int 0, .int 0, .int 0, .int 0, .int 0, .int 0, .ref (g 4), .ref (g 5), .ref (g 6), .ref (g 7)]))])) 0 0 (va_A [(g 0, .inr (8, xF g)), (g 3, .inr (0, [.int 0, .int 0, .int 0, .int 0, .int 0, .int 0, .ref (g 4), .ref (g 5), .ref (g 6), .ref (g 7)]))] sz) := by
  refine Met.ofW (cc := cX8_move) (maxL := 4) (ret := (some .int)) (by decide) rfl ?_
  intro p e s m args below meth c s₁ B hml hv
  obtain ⟨rfl, hsz, hP, hK, hD0⟩ := hv
  have hx := B.exec
  have hb := B.bytes
  have hr := B.returns
  have hts := hts_g (atoms_spec (ws := ww yX8_move cX8_move 4 (some .int)) B.pre)
  have hown : s.vm.findClass RX8 = some m.cls := findClass_of_methodNamed B.named
  have hlocks := B.notSynchronized
  subst hsz
  have hD := hD0.self (sz := s.heap.size)
  generalize hAe : va_A [(g 0, .inr (8, xF g)), (g 3, .inr (0, [.int 0, .int 0, .int 0, .int 0, .int 0, .int 0, .ref (g 4), .ref (g 5), .ref (g 6), .ref (g 7)]))] s.heap.size = A at hD ⊢
  have hA : ∀ q : Nat, s.heap.size ≤ q → A q := fun q h => by rw [← hAe]; exact Or.inr h
  have hS : va_S A s.heap s.heap [] := va_S.rf
  have hl := lv_entry ([.ref (g 0), .int p1, .int p2, .int p3]) (n := 4) (Nat.le_of_ble_eq_true rfl)
  rw [lg_entry_eq]
  generalize (lg_sl ([.ref (g 0), .int p1, .int p2, .int p3]) ++ List.replicate (4 - (lg_sl ([.ref (g 0), .int p1, .int p2, .int p3])).length) Slot.unset).toArray = ls at hl ⊢
  have hl : lv_has ls 4 [(0, .ref (g 0)), (1, .int p1), (2, .int p2), (3, .int p3)] := hl
  refine lv_aload_n hx hb dX8_move_0 rfl (lv_at hl 0 rfl) ?_
  refine lv_aload_n hx hb dX8_move_1 rfl (lv_at hl 0 rfl) ?_
  refine va_get (D := D) (ci := 8) (v := .ref (g 35)) (C := RX8) (T := TX8) (N := 12) hx hb hts iX8 hown hK hP 0 rfl rfl 6 (by decide) (hts _ q440) (fun _ h9 => h9) rfl dX8_move_2 ?_
  refine lv_iload_n hx hb dX8_move_5 rfl (lv_at hl 1 rfl) ?_
  have hPc := hP.sub (ws' := [(g 0, .inr (8, xF g)), (g 3, .inr (0, [.int 0, .int 0, .int 0, .int 0, .int 0, .int 0, .ref (g 4), .ref (g 5), .ref (g 6), .ref (g 7)]))]) [0, 1] rfl
  have hDc := hD.sub (ws' := [(g 0, .inr (8, xF g)), (g 3, .inr (0, [.int 0, .int 0, .int 0, .int 0, .int 0, .int 0, .ref (g 4), .ref (g 5), .ref (g 6), .ref (g 7)]))]) [0, 1] (by decide) rfl
  have hFc := va_free (wc := [(g 0, .inr (8, xF g)), (g 3, .inr (0, [.int 0, .int 0, .int 0, .int 0, .int 0, .int 0, .ref (g 4), .ref (g 5), .ref (g 6), .ref (g 7)]))]) hD hS hA [0, 1] rfl
  refine va_calli (va_runV (As := [.ref (g 35), .int p1]) (rest := []) ⟨hx, hb, hml, hown, hts⟩ (c_X8_aimTube l D cy g (g 35) p1 s.heap.size) (cwV 2 hts (gd_V q796 q798 q14 q125 q799) rfl rfl rfl (by decide +kernel) ⟨Nat.le_of_ble_eq_true rfl, Nat.le_of_ble_eq_true rfl⟩) (pr_V hPc hK hDc (va_recv hK hPc (ci := 8) (q0 := 0) rfl rfl)) rfl rfl hl.1 rfl (lv_room (Nat.le_of_ble_eq_true rfl)) dX8_move_6 ⟨Nat.le_of_ble_eq_true rfl, Nat.le_of_ble_eq_true rfl⟩) hS (fun q _ h => hFc q h) hFc (fun r_1 u tS H1 locs ht hvm hw hB hz1 hk1 hS => ?_)
  obtain ⟨hP1, hK1, hD1⟩ := hB
  rw [ht] at hP1
  try dsimp only at hw
  obtain ⟨hP, hD⟩ := va_join (wr := []) (w1 := [(g 0, .inr (8, xF g)), (g 3, .inr (0, [.int 0, .int 0, .int 0, .int 0, .int 0, .int 0, .ref (g 4), .ref (g 5), .ref (g 6), .ref (g 7)]))]) hP hD [0, 1] [] rfl rfl (by decide) (by decide) hk1 hFc hP1 hD1
  generalize H1 = H at hP hS ⊢
  have hP : va_P D clz [(g 0, .inr (8, xF g)), (g 3, .inr (0, [.int 0, .int 0, .int 0, .int 0, .int 0, .int 0, .ref (g 4), .ref (g 5), .ref (g 6), .ref (g 7)]))] H := hP
  have hD : va_D A [(g 0, .inr (8, xF g)), (g 3, .inr (0, [.int 0, .int 0, .int 0, .int 0, .int 0, .int 0, .ref (g 4), .ref (g 5), .ref (g 6), .ref (g 7)]))] := hD
  subst hw
  refine lv_if_eq (tgt := 34) hx hb dX8_move_9 (by decide) (fun _ => ?_) (fun c9 => absurd c9 (by decide))
  refine lv_bipush (v := (-2)) hx hb dX8_move_34 (by decide) ?_
  have hP9 := hP.sub (ws' := [(g 0, .inr (8, xF g)), (g 3, .inr (0, [.int 0, .int 0, .int 0, .int 0, .int 0, .int 0, .ref (g 4), .ref (g 5), .ref (g 6), .ref (g 7)]))]) [0, 1] rfl
  have hD9 := hD.sub (ws' := [(g 0, .inr (8, xF g)), (g 3, .inr (0, [.int 0, .int 0, .int 0, .int 0, .int 0, .int 0, .ref (g 4), .ref (g 5), .ref (g 6), .ref (g 7)]))]) [0, 1] (by decide) rfl
  exact W.iret (v := (-2)) hx hb hr (fun tS ht hW => ⟨⟨(-2), (), rfl, rfl, by rw [ht]; exact hP9, va_K.moved hW.alike hK, hD9⟩, hS.F ht⟩) hS.2.2 dX8_move_36

theorem q913 : Cond.code yX8_plays cX8_plays 4 (some .int) ∈ lw_g := lw_gm (List.mem_of_getElem? (i := 913) (by decide +kernel)) rfl
theorem q914 : Cond.methodLink RX8 248 yX8_layBest ∈ lw_g := lw_gm (List.mem_of_getElem? (i := 914) (by decide +kernel)) rfl
theorem q916 : Cond.instanceMethod yX8_layBest ∈ lw_g := lw_gm (List.mem_of_getElem? (i := 916) (by decide +kernel)) rfl
theorem q18 : Cond.selects RX8 yX8_layBest yX8_layBest ∈ lw_g := lw_gm (List.mem_of_getElem? (i := 18) (by decide +kernel)) rfl
theorem dX8_plays_0 : decode cX8_plays 0 = .ok (.aload_n 0, 1) := by decide +kernel
theorem dX8_plays_1 : decode cX8_plays 1 = .ok (.iload_n 1, 1) := by decide +kernel
theorem dX8_plays_2 : decode cX8_plays 2 = .ok (.iload_n 2, 1) := by decide +kernel
theorem dX8_plays_3 : decode cX8_plays 3 = .ok (.invokevirtual 248, 3) := by decide +kernel
theorem dX8_plays_6 : decode cX8_plays 6 = .ok (.istore_n 3, 1) := by decide +kernel
theorem dX8_plays_7 : decode cX8_plays 7 = .ok (.iload_n 3, 1) := by decide +kernel
theorem dX8_plays_8 : decode cX8_plays 8 = .ok (.bipush (-2), 2) := by decide +kernel
theorem dX8_plays_10 : decode cX8_plays 10 = .ok (.if_icmp .ne 6, 3) := by decide +kernel
theorem dX8_plays_13 : decode cX8_plays 13 = .ok (.bipush (-2), 2) := by decide +kernel
theorem dX8_plays_15 : decode cX8_plays 15 = .ok (.ireturn, 1) := by decide +kernel
set_option maxHeartbeats 4000000 in
set_option maxRecDepth 100000 in
theorem c_X8_plays (l : Launch) (D : va_G) (cy : Nat → ClassId) (g : Nat → Nat) (p1 : Int32) (p2 : Int32) (sz : Nat) : Met l yX8_plays (ww yX8_plays cX8_plays 4 (some .int)) ({ frames := 4, cells := 0, slots := 0, locals := 256 }) (va_Pc [.ref (g 0), .int p1, .int p2] (pre D cy [(g 0, .inr (8, xF g)), (g 3, .inr (0, [.int 0, .int 0, .int 0, .int 0, .int 0, .int 0, .ref (g 4), .ref (g 5), .ref (g 6), .ref (g 7)]))] sz)) (qi D cy (va_A [(g 0, .inr (8, xF g)), (g 3, .inr (0, [.int 0, .int 0, .int 0, .int 0, .int 0, .int 0, .ref (g 4), .ref (g 5), .ref (g 6), .ref (g 7)]))] sz) (fun (r : Int32) (_ : Unit) => r = (-2)) (fun (_ : Unit) => [(g 0, .inr (8, xF g)), (g 3, .inr (0, [.int 0, .int 0, .int 0, .int 0, .int 0, .int 0, .ref (g 4), .ref (g 5), .ref (g 6), .ref (g 7)]))])) 0 0 (va_A [(g 0, .inr (8, xF g)), (g 3, .inr (0, [.int 0, .int 0, .int 0, .int 0, .int 0, .int 0, .ref (g 4), .ref (g 5), .ref (g 6), .ref (g 7)]))] sz) := by
  refine Met.ofW (cc := cX8_plays) (maxL := 4) (ret := (some .int)) (by decide) rfl ?_
  intro p e s m args below meth c s₁ B hml hv
  obtain ⟨rfl, hsz, hP, hK, hD0⟩ := hv
  have hx := B.exec
  have hb := B.bytes
  have hr := B.returns
  have hts := hts_g (atoms_spec (ws := ww yX8_plays cX8_plays 4 (some .int)) B.pre)
  have hown : s.vm.findClass RX8 = some m.cls := findClass_of_methodNamed B.named
  have hlocks := B.notSynchronized
  subst hsz
  have hD := hD0.self (sz := s.heap.size)
  generalize hAe : va_A [(g 0, .inr (8, xF g)), (g 3, .inr (0, [.int 0, .int 0, .int 0, .int 0, .int 0, .int 0, .ref (g 4), .ref (g 5), .ref (g 6), .ref (g 7)]))] s.heap.size = A at hD ⊢
  have hA : ∀ q : Nat, s.heap.size ≤ q → A q := fun q h => by rw [← hAe]; exact Or.inr h
  have hS : va_S A s.heap s.heap [] := va_S.rf
  have hl := lv_entry ([.ref (g 0), .int p1, .int p2]) (n := 4) (Nat.le_of_ble_eq_true rfl)
  rw [lg_entry_eq]
  generalize (lg_sl ([.ref (g 0), .int p1, .int p2]) ++ List.replicate (4 - (lg_sl ([.ref (g 0), .int p1, .int p2])).length) Slot.unset).toArray = ls at hl ⊢
  have hl : lv_has ls 4 [(0, .ref (g 0)), (1, .int p1), (2, .int p2)] := hl
  refine lv_aload_n hx hb dX8_plays_0 rfl (lv_at hl 0 rfl) ?_
  refine lv_iload_n hx hb dX8_plays_1 rfl (lv_at hl 1 rfl) ?_
  refine lv_iload_n hx hb dX8_plays_2 rfl (lv_at hl 2 rfl) ?_
  have hPc := hP.sub (ws' := [(g 0, .inr (8, xF g)), (g 3, .inr (0, [.int 0, .int 0, .int 0, .int 0, .int 0, .int 0, .ref (g 4), .ref (g 5), .ref (g 6), .ref (g 7)]))]) [0, 1] rfl
  have hDc := hD.sub (ws' := [(g 0, .inr (8, xF g)), (g 3, .inr (0, [.int 0, .int 0, .int 0, .int 0, .int 0, .int 0, .ref (g 4), .ref (g 5), .ref (g 6), .ref (g 7)]))]) [0, 1] (by decide) rfl
  have hFc := va_free (wc := [(g 0, .inr (8, xF g)), (g 3, .inr (0, [.int 0, .int 0, .int 0, .int 0, .int 0, .int 0, .ref (g 4), .ref (g 5), .ref (g 6), .ref (g 7)]))]) hD hS hA [0, 1] rfl
  refine va_calli (va_runV (As := [.int p1, .int p2]) (rest := []) ⟨hx, hb, hml, hown, hts⟩ (c_X8_layBest l D cy g p1 p2 s.heap.size) (cwV 2 hts (gd_V q914 q916 q18 q125 q917) rfl rfl rfl (by decide +kernel) ⟨Nat.le_of_ble_eq_true rfl, Nat.le_of_ble_eq_true rfl⟩) (pr_V hPc hK hDc (va_recv hK hPc (ci := 8) (q0 := 0) rfl rfl)) rfl rfl hl.1 rfl (lv_room (Nat.le_of_ble_eq_true rfl)) dX8_plays_3 ⟨Nat.le_of_ble_eq_true rfl, Nat.le_of_ble_eq_true rfl⟩) hS (fun q _ h => hFc q h) hFc (fun r_1 u tS H1 locs ht hvm hw hB hz1 hk1 hS => ?_)
  obtain ⟨hP1, hK1, hD1⟩ := hB
  rw [ht] at hP1
  try dsimp only at hw
  obtain ⟨hP, hD⟩ := va_join (wr := []) (w1 := [(g 0, .inr (8, xF g)), (g 3, .inr (0, [.int 0, .int 0, .int 0, .int 0, .int 0, .int 0, .ref (g 4), .ref (g 5), .ref (g 6), .ref (g 7)]))]) hP hD [0, 1] [] rfl rfl (by decide) (by decide) hk1 hFc hP1 hD1
  generalize H1 = H at hP hS ⊢
  have hP : va_P D clz [(g 0, .inr (8, xF g)), (g 3, .inr (0, [.int 0, .int 0, .int 0, .int 0, .int 0, .int 0, .ref (g 4), .ref (g 5), .ref (g 6), .ref (g 7)]))] H := hP
  have hD : va_D A [(g 0, .inr (8, xF g)), (g 3, .inr (0, [.int 0, .int 0, .int 0, .int 0, .int 0, .int 0, .ref (g 4), .ref (g 5), .ref (g 6), .ref (g 7)]))] := hD
  subst hw
  refine lv_istore_n (lv' := [(3, .int (-2)), (0, .ref (g 0)), (1, .int p1), (2, .int p2)]) hx hb dX8_plays_6 rfl hl (by decide) rfl (fun ls hl => ?_)
  refine lv_iload_n hx hb dX8_plays_7 rfl (lv_at hl 0 rfl) ?_
  refine lv_bipush (v := (-2)) hx hb dX8_plays_8 (by decide) ?_
  refine lv_icmp_ne (tgt := 16) hx hb dX8_plays_10 (by decide) (fun c9 => absurd c9 (by decide)) (fun _ => ?_)
  refine lv_bipush (v := (-2)) hx hb dX8_plays_13 (by decide) ?_
  have hP9 := hP.sub (ws' := [(g 0, .inr (8, xF g)), (g 3, .inr (0, [.int 0, .int 0, .int 0, .int 0, .int 0, .int 0, .ref (g 4), .ref (g 5), .ref (g 6), .ref (g 7)]))]) [0, 1] rfl
  have hD9 := hD.sub (ws' := [(g 0, .inr (8, xF g)), (g 3, .inr (0, [.int 0, .int 0, .int 0, .int 0, .int 0, .int 0, .ref (g 4), .ref (g 5), .ref (g 6), .ref (g 7)]))]) [0, 1] (by decide) rfl
  exact W.iret (v := (-2)) hx hb hr (fun tS ht hW => ⟨⟨(-2), (), rfl, rfl, by rw [ht]; exact hP9, va_K.moved hW.alike hK, hD9⟩, hS.F ht⟩) hS.2.2 dX8_plays_15

theorem q995 : Cond.code yX8_cost cX8_cost 4 (some .int) ∈ lw_g := lw_gm (List.mem_of_getElem? (i := 995) (by decide +kernel)) rfl
theorem dX8_cost_0 : decode cX8_cost 0 = .ok (.aload_n 0, 1) := by decide +kernel
theorem dX8_cost_1 : decode cX8_cost 1 = .ok (.iload_n 1, 1) := by decide +kernel
theorem dX8_cost_2 : decode cX8_cost 2 = .ok (.iload_n 2, 1) := by decide +kernel
theorem dX8_cost_3 : decode cX8_cost 3 = .ok (.invokevirtual 248, 3) := by decide +kernel
theorem dX8_cost_6 : decode cX8_cost 6 = .ok (.istore_n 3, 1) := by decide +kernel
theorem dX8_cost_7 : decode cX8_cost 7 = .ok (.iload_n 3, 1) := by decide +kernel
theorem dX8_cost_8 : decode cX8_cost 8 = .ok (.ifCond .ne 13, 3) := by decide +kernel
theorem dX8_cost_21 : decode cX8_cost 21 = .ok (.iload_n 3, 1) := by decide +kernel
theorem dX8_cost_22 : decode cX8_cost 22 = .ok (.ireturn, 1) := by decide +kernel
set_option maxHeartbeats 4000000 in
set_option maxRecDepth 100000 in
theorem c_X8_cost (l : Launch) (D : va_G) (cy : Nat → ClassId) (g : Nat → Nat) (p1 : Int32) (p2 : Int32) (sz : Nat) : Met l yX8_cost (ww yX8_cost cX8_cost 4 (some .int)) ({ frames := 4, cells := 0, slots := 0, locals := 256 }) (va_Pc [.ref (g 0), .int p1, .int p2] (pre D cy [(g 0, .inr (8, xF g)), (g 3, .inr (0, [.int 0, .int 0, .int 0, .int 0, .int 0, .int 0, .ref (g 4), .ref (g 5), .ref (g 6), .ref (g 7)]))] sz)) (qi D cy (va_A [(g 0, .inr (8, xF g)), (g 3, .inr (0, [.int 0, .int 0, .int 0, .int 0, .int 0, .int 0, .ref (g 4), .ref (g 5), .ref (g 6), .ref (g 7)]))] sz) (fun (r : Int32) (_ : Unit) => r = (-2)) (fun (_ : Unit) => [(g 0, .inr (8, xF g)), (g 3, .inr (0, [.int 0, .int 0, .int 0, .int 0, .int 0, .int 0, .ref (g 4), .ref (g 5), .ref (g 6), .ref (g 7)]))])) 0 0 (va_A [(g 0, .inr (8, xF g)), (g 3, .inr (0, [.int 0, .int 0, .int 0, .int 0, .int 0, .int 0, .ref (g 4), .ref (g 5), .ref (g 6), .ref (g 7)]))] sz) := by
  refine Met.ofW (cc := cX8_cost) (maxL := 4) (ret := (some .int)) (by decide) rfl ?_
  intro p e s m args below meth c s₁ B hml hv
  obtain ⟨rfl, hsz, hP, hK, hD0⟩ := hv
  have hx := B.exec
  have hb := B.bytes
  have hr := B.returns
  have hts := hts_g (atoms_spec (ws := ww yX8_cost cX8_cost 4 (some .int)) B.pre)
  have hown : s.vm.findClass RX8 = some m.cls := findClass_of_methodNamed B.named
  have hlocks := B.notSynchronized
  subst hsz
  have hD := hD0.self (sz := s.heap.size)
  generalize hAe : va_A [(g 0, .inr (8, xF g)), (g 3, .inr (0, [.int 0, .int 0, .int 0, .int 0, .int 0, .int 0, .ref (g 4), .ref (g 5), .ref (g 6), .ref (g 7)]))] s.heap.size = A at hD ⊢
  have hA : ∀ q : Nat, s.heap.size ≤ q → A q := fun q h => by rw [← hAe]; exact Or.inr h
  have hS : va_S A s.heap s.heap [] := va_S.rf
  have hl := lv_entry ([.ref (g 0), .int p1, .int p2]) (n := 4) (Nat.le_of_ble_eq_true rfl)
  rw [lg_entry_eq]
  generalize (lg_sl ([.ref (g 0), .int p1, .int p2]) ++ List.replicate (4 - (lg_sl ([.ref (g 0), .int p1, .int p2])).length) Slot.unset).toArray = ls at hl ⊢
  have hl : lv_has ls 4 [(0, .ref (g 0)), (1, .int p1), (2, .int p2)] := hl
  refine lv_aload_n hx hb dX8_cost_0 rfl (lv_at hl 0 rfl) ?_
  refine lv_iload_n hx hb dX8_cost_1 rfl (lv_at hl 1 rfl) ?_
  refine lv_iload_n hx hb dX8_cost_2 rfl (lv_at hl 2 rfl) ?_
  have hPc := hP.sub (ws' := [(g 0, .inr (8, xF g)), (g 3, .inr (0, [.int 0, .int 0, .int 0, .int 0, .int 0, .int 0, .ref (g 4), .ref (g 5), .ref (g 6), .ref (g 7)]))]) [0, 1] rfl
  have hDc := hD.sub (ws' := [(g 0, .inr (8, xF g)), (g 3, .inr (0, [.int 0, .int 0, .int 0, .int 0, .int 0, .int 0, .ref (g 4), .ref (g 5), .ref (g 6), .ref (g 7)]))]) [0, 1] (by decide) rfl
  have hFc := va_free (wc := [(g 0, .inr (8, xF g)), (g 3, .inr (0, [.int 0, .int 0, .int 0, .int 0, .int 0, .int 0, .ref (g 4), .ref (g 5), .ref (g 6), .ref (g 7)]))]) hD hS hA [0, 1] rfl
  refine va_calli (va_runV (As := [.int p1, .int p2]) (rest := []) ⟨hx, hb, hml, hown, hts⟩ (c_X8_layBest l D cy g p1 p2 s.heap.size) (cwV 2 hts (gd_V q914 q916 q18 q125 q917) rfl rfl rfl (by decide +kernel) ⟨Nat.le_of_ble_eq_true rfl, Nat.le_of_ble_eq_true rfl⟩) (pr_V hPc hK hDc (va_recv hK hPc (ci := 8) (q0 := 0) rfl rfl)) rfl rfl hl.1 rfl (lv_room (Nat.le_of_ble_eq_true rfl)) dX8_cost_3 ⟨Nat.le_of_ble_eq_true rfl, Nat.le_of_ble_eq_true rfl⟩) hS (fun q _ h => hFc q h) hFc (fun r_1 u tS H1 locs ht hvm hw hB hz1 hk1 hS => ?_)
  obtain ⟨hP1, hK1, hD1⟩ := hB
  rw [ht] at hP1
  try dsimp only at hw
  obtain ⟨hP, hD⟩ := va_join (wr := []) (w1 := [(g 0, .inr (8, xF g)), (g 3, .inr (0, [.int 0, .int 0, .int 0, .int 0, .int 0, .int 0, .ref (g 4), .ref (g 5), .ref (g 6), .ref (g 7)]))]) hP hD [0, 1] [] rfl rfl (by decide) (by decide) hk1 hFc hP1 hD1
  generalize H1 = H at hP hS ⊢
  have hP : va_P D clz [(g 0, .inr (8, xF g)), (g 3, .inr (0, [.int 0, .int 0, .int 0, .int 0, .int 0, .int 0, .ref (g 4), .ref (g 5), .ref (g 6), .ref (g 7)]))] H := hP
  have hD : va_D A [(g 0, .inr (8, xF g)), (g 3, .inr (0, [.int 0, .int 0, .int 0, .int 0, .int 0, .int 0, .ref (g 4), .ref (g 5), .ref (g 6), .ref (g 7)]))] := hD
  subst hw
  refine lv_istore_n (lv' := [(3, .int (-2)), (0, .ref (g 0)), (1, .int p1), (2, .int p2)]) hx hb dX8_cost_6 rfl hl (by decide) rfl (fun ls hl => ?_)
  refine lv_iload_n hx hb dX8_cost_7 rfl (lv_at hl 0 rfl) ?_
  refine lv_if_ne (tgt := 21) hx hb dX8_cost_8 (by decide) (fun _ => ?_) (fun c9 => absurd c9 (by decide))
  refine lv_iload_n hx hb dX8_cost_21 rfl (lv_at hl 0 rfl) ?_
  have hP9 := hP.sub (ws' := [(g 0, .inr (8, xF g)), (g 3, .inr (0, [.int 0, .int 0, .int 0, .int 0, .int 0, .int 0, .ref (g 4), .ref (g 5), .ref (g 6), .ref (g 7)]))]) [0, 1] rfl
  have hD9 := hD.sub (ws' := [(g 0, .inr (8, xF g)), (g 3, .inr (0, [.int 0, .int 0, .int 0, .int 0, .int 0, .int 0, .ref (g 4), .ref (g 5), .ref (g 6), .ref (g 7)]))]) [0, 1] (by decide) rfl
  exact W.iret (v := (-2)) hx hb hr (fun tS ht hW => ⟨⟨(-2), (), rfl, rfl, by rw [ht]; exact hP9, va_K.moved hW.alike hK, hD9⟩, hS.F ht⟩) hS.2.2 dX8_cost_22

theorem q999 : Cond.code yX8_sour cX8_sour 4 (some .int) ∈ lw_g := lw_gm (List.mem_of_getElem? (i := 999) (by decide +kernel)) rfl
theorem dX8_sour_0 : decode cX8_sour 0 = .ok (.aload_n 0, 1) := by decide +kernel
theorem dX8_sour_1 : decode cX8_sour 1 = .ok (.iload_n 1, 1) := by decide +kernel
theorem dX8_sour_2 : decode cX8_sour 2 = .ok (.iload_n 2, 1) := by decide +kernel
theorem dX8_sour_3 : decode cX8_sour 3 = .ok (.invokevirtual 248, 3) := by decide +kernel
theorem dX8_sour_6 : decode cX8_sour 6 = .ok (.istore_n 3, 1) := by decide +kernel
theorem dX8_sour_7 : decode cX8_sour 7 = .ok (.iload_n 3, 1) := by decide +kernel
theorem dX8_sour_8 : decode cX8_sour 8 = .ok (.ifCond .ne 13, 3) := by decide +kernel
theorem dX8_sour_21 : decode cX8_sour 21 = .ok (.iload_n 3, 1) := by decide +kernel
theorem dX8_sour_22 : decode cX8_sour 22 = .ok (.ireturn, 1) := by decide +kernel
set_option maxHeartbeats 4000000 in
set_option maxRecDepth 100000 in
theorem c_X8_sour (l : Launch) (D : va_G) (cy : Nat → ClassId) (g : Nat → Nat) (p1 : Int32) (p2 : Int32) (sz : Nat) : Met l yX8_sour (ww yX8_sour cX8_sour 4 (some .int)) ({ frames := 4, cells := 0, slots := 0, locals := 256 }) (va_Pc [.ref (g 0), .int p1, .int p2] (pre D cy [(g 0, .inr (8, xF g)), (g 3, .inr (0, [.int 0, .int 0, .int 0, .int 0, .int 0, .int 0, .ref (g 4), .ref (g 5), .ref (g 6), .ref (g 7)]))] sz)) (qi D cy (va_A [(g 0, .inr (8, xF g)), (g 3, .inr (0, [.int 0, .int 0, .int 0, .int 0, .int 0, .int 0, .ref (g 4), .ref (g 5), .ref (g 6), .ref (g 7)]))] sz) (fun (r : Int32) (_ : Unit) => r = (-2)) (fun (_ : Unit) => [(g 0, .inr (8, xF g)), (g 3, .inr (0, [.int 0, .int 0, .int 0, .int 0, .int 0, .int 0, .ref (g 4), .ref (g 5), .ref (g 6), .ref (g 7)]))])) 0 0 (va_A [(g 0, .inr (8, xF g)), (g 3, .inr (0, [.int 0, .int 0, .int 0, .int 0, .int 0, .int 0, .ref (g 4), .ref (g 5), .ref (g 6), .ref (g 7)]))] sz) := by
  refine Met.ofW (cc := cX8_sour) (maxL := 4) (ret := (some .int)) (by decide) rfl ?_
  intro p e s m args below meth c s₁ B hml hv
  obtain ⟨rfl, hsz, hP, hK, hD0⟩ := hv
  have hx := B.exec
  have hb := B.bytes
  have hr := B.returns
  have hts := hts_g (atoms_spec (ws := ww yX8_sour cX8_sour 4 (some .int)) B.pre)
  have hown : s.vm.findClass RX8 = some m.cls := findClass_of_methodNamed B.named
  have hlocks := B.notSynchronized
  subst hsz
  have hD := hD0.self (sz := s.heap.size)
  generalize hAe : va_A [(g 0, .inr (8, xF g)), (g 3, .inr (0, [.int 0, .int 0, .int 0, .int 0, .int 0, .int 0, .ref (g 4), .ref (g 5), .ref (g 6), .ref (g 7)]))] s.heap.size = A at hD ⊢
  have hA : ∀ q : Nat, s.heap.size ≤ q → A q := fun q h => by rw [← hAe]; exact Or.inr h
  have hS : va_S A s.heap s.heap [] := va_S.rf
  have hl := lv_entry ([.ref (g 0), .int p1, .int p2]) (n := 4) (Nat.le_of_ble_eq_true rfl)
  rw [lg_entry_eq]
  generalize (lg_sl ([.ref (g 0), .int p1, .int p2]) ++ List.replicate (4 - (lg_sl ([.ref (g 0), .int p1, .int p2])).length) Slot.unset).toArray = ls at hl ⊢
  have hl : lv_has ls 4 [(0, .ref (g 0)), (1, .int p1), (2, .int p2)] := hl
  refine lv_aload_n hx hb dX8_sour_0 rfl (lv_at hl 0 rfl) ?_
  refine lv_iload_n hx hb dX8_sour_1 rfl (lv_at hl 1 rfl) ?_
  refine lv_iload_n hx hb dX8_sour_2 rfl (lv_at hl 2 rfl) ?_
  have hPc := hP.sub (ws' := [(g 0, .inr (8, xF g)), (g 3, .inr (0, [.int 0, .int 0, .int 0, .int 0, .int 0, .int 0, .ref (g 4), .ref (g 5), .ref (g 6), .ref (g 7)]))]) [0, 1] rfl
  have hDc := hD.sub (ws' := [(g 0, .inr (8, xF g)), (g 3, .inr (0, [.int 0, .int 0, .int 0, .int 0, .int 0, .int 0, .ref (g 4), .ref (g 5), .ref (g 6), .ref (g 7)]))]) [0, 1] (by decide) rfl
  have hFc := va_free (wc := [(g 0, .inr (8, xF g)), (g 3, .inr (0, [.int 0, .int 0, .int 0, .int 0, .int 0, .int 0, .ref (g 4), .ref (g 5), .ref (g 6), .ref (g 7)]))]) hD hS hA [0, 1] rfl
  refine va_calli (va_runV (As := [.int p1, .int p2]) (rest := []) ⟨hx, hb, hml, hown, hts⟩ (c_X8_layBest l D cy g p1 p2 s.heap.size) (cwV 2 hts (gd_V q914 q916 q18 q125 q917) rfl rfl rfl (by decide +kernel) ⟨Nat.le_of_ble_eq_true rfl, Nat.le_of_ble_eq_true rfl⟩) (pr_V hPc hK hDc (va_recv hK hPc (ci := 8) (q0 := 0) rfl rfl)) rfl rfl hl.1 rfl (lv_room (Nat.le_of_ble_eq_true rfl)) dX8_sour_3 ⟨Nat.le_of_ble_eq_true rfl, Nat.le_of_ble_eq_true rfl⟩) hS (fun q _ h => hFc q h) hFc (fun r_1 u tS H1 locs ht hvm hw hB hz1 hk1 hS => ?_)
  obtain ⟨hP1, hK1, hD1⟩ := hB
  rw [ht] at hP1
  try dsimp only at hw
  obtain ⟨hP, hD⟩ := va_join (wr := []) (w1 := [(g 0, .inr (8, xF g)), (g 3, .inr (0, [.int 0, .int 0, .int 0, .int 0, .int 0, .int 0, .ref (g 4), .ref (g 5), .ref (g 6), .ref (g 7)]))]) hP hD [0, 1] [] rfl rfl (by decide) (by decide) hk1 hFc hP1 hD1
  generalize H1 = H at hP hS ⊢
  have hP : va_P D clz [(g 0, .inr (8, xF g)), (g 3, .inr (0, [.int 0, .int 0, .int 0, .int 0, .int 0, .int 0, .ref (g 4), .ref (g 5), .ref (g 6), .ref (g 7)]))] H := hP
  have hD : va_D A [(g 0, .inr (8, xF g)), (g 3, .inr (0, [.int 0, .int 0, .int 0, .int 0, .int 0, .int 0, .ref (g 4), .ref (g 5), .ref (g 6), .ref (g 7)]))] := hD
  subst hw
  refine lv_istore_n (lv' := [(3, .int (-2)), (0, .ref (g 0)), (1, .int p1), (2, .int p2)]) hx hb dX8_sour_6 rfl hl (by decide) rfl (fun ls hl => ?_)
  refine lv_iload_n hx hb dX8_sour_7 rfl (lv_at hl 0 rfl) ?_
  refine lv_if_ne (tgt := 21) hx hb dX8_sour_8 (by decide) (fun _ => ?_) (fun c9 => absurd c9 (by decide))
  refine lv_iload_n hx hb dX8_sour_21 rfl (lv_at hl 0 rfl) ?_
  have hP9 := hP.sub (ws' := [(g 0, .inr (8, xF g)), (g 3, .inr (0, [.int 0, .int 0, .int 0, .int 0, .int 0, .int 0, .ref (g 4), .ref (g 5), .ref (g 6), .ref (g 7)]))]) [0, 1] rfl
  have hD9 := hD.sub (ws' := [(g 0, .inr (8, xF g)), (g 3, .inr (0, [.int 0, .int 0, .int 0, .int 0, .int 0, .int 0, .ref (g 4), .ref (g 5), .ref (g 6), .ref (g 7)]))]) [0, 1] (by decide) rfl
  exact W.iret (v := (-2)) hx hb hr (fun tS ht hW => ⟨⟨(-2), (), rfl, rfl, by rw [ht]; exact hP9, va_K.moved hW.alike hK, hD9⟩, hS.F ht⟩) hS.2.2 dX8_sour_22

theorem q1003 : Cond.code yX8_chosen cX8_chosen 6 (some .int) ∈ lw_g := lw_gm (List.mem_of_getElem? (i := 1003) (by decide +kernel)) rfl
theorem dX8_chosen_0 : decode cX8_chosen 0 = .ok (.iload 4, 2) := by decide +kernel
theorem dX8_chosen_2 : decode cX8_chosen 2 = .ok (.ifCond .lt 9, 3) := by decide +kernel
theorem dX8_chosen_5 : decode cX8_chosen 5 = .ok (.iload 4, 2) := by decide +kernel
theorem dX8_chosen_7 : decode cX8_chosen 7 = .ok (.iconst 2, 1) := by decide +kernel
theorem dX8_chosen_8 : decode cX8_chosen 8 = .ok (.if_icmp .le 6, 3) := by decide +kernel
theorem dX8_chosen_11 : decode cX8_chosen 11 = .ok (.bipush (-2), 2) := by decide +kernel
theorem dX8_chosen_13 : decode cX8_chosen 13 = .ok (.ireturn, 1) := by decide +kernel
theorem dX8_chosen_14 : decode cX8_chosen 14 = .ok (.aload_n 0, 1) := by decide +kernel
theorem dX8_chosen_15 : decode cX8_chosen 15 = .ok (.iload_n 1, 1) := by decide +kernel
theorem dX8_chosen_16 : decode cX8_chosen 16 = .ok (.iload_n 2, 1) := by decide +kernel
theorem dX8_chosen_17 : decode cX8_chosen 17 = .ok (.invokevirtual 248, 3) := by decide +kernel
theorem dX8_chosen_20 : decode cX8_chosen 20 = .ok (.istore 5, 2) := by decide +kernel
theorem dX8_chosen_22 : decode cX8_chosen 22 = .ok (.iload 5, 2) := by decide +kernel
theorem dX8_chosen_24 : decode cX8_chosen 24 = .ok (.ifCond .ne 23, 3) := by decide +kernel
theorem dX8_chosen_47 : decode cX8_chosen 47 = .ok (.iload 5, 2) := by decide +kernel
theorem dX8_chosen_49 : decode cX8_chosen 49 = .ok (.ireturn, 1) := by decide +kernel
set_option maxHeartbeats 4000000 in
set_option maxRecDepth 100000 in
theorem c_X8_chosen (l : Launch) (D : va_G) (cy : Nat → ClassId) (g : Nat → Nat) (p1 : Int32) (p2 : Int32) (p3 : Int32) (p4 : Int32) (sz : Nat) : Met l yX8_chosen (ww yX8_chosen cX8_chosen 6 (some .int)) ({ frames := 4, cells := 0, slots := 0, locals := 256 }) (va_Pc [.ref (g 0), .int p1, .int p2, .int p3, .int p4] (pre D cy [(g 0, .inr (8, xF g)), (g 3, .inr (0, [.int 0, .int 0, .int 0, .int 0, .int 0, .int 0, .ref (g 4), .ref (g 5), .ref (g 6), .ref (g 7)]))] sz)) (qi D cy (va_A [(g 0, .inr (8, xF g)), (g 3, .inr (0, [.int 0, .int 0, .int 0, .int 0, .int 0, .int 0, .ref (g 4), .ref (g 5), .ref (g 6), .ref (g 7)]))] sz) (fun (r : Int32) (_ : Unit) => r = (-2)) (fun (_ : Unit) => [(g 0, .inr (8, xF g)), (g 3, .inr (0, [.int 0, .int 0, .int 0, .int 0, .int 0, .int 0, .ref (g 4), .ref (g 5), .ref (g 6), .ref (g 7)]))])) 0 0 (va_A [(g 0, .inr (8, xF g)), (g 3, .inr (0, [.int 0, .int 0, .int 0, .int 0, .int 0, .int 0, .ref (g 4), .ref (g 5), .ref (g 6), .ref (g 7)]))] sz) := by
  refine Met.ofW (cc := cX8_chosen) (maxL := 6) (ret := (some .int)) (by decide) rfl ?_
  intro p e s m args below meth c s₁ B hml hv
  obtain ⟨rfl, hsz, hP, hK, hD0⟩ := hv
  have hx := B.exec
  have hb := B.bytes
  have hr := B.returns
  have hts := hts_g (atoms_spec (ws := ww yX8_chosen cX8_chosen 6 (some .int)) B.pre)
  have hown : s.vm.findClass RX8 = some m.cls := findClass_of_methodNamed B.named
  have hlocks := B.notSynchronized
  subst hsz
  have hD := hD0.self (sz := s.heap.size)
  generalize hAe : va_A [(g 0, .inr (8, xF g)), (g 3, .inr (0, [.int 0, .int 0, .int 0, .int 0, .int 0, .int 0, .ref (g 4), .ref (g 5), .ref (g 6), .ref (g 7)]))] s.heap.size = A at hD ⊢
  have hA : ∀ q : Nat, s.heap.size ≤ q → A q := fun q h => by rw [← hAe]; exact Or.inr h
  have hS : va_S A s.heap s.heap [] := va_S.rf
  have hl := lv_entry ([.ref (g 0), .int p1, .int p2, .int p3, .int p4]) (n := 6) (Nat.le_of_ble_eq_true rfl)
  rw [lg_entry_eq]
  generalize (lg_sl ([.ref (g 0), .int p1, .int p2, .int p3, .int p4]) ++ List.replicate (6 - (lg_sl ([.ref (g 0), .int p1, .int p2, .int p3, .int p4])).length) Slot.unset).toArray = ls at hl ⊢
  have hl : lv_has ls 6 [(0, .ref (g 0)), (1, .int p1), (2, .int p2), (3, .int p3), (4, .int p4)] := hl
  refine lv_iload hx hb dX8_chosen_0 (lv_at hl 4 rfl) ?_
  refine lv_if_lt (tgt := 11) hx hb dX8_chosen_2 (by decide) (fun c_1 => ?_) (fun c_1 => ?_)
  ·
    refine lv_bipush (v := (-2)) hx hb dX8_chosen_11 (by decide) ?_
    have hP9 := hP.sub (ws' := [(g 0, .inr (8, xF g)), (g 3, .inr (0, [.int 0, .int 0, .int 0, .int 0, .int 0, .int 0, .ref (g 4), .ref (g 5), .ref (g 6), .ref (g 7)]))]) [0, 1] rfl
    have hD9 := hD.sub (ws' := [(g 0, .inr (8, xF g)), (g 3, .inr (0, [.int 0, .int 0, .int 0, .int 0, .int 0, .int 0, .ref (g 4), .ref (g 5), .ref (g 6), .ref (g 7)]))]) [0, 1] (by decide) rfl
    exact W.iret (v := (-2)) hx hb hr (fun tS ht hW => ⟨⟨(-2), (), rfl, rfl, by rw [ht]; exact hP9, va_K.moved hW.alike hK, hD9⟩, hS.F ht⟩) hS.2.2 dX8_chosen_13
  ·
    refine lv_iload hx hb dX8_chosen_5 (lv_at hl 4 rfl) ?_
    refine lv_iconst (v := 2) hx hb dX8_chosen_7 (by decide) ?_
    refine lv_icmp_le (tgt := 14) hx hb dX8_chosen_8 (by decide) (fun c_2 => ?_) (fun c_2 => ?_)
    ·
      refine lv_aload_n hx hb dX8_chosen_14 rfl (lv_at hl 0 rfl) ?_
      refine lv_iload_n hx hb dX8_chosen_15 rfl (lv_at hl 1 rfl) ?_
      refine lv_iload_n hx hb dX8_chosen_16 rfl (lv_at hl 2 rfl) ?_
      have hPc := hP.sub (ws' := [(g 0, .inr (8, xF g)), (g 3, .inr (0, [.int 0, .int 0, .int 0, .int 0, .int 0, .int 0, .ref (g 4), .ref (g 5), .ref (g 6), .ref (g 7)]))]) [0, 1] rfl
      have hDc := hD.sub (ws' := [(g 0, .inr (8, xF g)), (g 3, .inr (0, [.int 0, .int 0, .int 0, .int 0, .int 0, .int 0, .ref (g 4), .ref (g 5), .ref (g 6), .ref (g 7)]))]) [0, 1] (by decide) rfl
      have hFc := va_free (wc := [(g 0, .inr (8, xF g)), (g 3, .inr (0, [.int 0, .int 0, .int 0, .int 0, .int 0, .int 0, .ref (g 4), .ref (g 5), .ref (g 6), .ref (g 7)]))]) hD hS hA [0, 1] rfl
      refine va_calli (va_runV (As := [.int p1, .int p2]) (rest := []) ⟨hx, hb, hml, hown, hts⟩ (c_X8_layBest l D cy g p1 p2 s.heap.size) (cwV 2 hts (gd_V q914 q916 q18 q125 q917) rfl rfl rfl (by decide +kernel) ⟨Nat.le_of_ble_eq_true rfl, Nat.le_of_ble_eq_true rfl⟩) (pr_V hPc hK hDc (va_recv hK hPc (ci := 8) (q0 := 0) rfl rfl)) rfl rfl hl.1 rfl (lv_room (Nat.le_of_ble_eq_true rfl)) dX8_chosen_17 ⟨Nat.le_of_ble_eq_true rfl, Nat.le_of_ble_eq_true rfl⟩) hS (fun q _ h => hFc q h) hFc (fun r_3 u tS H1 locs ht hvm hw hB hz1 hk1 hS => ?_)
      obtain ⟨hP1, hK1, hD1⟩ := hB
      rw [ht] at hP1
      try dsimp only at hw
      obtain ⟨hP, hD⟩ := va_join (wr := []) (w1 := [(g 0, .inr (8, xF g)), (g 3, .inr (0, [.int 0, .int 0, .int 0, .int 0, .int 0, .int 0, .ref (g 4), .ref (g 5), .ref (g 6), .ref (g 7)]))]) hP hD [0, 1] [] rfl rfl (by decide) (by decide) hk1 hFc hP1 hD1
      generalize H1 = H at hP hS ⊢
      have hP : va_P D clz [(g 0, .inr (8, xF g)), (g 3, .inr (0, [.int 0, .int 0, .int 0, .int 0, .int 0, .int 0, .ref (g 4), .ref (g 5), .ref (g 6), .ref (g 7)]))] H := hP
      have hD : va_D A [(g 0, .inr (8, xF g)), (g 3, .inr (0, [.int 0, .int 0, .int 0, .int 0, .int 0, .int 0, .ref (g 4), .ref (g 5), .ref (g 6), .ref (g 7)]))] := hD
      subst hw
      refine lv_istore (lv' := [(5, .int (-2)), (0, .ref (g 0)), (1, .int p1), (2, .int p2), (3, .int p3), (4, .int p4)]) hx hb dX8_chosen_20 hl (by decide) rfl (fun ls hl => ?_)
      refine lv_iload hx hb dX8_chosen_22 (lv_at hl 0 rfl) ?_
      refine lv_if_ne (tgt := 47) hx hb dX8_chosen_24 (by decide) (fun _ => ?_) (fun c9 => absurd c9 (by decide))
      refine lv_iload hx hb dX8_chosen_47 (lv_at hl 0 rfl) ?_
      have hP9 := hP.sub (ws' := [(g 0, .inr (8, xF g)), (g 3, .inr (0, [.int 0, .int 0, .int 0, .int 0, .int 0, .int 0, .ref (g 4), .ref (g 5), .ref (g 6), .ref (g 7)]))]) [0, 1] rfl
      have hD9 := hD.sub (ws' := [(g 0, .inr (8, xF g)), (g 3, .inr (0, [.int 0, .int 0, .int 0, .int 0, .int 0, .int 0, .ref (g 4), .ref (g 5), .ref (g 6), .ref (g 7)]))]) [0, 1] (by decide) rfl
      exact W.iret (v := (-2)) hx hb hr (fun tS ht hW => ⟨⟨(-2), (), rfl, rfl, by rw [ht]; exact hP9, va_K.moved hW.alike hK, hD9⟩, hS.F ht⟩) hS.2.2 dX8_chosen_49
    ·
      refine lv_bipush (v := (-2)) hx hb dX8_chosen_11 (by decide) ?_
      have hP9 := hP.sub (ws' := [(g 0, .inr (8, xF g)), (g 3, .inr (0, [.int 0, .int 0, .int 0, .int 0, .int 0, .int 0, .ref (g 4), .ref (g 5), .ref (g 6), .ref (g 7)]))]) [0, 1] rfl
      have hD9 := hD.sub (ws' := [(g 0, .inr (8, xF g)), (g 3, .inr (0, [.int 0, .int 0, .int 0, .int 0, .int 0, .int 0, .ref (g 4), .ref (g 5), .ref (g 6), .ref (g 7)]))]) [0, 1] (by decide) rfl
      exact W.iret (v := (-2)) hx hb hr (fun tS ht hW => ⟨⟨(-2), (), rfl, rfl, by rw [ht]; exact hP9, va_K.moved hW.alike hK, hD9⟩, hS.F ht⟩) hS.2.2 dX8_chosen_13

theorem q1015 : Cond.code yX8_slurs cX8_slurs 5 (some .int) ∈ lw_g := lw_gm (List.mem_of_getElem? (i := 1015) (by decide +kernel)) rfl
theorem dX8_slurs_0 : decode cX8_slurs 0 = .ok (.iload_n 3, 1) := by decide +kernel
theorem dX8_slurs_1 : decode cX8_slurs 1 = .ok (.ifCond .lt 8, 3) := by decide +kernel
theorem dX8_slurs_4 : decode cX8_slurs 4 = .ok (.iload_n 3, 1) := by decide +kernel
theorem dX8_slurs_5 : decode cX8_slurs 5 = .ok (.iconst 2, 1) := by decide +kernel
theorem dX8_slurs_6 : decode cX8_slurs 6 = .ok (.if_icmp .le 6, 3) := by decide +kernel
theorem dX8_slurs_9 : decode cX8_slurs 9 = .ok (.bipush (-2), 2) := by decide +kernel
theorem dX8_slurs_11 : decode cX8_slurs 11 = .ok (.ireturn, 1) := by decide +kernel
theorem dX8_slurs_12 : decode cX8_slurs 12 = .ok (.aload_n 0, 1) := by decide +kernel
theorem dX8_slurs_13 : decode cX8_slurs 13 = .ok (.iload_n 1, 1) := by decide +kernel
theorem dX8_slurs_14 : decode cX8_slurs 14 = .ok (.iload_n 2, 1) := by decide +kernel
theorem dX8_slurs_15 : decode cX8_slurs 15 = .ok (.invokevirtual 248, 3) := by decide +kernel
theorem dX8_slurs_18 : decode cX8_slurs 18 = .ok (.istore 4, 2) := by decide +kernel
theorem dX8_slurs_20 : decode cX8_slurs 20 = .ok (.iload 4, 2) := by decide +kernel
theorem dX8_slurs_22 : decode cX8_slurs 22 = .ok (.ifCond .ne 14, 3) := by decide +kernel
theorem dX8_slurs_36 : decode cX8_slurs 36 = .ok (.iload 4, 2) := by decide +kernel
theorem dX8_slurs_38 : decode cX8_slurs 38 = .ok (.ireturn, 1) := by decide +kernel
set_option maxHeartbeats 4000000 in
set_option maxRecDepth 100000 in
theorem c_X8_slurs (l : Launch) (D : va_G) (cy : Nat → ClassId) (g : Nat → Nat) (p1 : Int32) (p2 : Int32) (p3 : Int32) (sz : Nat) : Met l yX8_slurs (ww yX8_slurs cX8_slurs 5 (some .int)) ({ frames := 4, cells := 0, slots := 0, locals := 256 }) (va_Pc [.ref (g 0), .int p1, .int p2, .int p3] (pre D cy [(g 0, .inr (8, xF g)), (g 3, .inr (0, [.int 0, .int 0, .int 0, .int 0, .int 0, .int 0, .ref (g 4), .ref (g 5), .ref (g 6), .ref (g 7)]))] sz)) (qi D cy (va_A [(g 0, .inr (8, xF g)), (g 3, .inr (0, [.int 0, .int 0, .int 0, .int 0, .int 0, .int 0, .ref (g 4), .ref (g 5), .ref (g 6), .ref (g 7)]))] sz) (fun (r : Int32) (_ : Unit) => r = (-2)) (fun (_ : Unit) => [(g 0, .inr (8, xF g)), (g 3, .inr (0, [.int 0, .int 0, .int 0, .int 0, .int 0, .int 0, .ref (g 4), .ref (g 5), .ref (g 6), .ref (g 7)]))])) 0 0 (va_A [(g 0, .inr (8, xF g)), (g 3, .inr (0, [.int 0, .int 0, .int 0, .int 0, .int 0, .int 0, .ref (g 4), .ref (g 5), .ref (g 6), .ref (g 7)]))] sz) := by
  refine Met.ofW (cc := cX8_slurs) (maxL := 5) (ret := (some .int)) (by decide) rfl ?_
  intro p e s m args below meth c s₁ B hml hv
  obtain ⟨rfl, hsz, hP, hK, hD0⟩ := hv
  have hx := B.exec
  have hb := B.bytes
  have hr := B.returns
  have hts := hts_g (atoms_spec (ws := ww yX8_slurs cX8_slurs 5 (some .int)) B.pre)
  have hown : s.vm.findClass RX8 = some m.cls := findClass_of_methodNamed B.named
  have hlocks := B.notSynchronized
  subst hsz
  have hD := hD0.self (sz := s.heap.size)
  generalize hAe : va_A [(g 0, .inr (8, xF g)), (g 3, .inr (0, [.int 0, .int 0, .int 0, .int 0, .int 0, .int 0, .ref (g 4), .ref (g 5), .ref (g 6), .ref (g 7)]))] s.heap.size = A at hD ⊢
  have hA : ∀ q : Nat, s.heap.size ≤ q → A q := fun q h => by rw [← hAe]; exact Or.inr h
  have hS : va_S A s.heap s.heap [] := va_S.rf
  have hl := lv_entry ([.ref (g 0), .int p1, .int p2, .int p3]) (n := 5) (Nat.le_of_ble_eq_true rfl)
  rw [lg_entry_eq]
  generalize (lg_sl ([.ref (g 0), .int p1, .int p2, .int p3]) ++ List.replicate (5 - (lg_sl ([.ref (g 0), .int p1, .int p2, .int p3])).length) Slot.unset).toArray = ls at hl ⊢
  have hl : lv_has ls 5 [(0, .ref (g 0)), (1, .int p1), (2, .int p2), (3, .int p3)] := hl
  refine lv_iload_n hx hb dX8_slurs_0 rfl (lv_at hl 3 rfl) ?_
  refine lv_if_lt (tgt := 9) hx hb dX8_slurs_1 (by decide) (fun c_1 => ?_) (fun c_1 => ?_)
  ·
    refine lv_bipush (v := (-2)) hx hb dX8_slurs_9 (by decide) ?_
    have hP9 := hP.sub (ws' := [(g 0, .inr (8, xF g)), (g 3, .inr (0, [.int 0, .int 0, .int 0, .int 0, .int 0, .int 0, .ref (g 4), .ref (g 5), .ref (g 6), .ref (g 7)]))]) [0, 1] rfl
    have hD9 := hD.sub (ws' := [(g 0, .inr (8, xF g)), (g 3, .inr (0, [.int 0, .int 0, .int 0, .int 0, .int 0, .int 0, .ref (g 4), .ref (g 5), .ref (g 6), .ref (g 7)]))]) [0, 1] (by decide) rfl
    exact W.iret (v := (-2)) hx hb hr (fun tS ht hW => ⟨⟨(-2), (), rfl, rfl, by rw [ht]; exact hP9, va_K.moved hW.alike hK, hD9⟩, hS.F ht⟩) hS.2.2 dX8_slurs_11
  ·
    refine lv_iload_n hx hb dX8_slurs_4 rfl (lv_at hl 3 rfl) ?_
    refine lv_iconst (v := 2) hx hb dX8_slurs_5 (by decide) ?_
    refine lv_icmp_le (tgt := 12) hx hb dX8_slurs_6 (by decide) (fun c_2 => ?_) (fun c_2 => ?_)
    ·
      refine lv_aload_n hx hb dX8_slurs_12 rfl (lv_at hl 0 rfl) ?_
      refine lv_iload_n hx hb dX8_slurs_13 rfl (lv_at hl 1 rfl) ?_
      refine lv_iload_n hx hb dX8_slurs_14 rfl (lv_at hl 2 rfl) ?_
      have hPc := hP.sub (ws' := [(g 0, .inr (8, xF g)), (g 3, .inr (0, [.int 0, .int 0, .int 0, .int 0, .int 0, .int 0, .ref (g 4), .ref (g 5), .ref (g 6), .ref (g 7)]))]) [0, 1] rfl
      have hDc := hD.sub (ws' := [(g 0, .inr (8, xF g)), (g 3, .inr (0, [.int 0, .int 0, .int 0, .int 0, .int 0, .int 0, .ref (g 4), .ref (g 5), .ref (g 6), .ref (g 7)]))]) [0, 1] (by decide) rfl
      have hFc := va_free (wc := [(g 0, .inr (8, xF g)), (g 3, .inr (0, [.int 0, .int 0, .int 0, .int 0, .int 0, .int 0, .ref (g 4), .ref (g 5), .ref (g 6), .ref (g 7)]))]) hD hS hA [0, 1] rfl
      refine va_calli (va_runV (As := [.int p1, .int p2]) (rest := []) ⟨hx, hb, hml, hown, hts⟩ (c_X8_layBest l D cy g p1 p2 s.heap.size) (cwV 2 hts (gd_V q914 q916 q18 q125 q917) rfl rfl rfl (by decide +kernel) ⟨Nat.le_of_ble_eq_true rfl, Nat.le_of_ble_eq_true rfl⟩) (pr_V hPc hK hDc (va_recv hK hPc (ci := 8) (q0 := 0) rfl rfl)) rfl rfl hl.1 rfl (lv_room (Nat.le_of_ble_eq_true rfl)) dX8_slurs_15 ⟨Nat.le_of_ble_eq_true rfl, Nat.le_of_ble_eq_true rfl⟩) hS (fun q _ h => hFc q h) hFc (fun r_3 u tS H1 locs ht hvm hw hB hz1 hk1 hS => ?_)
      obtain ⟨hP1, hK1, hD1⟩ := hB
      rw [ht] at hP1
      try dsimp only at hw
      obtain ⟨hP, hD⟩ := va_join (wr := []) (w1 := [(g 0, .inr (8, xF g)), (g 3, .inr (0, [.int 0, .int 0, .int 0, .int 0, .int 0, .int 0, .ref (g 4), .ref (g 5), .ref (g 6), .ref (g 7)]))]) hP hD [0, 1] [] rfl rfl (by decide) (by decide) hk1 hFc hP1 hD1
      generalize H1 = H at hP hS ⊢
      have hP : va_P D clz [(g 0, .inr (8, xF g)), (g 3, .inr (0, [.int 0, .int 0, .int 0, .int 0, .int 0, .int 0, .ref (g 4), .ref (g 5), .ref (g 6), .ref (g 7)]))] H := hP
      have hD : va_D A [(g 0, .inr (8, xF g)), (g 3, .inr (0, [.int 0, .int 0, .int 0, .int 0, .int 0, .int 0, .ref (g 4), .ref (g 5), .ref (g 6), .ref (g 7)]))] := hD
      subst hw
      refine lv_istore (lv' := [(4, .int (-2)), (0, .ref (g 0)), (1, .int p1), (2, .int p2), (3, .int p3)]) hx hb dX8_slurs_18 hl (by decide) rfl (fun ls hl => ?_)
      refine lv_iload hx hb dX8_slurs_20 (lv_at hl 0 rfl) ?_
      refine lv_if_ne (tgt := 36) hx hb dX8_slurs_22 (by decide) (fun _ => ?_) (fun c9 => absurd c9 (by decide))
      refine lv_iload hx hb dX8_slurs_36 (lv_at hl 0 rfl) ?_
      have hP9 := hP.sub (ws' := [(g 0, .inr (8, xF g)), (g 3, .inr (0, [.int 0, .int 0, .int 0, .int 0, .int 0, .int 0, .ref (g 4), .ref (g 5), .ref (g 6), .ref (g 7)]))]) [0, 1] rfl
      have hD9 := hD.sub (ws' := [(g 0, .inr (8, xF g)), (g 3, .inr (0, [.int 0, .int 0, .int 0, .int 0, .int 0, .int 0, .ref (g 4), .ref (g 5), .ref (g 6), .ref (g 7)]))]) [0, 1] (by decide) rfl
      exact W.iret (v := (-2)) hx hb hr (fun tS ht hW => ⟨⟨(-2), (), rfl, rfl, by rw [ht]; exact hP9, va_K.moved hW.alike hK, hD9⟩, hS.F ht⟩) hS.2.2 dX8_slurs_38
    ·
      refine lv_bipush (v := (-2)) hx hb dX8_slurs_9 (by decide) ?_
      have hP9 := hP.sub (ws' := [(g 0, .inr (8, xF g)), (g 3, .inr (0, [.int 0, .int 0, .int 0, .int 0, .int 0, .int 0, .ref (g 4), .ref (g 5), .ref (g 6), .ref (g 7)]))]) [0, 1] rfl
      have hD9 := hD.sub (ws' := [(g 0, .inr (8, xF g)), (g 3, .inr (0, [.int 0, .int 0, .int 0, .int 0, .int 0, .int 0, .ref (g 4), .ref (g 5), .ref (g 6), .ref (g 7)]))]) [0, 1] (by decide) rfl
      exact W.iret (v := (-2)) hx hb hr (fun tS ht hW => ⟨⟨(-2), (), rfl, rfl, by rw [ht]; exact hP9, va_K.moved hW.alike hK, hD9⟩, hS.F ht⟩) hS.2.2 dX8_slurs_11

theorem q1023 : Cond.code yX8_stuck cX8_stuck 3 (some .int) ∈ lw_g := lw_gm (List.mem_of_getElem? (i := 1023) (by decide +kernel)) rfl
theorem dX8_stuck_0 : decode cX8_stuck 0 = .ok (.aload_n 0, 1) := by decide +kernel
theorem dX8_stuck_1 : decode cX8_stuck 1 = .ok (.iload_n 1, 1) := by decide +kernel
theorem dX8_stuck_2 : decode cX8_stuck 2 = .ok (.iload_n 2, 1) := by decide +kernel
theorem dX8_stuck_3 : decode cX8_stuck 3 = .ok (.invokevirtual 235, 3) := by decide +kernel
theorem dX8_stuck_6 : decode cX8_stuck 6 = .ok (.ifCond .ne 6, 3) := by decide +kernel
theorem dX8_stuck_9 : decode cX8_stuck 9 = .ok (.bipush (-2), 2) := by decide +kernel
theorem dX8_stuck_11 : decode cX8_stuck 11 = .ok (.ireturn, 1) := by decide +kernel
set_option maxHeartbeats 4000000 in
set_option maxRecDepth 100000 in
theorem c_X8_stuck (l : Launch) (D : va_G) (cy : Nat → ClassId) (g : Nat → Nat) (p1 : Int32) (p2 : Int32) (sz : Nat) : Met l yX8_stuck (ww yX8_stuck cX8_stuck 3 (some .int)) ({ frames := 3, cells := 0, slots := 0, locals := 192 }) (va_Pc [.ref (g 0), .int p1, .int p2] (pre D cy [(g 0, .inr (8, xF g)), (g 3, .inr (0, [.int 0, .int 0, .int 0, .int 0, .int 0, .int 0, .ref (g 4), .ref (g 5), .ref (g 6), .ref (g 7)]))] sz)) (qi D cy (va_A [(g 0, .inr (8, xF g)), (g 3, .inr (0, [.int 0, .int 0, .int 0, .int 0, .int 0, .int 0, .ref (g 4), .ref (g 5), .ref (g 6), .ref (g 7)]))] sz) (fun (r : Int32) (_ : Unit) => r = (-2)) (fun (_ : Unit) => [(g 0, .inr (8, xF g)), (g 3, .inr (0, [.int 0, .int 0, .int 0, .int 0, .int 0, .int 0, .ref (g 4), .ref (g 5), .ref (g 6), .ref (g 7)]))])) 0 0 (va_A [(g 0, .inr (8, xF g)), (g 3, .inr (0, [.int 0, .int 0, .int 0, .int 0, .int 0, .int 0, .ref (g 4), .ref (g 5), .ref (g 6), .ref (g 7)]))] sz) := by
  refine Met.ofW (cc := cX8_stuck) (maxL := 3) (ret := (some .int)) (by decide) rfl ?_
  intro p e s m args below meth c s₁ B hml hv
  obtain ⟨rfl, hsz, hP, hK, hD0⟩ := hv
  have hx := B.exec
  have hb := B.bytes
  have hr := B.returns
  have hts := hts_g (atoms_spec (ws := ww yX8_stuck cX8_stuck 3 (some .int)) B.pre)
  have hown : s.vm.findClass RX8 = some m.cls := findClass_of_methodNamed B.named
  have hlocks := B.notSynchronized
  subst hsz
  have hD := hD0.self (sz := s.heap.size)
  generalize hAe : va_A [(g 0, .inr (8, xF g)), (g 3, .inr (0, [.int 0, .int 0, .int 0, .int 0, .int 0, .int 0, .ref (g 4), .ref (g 5), .ref (g 6), .ref (g 7)]))] s.heap.size = A at hD ⊢
  have hA : ∀ q : Nat, s.heap.size ≤ q → A q := fun q h => by rw [← hAe]; exact Or.inr h
  have hS : va_S A s.heap s.heap [] := va_S.rf
  have hl := lv_entry ([.ref (g 0), .int p1, .int p2]) (n := 3) (Nat.le_of_ble_eq_true rfl)
  rw [lg_entry_eq]
  generalize (lg_sl ([.ref (g 0), .int p1, .int p2]) ++ List.replicate (3 - (lg_sl ([.ref (g 0), .int p1, .int p2])).length) Slot.unset).toArray = ls at hl ⊢
  have hl : lv_has ls 3 [(0, .ref (g 0)), (1, .int p1), (2, .int p2)] := hl
  refine lv_aload_n hx hb dX8_stuck_0 rfl (lv_at hl 0 rfl) ?_
  refine lv_iload_n hx hb dX8_stuck_1 rfl (lv_at hl 1 rfl) ?_
  refine lv_iload_n hx hb dX8_stuck_2 rfl (lv_at hl 2 rfl) ?_
  have hPc := hP.sub (ws' := [(g 0, .inr (8, xF g)), (g 3, .inr (0, [.int 0, .int 0, .int 0, .int 0, .int 0, .int 0, .ref (g 4), .ref (g 5), .ref (g 6), .ref (g 7)]))]) [0, 1] rfl
  have hDc := hD.sub (ws' := [(g 0, .inr (8, xF g)), (g 3, .inr (0, [.int 0, .int 0, .int 0, .int 0, .int 0, .int 0, .ref (g 4), .ref (g 5), .ref (g 6), .ref (g 7)]))]) [0, 1] (by decide) rfl
  have hFc := va_free (wc := [(g 0, .inr (8, xF g)), (g 3, .inr (0, [.int 0, .int 0, .int 0, .int 0, .int 0, .int 0, .ref (g 4), .ref (g 5), .ref (g 6), .ref (g 7)]))]) hD hS hA [0, 1] rfl
  refine va_calli (va_runV (As := [.int p1, .int p2]) (rest := []) ⟨hx, hb, hml, hown, hts⟩ (c_X8_hasPair l D cy g p1 p2 s.heap.size) (cwV 2 hts (gd_V q918 q920 q19 q125 q921) rfl rfl rfl (by decide +kernel) ⟨Nat.le_of_ble_eq_true rfl, Nat.le_of_ble_eq_true rfl⟩) (pr_V hPc hK hDc (va_recv hK hPc (ci := 8) (q0 := 0) rfl rfl)) rfl rfl hl.1 rfl (lv_room (Nat.le_of_ble_eq_true rfl)) dX8_stuck_3 ⟨Nat.le_of_ble_eq_true rfl, Nat.le_of_ble_eq_true rfl⟩) hS (fun q _ h => hFc q h) hFc (fun r_1 u tS H1 locs ht hvm hw hB hz1 hk1 hS => ?_)
  obtain ⟨hP1, hK1, hD1⟩ := hB
  rw [ht] at hP1
  try dsimp only at hw
  obtain ⟨hP, hD⟩ := va_join (wr := []) (w1 := [(g 0, .inr (8, xF g)), (g 3, .inr (0, [.int 0, .int 0, .int 0, .int 0, .int 0, .int 0, .ref (g 4), .ref (g 5), .ref (g 6), .ref (g 7)]))]) hP hD [0, 1] [] rfl rfl (by decide) (by decide) hk1 hFc hP1 hD1
  generalize H1 = H at hP hS ⊢
  have hP : va_P D clz [(g 0, .inr (8, xF g)), (g 3, .inr (0, [.int 0, .int 0, .int 0, .int 0, .int 0, .int 0, .ref (g 4), .ref (g 5), .ref (g 6), .ref (g 7)]))] H := hP
  have hD : va_D A [(g 0, .inr (8, xF g)), (g 3, .inr (0, [.int 0, .int 0, .int 0, .int 0, .int 0, .int 0, .ref (g 4), .ref (g 5), .ref (g 6), .ref (g 7)]))] := hD
  subst hw
  refine lv_if_ne (tgt := 12) hx hb dX8_stuck_6 (by decide) (fun c9 => absurd c9 (by decide)) (fun _ => ?_)
  refine lv_bipush (v := (-2)) hx hb dX8_stuck_9 (by decide) ?_
  have hP9 := hP.sub (ws' := [(g 0, .inr (8, xF g)), (g 3, .inr (0, [.int 0, .int 0, .int 0, .int 0, .int 0, .int 0, .ref (g 4), .ref (g 5), .ref (g 6), .ref (g 7)]))]) [0, 1] rfl
  have hD9 := hD.sub (ws' := [(g 0, .inr (8, xF g)), (g 3, .inr (0, [.int 0, .int 0, .int 0, .int 0, .int 0, .int 0, .ref (g 4), .ref (g 5), .ref (g 6), .ref (g 7)]))]) [0, 1] (by decide) rfl
  exact W.iret (v := (-2)) hx hb hr (fun tS ht hW => ⟨⟨(-2), (), rfl, rfl, by rw [ht]; exact hP9, va_K.moved hW.alike hK, hD9⟩, hS.F ht⟩) hS.2.2 dX8_stuck_11

theorem q1035 : Cond.code yX8_quick cX8_quick 3 (some .int) ∈ lw_g := lw_gm (List.mem_of_getElem? (i := 1035) (by decide +kernel)) rfl
theorem dX8_quick_0 : decode cX8_quick 0 = .ok (.aload_n 0, 1) := by decide +kernel
theorem dX8_quick_1 : decode cX8_quick 1 = .ok (.iload_n 1, 1) := by decide +kernel
theorem dX8_quick_2 : decode cX8_quick 2 = .ok (.iload_n 2, 1) := by decide +kernel
theorem dX8_quick_3 : decode cX8_quick 3 = .ok (.invokevirtual 235, 3) := by decide +kernel
theorem dX8_quick_6 : decode cX8_quick 6 = .ok (.ifCond .ne 6, 3) := by decide +kernel
theorem dX8_quick_9 : decode cX8_quick 9 = .ok (.bipush (-2), 2) := by decide +kernel
theorem dX8_quick_11 : decode cX8_quick 11 = .ok (.ireturn, 1) := by decide +kernel
set_option maxHeartbeats 4000000 in
set_option maxRecDepth 100000 in
theorem c_X8_quick (l : Launch) (D : va_G) (cy : Nat → ClassId) (g : Nat → Nat) (p1 : Int32) (p2 : Int32) (sz : Nat) : Met l yX8_quick (ww yX8_quick cX8_quick 3 (some .int)) ({ frames := 3, cells := 0, slots := 0, locals := 192 }) (va_Pc [.ref (g 0), .int p1, .int p2] (pre D cy [(g 0, .inr (8, xF g)), (g 3, .inr (0, [.int 0, .int 0, .int 0, .int 0, .int 0, .int 0, .ref (g 4), .ref (g 5), .ref (g 6), .ref (g 7)]))] sz)) (qi D cy (va_A [(g 0, .inr (8, xF g)), (g 3, .inr (0, [.int 0, .int 0, .int 0, .int 0, .int 0, .int 0, .ref (g 4), .ref (g 5), .ref (g 6), .ref (g 7)]))] sz) (fun (r : Int32) (_ : Unit) => r = (-2)) (fun (_ : Unit) => [(g 0, .inr (8, xF g)), (g 3, .inr (0, [.int 0, .int 0, .int 0, .int 0, .int 0, .int 0, .ref (g 4), .ref (g 5), .ref (g 6), .ref (g 7)]))])) 0 0 (va_A [(g 0, .inr (8, xF g)), (g 3, .inr (0, [.int 0, .int 0, .int 0, .int 0, .int 0, .int 0, .ref (g 4), .ref (g 5), .ref (g 6), .ref (g 7)]))] sz) := by
  refine Met.ofW (cc := cX8_quick) (maxL := 3) (ret := (some .int)) (by decide) rfl ?_
  intro p e s m args below meth c s₁ B hml hv
  obtain ⟨rfl, hsz, hP, hK, hD0⟩ := hv
  have hx := B.exec
  have hb := B.bytes
  have hr := B.returns
  have hts := hts_g (atoms_spec (ws := ww yX8_quick cX8_quick 3 (some .int)) B.pre)
  have hown : s.vm.findClass RX8 = some m.cls := findClass_of_methodNamed B.named
  have hlocks := B.notSynchronized
  subst hsz
  have hD := hD0.self (sz := s.heap.size)
  generalize hAe : va_A [(g 0, .inr (8, xF g)), (g 3, .inr (0, [.int 0, .int 0, .int 0, .int 0, .int 0, .int 0, .ref (g 4), .ref (g 5), .ref (g 6), .ref (g 7)]))] s.heap.size = A at hD ⊢
  have hA : ∀ q : Nat, s.heap.size ≤ q → A q := fun q h => by rw [← hAe]; exact Or.inr h
  have hS : va_S A s.heap s.heap [] := va_S.rf
  have hl := lv_entry ([.ref (g 0), .int p1, .int p2]) (n := 3) (Nat.le_of_ble_eq_true rfl)
  rw [lg_entry_eq]
  generalize (lg_sl ([.ref (g 0), .int p1, .int p2]) ++ List.replicate (3 - (lg_sl ([.ref (g 0), .int p1, .int p2])).length) Slot.unset).toArray = ls at hl ⊢
  have hl : lv_has ls 3 [(0, .ref (g 0)), (1, .int p1), (2, .int p2)] := hl
  refine lv_aload_n hx hb dX8_quick_0 rfl (lv_at hl 0 rfl) ?_
  refine lv_iload_n hx hb dX8_quick_1 rfl (lv_at hl 1 rfl) ?_
  refine lv_iload_n hx hb dX8_quick_2 rfl (lv_at hl 2 rfl) ?_
  have hPc := hP.sub (ws' := [(g 0, .inr (8, xF g)), (g 3, .inr (0, [.int 0, .int 0, .int 0, .int 0, .int 0, .int 0, .ref (g 4), .ref (g 5), .ref (g 6), .ref (g 7)]))]) [0, 1] rfl
  have hDc := hD.sub (ws' := [(g 0, .inr (8, xF g)), (g 3, .inr (0, [.int 0, .int 0, .int 0, .int 0, .int 0, .int 0, .ref (g 4), .ref (g 5), .ref (g 6), .ref (g 7)]))]) [0, 1] (by decide) rfl
  have hFc := va_free (wc := [(g 0, .inr (8, xF g)), (g 3, .inr (0, [.int 0, .int 0, .int 0, .int 0, .int 0, .int 0, .ref (g 4), .ref (g 5), .ref (g 6), .ref (g 7)]))]) hD hS hA [0, 1] rfl
  refine va_calli (va_runV (As := [.int p1, .int p2]) (rest := []) ⟨hx, hb, hml, hown, hts⟩ (c_X8_hasPair l D cy g p1 p2 s.heap.size) (cwV 2 hts (gd_V q918 q920 q19 q125 q921) rfl rfl rfl (by decide +kernel) ⟨Nat.le_of_ble_eq_true rfl, Nat.le_of_ble_eq_true rfl⟩) (pr_V hPc hK hDc (va_recv hK hPc (ci := 8) (q0 := 0) rfl rfl)) rfl rfl hl.1 rfl (lv_room (Nat.le_of_ble_eq_true rfl)) dX8_quick_3 ⟨Nat.le_of_ble_eq_true rfl, Nat.le_of_ble_eq_true rfl⟩) hS (fun q _ h => hFc q h) hFc (fun r_1 u tS H1 locs ht hvm hw hB hz1 hk1 hS => ?_)
  obtain ⟨hP1, hK1, hD1⟩ := hB
  rw [ht] at hP1
  try dsimp only at hw
  obtain ⟨hP, hD⟩ := va_join (wr := []) (w1 := [(g 0, .inr (8, xF g)), (g 3, .inr (0, [.int 0, .int 0, .int 0, .int 0, .int 0, .int 0, .ref (g 4), .ref (g 5), .ref (g 6), .ref (g 7)]))]) hP hD [0, 1] [] rfl rfl (by decide) (by decide) hk1 hFc hP1 hD1
  generalize H1 = H at hP hS ⊢
  have hP : va_P D clz [(g 0, .inr (8, xF g)), (g 3, .inr (0, [.int 0, .int 0, .int 0, .int 0, .int 0, .int 0, .ref (g 4), .ref (g 5), .ref (g 6), .ref (g 7)]))] H := hP
  have hD : va_D A [(g 0, .inr (8, xF g)), (g 3, .inr (0, [.int 0, .int 0, .int 0, .int 0, .int 0, .int 0, .ref (g 4), .ref (g 5), .ref (g 6), .ref (g 7)]))] := hD
  subst hw
  refine lv_if_ne (tgt := 12) hx hb dX8_quick_6 (by decide) (fun c9 => absurd c9 (by decide)) (fun _ => ?_)
  refine lv_bipush (v := (-2)) hx hb dX8_quick_9 (by decide) ?_
  have hP9 := hP.sub (ws' := [(g 0, .inr (8, xF g)), (g 3, .inr (0, [.int 0, .int 0, .int 0, .int 0, .int 0, .int 0, .ref (g 4), .ref (g 5), .ref (g 6), .ref (g 7)]))]) [0, 1] rfl
  have hD9 := hD.sub (ws' := [(g 0, .inr (8, xF g)), (g 3, .inr (0, [.int 0, .int 0, .int 0, .int 0, .int 0, .int 0, .ref (g 4), .ref (g 5), .ref (g 6), .ref (g 7)]))]) [0, 1] (by decide) rfl
  exact W.iret (v := (-2)) hx hb hr (fun tS ht hW => ⟨⟨(-2), (), rfl, rfl, by rw [ht]; exact hP9, va_K.moved hW.alike hK, hD9⟩, hS.F ht⟩) hS.2.2 dX8_quick_11

theorem q1043 : Cond.code yX8_cents cX8_cents 3 (some .int) ∈ lw_g := lw_gm (List.mem_of_getElem? (i := 1043) (by decide +kernel)) rfl
theorem dX8_cents_0 : decode cX8_cents 0 = .ok (.aload_n 0, 1) := by decide +kernel
theorem dX8_cents_1 : decode cX8_cents 1 = .ok (.iload_n 1, 1) := by decide +kernel
theorem dX8_cents_2 : decode cX8_cents 2 = .ok (.iload_n 2, 1) := by decide +kernel
theorem dX8_cents_3 : decode cX8_cents 3 = .ok (.invokevirtual 235, 3) := by decide +kernel
theorem dX8_cents_6 : decode cX8_cents 6 = .ok (.ifCond .ne 6, 3) := by decide +kernel
theorem dX8_cents_9 : decode cX8_cents 9 = .ok (.bipush (-2), 2) := by decide +kernel
theorem dX8_cents_11 : decode cX8_cents 11 = .ok (.ireturn, 1) := by decide +kernel
set_option maxHeartbeats 4000000 in
set_option maxRecDepth 100000 in
theorem c_X8_cents (l : Launch) (D : va_G) (cy : Nat → ClassId) (g : Nat → Nat) (p1 : Int32) (p2 : Int32) (sz : Nat) : Met l yX8_cents (ww yX8_cents cX8_cents 3 (some .int)) ({ frames := 3, cells := 0, slots := 0, locals := 192 }) (va_Pc [.ref (g 0), .int p1, .int p2] (pre D cy [(g 0, .inr (8, xF g)), (g 3, .inr (0, [.int 0, .int 0, .int 0, .int 0, .int 0, .int 0, .ref (g 4), .ref (g 5), .ref (g 6), .ref (g 7)]))] sz)) (qi D cy (va_A [(g 0, .inr (8, xF g)), (g 3, .inr (0, [.int 0, .int 0, .int 0, .int 0, .int 0, .int 0, .ref (g 4), .ref (g 5), .ref (g 6), .ref (g 7)]))] sz) (fun (r : Int32) (_ : Unit) => r = (-2)) (fun (_ : Unit) => [(g 0, .inr (8, xF g)), (g 3, .inr (0, [.int 0, .int 0, .int 0, .int 0, .int 0, .int 0, .ref (g 4), .ref (g 5), .ref (g 6), .ref (g 7)]))])) 0 0 (va_A [(g 0, .inr (8, xF g)), (g 3, .inr (0, [.int 0, .int 0, .int 0, .int 0, .int 0, .int 0, .ref (g 4), .ref (g 5), .ref (g 6), .ref (g 7)]))] sz) := by
  refine Met.ofW (cc := cX8_cents) (maxL := 3) (ret := (some .int)) (by decide) rfl ?_
  intro p e s m args below meth c s₁ B hml hv
  obtain ⟨rfl, hsz, hP, hK, hD0⟩ := hv
  have hx := B.exec
  have hb := B.bytes
  have hr := B.returns
  have hts := hts_g (atoms_spec (ws := ww yX8_cents cX8_cents 3 (some .int)) B.pre)
  have hown : s.vm.findClass RX8 = some m.cls := findClass_of_methodNamed B.named
  have hlocks := B.notSynchronized
  subst hsz
  have hD := hD0.self (sz := s.heap.size)
  generalize hAe : va_A [(g 0, .inr (8, xF g)), (g 3, .inr (0, [.int 0, .int 0, .int 0, .int 0, .int 0, .int 0, .ref (g 4), .ref (g 5), .ref (g 6), .ref (g 7)]))] s.heap.size = A at hD ⊢
  have hA : ∀ q : Nat, s.heap.size ≤ q → A q := fun q h => by rw [← hAe]; exact Or.inr h
  have hS : va_S A s.heap s.heap [] := va_S.rf
  have hl := lv_entry ([.ref (g 0), .int p1, .int p2]) (n := 3) (Nat.le_of_ble_eq_true rfl)
  rw [lg_entry_eq]
  generalize (lg_sl ([.ref (g 0), .int p1, .int p2]) ++ List.replicate (3 - (lg_sl ([.ref (g 0), .int p1, .int p2])).length) Slot.unset).toArray = ls at hl ⊢
  have hl : lv_has ls 3 [(0, .ref (g 0)), (1, .int p1), (2, .int p2)] := hl
  refine lv_aload_n hx hb dX8_cents_0 rfl (lv_at hl 0 rfl) ?_
  refine lv_iload_n hx hb dX8_cents_1 rfl (lv_at hl 1 rfl) ?_
  refine lv_iload_n hx hb dX8_cents_2 rfl (lv_at hl 2 rfl) ?_
  have hPc := hP.sub (ws' := [(g 0, .inr (8, xF g)), (g 3, .inr (0, [.int 0, .int 0, .int 0, .int 0, .int 0, .int 0, .ref (g 4), .ref (g 5), .ref (g 6), .ref (g 7)]))]) [0, 1] rfl
  have hDc := hD.sub (ws' := [(g 0, .inr (8, xF g)), (g 3, .inr (0, [.int 0, .int 0, .int 0, .int 0, .int 0, .int 0, .ref (g 4), .ref (g 5), .ref (g 6), .ref (g 7)]))]) [0, 1] (by decide) rfl
  have hFc := va_free (wc := [(g 0, .inr (8, xF g)), (g 3, .inr (0, [.int 0, .int 0, .int 0, .int 0, .int 0, .int 0, .ref (g 4), .ref (g 5), .ref (g 6), .ref (g 7)]))]) hD hS hA [0, 1] rfl
  refine va_calli (va_runV (As := [.int p1, .int p2]) (rest := []) ⟨hx, hb, hml, hown, hts⟩ (c_X8_hasPair l D cy g p1 p2 s.heap.size) (cwV 2 hts (gd_V q918 q920 q19 q125 q921) rfl rfl rfl (by decide +kernel) ⟨Nat.le_of_ble_eq_true rfl, Nat.le_of_ble_eq_true rfl⟩) (pr_V hPc hK hDc (va_recv hK hPc (ci := 8) (q0 := 0) rfl rfl)) rfl rfl hl.1 rfl (lv_room (Nat.le_of_ble_eq_true rfl)) dX8_cents_3 ⟨Nat.le_of_ble_eq_true rfl, Nat.le_of_ble_eq_true rfl⟩) hS (fun q _ h => hFc q h) hFc (fun r_1 u tS H1 locs ht hvm hw hB hz1 hk1 hS => ?_)
  obtain ⟨hP1, hK1, hD1⟩ := hB
  rw [ht] at hP1
  try dsimp only at hw
  obtain ⟨hP, hD⟩ := va_join (wr := []) (w1 := [(g 0, .inr (8, xF g)), (g 3, .inr (0, [.int 0, .int 0, .int 0, .int 0, .int 0, .int 0, .ref (g 4), .ref (g 5), .ref (g 6), .ref (g 7)]))]) hP hD [0, 1] [] rfl rfl (by decide) (by decide) hk1 hFc hP1 hD1
  generalize H1 = H at hP hS ⊢
  have hP : va_P D clz [(g 0, .inr (8, xF g)), (g 3, .inr (0, [.int 0, .int 0, .int 0, .int 0, .int 0, .int 0, .ref (g 4), .ref (g 5), .ref (g 6), .ref (g 7)]))] H := hP
  have hD : va_D A [(g 0, .inr (8, xF g)), (g 3, .inr (0, [.int 0, .int 0, .int 0, .int 0, .int 0, .int 0, .ref (g 4), .ref (g 5), .ref (g 6), .ref (g 7)]))] := hD
  subst hw
  refine lv_if_ne (tgt := 12) hx hb dX8_cents_6 (by decide) (fun c9 => absurd c9 (by decide)) (fun _ => ?_)
  refine lv_bipush (v := (-2)) hx hb dX8_cents_9 (by decide) ?_
  have hP9 := hP.sub (ws' := [(g 0, .inr (8, xF g)), (g 3, .inr (0, [.int 0, .int 0, .int 0, .int 0, .int 0, .int 0, .ref (g 4), .ref (g 5), .ref (g 6), .ref (g 7)]))]) [0, 1] rfl
  have hD9 := hD.sub (ws' := [(g 0, .inr (8, xF g)), (g 3, .inr (0, [.int 0, .int 0, .int 0, .int 0, .int 0, .int 0, .ref (g 4), .ref (g 5), .ref (g 6), .ref (g 7)]))]) [0, 1] (by decide) rfl
  exact W.iret (v := (-2)) hx hb hr (fun tS ht hW => ⟨⟨(-2), (), rfl, rfl, by rw [ht]; exact hP9, va_K.moved hW.alike hK, hD9⟩, hS.F ht⟩) hS.2.2 dX8_cents_11

