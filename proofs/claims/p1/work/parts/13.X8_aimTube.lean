theorem q799 : Cond.code yX8_aimTube cX8_aimTube 3 (some .boolean) ∈ lw_g := lw_gm (List.mem_of_getElem? (i := 799) (by decide +kernel)) rfl
theorem q776 : Cond.methodLink RX8 173 yX0_hasBrass ∈ lw_g := lw_gm (List.mem_of_getElem? (i := 776) (by decide +kernel)) rfl
theorem dX8_aimTube_0 : decode cX8_aimTube 0 = .ok (.aload_n 0, 1) := by decide +kernel
theorem dX8_aimTube_1 : decode cX8_aimTube 1 = .ok (.getfield 19, 3) := by decide +kernel
theorem dX8_aimTube_4 : decode cX8_aimTube 4 = .ok (.iload_n 2, 1) := by decide +kernel
theorem dX8_aimTube_5 : decode cX8_aimTube 5 = .ok (.invokevirtual 173, 3) := by decide +kernel
theorem dX8_aimTube_8 : decode cX8_aimTube 8 = .ok (.ifCond .ne 5, 3) := by decide +kernel
theorem dX8_aimTube_11 : decode cX8_aimTube 11 = .ok (.iconst 0, 1) := by decide +kernel
theorem dX8_aimTube_12 : decode cX8_aimTube 12 = .ok (.ireturn, 1) := by decide +kernel
set_option maxHeartbeats 4000000 in
set_option maxRecDepth 100000 in
theorem c_X8_aimTube (l : Launch) (D : va_G) (cy : Nat → ClassId) (g : Nat → Nat) (t : Nat) (p1 : Int32) (sz : Nat) : Met l yX8_aimTube (ww yX8_aimTube cX8_aimTube 3 (some .boolean)) ({ frames := 2, cells := 0, slots := 0, locals := 128 }) (va_Pc [.ref (g 0), .ref t, .int p1] (pre D cy [(g 0, .inr (8, xF g)), (g 3, .inr (0, [.int 0, .int 0, .int 0, .int 0, .int 0, .int 0, .ref (g 4), .ref (g 5), .ref (g 6), .ref (g 7)]))] sz)) (qi D cy (va_A [(g 0, .inr (8, xF g)), (g 3, .inr (0, [.int 0, .int 0, .int 0, .int 0, .int 0, .int 0, .ref (g 4), .ref (g 5), .ref (g 6), .ref (g 7)]))] sz) (fun (r : Int32) (_ : Unit) => r = 0) (fun (_ : Unit) => [(g 0, .inr (8, xF g)), (g 3, .inr (0, [.int 0, .int 0, .int 0, .int 0, .int 0, .int 0, .ref (g 4), .ref (g 5), .ref (g 6), .ref (g 7)]))])) 0 0 (va_A [(g 0, .inr (8, xF g)), (g 3, .inr (0, [.int 0, .int 0, .int 0, .int 0, .int 0, .int 0, .ref (g 4), .ref (g 5), .ref (g 6), .ref (g 7)]))] sz) := by
  refine Met.ofW (cc := cX8_aimTube) (maxL := 3) (ret := (some .boolean)) (by decide) rfl ?_
  intro p e s m args below meth c s₁ B hml hv
  obtain ⟨rfl, hsz, hP, hK, hD0⟩ := hv
  have hx := B.exec
  have hb := B.bytes
  have hr := B.returns
  have hts := hts_g (atoms_spec (ws := ww yX8_aimTube cX8_aimTube 3 (some .boolean)) B.pre)
  have hown : s.vm.findClass RX8 = some m.cls := findClass_of_methodNamed B.named
  have hlocks := B.notSynchronized
  subst hsz
  have hD := hD0.self (sz := s.heap.size)
  generalize hAe : va_A [(g 0, .inr (8, xF g)), (g 3, .inr (0, [.int 0, .int 0, .int 0, .int 0, .int 0, .int 0, .ref (g 4), .ref (g 5), .ref (g 6), .ref (g 7)]))] s.heap.size = A at hD ⊢
  have hA : ∀ q : Nat, s.heap.size ≤ q → A q := fun q h => by rw [← hAe]; exact Or.inr h
  have hS : va_S A s.heap s.heap [] := va_S.rf
  have hl := lv_entry ([.ref (g 0), .ref t, .int p1]) (n := 3) (Nat.le_of_ble_eq_true rfl)
  rw [lg_entry_eq]
  generalize (lg_sl ([.ref (g 0), .ref t, .int p1]) ++ List.replicate (3 - (lg_sl ([.ref (g 0), .ref t, .int p1])).length) Slot.unset).toArray = ls at hl ⊢
  have hl : lv_has ls 3 [(0, .ref (g 0)), (1, .ref t), (2, .int p1)] := hl
  refine lv_aload_n hx hb dX8_aimTube_0 rfl (lv_at hl 0 rfl) ?_
  refine va_get (D := D) (ci := 8) (v := .ref (g 3)) (C := RX8) (T := TX8) (N := 12) hx hb hts iX8 hown hK hP 0 rfl rfl 1 (by decide) (hts _ q435) (fun _ h9 => h9) rfl dX8_aimTube_1 ?_
  refine lv_iload_n hx hb dX8_aimTube_4 rfl (lv_at hl 2 rfl) ?_
  have hPc := hP.sub (ws' := [(g 3, .inr (0, [.int 0, .int 0, .int 0, .int 0, .int 0, .int 0, .ref (g 4), .ref (g 5), .ref (g 6), .ref (g 7)]))]) [1] rfl
  have hDc := hD.sub (ws' := [(g 3, .inr (0, [.int 0, .int 0, .int 0, .int 0, .int 0, .int 0, .ref (g 4), .ref (g 5), .ref (g 6), .ref (g 7)]))]) [1] (by decide) rfl
  have hFc := va_free (wc := [(g 3, .inr (0, [.int 0, .int 0, .int 0, .int 0, .int 0, .int 0, .ref (g 4), .ref (g 5), .ref (g 6), .ref (g 7)]))]) hD hS hA [1] rfl
  refine va_calli (va_runV (As := [.int p1]) (rest := []) ⟨hx, hb, hml, hown, hts⟩ (c_X0_hasBrass l D cy (g 3) (g 4) (g 5) (g 6) (g 7) p1 s.heap.size) (cwV 1 hts (gd_V q776 q599 q600 q127 q601) rfl rfl rfl (by decide +kernel) ⟨Nat.le_of_ble_eq_true rfl, Nat.le_of_ble_eq_true rfl⟩) (pr_V hPc hK hDc (va_recv hK hPc (ci := 0) (q0 := 0) rfl rfl)) rfl rfl hl.1 rfl (lv_room (Nat.le_of_ble_eq_true rfl)) dX8_aimTube_5 ⟨Nat.le_of_ble_eq_true rfl, Nat.le_of_ble_eq_true rfl⟩) hS (fun q _ h => hFc q h) hFc (fun r_1 u tS H1 locs ht hvm hw hB hz1 hk1 hS => ?_)
  obtain ⟨hP1, hK1, hD1⟩ := hB
  rw [ht] at hP1
  try dsimp only at hw
  obtain ⟨hP, hD⟩ := va_join (wr := [(g 0, .inr (8, xF g))]) (w1 := [(g 3, .inr (0, [.int 0, .int 0, .int 0, .int 0, .int 0, .int 0, .ref (g 4), .ref (g 5), .ref (g 6), .ref (g 7)]))]) hP hD [1] [0] rfl rfl (by decide) (by decide) hk1 hFc hP1 hD1
  generalize H1 = H at hP hS ⊢
  have hP : va_P D clz [(g 0, .inr (8, xF g)), (g 3, .inr (0, [.int 0, .int 0, .int 0, .int 0, .int 0, .int 0, .ref (g 4), .ref (g 5), .ref (g 6), .ref (g 7)]))] H := hP
  have hD : va_D A [(g 0, .inr (8, xF g)), (g 3, .inr (0, [.int 0, .int 0, .int 0, .int 0, .int 0, .int 0, .ref (g 4), .ref (g 5), .ref (g 6), .ref (g 7)]))] := hD
  subst hw
  refine lv_if_ne (tgt := 13) hx hb dX8_aimTube_8 (by decide) (fun c9 => absurd c9 (by decide)) (fun _ => ?_)
  refine lv_iconst (v := 0) hx hb dX8_aimTube_11 (by decide) ?_
  have hP9 := hP.sub (ws' := [(g 0, .inr (8, xF g)), (g 3, .inr (0, [.int 0, .int 0, .int 0, .int 0, .int 0, .int 0, .ref (g 4), .ref (g 5), .ref (g 6), .ref (g 7)]))]) [0, 1] rfl
  have hD9 := hD.sub (ws' := [(g 0, .inr (8, xF g)), (g 3, .inr (0, [.int 0, .int 0, .int 0, .int 0, .int 0, .int 0, .ref (g 4), .ref (g 5), .ref (g 6), .ref (g 7)]))]) [0, 1] (by decide) rfl
  exact W.zret (v := 0) hx hb hr rfl (fun tS ht hW => ⟨⟨0, (), rfl, rfl, by rw [ht]; exact hP9, va_K.moved hW.alike hK, hD9⟩, hS.F ht⟩) hS.2.2 dX8_aimTube_12

theorem q828 : Cond.code yX8_canBeTried cX8_canBeTried 5 (some .boolean) ∈ lw_g := lw_gm (List.mem_of_getElem? (i := 828) (by decide +kernel)) rfl
theorem q796 : Cond.methodLink RX8 186 yX8_aimTube ∈ lw_g := lw_gm (List.mem_of_getElem? (i := 796) (by decide +kernel)) rfl
theorem q798 : Cond.instanceMethod yX8_aimTube ∈ lw_g := lw_gm (List.mem_of_getElem? (i := 798) (by decide +kernel)) rfl
theorem q14 : Cond.selects RX8 yX8_aimTube yX8_aimTube ∈ lw_g := lw_gm (List.mem_of_getElem? (i := 14) (by decide +kernel)) rfl
theorem q125 : Cond.initialized RX8 ∈ lw_g := lw_gm (List.mem_of_getElem? (i := 125) (by decide +kernel)) rfl
theorem dX8_canBeTried_0 : decode cX8_canBeTried 0 = .ok (.aload_n 0, 1) := by decide +kernel
theorem dX8_canBeTried_1 : decode cX8_canBeTried 1 = .ok (.aload_n 0, 1) := by decide +kernel
theorem dX8_canBeTried_2 : decode cX8_canBeTried 2 = .ok (.getfield 43, 3) := by decide +kernel
theorem dX8_canBeTried_5 : decode cX8_canBeTried 5 = .ok (.iload_n 1, 1) := by decide +kernel
theorem dX8_canBeTried_6 : decode cX8_canBeTried 6 = .ok (.invokevirtual 186, 3) := by decide +kernel
theorem dX8_canBeTried_9 : decode cX8_canBeTried 9 = .ok (.ifCond .eq 38, 3) := by decide +kernel
theorem dX8_canBeTried_47 : decode cX8_canBeTried 47 = .ok (.iconst 0, 1) := by decide +kernel
theorem dX8_canBeTried_48 : decode cX8_canBeTried 48 = .ok (.ireturn, 1) := by decide +kernel
set_option maxHeartbeats 4000000 in
set_option maxRecDepth 100000 in
theorem c_X8_canBeTried (l : Launch) (D : va_G) (cy : Nat → ClassId) (g : Nat → Nat) (p1 : Int32) (p2 : Int32) (p3 : Int32) (p4 : Int32) (sz : Nat) : Met l yX8_canBeTried (ww yX8_canBeTried cX8_canBeTried 5 (some .boolean)) ({ frames := 3, cells := 0, slots := 0, locals := 192 }) (va_Pc [.ref (g 0), .int p1, .int p2, .int p3, .int p4] (pre D cy [(g 0, .inr (8, xF g)), (g 3, .inr (0, [.int 0, .int 0, .int 0, .int 0, .int 0, .int 0, .ref (g 4), .ref (g 5), .ref (g 6), .ref (g 7)]))] sz)) (qi D cy (va_A [(g 0, .inr (8, xF g)), (g 3, .inr (0, [.int 0, .int 0, .int 0, .int 0, .int 0, .int 0, .ref (g 4), .ref (g 5), .ref (g 6), .ref (g 7)]))] sz) (fun (r : Int32) (_ : Unit) => r = 0) (fun (_ : Unit) => [(g 0, .inr (8, xF g)), (g 3, .inr (0, [.int 0, .int 0, .int 0, .int 0, .int 0, .int 0, .ref (g 4), .ref (g 5), .ref (g 6), .ref (g 7)]))])) 0 0 (va_A [(g 0, .inr (8, xF g)), (g 3, .inr (0, [.int 0, .int 0, .int 0, .int 0, .int 0, .int 0, .ref (g 4), .ref (g 5), .ref (g 6), .ref (g 7)]))] sz) := by
  refine Met.ofW (cc := cX8_canBeTried) (maxL := 5) (ret := (some .boolean)) (by decide) rfl ?_
  intro p e s m args below meth c s₁ B hml hv
  obtain ⟨rfl, hsz, hP, hK, hD0⟩ := hv
  have hx := B.exec
  have hb := B.bytes
  have hr := B.returns
  have hts := hts_g (atoms_spec (ws := ww yX8_canBeTried cX8_canBeTried 5 (some .boolean)) B.pre)
  have hown : s.vm.findClass RX8 = some m.cls := findClass_of_methodNamed B.named
  have hlocks := B.notSynchronized
  subst hsz
  have hD := hD0.self (sz := s.heap.size)
  generalize hAe : va_A [(g 0, .inr (8, xF g)), (g 3, .inr (0, [.int 0, .int 0, .int 0, .int 0, .int 0, .int 0, .ref (g 4), .ref (g 5), .ref (g 6), .ref (g 7)]))] s.heap.size = A at hD ⊢
  have hA : ∀ q : Nat, s.heap.size ≤ q → A q := fun q h => by rw [← hAe]; exact Or.inr h
  have hS : va_S A s.heap s.heap [] := va_S.rf
  have hl := lv_entry ([.ref (g 0), .int p1, .int p2, .int p3, .int p4]) (n := 5) (Nat.le_of_ble_eq_true rfl)
  rw [lg_entry_eq]
  generalize (lg_sl ([.ref (g 0), .int p1, .int p2, .int p3, .int p4]) ++ List.replicate (5 - (lg_sl ([.ref (g 0), .int p1, .int p2, .int p3, .int p4])).length) Slot.unset).toArray = ls at hl ⊢
  have hl : lv_has ls 5 [(0, .ref (g 0)), (1, .int p1), (2, .int p2), (3, .int p3), (4, .int p4)] := hl
  refine lv_aload_n hx hb dX8_canBeTried_0 rfl (lv_at hl 0 rfl) ?_
  refine lv_aload_n hx hb dX8_canBeTried_1 rfl (lv_at hl 0 rfl) ?_
  refine va_get (D := D) (ci := 8) (v := .ref (g 35)) (C := RX8) (T := TX8) (N := 12) hx hb hts iX8 hown hK hP 0 rfl rfl 6 (by decide) (hts _ q440) (fun _ h9 => h9) rfl dX8_canBeTried_2 ?_
  refine lv_iload_n hx hb dX8_canBeTried_5 rfl (lv_at hl 1 rfl) ?_
  have hPc := hP.sub (ws' := [(g 0, .inr (8, xF g)), (g 3, .inr (0, [.int 0, .int 0, .int 0, .int 0, .int 0, .int 0, .ref (g 4), .ref (g 5), .ref (g 6), .ref (g 7)]))]) [0, 1] rfl
  have hDc := hD.sub (ws' := [(g 0, .inr (8, xF g)), (g 3, .inr (0, [.int 0, .int 0, .int 0, .int 0, .int 0, .int 0, .ref (g 4), .ref (g 5), .ref (g 6), .ref (g 7)]))]) [0, 1] (by decide) rfl
  have hFc := va_free (wc := [(g 0, .inr (8, xF g)), (g 3, .inr (0, [.int 0, .int 0, .int 0, .int 0, .int 0, .int 0, .ref (g 4), .ref (g 5), .ref (g 6), .ref (g 7)]))]) hD hS hA [0, 1] rfl
  refine va_calli (va_runV (As := [.ref (g 35), .int p1]) (rest := []) ⟨hx, hb, hml, hown, hts⟩ (c_X8_aimTube l D cy g (g 35) p1 s.heap.size) (cwV 2 hts (gd_V q796 q798 q14 q125 q799) rfl rfl rfl (by decide +kernel) ⟨Nat.le_of_ble_eq_true rfl, Nat.le_of_ble_eq_true rfl⟩) (pr_V hPc hK hDc (va_recv hK hPc (ci := 8) (q0 := 0) rfl rfl)) rfl rfl hl.1 rfl (lv_room (Nat.le_of_ble_eq_true rfl)) dX8_canBeTried_6 ⟨Nat.le_of_ble_eq_true rfl, Nat.le_of_ble_eq_true rfl⟩) hS (fun q _ h => hFc q h) hFc (fun r_1 u tS H1 locs ht hvm hw hB hz1 hk1 hS => ?_)
  obtain ⟨hP1, hK1, hD1⟩ := hB
  rw [ht] at hP1
  try dsimp only at hw
  obtain ⟨hP, hD⟩ := va_join (wr := []) (w1 := [(g 0, .inr (8, xF g)), (g 3, .inr (0, [.int 0, .int 0, .int 0, .int 0, .int 0, .int 0, .ref (g 4), .ref (g 5), .ref (g 6), .ref (g 7)]))]) hP hD [0, 1] [] rfl rfl (by decide) (by decide) hk1 hFc hP1 hD1
  generalize H1 = H at hP hS ⊢
  have hP : va_P D clz [(g 0, .inr (8, xF g)), (g 3, .inr (0, [.int 0, .int 0, .int 0, .int 0, .int 0, .int 0, .ref (g 4), .ref (g 5), .ref (g 6), .ref (g 7)]))] H := hP
  have hD : va_D A [(g 0, .inr (8, xF g)), (g 3, .inr (0, [.int 0, .int 0, .int 0, .int 0, .int 0, .int 0, .ref (g 4), .ref (g 5), .ref (g 6), .ref (g 7)]))] := hD
  subst hw
  refine lv_if_eq (tgt := 47) hx hb dX8_canBeTried_9 (by decide) (fun _ => ?_) (fun c9 => absurd c9 (by decide))
  refine lv_iconst (v := 0) hx hb dX8_canBeTried_47 (by decide) ?_
  have hP9 := hP.sub (ws' := [(g 0, .inr (8, xF g)), (g 3, .inr (0, [.int 0, .int 0, .int 0, .int 0, .int 0, .int 0, .ref (g 4), .ref (g 5), .ref (g 6), .ref (g 7)]))]) [0, 1] rfl
  have hD9 := hD.sub (ws' := [(g 0, .inr (8, xF g)), (g 3, .inr (0, [.int 0, .int 0, .int 0, .int 0, .int 0, .int 0, .ref (g 4), .ref (g 5), .ref (g 6), .ref (g 7)]))]) [0, 1] (by decide) rfl
  exact W.zret (v := 0) hx hb hr rfl (fun tS ht hW => ⟨⟨0, (), rfl, rfl, by rw [ht]; exact hP9, va_K.moved hW.alike hK, hD9⟩, hS.F ht⟩) hS.2.2 dX8_canBeTried_48

theorem q921 : Cond.code yX8_hasPair cX8_hasPair 3 (some .boolean) ∈ lw_g := lw_gm (List.mem_of_getElem? (i := 921) (by decide +kernel)) rfl
theorem q767 : Cond.methodLink RX8 163 yX0_hasPlayer ∈ lw_g := lw_gm (List.mem_of_getElem? (i := 767) (by decide +kernel)) rfl
theorem dX8_hasPair_0 : decode cX8_hasPair 0 = .ok (.aload_n 0, 1) := by decide +kernel
theorem dX8_hasPair_1 : decode cX8_hasPair 1 = .ok (.getfield 19, 3) := by decide +kernel
theorem dX8_hasPair_4 : decode cX8_hasPair 4 = .ok (.iload_n 1, 1) := by decide +kernel
theorem dX8_hasPair_5 : decode cX8_hasPair 5 = .ok (.invokevirtual 163, 3) := by decide +kernel
theorem dX8_hasPair_8 : decode cX8_hasPair 8 = .ok (.ifCond .eq 18, 3) := by decide +kernel
theorem dX8_hasPair_26 : decode cX8_hasPair 26 = .ok (.iconst 0, 1) := by decide +kernel
theorem dX8_hasPair_27 : decode cX8_hasPair 27 = .ok (.ireturn, 1) := by decide +kernel
set_option maxHeartbeats 4000000 in
set_option maxRecDepth 100000 in
theorem c_X8_hasPair (l : Launch) (D : va_G) (cy : Nat → ClassId) (g : Nat → Nat) (p1 : Int32) (p2 : Int32) (sz : Nat) : Met l yX8_hasPair (ww yX8_hasPair cX8_hasPair 3 (some .boolean)) ({ frames := 2, cells := 0, slots := 0, locals := 128 }) (va_Pc [.ref (g 0), .int p1, .int p2] (pre D cy [(g 0, .inr (8, xF g)), (g 3, .inr (0, [.int 0, .int 0, .int 0, .int 0, .int 0, .int 0, .ref (g 4), .ref (g 5), .ref (g 6), .ref (g 7)]))] sz)) (qi D cy (va_A [(g 0, .inr (8, xF g)), (g 3, .inr (0, [.int 0, .int 0, .int 0, .int 0, .int 0, .int 0, .ref (g 4), .ref (g 5), .ref (g 6), .ref (g 7)]))] sz) (fun (r : Int32) (_ : Unit) => r = 0) (fun (_ : Unit) => [(g 0, .inr (8, xF g)), (g 3, .inr (0, [.int 0, .int 0, .int 0, .int 0, .int 0, .int 0, .ref (g 4), .ref (g 5), .ref (g 6), .ref (g 7)]))])) 0 0 (va_A [(g 0, .inr (8, xF g)), (g 3, .inr (0, [.int 0, .int 0, .int 0, .int 0, .int 0, .int 0, .ref (g 4), .ref (g 5), .ref (g 6), .ref (g 7)]))] sz) := by
  refine Met.ofW (cc := cX8_hasPair) (maxL := 3) (ret := (some .boolean)) (by decide) rfl ?_
  intro p e s m args below meth c s₁ B hml hv
  obtain ⟨rfl, hsz, hP, hK, hD0⟩ := hv
  have hx := B.exec
  have hb := B.bytes
  have hr := B.returns
  have hts := hts_g (atoms_spec (ws := ww yX8_hasPair cX8_hasPair 3 (some .boolean)) B.pre)
  have hown : s.vm.findClass RX8 = some m.cls := findClass_of_methodNamed B.named
  have hlocks := B.notSynchronized
  subst hsz
  have hD := hD0.self (sz := s.heap.size)
  generalize hAe : va_A [(g 0, .inr (8, xF g)), (g 3, .inr (0, [.int 0, .int 0, .int 0, .int 0, .int 0, .int 0, .ref (g 4), .ref (g 5), .ref (g 6), .ref (g 7)]))] s.heap.size = A at hD ⊢
  have hA : ∀ q : Nat, s.heap.size ≤ q → A q := fun q h => by rw [← hAe]; exact Or.inr h
  have hS : va_S A s.heap s.heap [] := va_S.rf
  have hl := lv_entry ([.ref (g 0), .int p1, .int p2]) (n := 3) (Nat.le_of_ble_eq_true rfl)
  rw [lg_entry_eq]
  generalize (lg_sl ([.ref (g 0), .int p1, .int p2]) ++ List.replicate (3 - (lg_sl ([.ref (g 0), .int p1, .int p2])).length) Slot.unset).toArray = ls at hl ⊢
  have hl : lv_has ls 3 [(0, .ref (g 0)), (1, .int p1), (2, .int p2)] := hl
  refine lv_aload_n hx hb dX8_hasPair_0 rfl (lv_at hl 0 rfl) ?_
  refine va_get (D := D) (ci := 8) (v := .ref (g 3)) (C := RX8) (T := TX8) (N := 12) hx hb hts iX8 hown hK hP 0 rfl rfl 1 (by decide) (hts _ q435) (fun _ h9 => h9) rfl dX8_hasPair_1 ?_
  refine lv_iload_n hx hb dX8_hasPair_4 rfl (lv_at hl 1 rfl) ?_
  have hPc := hP.sub (ws' := [(g 3, .inr (0, [.int 0, .int 0, .int 0, .int 0, .int 0, .int 0, .ref (g 4), .ref (g 5), .ref (g 6), .ref (g 7)]))]) [1] rfl
  have hDc := hD.sub (ws' := [(g 3, .inr (0, [.int 0, .int 0, .int 0, .int 0, .int 0, .int 0, .ref (g 4), .ref (g 5), .ref (g 6), .ref (g 7)]))]) [1] (by decide) rfl
  have hFc := va_free (wc := [(g 3, .inr (0, [.int 0, .int 0, .int 0, .int 0, .int 0, .int 0, .ref (g 4), .ref (g 5), .ref (g 6), .ref (g 7)]))]) hD hS hA [1] rfl
  refine va_calli (va_runV (As := [.int p1]) (rest := []) ⟨hx, hb, hml, hown, hts⟩ (c_X0_hasPlayer l D cy (g 3) (g 4) (g 5) (g 6) (g 7) p1 s.heap.size) (cwV 1 hts (gd_V q767 q628 q629 q127 q630) rfl rfl rfl (by decide +kernel) ⟨Nat.le_of_ble_eq_true rfl, Nat.le_of_ble_eq_true rfl⟩) (pr_V hPc hK hDc (va_recv hK hPc (ci := 0) (q0 := 0) rfl rfl)) rfl rfl hl.1 rfl (lv_room (Nat.le_of_ble_eq_true rfl)) dX8_hasPair_5 ⟨Nat.le_of_ble_eq_true rfl, Nat.le_of_ble_eq_true rfl⟩) hS (fun q _ h => hFc q h) hFc (fun r_1 u tS H1 locs ht hvm hw hB hz1 hk1 hS => ?_)
  obtain ⟨hP1, hK1, hD1⟩ := hB
  rw [ht] at hP1
  try dsimp only at hw
  obtain ⟨hP, hD⟩ := va_join (wr := [(g 0, .inr (8, xF g))]) (w1 := [(g 3, .inr (0, [.int 0, .int 0, .int 0, .int 0, .int 0, .int 0, .ref (g 4), .ref (g 5), .ref (g 6), .ref (g 7)]))]) hP hD [1] [0] rfl rfl (by decide) (by decide) hk1 hFc hP1 hD1
  generalize H1 = H at hP hS ⊢
  have hP : va_P D clz [(g 0, .inr (8, xF g)), (g 3, .inr (0, [.int 0, .int 0, .int 0, .int 0, .int 0, .int 0, .ref (g 4), .ref (g 5), .ref (g 6), .ref (g 7)]))] H := hP
  have hD : va_D A [(g 0, .inr (8, xF g)), (g 3, .inr (0, [.int 0, .int 0, .int 0, .int 0, .int 0, .int 0, .ref (g 4), .ref (g 5), .ref (g 6), .ref (g 7)]))] := hD
  subst hw
  refine lv_if_eq (tgt := 26) hx hb dX8_hasPair_8 (by decide) (fun _ => ?_) (fun c9 => absurd c9 (by decide))
  refine lv_iconst (v := 0) hx hb dX8_hasPair_26 (by decide) ?_
  have hP9 := hP.sub (ws' := [(g 0, .inr (8, xF g)), (g 3, .inr (0, [.int 0, .int 0, .int 0, .int 0, .int 0, .int 0, .ref (g 4), .ref (g 5), .ref (g 6), .ref (g 7)]))]) [0, 1] rfl
  have hD9 := hD.sub (ws' := [(g 0, .inr (8, xF g)), (g 3, .inr (0, [.int 0, .int 0, .int 0, .int 0, .int 0, .int 0, .ref (g 4), .ref (g 5), .ref (g 6), .ref (g 7)]))]) [0, 1] (by decide) rfl
  exact W.zret (v := 0) hx hb hr rfl (fun tS ht hW => ⟨⟨0, (), rfl, rfl, by rw [ht]; exact hP9, va_K.moved hW.alike hK, hD9⟩, hS.F ht⟩) hS.2.2 dX8_hasPair_27

theorem q917 : Cond.code yX8_layBest cX8_layBest 3 (some .int) ∈ lw_g := lw_gm (List.mem_of_getElem? (i := 917) (by decide +kernel)) rfl
theorem q918 : Cond.methodLink RX8 235 yX8_hasPair ∈ lw_g := lw_gm (List.mem_of_getElem? (i := 918) (by decide +kernel)) rfl
theorem q920 : Cond.instanceMethod yX8_hasPair ∈ lw_g := lw_gm (List.mem_of_getElem? (i := 920) (by decide +kernel)) rfl
theorem q19 : Cond.selects RX8 yX8_hasPair yX8_hasPair ∈ lw_g := lw_gm (List.mem_of_getElem? (i := 19) (by decide +kernel)) rfl
theorem dX8_layBest_0 : decode cX8_layBest 0 = .ok (.aload_n 0, 1) := by decide +kernel
theorem dX8_layBest_1 : decode cX8_layBest 1 = .ok (.iload_n 1, 1) := by decide +kernel
theorem dX8_layBest_2 : decode cX8_layBest 2 = .ok (.iload_n 2, 1) := by decide +kernel
theorem dX8_layBest_3 : decode cX8_layBest 3 = .ok (.invokevirtual 235, 3) := by decide +kernel
theorem dX8_layBest_6 : decode cX8_layBest 6 = .ok (.ifCond .ne 6, 3) := by decide +kernel
theorem dX8_layBest_9 : decode cX8_layBest 9 = .ok (.bipush (-2), 2) := by decide +kernel
theorem dX8_layBest_11 : decode cX8_layBest 11 = .ok (.ireturn, 1) := by decide +kernel
set_option maxHeartbeats 4000000 in
set_option maxRecDepth 100000 in
theorem c_X8_layBest (l : Launch) (D : va_G) (cy : Nat → ClassId) (g : Nat → Nat) (p1 : Int32) (p2 : Int32) (sz : Nat) : Met l yX8_layBest (ww yX8_layBest cX8_layBest 3 (some .int)) ({ frames := 3, cells := 0, slots := 0, locals := 192 }) (va_Pc [.ref (g 0), .int p1, .int p2] (pre D cy [(g 0, .inr (8, xF g)), (g 3, .inr (0, [.int 0, .int 0, .int 0, .int 0, .int 0, .int 0, .ref (g 4), .ref (g 5), .ref (g 6), .ref (g 7)]))] sz)) (qi D cy (va_A [(g 0, .inr (8, xF g)), (g 3, .inr (0, [.int 0, .int 0, .int 0, .int 0, .int 0, .int 0, .ref (g 4), .ref (g 5), .ref (g 6), .ref (g 7)]))] sz) (fun (r : Int32) (_ : Unit) => r = (-2)) (fun (_ : Unit) => [(g 0, .inr (8, xF g)), (g 3, .inr (0, [.int 0, .int 0, .int 0, .int 0, .int 0, .int 0, .ref (g 4), .ref (g 5), .ref (g 6), .ref (g 7)]))])) 0 0 (va_A [(g 0, .inr (8, xF g)), (g 3, .inr (0, [.int 0, .int 0, .int 0, .int 0, .int 0, .int 0, .ref (g 4), .ref (g 5), .ref (g 6), .ref (g 7)]))] sz) := by
  refine Met.ofW (cc := cX8_layBest) (maxL := 3) (ret := (some .int)) (by decide) rfl ?_
  intro p e s m args below meth c s₁ B hml hv
  obtain ⟨rfl, hsz, hP, hK, hD0⟩ := hv
  have hx := B.exec
  have hb := B.bytes
  have hr := B.returns
  have hts := hts_g (atoms_spec (ws := ww yX8_layBest cX8_layBest 3 (some .int)) B.pre)
  have hown : s.vm.findClass RX8 = some m.cls := findClass_of_methodNamed B.named
  have hlocks := B.notSynchronized
  subst hsz
  have hD := hD0.self (sz := s.heap.size)
  generalize hAe : va_A [(g 0, .inr (8, xF g)), (g 3, .inr (0, [.int 0, .int 0, .int 0, .int 0, .int 0, .int 0, .ref (g 4), .ref (g 5), .ref (g 6), .ref (g 7)]))] s.heap.size = A at hD ⊢
  have hA : ∀ q : Nat, s.heap.size ≤ q → A q := fun q h => by rw [← hAe]; exact Or.inr h
  have hS : va_S A s.heap s.heap [] := va_S.rf
  have hl := lv_entry ([.ref (g 0), .int p1, .int p2]) (n := 3) (Nat.le_of_ble_eq_true rfl)
  rw [lg_entry_eq]
  generalize (lg_sl ([.ref (g 0), .int p1, .int p2]) ++ List.replicate (3 - (lg_sl ([.ref (g 0), .int p1, .int p2])).length) Slot.unset).toArray = ls at hl ⊢
  have hl : lv_has ls 3 [(0, .ref (g 0)), (1, .int p1), (2, .int p2)] := hl
  refine lv_aload_n hx hb dX8_layBest_0 rfl (lv_at hl 0 rfl) ?_
  refine lv_iload_n hx hb dX8_layBest_1 rfl (lv_at hl 1 rfl) ?_
  refine lv_iload_n hx hb dX8_layBest_2 rfl (lv_at hl 2 rfl) ?_
  have hPc := hP.sub (ws' := [(g 0, .inr (8, xF g)), (g 3, .inr (0, [.int 0, .int 0, .int 0, .int 0, .int 0, .int 0, .ref (g 4), .ref (g 5), .ref (g 6), .ref (g 7)]))]) [0, 1] rfl
  have hDc := hD.sub (ws' := [(g 0, .inr (8, xF g)), (g 3, .inr (0, [.int 0, .int 0, .int 0, .int 0, .int 0, .int 0, .ref (g 4), .ref (g 5), .ref (g 6), .ref (g 7)]))]) [0, 1] (by decide) rfl
  have hFc := va_free (wc := [(g 0, .inr (8, xF g)), (g 3, .inr (0, [.int 0, .int 0, .int 0, .int 0, .int 0, .int 0, .ref (g 4), .ref (g 5), .ref (g 6), .ref (g 7)]))]) hD hS hA [0, 1] rfl
  refine va_calli (va_runV (As := [.int p1, .int p2]) (rest := []) ⟨hx, hb, hml, hown, hts⟩ (c_X8_hasPair l D cy g p1 p2 s.heap.size) (cwV 2 hts (gd_V q918 q920 q19 q125 q921) rfl rfl rfl (by decide +kernel) ⟨Nat.le_of_ble_eq_true rfl, Nat.le_of_ble_eq_true rfl⟩) (pr_V hPc hK hDc (va_recv hK hPc (ci := 8) (q0 := 0) rfl rfl)) rfl rfl hl.1 rfl (lv_room (Nat.le_of_ble_eq_true rfl)) dX8_layBest_3 ⟨Nat.le_of_ble_eq_true rfl, Nat.le_of_ble_eq_true rfl⟩) hS (fun q _ h => hFc q h) hFc (fun r_1 u tS H1 locs ht hvm hw hB hz1 hk1 hS => ?_)
  obtain ⟨hP1, hK1, hD1⟩ := hB
  rw [ht] at hP1
  try dsimp only at hw
  obtain ⟨hP, hD⟩ := va_join (wr := []) (w1 := [(g 0, .inr (8, xF g)), (g 3, .inr (0, [.int 0, .int 0, .int 0, .int 0, .int 0, .int 0, .ref (g 4), .ref (g 5), .ref (g 6), .ref (g 7)]))]) hP hD [0, 1] [] rfl rfl (by decide) (by decide) hk1 hFc hP1 hD1
  generalize H1 = H at hP hS ⊢
  have hP : va_P D clz [(g 0, .inr (8, xF g)), (g 3, .inr (0, [.int 0, .int 0, .int 0, .int 0, .int 0, .int 0, .ref (g 4), .ref (g 5), .ref (g 6), .ref (g 7)]))] H := hP
  have hD : va_D A [(g 0, .inr (8, xF g)), (g 3, .inr (0, [.int 0, .int 0, .int 0, .int 0, .int 0, .int 0, .ref (g 4), .ref (g 5), .ref (g 6), .ref (g 7)]))] := hD
  subst hw
  refine lv_if_ne (tgt := 12) hx hb dX8_layBest_6 (by decide) (fun c9 => absurd c9 (by decide)) (fun _ => ?_)
  refine lv_bipush (v := (-2)) hx hb dX8_layBest_9 (by decide) ?_
  have hP9 := hP.sub (ws' := [(g 0, .inr (8, xF g)), (g 3, .inr (0, [.int 0, .int 0, .int 0, .int 0, .int 0, .int 0, .ref (g 4), .ref (g 5), .ref (g 6), .ref (g 7)]))]) [0, 1] rfl
  have hD9 := hD.sub (ws' := [(g 0, .inr (8, xF g)), (g 3, .inr (0, [.int 0, .int 0, .int 0, .int 0, .int 0, .int 0, .ref (g 4), .ref (g 5), .ref (g 6), .ref (g 7)]))]) [0, 1] (by decide) rfl
  exact W.iret (v := (-2)) hx hb hr (fun tS ht hW => ⟨⟨(-2), (), rfl, rfl, by rw [ht]; exact hP9, va_K.moved hW.alike hK, hD9⟩, hS.F ht⟩) hS.2.2 dX8_layBest_11

theorem q1167 : Cond.code yX8_isDouble cX8_isDouble 3 (some .boolean) ∈ lw_g := lw_gm (List.mem_of_getElem? (i := 1167) (by decide +kernel)) rfl
theorem q1168 : Cond.methodLink RX8 328 yJ6_bitCount_0f7a4 ∈ lw_g := lw_gm (List.mem_of_getElem? (i := 1168) (by decide +kernel)) rfl
theorem q905 : Cond.static yJ6_bitCount_0f7a4 ∈ lw_g := lw_gm (List.mem_of_getElem? (i := 905) (by decide +kernel)) rfl
theorem q140 : Cond.initialized RJ6 ∈ lw_g := lw_gm (List.mem_of_getElem? (i := 140) (by decide +kernel)) rfl
theorem q207 : Cond.fieldLink RX8 113 "LipsAndSlides$Desk" "players" "I" ∈ lw_g := lw_gm (List.mem_of_getElem? (i := 207) (by decide +kernel)) rfl
theorem dX8_isDouble_0 : decode cX8_isDouble 0 = .ok (.iload_n 1, 1) := by decide +kernel
theorem dX8_isDouble_1 : decode cX8_isDouble 1 = .ok (.invokestatic 328, 3) := by decide +kernel
theorem dX8_isDouble_4 : decode cX8_isDouble 4 = .ok (.istore_n 2, 1) := by decide +kernel
theorem dX8_isDouble_5 : decode cX8_isDouble 5 = .ok (.iload_n 1, 1) := by decide +kernel
theorem dX8_isDouble_6 : decode cX8_isDouble 6 = .ok (.ifCond .le 25, 3) := by decide +kernel
theorem dX8_isDouble_9 : decode cX8_isDouble 9 = .ok (.iload_n 1, 1) := by decide +kernel
theorem dX8_isDouble_10 : decode cX8_isDouble 10 = .ok (.iconst 1, 1) := by decide +kernel
theorem dX8_isDouble_11 : decode cX8_isDouble 11 = .ok (.aload_n 0, 1) := by decide +kernel
theorem dX8_isDouble_12 : decode cX8_isDouble 12 = .ok (.getfield 19, 3) := by decide +kernel
theorem dX8_isDouble_15 : decode cX8_isDouble 15 = .ok (.getfield 113, 3) := by decide +kernel
theorem dX8_isDouble_18 : decode cX8_isDouble 18 = .ok (.ishl, 1) := by decide +kernel
theorem dX8_isDouble_19 : decode cX8_isDouble 19 = .ok (.if_icmp .ge 12, 3) := by decide +kernel
theorem dX8_isDouble_31 : decode cX8_isDouble 31 = .ok (.iconst 0, 1) := by decide +kernel
theorem dX8_isDouble_32 : decode cX8_isDouble 32 = .ok (.ireturn, 1) := by decide +kernel
set_option maxHeartbeats 4000000 in
set_option maxRecDepth 100000 in
theorem c_X8_isDouble (l : Launch) (D : va_G) (cy : Nat → ClassId) (g : Nat → Nat) (p1 : Int32) (sz : Nat) : Met l yX8_isDouble (ww yX8_isDouble cX8_isDouble 3 (some .boolean)) ({ frames := 2, cells := 0, slots := 0, locals := 128 }) (va_Pc [.ref (g 0), .int p1] (pre D cy [(g 0, .inr (8, xF g)), (g 3, .inr (0, [.int 0, .int 0, .int 0, .int 0, .int 0, .int 0, .ref (g 4), .ref (g 5), .ref (g 6), .ref (g 7)]))] sz)) (qi D cy (va_A [(g 0, .inr (8, xF g)), (g 3, .inr (0, [.int 0, .int 0, .int 0, .int 0, .int 0, .int 0, .ref (g 4), .ref (g 5), .ref (g 6), .ref (g 7)]))] sz) (fun (r : Int32) (_ : Unit) => r = 0) (fun (_ : Unit) => [(g 0, .inr (8, xF g)), (g 3, .inr (0, [.int 0, .int 0, .int 0, .int 0, .int 0, .int 0, .ref (g 4), .ref (g 5), .ref (g 6), .ref (g 7)]))])) 0 0 (va_A [(g 0, .inr (8, xF g)), (g 3, .inr (0, [.int 0, .int 0, .int 0, .int 0, .int 0, .int 0, .ref (g 4), .ref (g 5), .ref (g 6), .ref (g 7)]))] sz) := by
  refine Met.ofW (cc := cX8_isDouble) (maxL := 3) (ret := (some .boolean)) (by decide) rfl ?_
  intro p e s m args below meth c s₁ B hml hv
  obtain ⟨rfl, hsz, hP, hK, hD0⟩ := hv
  have hx := B.exec
  have hb := B.bytes
  have hr := B.returns
  have hts := hts_g (atoms_spec (ws := ww yX8_isDouble cX8_isDouble 3 (some .boolean)) B.pre)
  have hown : s.vm.findClass RX8 = some m.cls := findClass_of_methodNamed B.named
  have hlocks := B.notSynchronized
  subst hsz
  have hD := hD0.self (sz := s.heap.size)
  generalize hAe : va_A [(g 0, .inr (8, xF g)), (g 3, .inr (0, [.int 0, .int 0, .int 0, .int 0, .int 0, .int 0, .ref (g 4), .ref (g 5), .ref (g 6), .ref (g 7)]))] s.heap.size = A at hD ⊢
  have hA : ∀ q : Nat, s.heap.size ≤ q → A q := fun q h => by rw [← hAe]; exact Or.inr h
  have hS : va_S A s.heap s.heap [] := va_S.rf
  have hl := lv_entry ([.ref (g 0), .int p1]) (n := 3) (Nat.le_of_ble_eq_true rfl)
  rw [lg_entry_eq]
  generalize (lg_sl ([.ref (g 0), .int p1]) ++ List.replicate (3 - (lg_sl ([.ref (g 0), .int p1])).length) Slot.unset).toArray = ls at hl ⊢
  have hl : lv_has ls 3 [(0, .ref (g 0)), (1, .int p1)] := hl
  refine lv_iload_n hx hb dX8_isDouble_0 rfl (lv_at hl 1 rfl) ?_
  have hPc := hP.sub (ws' := []) [] rfl
  have hDc := hD.sub (ws' := []) [] (by decide) rfl
  have hFc := va_free (wc := []) hD hS hA [] rfl
  refine va_calli (va_runS (As := [.int p1]) (rest := []) ⟨hx, hb, hml, hown, hts⟩ (c_bitCount l D cy p1 s.heap.size) (va_cwS 1 hts (gd_S q1168 q905 q140 q906) rfl rfl rfl (by decide +kernel) ⟨Nat.le_of_ble_eq_true rfl, Nat.le_of_ble_eq_true rfl⟩) (pr_S hPc hK hDc) rfl rfl hl.1 rfl (lv_room (Nat.le_of_ble_eq_true rfl)) dX8_isDouble_1 ⟨Nat.le_of_ble_eq_true rfl, Nat.le_of_ble_eq_true rfl⟩) hS (fun q _ h => hFc q h) hFc (fun r_1 u tS H1 locs ht hvm hw hB hz1 hk1 hS => ?_)
  obtain ⟨hP1, hK1, hD1⟩ := hB
  rw [ht] at hP1
  try dsimp only at hw
  obtain ⟨hP, hD⟩ := va_join (wr := [(g 0, .inr (8, xF g)), (g 3, .inr (0, [.int 0, .int 0, .int 0, .int 0, .int 0, .int 0, .ref (g 4), .ref (g 5), .ref (g 6), .ref (g 7)]))]) (w1 := []) hP hD [] [0, 1] rfl rfl (by decide) (by decide) hk1 hFc hP1 hD1
  generalize H1 = H at hP hS ⊢
  have hP : va_P D clz [(g 0, .inr (8, xF g)), (g 3, .inr (0, [.int 0, .int 0, .int 0, .int 0, .int 0, .int 0, .ref (g 4), .ref (g 5), .ref (g 6), .ref (g 7)]))] H := hP
  have hD : va_D A [(g 0, .inr (8, xF g)), (g 3, .inr (0, [.int 0, .int 0, .int 0, .int 0, .int 0, .int 0, .ref (g 4), .ref (g 5), .ref (g 6), .ref (g 7)]))] := hD
  refine lv_istore_n (lv' := [(2, .int r_1), (0, .ref (g 0)), (1, .int p1)]) hx hb dX8_isDouble_4 rfl hl (by decide) rfl (fun ls hl => ?_)
  refine lv_iload_n hx hb dX8_isDouble_5 rfl (lv_at hl 2 rfl) ?_
  refine lv_if_le (tgt := 31) hx hb dX8_isDouble_6 (by decide) (fun c_2 => ?_) (fun c_2 => ?_)
  ·
    refine lv_iconst (v := 0) hx hb dX8_isDouble_31 (by decide) ?_
    have hP9 := hP.sub (ws' := [(g 0, .inr (8, xF g)), (g 3, .inr (0, [.int 0, .int 0, .int 0, .int 0, .int 0, .int 0, .ref (g 4), .ref (g 5), .ref (g 6), .ref (g 7)]))]) [0, 1] rfl
    have hD9 := hD.sub (ws' := [(g 0, .inr (8, xF g)), (g 3, .inr (0, [.int 0, .int 0, .int 0, .int 0, .int 0, .int 0, .ref (g 4), .ref (g 5), .ref (g 6), .ref (g 7)]))]) [0, 1] (by decide) rfl
    exact W.zret (v := 0) hx hb hr rfl (fun tS ht hW => ⟨⟨0, (), rfl, rfl, by rw [ht]; exact hP9, va_K.moved hW.alike hK, hD9⟩, hS.F ht⟩) hS.2.2 dX8_isDouble_32
  ·
    refine lv_iload_n hx hb dX8_isDouble_9 rfl (lv_at hl 2 rfl) ?_
    refine lv_iconst (v := 1) hx hb dX8_isDouble_10 (by decide) ?_
    refine lv_aload_n hx hb dX8_isDouble_11 rfl (lv_at hl 1 rfl) ?_
    refine va_get (D := D) (ci := 8) (v := .ref (g 3)) (C := RX8) (T := TX8) (N := 12) hx hb hts iX8 hown hK hP 0 rfl rfl 1 (by decide) (hts _ q435) (fun _ h9 => h9) rfl dX8_isDouble_12 ?_
    refine va_get (D := D) (ci := 0) (v := .int 0) (C := RX0) (T := TX0) (N := 10) hx hb hts iX0 hown hK hP 1 rfl rfl 4 (by decide) (hts _ q207) (fun _ h9 => h9) rfl dX8_isDouble_15 ?_
    refine lv_ishl hx hb dX8_isDouble_18 ?_
    refine lv_topi (fun x_3 ex_3 => ?_)
    obtain rfl : x_3 = 1 := ex_3.trans (by decide)
    refine lv_icmp_ge (tgt := 31) hx hb dX8_isDouble_19 (by decide) (fun c_4 => ?_) (fun c_4 => ?_)
    ·
      refine lv_iconst (v := 0) hx hb dX8_isDouble_31 (by decide) ?_
      have hP9 := hP.sub (ws' := [(g 0, .inr (8, xF g)), (g 3, .inr (0, [.int 0, .int 0, .int 0, .int 0, .int 0, .int 0, .ref (g 4), .ref (g 5), .ref (g 6), .ref (g 7)]))]) [0, 1] rfl
      have hD9 := hD.sub (ws' := [(g 0, .inr (8, xF g)), (g 3, .inr (0, [.int 0, .int 0, .int 0, .int 0, .int 0, .int 0, .ref (g 4), .ref (g 5), .ref (g 6), .ref (g 7)]))]) [0, 1] (by decide) rfl
      exact W.zret (v := 0) hx hb hr rfl (fun tS ht hW => ⟨⟨0, (), rfl, rfl, by rw [ht]; exact hP9, va_K.moved hW.alike hK, hD9⟩, hS.F ht⟩) hS.2.2 dX8_isDouble_32
    ·
      exact False.elim (by have f0 := nle32 c_2; have f1 := nle32 c_4; have z320 : (0 : Int32).toInt = 0 := (by decide); have z321 : (1 : Int32).toInt = 1 := (by decide); omega)

theorem q1269 : Cond.code yX8_isSlot cX8_isSlot 1 (some .boolean) ∈ lw_g := lw_gm (List.mem_of_getElem? (i := 1269) (by decide +kernel)) rfl
theorem dX8_isSlot_0 : decode cX8_isSlot 0 = .ok (.iload_n 0, 1) := by decide +kernel
theorem dX8_isSlot_1 : decode cX8_isSlot 1 = .ok (.ifCond .lt 12, 3) := by decide +kernel
theorem dX8_isSlot_4 : decode cX8_isSlot 4 = .ok (.iload_n 0, 1) := by decide +kernel
theorem dX8_isSlot_5 : decode cX8_isSlot 5 = .ok (.iconst 4, 1) := by decide +kernel
theorem dX8_isSlot_6 : decode cX8_isSlot 6 = .ok (.if_icmp .ge 7, 3) := by decide +kernel
theorem dX8_isSlot_9 : decode cX8_isSlot 9 = .ok (.iconst 1, 1) := by decide +kernel
theorem dX8_isSlot_10 : decode cX8_isSlot 10 = .ok (.goto 4, 3) := by decide +kernel
theorem dX8_isSlot_13 : decode cX8_isSlot 13 = .ok (.iconst 0, 1) := by decide +kernel
theorem dX8_isSlot_14 : decode cX8_isSlot 14 = .ok (.ireturn, 1) := by decide +kernel
set_option maxHeartbeats 4000000 in
set_option maxRecDepth 100000 in
theorem c_X8_isSlot (l : Launch) (D : va_G) (cy : Nat → ClassId) (p1 : Int32) (sz : Nat) : Met l yX8_isSlot (ww yX8_isSlot cX8_isSlot 1 (some .boolean)) ({ frames := 1, cells := 0, slots := 0, locals := 64 }) (va_Pc [.int p1] (pre D cy [] sz)) (qi D cy (va_A [] sz) (fun (r : Int32) (_ : Unit) => r = if ((0 : Int32) ≤ p1 ∧ p1 ≤ (3 : Int32)) then 1 else 0) (fun (_ : Unit) => [])) 0 0 (va_A [] sz) := by
  refine Met.ofW (cc := cX8_isSlot) (maxL := 1) (ret := (some .boolean)) (by decide) rfl ?_
  intro p e s m args below meth c s₁ B hml hv
  obtain ⟨rfl, hsz, hP, hK, hD0⟩ := hv
  have hx := B.exec
  have hb := B.bytes
  have hr := B.returns
  have hts := hts_g (atoms_spec (ws := ww yX8_isSlot cX8_isSlot 1 (some .boolean)) B.pre)
  have hown : s.vm.findClass RX8 = some m.cls := findClass_of_methodNamed B.named
  have hlocks := B.notSynchronized
  subst hsz
  have hD := hD0.self (sz := s.heap.size)
  generalize hAe : va_A [] s.heap.size = A at hD ⊢
  have hA : ∀ q : Nat, s.heap.size ≤ q → A q := fun q h => by rw [← hAe]; exact Or.inr h
  have hS : va_S A s.heap s.heap [] := va_S.rf
  have hl := lv_entry ([.int p1]) (n := 1) (Nat.le_of_ble_eq_true rfl)
  rw [lg_entry_eq]
  generalize (lg_sl ([.int p1]) ++ List.replicate (1 - (lg_sl ([.int p1])).length) Slot.unset).toArray = ls at hl ⊢
  have hl : lv_has ls 1 [(0, .int p1)] := hl
  refine lv_iload_n hx hb dX8_isSlot_0 rfl (lv_at hl 0 rfl) ?_
  refine lv_if_lt (tgt := 13) hx hb dX8_isSlot_1 (by decide) (fun c_1 => ?_) (fun c_1 => ?_)
  ·
    refine lv_iconst (v := 0) hx hb dX8_isSlot_13 (by decide) ?_
    have hP9 := hP.sub (ws' := []) [] rfl
    have hD9 := hD.sub (ws' := []) [] (by decide) rfl
    exact W.zret (v := 0) hx hb hr rfl (fun tS ht hW => ⟨⟨0, (), rfl, (if_neg (by have f0 := plt32 c_1; have z320 : (0 : Int32).toInt = 0 := (by decide); have z323 : (3 : Int32).toInt = 3 := (by decide); exact bn32r (by omega))).symm, by rw [ht]; exact hP9, va_K.moved hW.alike hK, hD9⟩, hS.F ht⟩) hS.2.2 dX8_isSlot_14
  ·
    refine lv_iload_n hx hb dX8_isSlot_4 rfl (lv_at hl 0 rfl) ?_
    refine lv_iconst (v := 4) hx hb dX8_isSlot_5 (by decide) ?_
    refine lv_icmp_ge (tgt := 13) hx hb dX8_isSlot_6 (by decide) (fun c_2 => ?_) (fun c_2 => ?_)
    ·
      refine lv_iconst (v := 0) hx hb dX8_isSlot_13 (by decide) ?_
      have hP9 := hP.sub (ws' := []) [] rfl
      have hD9 := hD.sub (ws' := []) [] (by decide) rfl
      exact W.zret (v := 0) hx hb hr rfl (fun tS ht hW => ⟨⟨0, (), rfl, (if_neg (by have f0 := nlt32 c_1; have f1 := ple32 c_2; have z320 : (0 : Int32).toInt = 0 := (by decide); have z323 : (3 : Int32).toInt = 3 := (by decide); have z324 : (4 : Int32).toInt = 4 := (by decide); exact bn32r (by omega))).symm, by rw [ht]; exact hP9, va_K.moved hW.alike hK, hD9⟩, hS.F ht⟩) hS.2.2 dX8_isSlot_14
    ·
      refine lv_iconst (v := 1) hx hb dX8_isSlot_9 (by decide) ?_
      refine lv_goto (tgt := 14) hx hb dX8_isSlot_10 (by decide) ?_
      have hP9 := hP.sub (ws' := []) [] rfl
      have hD9 := hD.sub (ws' := []) [] (by decide) rfl
      exact W.zret (v := 1) hx hb hr rfl (fun tS ht hW => ⟨⟨1, (), rfl, (if_pos (by have f0 := nlt32 c_1; have f1 := nle32 c_2; have z320 : (0 : Int32).toInt = 0 := (by decide); have z323 : (3 : Int32).toInt = 3 := (by decide); have z324 : (4 : Int32).toInt = 4 := (by decide); exact bp32r (by omega))).symm, by rw [ht]; exact hP9, va_K.moved hW.alike hK, hD9⟩, hS.F ht⟩) hS.2.2 dX8_isSlot_14

theorem q1309 : Cond.code yX8_isSeed cX8_isSeed 1 (some .boolean) ∈ lw_g := lw_gm (List.mem_of_getElem? (i := 1309) (by decide +kernel)) rfl
theorem q1310 : Cond.constant RX8 395 (2000000000) ∈ lw_g := lw_gm (List.mem_of_getElem? (i := 1310) (by decide +kernel)) rfl
theorem dX8_isSeed_0 : decode cX8_isSeed 0 = .ok (.iload_n 0, 1) := by decide +kernel
theorem dX8_isSeed_1 : decode cX8_isSeed 1 = .ok (.ifCond .lt 14, 3) := by decide +kernel
theorem dX8_isSeed_4 : decode cX8_isSeed 4 = .ok (.iload_n 0, 1) := by decide +kernel
theorem dX8_isSeed_5 : decode cX8_isSeed 5 = .ok (.ldc_w 395, 3) := by decide +kernel
theorem dX8_isSeed_8 : decode cX8_isSeed 8 = .ok (.if_icmp .gt 7, 3) := by decide +kernel
theorem dX8_isSeed_11 : decode cX8_isSeed 11 = .ok (.iconst 1, 1) := by decide +kernel
theorem dX8_isSeed_12 : decode cX8_isSeed 12 = .ok (.goto 4, 3) := by decide +kernel
theorem dX8_isSeed_15 : decode cX8_isSeed 15 = .ok (.iconst 0, 1) := by decide +kernel
theorem dX8_isSeed_16 : decode cX8_isSeed 16 = .ok (.ireturn, 1) := by decide +kernel
set_option maxHeartbeats 4000000 in
set_option maxRecDepth 100000 in
theorem c_X8_isSeed (l : Launch) (D : va_G) (cy : Nat → ClassId) (p1 : Int32) (sz : Nat) : Met l yX8_isSeed (ww yX8_isSeed cX8_isSeed 1 (some .boolean)) ({ frames := 1, cells := 0, slots := 0, locals := 64 }) (va_Pc [.int p1] (pre D cy [] sz)) (qi D cy (va_A [] sz) (fun (r : Int32) (_ : Unit) => r = if ((0 : Int32) ≤ p1 ∧ p1 ≤ (2000000000 : Int32)) then 1 else 0) (fun (_ : Unit) => [])) 0 0 (va_A [] sz) := by
  refine Met.ofW (cc := cX8_isSeed) (maxL := 1) (ret := (some .boolean)) (by decide) rfl ?_
  intro p e s m args below meth c s₁ B hml hv
  obtain ⟨rfl, hsz, hP, hK, hD0⟩ := hv
  have hx := B.exec
  have hb := B.bytes
  have hr := B.returns
  have hts := hts_g (atoms_spec (ws := ww yX8_isSeed cX8_isSeed 1 (some .boolean)) B.pre)
  have hown : s.vm.findClass RX8 = some m.cls := findClass_of_methodNamed B.named
  have hlocks := B.notSynchronized
  subst hsz
  have hD := hD0.self (sz := s.heap.size)
  generalize hAe : va_A [] s.heap.size = A at hD ⊢
  have hA : ∀ q : Nat, s.heap.size ≤ q → A q := fun q h => by rw [← hAe]; exact Or.inr h
  have hS : va_S A s.heap s.heap [] := va_S.rf
  have hl := lv_entry ([.int p1]) (n := 1) (Nat.le_of_ble_eq_true rfl)
  rw [lg_entry_eq]
  generalize (lg_sl ([.int p1]) ++ List.replicate (1 - (lg_sl ([.int p1])).length) Slot.unset).toArray = ls at hl ⊢
  have hl : lv_has ls 1 [(0, .int p1)] := hl
  refine lv_iload_n hx hb dX8_isSeed_0 rfl (lv_at hl 0 rfl) ?_
  refine lv_if_lt (tgt := 15) hx hb dX8_isSeed_1 (by decide) (fun c_1 => ?_) (fun c_1 => ?_)
  ·
    refine lv_iconst (v := 0) hx hb dX8_isSeed_15 (by decide) ?_
    have hP9 := hP.sub (ws' := []) [] rfl
    have hD9 := hD.sub (ws' := []) [] (by decide) rfl
    exact W.zret (v := 0) hx hb hr rfl (fun tS ht hW => ⟨⟨0, (), rfl, (if_neg (by have f0 := plt32 c_1; have z320 : (0 : Int32).toInt = 0 := (by decide); have z322000000000 : (2000000000 : Int32).toInt = 2000000000 := (by decide); exact bn32r (by omega))).symm, by rw [ht]; exact hP9, va_K.moved hW.alike hK, hD9⟩, hS.F ht⟩) hS.2.2 dX8_isSeed_16
  ·
    refine lv_iload_n hx hb dX8_isSeed_4 rfl (lv_at hl 0 rfl) ?_
    refine lv_ldcw (v := 2000000000) hx hb hown (hts _ q1310) dX8_isSeed_5 ?_
    refine lv_icmp_gt (tgt := 15) hx hb dX8_isSeed_8 (by decide) (fun c_2 => ?_) (fun c_2 => ?_)
    ·
      refine lv_iconst (v := 0) hx hb dX8_isSeed_15 (by decide) ?_
      have hP9 := hP.sub (ws' := []) [] rfl
      have hD9 := hD.sub (ws' := []) [] (by decide) rfl
      exact W.zret (v := 0) hx hb hr rfl (fun tS ht hW => ⟨⟨0, (), rfl, (if_neg (by have f0 := nlt32 c_1; have f1 := plt32 c_2; have z320 : (0 : Int32).toInt = 0 := (by decide); have z322000000000 : (2000000000 : Int32).toInt = 2000000000 := (by decide); exact bn32r (by omega))).symm, by rw [ht]; exact hP9, va_K.moved hW.alike hK, hD9⟩, hS.F ht⟩) hS.2.2 dX8_isSeed_16
    ·
      refine lv_iconst (v := 1) hx hb dX8_isSeed_11 (by decide) ?_
      refine lv_goto (tgt := 16) hx hb dX8_isSeed_12 (by decide) ?_
      have hP9 := hP.sub (ws' := []) [] rfl
      have hD9 := hD.sub (ws' := []) [] (by decide) rfl
      exact W.zret (v := 1) hx hb hr rfl (fun tS ht hW => ⟨⟨1, (), rfl, (if_pos (by have f0 := nlt32 c_1; have f1 := nlt32 c_2; have z320 : (0 : Int32).toInt = 0 := (by decide); have z322000000000 : (2000000000 : Int32).toInt = 2000000000 := (by decide); exact bp32r (by omega))).symm, by rw [ht]; exact hP9, va_K.moved hW.alike hK, hD9⟩, hS.F ht⟩) hS.2.2 dX8_isSeed_16

theorem q1266 : Cond.code yX8_layJudged cX8_layJudged 4 (some .int) ∈ lw_g := lw_gm (List.mem_of_getElem? (i := 1266) (by decide +kernel)) rfl
theorem q1267 : Cond.methodLink RX8 360 yX8_isSlot ∈ lw_g := lw_gm (List.mem_of_getElem? (i := 1267) (by decide +kernel)) rfl
theorem q1268 : Cond.static yX8_isSlot ∈ lw_g := lw_gm (List.mem_of_getElem? (i := 1268) (by decide +kernel)) rfl
theorem dX8_layJudged_0 : decode cX8_layJudged 0 = .ok (.iload_n 1, 1) := by decide +kernel
theorem dX8_layJudged_1 : decode cX8_layJudged 1 = .ok (.invokestatic 360, 3) := by decide +kernel
theorem dX8_layJudged_4 : decode cX8_layJudged 4 = .ok (.ifCond .eq 12, 3) := by decide +kernel
theorem dX8_layJudged_7 : decode cX8_layJudged 7 = .ok (.aload_n 0, 1) := by decide +kernel
theorem dX8_layJudged_8 : decode cX8_layJudged 8 = .ok (.iload_n 2, 1) := by decide +kernel
theorem dX8_layJudged_9 : decode cX8_layJudged 9 = .ok (.iload_n 3, 1) := by decide +kernel
theorem dX8_layJudged_10 : decode cX8_layJudged 10 = .ok (.invokevirtual 235, 3) := by decide +kernel
theorem dX8_layJudged_13 : decode cX8_layJudged 13 = .ok (.ifCond .ne 6, 3) := by decide +kernel
theorem dX8_layJudged_16 : decode cX8_layJudged 16 = .ok (.bipush (-2), 2) := by decide +kernel
theorem dX8_layJudged_18 : decode cX8_layJudged 18 = .ok (.ireturn, 1) := by decide +kernel
set_option maxHeartbeats 4000000 in
set_option maxRecDepth 100000 in
theorem c_X8_layJudged (l : Launch) (D : va_G) (cy : Nat → ClassId) (g : Nat → Nat) (p1 : Int32) (p2 : Int32) (p3 : Int32) (sz : Nat) : Met l yX8_layJudged (ww yX8_layJudged cX8_layJudged 4 (some .int)) ({ frames := 3, cells := 0, slots := 0, locals := 192 }) (va_Pc [.ref (g 0), .int p1, .int p2, .int p3] (pre D cy [(g 0, .inr (8, xF g)), (g 3, .inr (0, [.int 0, .int 0, .int 0, .int 0, .int 0, .int 0, .ref (g 4), .ref (g 5), .ref (g 6), .ref (g 7)]))] sz)) (qi D cy (va_A [(g 0, .inr (8, xF g)), (g 3, .inr (0, [.int 0, .int 0, .int 0, .int 0, .int 0, .int 0, .ref (g 4), .ref (g 5), .ref (g 6), .ref (g 7)]))] sz) (fun (r : Int32) (_ : Unit) => r = (-2)) (fun (_ : Unit) => [(g 0, .inr (8, xF g)), (g 3, .inr (0, [.int 0, .int 0, .int 0, .int 0, .int 0, .int 0, .ref (g 4), .ref (g 5), .ref (g 6), .ref (g 7)]))])) 0 0 (va_A [(g 0, .inr (8, xF g)), (g 3, .inr (0, [.int 0, .int 0, .int 0, .int 0, .int 0, .int 0, .ref (g 4), .ref (g 5), .ref (g 6), .ref (g 7)]))] sz) := by
  refine Met.ofW (cc := cX8_layJudged) (maxL := 4) (ret := (some .int)) (by decide) rfl ?_
  intro p e s m args below meth c s₁ B hml hv
  obtain ⟨rfl, hsz, hP, hK, hD0⟩ := hv
  have hx := B.exec
  have hb := B.bytes
  have hr := B.returns
  have hts := hts_g (atoms_spec (ws := ww yX8_layJudged cX8_layJudged 4 (some .int)) B.pre)
  have hown : s.vm.findClass RX8 = some m.cls := findClass_of_methodNamed B.named
  have hlocks := B.notSynchronized
  subst hsz
  have hD := hD0.self (sz := s.heap.size)
  generalize hAe : va_A [(g 0, .inr (8, xF g)), (g 3, .inr (0, [.int 0, .int 0, .int 0, .int 0, .int 0, .int 0, .ref (g 4), .ref (g 5), .ref (g 6), .ref (g 7)]))] s.heap.size = A at hD ⊢
  have hA : ∀ q : Nat, s.heap.size ≤ q → A q := fun q h => by rw [← hAe]; exact Or.inr h
  have hS : va_S A s.heap s.heap [] := va_S.rf
  have hl := lv_entry ([.ref (g 0), .int p1, .int p2, .int p3]) (n := 4) (Nat.le_of_ble_eq_true rfl)
  rw [lg_entry_eq]
  generalize (lg_sl ([.ref (g 0), .int p1, .int p2, .int p3]) ++ List.replicate (4 - (lg_sl ([.ref (g 0), .int p1, .int p2, .int p3])).length) Slot.unset).toArray = ls at hl ⊢
  have hl : lv_has ls 4 [(0, .ref (g 0)), (1, .int p1), (2, .int p2), (3, .int p3)] := hl
  refine lv_iload_n hx hb dX8_layJudged_0 rfl (lv_at hl 1 rfl) ?_
  have hPc := hP.sub (ws' := []) [] rfl
  have hDc := hD.sub (ws' := []) [] (by decide) rfl
  have hFc := va_free (wc := []) hD hS hA [] rfl
  refine va_calli (va_runS (As := [.int p1]) (rest := []) ⟨hx, hb, hml, hown, hts⟩ (c_X8_isSlot l D cy p1 s.heap.size) (va_cwS 1 hts (gd_S q1267 q1268 q125 q1269) rfl rfl rfl (by decide +kernel) ⟨Nat.le_of_ble_eq_true rfl, Nat.le_of_ble_eq_true rfl⟩) (pr_S hPc hK hDc) rfl rfl hl.1 rfl (lv_room (Nat.le_of_ble_eq_true rfl)) dX8_layJudged_1 ⟨Nat.le_of_ble_eq_true rfl, Nat.le_of_ble_eq_true rfl⟩) hS (fun q _ h => hFc q h) hFc (fun r_1 u tS H1 locs ht hvm hw hB hz1 hk1 hS => ?_)
  obtain ⟨hP1, hK1, hD1⟩ := hB
  rw [ht] at hP1
  try dsimp only at hw
  obtain ⟨hP, hD⟩ := va_join (wr := [(g 0, .inr (8, xF g)), (g 3, .inr (0, [.int 0, .int 0, .int 0, .int 0, .int 0, .int 0, .ref (g 4), .ref (g 5), .ref (g 6), .ref (g 7)]))]) (w1 := []) hP hD [] [0, 1] rfl rfl (by decide) (by decide) hk1 hFc hP1 hD1
  generalize H1 = H at hP hS ⊢
  have hP : va_P D clz [(g 0, .inr (8, xF g)), (g 3, .inr (0, [.int 0, .int 0, .int 0, .int 0, .int 0, .int 0, .ref (g 4), .ref (g 5), .ref (g 6), .ref (g 7)]))] H := hP
  have hD : va_D A [(g 0, .inr (8, xF g)), (g 3, .inr (0, [.int 0, .int 0, .int 0, .int 0, .int 0, .int 0, .ref (g 4), .ref (g 5), .ref (g 6), .ref (g 7)]))] := hD
  by_cases hc_2 : ((0 : Int32) ≤ p1 ∧ p1 ≤ (3 : Int32))
  ·
    rw [if_pos hc_2] at hw
    subst hw
    refine lv_if_eq (tgt := 16) hx hb dX8_layJudged_4 (by decide) (fun c9 => absurd c9 (by decide)) (fun _ => ?_)
    refine lv_aload_n hx hb dX8_layJudged_7 rfl (lv_at hl 0 rfl) ?_
    refine lv_iload_n hx hb dX8_layJudged_8 rfl (lv_at hl 2 rfl) ?_
    refine lv_iload_n hx hb dX8_layJudged_9 rfl (lv_at hl 3 rfl) ?_
    have hPc := hP.sub (ws' := [(g 0, .inr (8, xF g)), (g 3, .inr (0, [.int 0, .int 0, .int 0, .int 0, .int 0, .int 0, .ref (g 4), .ref (g 5), .ref (g 6), .ref (g 7)]))]) [0, 1] rfl
    have hDc := hD.sub (ws' := [(g 0, .inr (8, xF g)), (g 3, .inr (0, [.int 0, .int 0, .int 0, .int 0, .int 0, .int 0, .ref (g 4), .ref (g 5), .ref (g 6), .ref (g 7)]))]) [0, 1] (by decide) rfl
    have hFc := va_free (wc := [(g 0, .inr (8, xF g)), (g 3, .inr (0, [.int 0, .int 0, .int 0, .int 0, .int 0, .int 0, .ref (g 4), .ref (g 5), .ref (g 6), .ref (g 7)]))]) hD hS hA [0, 1] rfl
    refine va_calli (va_runV (As := [.int p2, .int p3]) (rest := []) ⟨hx, hb, hml, hown, hts⟩ (c_X8_hasPair l D cy g p2 p3 H.size) (cwV 2 hts (gd_V q918 q920 q19 q125 q921) rfl rfl rfl (by decide +kernel) ⟨Nat.le_of_ble_eq_true rfl, Nat.le_of_ble_eq_true rfl⟩) (pr_V hPc hK hDc (va_recv hK hPc (ci := 8) (q0 := 0) rfl rfl)) rfl rfl hl.1 rfl (lv_room (Nat.le_of_ble_eq_true rfl)) dX8_layJudged_10 ⟨Nat.le_of_ble_eq_true rfl, Nat.le_of_ble_eq_true rfl⟩) hS (fun q _ h => hFc q h) hFc (fun r_3 u tS H1 locs ht hvm hw hB hz1 hk1 hS => ?_)
    obtain ⟨hP1, hK1, hD1⟩ := hB
    rw [ht] at hP1
    try dsimp only at hw
    obtain ⟨hP, hD⟩ := va_join (wr := []) (w1 := [(g 0, .inr (8, xF g)), (g 3, .inr (0, [.int 0, .int 0, .int 0, .int 0, .int 0, .int 0, .ref (g 4), .ref (g 5), .ref (g 6), .ref (g 7)]))]) hP hD [0, 1] [] rfl rfl (by decide) (by decide) hk1 hFc hP1 hD1
    generalize H1 = H at hP hS ⊢
    have hP : va_P D clz [(g 0, .inr (8, xF g)), (g 3, .inr (0, [.int 0, .int 0, .int 0, .int 0, .int 0, .int 0, .ref (g 4), .ref (g 5), .ref (g 6), .ref (g 7)]))] H := hP
    have hD : va_D A [(g 0, .inr (8, xF g)), (g 3, .inr (0, [.int 0, .int 0, .int 0, .int 0, .int 0, .int 0, .ref (g 4), .ref (g 5), .ref (g 6), .ref (g 7)]))] := hD
    subst hw
    refine lv_if_ne (tgt := 19) hx hb dX8_layJudged_13 (by decide) (fun c9 => absurd c9 (by decide)) (fun _ => ?_)
    refine lv_bipush (v := (-2)) hx hb dX8_layJudged_16 (by decide) ?_
    have hP9 := hP.sub (ws' := [(g 0, .inr (8, xF g)), (g 3, .inr (0, [.int 0, .int 0, .int 0, .int 0, .int 0, .int 0, .ref (g 4), .ref (g 5), .ref (g 6), .ref (g 7)]))]) [0, 1] rfl
    have hD9 := hD.sub (ws' := [(g 0, .inr (8, xF g)), (g 3, .inr (0, [.int 0, .int 0, .int 0, .int 0, .int 0, .int 0, .ref (g 4), .ref (g 5), .ref (g 6), .ref (g 7)]))]) [0, 1] (by decide) rfl
    exact W.iret (v := (-2)) hx hb hr (fun tS ht hW => ⟨⟨(-2), (), rfl, rfl, by rw [ht]; exact hP9, va_K.moved hW.alike hK, hD9⟩, hS.F ht⟩) hS.2.2 dX8_layJudged_18
  ·
    rw [if_neg hc_2] at hw
    subst hw
    refine lv_if_eq (tgt := 16) hx hb dX8_layJudged_4 (by decide) (fun _ => ?_) (fun c9 => absurd c9 (by decide))
    refine lv_bipush (v := (-2)) hx hb dX8_layJudged_16 (by decide) ?_
    have hP9 := hP.sub (ws' := [(g 0, .inr (8, xF g)), (g 3, .inr (0, [.int 0, .int 0, .int 0, .int 0, .int 0, .int 0, .ref (g 4), .ref (g 5), .ref (g 6), .ref (g 7)]))]) [0, 1] rfl
    have hD9 := hD.sub (ws' := [(g 0, .inr (8, xF g)), (g 3, .inr (0, [.int 0, .int 0, .int 0, .int 0, .int 0, .int 0, .ref (g 4), .ref (g 5), .ref (g 6), .ref (g 7)]))]) [0, 1] (by decide) rfl
    exact W.iret (v := (-2)) hx hb hr (fun tS ht hW => ⟨⟨(-2), (), rfl, rfl, by rw [ht]; exact hP9, va_K.moved hW.alike hK, hD9⟩, hS.F ht⟩) hS.2.2 dX8_layJudged_18

theorem q697 : Cond.code yX8_rowsThere cX8_rowsThere 3 (some .int) ∈ lw_g := lw_gm (List.mem_of_getElem? (i := 697) (by decide +kernel)) rfl
theorem q417 : Cond.fieldLink RX8 123 "LipsAndSlides$Row" "there" "Z" ∈ lw_g := lw_gm (List.mem_of_getElem? (i := 417) (by decide +kernel)) rfl
theorem dX8_rowsThere_0 : decode cX8_rowsThere 0 = .ok (.iconst 0, 1) := by decide +kernel
theorem dX8_rowsThere_1 : decode cX8_rowsThere 1 = .ok (.istore_n 1, 1) := by decide +kernel
theorem dX8_rowsThere_2 : decode cX8_rowsThere 2 = .ok (.iconst 0, 1) := by decide +kernel
theorem dX8_rowsThere_3 : decode cX8_rowsThere 3 = .ok (.istore_n 2, 1) := by decide +kernel
theorem dX8_rowsThere_4 : decode cX8_rowsThere 4 = .ok (.iload_n 2, 1) := by decide +kernel
theorem dX8_rowsThere_5 : decode cX8_rowsThere 5 = .ok (.iconst 4, 1) := by decide +kernel
theorem dX8_rowsThere_6 : decode cX8_rowsThere 6 = .ok (.if_icmp .ge 24, 3) := by decide +kernel
theorem dX8_rowsThere_9 : decode cX8_rowsThere 9 = .ok (.aload_n 0, 1) := by decide +kernel
theorem dX8_rowsThere_10 : decode cX8_rowsThere 10 = .ok (.getfield 36, 3) := by decide +kernel
theorem dX8_rowsThere_13 : decode cX8_rowsThere 13 = .ok (.iload_n 2, 1) := by decide +kernel
theorem dX8_rowsThere_14 : decode cX8_rowsThere 14 = .ok (.aaload, 1) := by decide +kernel
theorem dX8_rowsThere_15 : decode cX8_rowsThere 15 = .ok (.getfield 123, 3) := by decide +kernel
theorem dX8_rowsThere_18 : decode cX8_rowsThere 18 = .ok (.ifCond .eq 6, 3) := by decide +kernel
theorem dX8_rowsThere_24 : decode cX8_rowsThere 24 = .ok (.iinc 2 1, 3) := by decide +kernel
theorem dX8_rowsThere_27 : decode cX8_rowsThere 27 = .ok (.goto (-23), 3) := by decide +kernel
theorem dX8_rowsThere_30 : decode cX8_rowsThere 30 = .ok (.iload_n 1, 1) := by decide +kernel
theorem dX8_rowsThere_31 : decode cX8_rowsThere 31 = .ok (.ireturn, 1) := by decide +kernel
set_option maxHeartbeats 4000000 in
set_option maxRecDepth 100000 in
theorem c_X8_rowsThere (l : Launch) (D : va_G) (cy : Nat → ClassId) (g : Nat → Nat) (sz : Nat) : Met l yX8_rowsThere (ww yX8_rowsThere cX8_rowsThere 3 (some .int)) ({ frames := 1, cells := 0, slots := 0, locals := 64 }) (va_Pc [.ref (g 0)] (pre D cy [(g 0, .inr (8, xF g)), (g 26, .inl (cy 5, 4, .inr (.inr (.inr (.inr (va_up (va_up (va_up (va_up (fun _ => none) 0 (some (g 27))) 1 (some (g 29))) 2 (some (g 31))) 3 (some (g 33)))))))), (g 27, .inr (5, [.int 0, .int 0, .int 0, .ref (g 28)])), (g 29, .inr (5, [.int 0, .int 0, .int 0, .ref (g 30)])), (g 31, .inr (5, [.int 0, .int 0, .int 0, .ref (g 32)])), (g 33, .inr (5, [.int 0, .int 0, .int 0, .ref (g 34)]))] sz)) (qi D cy (va_A [(g 0, .inr (8, xF g)), (g 26, .inl (cy 5, 4, .inr (.inr (.inr (.inr (va_up (va_up (va_up (va_up (fun _ => none) 0 (some (g 27))) 1 (some (g 29))) 2 (some (g 31))) 3 (some (g 33)))))))), (g 27, .inr (5, [.int 0, .int 0, .int 0, .ref (g 28)])), (g 29, .inr (5, [.int 0, .int 0, .int 0, .ref (g 30)])), (g 31, .inr (5, [.int 0, .int 0, .int 0, .ref (g 32)])), (g 33, .inr (5, [.int 0, .int 0, .int 0, .ref (g 34)]))] sz) (fun (r : Int32) (_ : Unit) => r = 0) (fun (_ : Unit) => [(g 0, .inr (8, xF g)), (g 26, .inl (cy 5, 4, .inr (.inr (.inr (.inr (va_up (va_up (va_up (va_up (fun _ => none) 0 (some (g 27))) 1 (some (g 29))) 2 (some (g 31))) 3 (some (g 33)))))))), (g 27, .inr (5, [.int 0, .int 0, .int 0, .ref (g 28)])), (g 29, .inr (5, [.int 0, .int 0, .int 0, .ref (g 30)])), (g 31, .inr (5, [.int 0, .int 0, .int 0, .ref (g 32)])), (g 33, .inr (5, [.int 0, .int 0, .int 0, .ref (g 34)]))])) 0 0 (va_A [(g 0, .inr (8, xF g)), (g 26, .inl (cy 5, 4, .inr (.inr (.inr (.inr (va_up (va_up (va_up (va_up (fun _ => none) 0 (some (g 27))) 1 (some (g 29))) 2 (some (g 31))) 3 (some (g 33)))))))), (g 27, .inr (5, [.int 0, .int 0, .int 0, .ref (g 28)])), (g 29, .inr (5, [.int 0, .int 0, .int 0, .ref (g 30)])), (g 31, .inr (5, [.int 0, .int 0, .int 0, .ref (g 32)])), (g 33, .inr (5, [.int 0, .int 0, .int 0, .ref (g 34)]))] sz) := by
  refine Met.ofW (cc := cX8_rowsThere) (maxL := 3) (ret := (some .int)) (by decide) rfl ?_
  intro p e s m args below meth c s₁ B hml hv
  obtain ⟨rfl, hsz, hP, hK, hD0⟩ := hv
  have hx := B.exec
  have hb := B.bytes
  have hr := B.returns
  have hts := hts_g (atoms_spec (ws := ww yX8_rowsThere cX8_rowsThere 3 (some .int)) B.pre)
  have hown : s.vm.findClass RX8 = some m.cls := findClass_of_methodNamed B.named
  have hlocks := B.notSynchronized
  subst hsz
  have hD := hD0.self (sz := s.heap.size)
  generalize hAe : va_A [(g 0, .inr (8, xF g)), (g 26, .inl (cy 5, 4, .inr (.inr (.inr (.inr (va_up (va_up (va_up (va_up (fun _ => none) 0 (some (g 27))) 1 (some (g 29))) 2 (some (g 31))) 3 (some (g 33)))))))), (g 27, .inr (5, [.int 0, .int 0, .int 0, .ref (g 28)])), (g 29, .inr (5, [.int 0, .int 0, .int 0, .ref (g 30)])), (g 31, .inr (5, [.int 0, .int 0, .int 0, .ref (g 32)])), (g 33, .inr (5, [.int 0, .int 0, .int 0, .ref (g 34)]))] s.heap.size = A at hD ⊢
  have hA : ∀ q : Nat, s.heap.size ≤ q → A q := fun q h => by rw [← hAe]; exact Or.inr h
  have hS : va_S A s.heap s.heap [] := va_S.rf
  have hl := lv_entry ([.ref (g 0)]) (n := 3) (Nat.le_of_ble_eq_true rfl)
  rw [lg_entry_eq]
  generalize (lg_sl ([.ref (g 0)]) ++ List.replicate (3 - (lg_sl ([.ref (g 0)])).length) Slot.unset).toArray = ls at hl ⊢
  have hl : lv_has ls 3 [(0, .ref (g 0))] := hl
  refine lv_iconst (v := 0) hx hb dX8_rowsThere_0 (by decide) ?_
  refine lv_istore_n (lv' := [(1, .int 0), (0, .ref (g 0))]) hx hb dX8_rowsThere_1 rfl hl (by decide) rfl (fun ls hl => ?_)
  refine lv_iconst (v := 0) hx hb dX8_rowsThere_2 (by decide) ?_
  refine lv_istore_n (lv' := [(2, .int 0), (1, .int 0), (0, .ref (g 0))]) hx hb dX8_rowsThere_3 rfl hl (by decide) rfl (fun ls hl => ?_)
  refine lv_iload_n hx hb dX8_rowsThere_4 rfl (lv_at hl 0 rfl) ?_
  refine lv_iconst (v := 4) hx hb dX8_rowsThere_5 (by decide) ?_
  refine lv_icmp_ge (tgt := 30) hx hb dX8_rowsThere_6 (by decide) (fun c9 => absurd c9 (by decide)) (fun _ => ?_)
  refine lv_aload_n hx hb dX8_rowsThere_9 rfl (lv_at hl 2 rfl) ?_
  refine va_get (D := D) (ci := 8) (v := .ref (g 26)) (C := RX8) (T := TX8) (N := 12) hx hb hts iX8 hown hK hP 0 rfl rfl 5 (by decide) (hts _ q439) (fun _ h9 => h9) rfl dX8_rowsThere_10 ?_
  refine lv_iload_n hx hb dX8_rowsThere_13 rfl (lv_at hl 0 rfl) ?_
  refine va_aldq hx hb hK hP 1 5 rfl rfl (vpi (by decide)) dX8_rowsThere_14 ?_
  refine W.eq (g2 := F0 m 15 ls [.ref (g 27)]) rfl ?_
  refine va_get (D := D) (ci := 5) (v := .int 0) (C := RX5) (T := TX5) (N := 4) hx hb hts iX5 hown hK hP 2 rfl rfl 0 (by decide) (hts _ q417) (fun _ h9 => h9) rfl dX8_rowsThere_15 ?_
  refine lv_if_eq (tgt := 24) hx hb dX8_rowsThere_18 (by decide) (fun _ => ?_) (fun c9 => absurd c9 (by decide))
  refine lv_iinc (v := 1) (lv' := [(2, .int 1), (1, .int 0), (0, .ref (g 0))]) hx hb dX8_rowsThere_24 hl (k := 0) rfl (by decide) (by decide) rfl (fun ls hl => ?_)
  refine lv_goto (tgt := 4) hx hb dX8_rowsThere_27 (by decide) ?_
  refine lv_iload_n hx hb dX8_rowsThere_4 rfl (lv_at hl 0 rfl) ?_
  refine lv_iconst (v := 4) hx hb dX8_rowsThere_5 (by decide) ?_
  refine lv_icmp_ge (tgt := 30) hx hb dX8_rowsThere_6 (by decide) (fun c9 => absurd c9 (by decide)) (fun _ => ?_)
  refine lv_aload_n hx hb dX8_rowsThere_9 rfl (lv_at hl 2 rfl) ?_
  refine va_get (D := D) (ci := 8) (v := .ref (g 26)) (C := RX8) (T := TX8) (N := 12) hx hb hts iX8 hown hK hP 0 rfl rfl 5 (by decide) (hts _ q439) (fun _ h9 => h9) rfl dX8_rowsThere_10 ?_
  refine lv_iload_n hx hb dX8_rowsThere_13 rfl (lv_at hl 0 rfl) ?_
  refine va_aldq hx hb hK hP 1 5 rfl rfl (vpi (by decide)) dX8_rowsThere_14 ?_
  refine W.eq (g2 := F0 m 15 ls [.ref (g 29)]) rfl ?_
  refine va_get (D := D) (ci := 5) (v := .int 0) (C := RX5) (T := TX5) (N := 4) hx hb hts iX5 hown hK hP 3 rfl rfl 0 (by decide) (hts _ q417) (fun _ h9 => h9) rfl dX8_rowsThere_15 ?_
  refine lv_if_eq (tgt := 24) hx hb dX8_rowsThere_18 (by decide) (fun _ => ?_) (fun c9 => absurd c9 (by decide))
  refine lv_iinc (v := 2) (lv' := [(2, .int 2), (1, .int 0), (0, .ref (g 0))]) hx hb dX8_rowsThere_24 hl (k := 0) rfl (by decide) (by decide) rfl (fun ls hl => ?_)
  refine lv_goto (tgt := 4) hx hb dX8_rowsThere_27 (by decide) ?_
  refine lv_iload_n hx hb dX8_rowsThere_4 rfl (lv_at hl 0 rfl) ?_
  refine lv_iconst (v := 4) hx hb dX8_rowsThere_5 (by decide) ?_
  refine lv_icmp_ge (tgt := 30) hx hb dX8_rowsThere_6 (by decide) (fun c9 => absurd c9 (by decide)) (fun _ => ?_)
  refine lv_aload_n hx hb dX8_rowsThere_9 rfl (lv_at hl 2 rfl) ?_
  refine va_get (D := D) (ci := 8) (v := .ref (g 26)) (C := RX8) (T := TX8) (N := 12) hx hb hts iX8 hown hK hP 0 rfl rfl 5 (by decide) (hts _ q439) (fun _ h9 => h9) rfl dX8_rowsThere_10 ?_
  refine lv_iload_n hx hb dX8_rowsThere_13 rfl (lv_at hl 0 rfl) ?_
  refine va_aldq hx hb hK hP 1 5 rfl rfl (vpi (by decide)) dX8_rowsThere_14 ?_
  refine W.eq (g2 := F0 m 15 ls [.ref (g 31)]) rfl ?_
  refine va_get (D := D) (ci := 5) (v := .int 0) (C := RX5) (T := TX5) (N := 4) hx hb hts iX5 hown hK hP 4 rfl rfl 0 (by decide) (hts _ q417) (fun _ h9 => h9) rfl dX8_rowsThere_15 ?_
  refine lv_if_eq (tgt := 24) hx hb dX8_rowsThere_18 (by decide) (fun _ => ?_) (fun c9 => absurd c9 (by decide))
  refine lv_iinc (v := 3) (lv' := [(2, .int 3), (1, .int 0), (0, .ref (g 0))]) hx hb dX8_rowsThere_24 hl (k := 0) rfl (by decide) (by decide) rfl (fun ls hl => ?_)
  refine lv_goto (tgt := 4) hx hb dX8_rowsThere_27 (by decide) ?_
  refine lv_iload_n hx hb dX8_rowsThere_4 rfl (lv_at hl 0 rfl) ?_
  refine lv_iconst (v := 4) hx hb dX8_rowsThere_5 (by decide) ?_
  refine lv_icmp_ge (tgt := 30) hx hb dX8_rowsThere_6 (by decide) (fun c9 => absurd c9 (by decide)) (fun _ => ?_)
  refine lv_aload_n hx hb dX8_rowsThere_9 rfl (lv_at hl 2 rfl) ?_
  refine va_get (D := D) (ci := 8) (v := .ref (g 26)) (C := RX8) (T := TX8) (N := 12) hx hb hts iX8 hown hK hP 0 rfl rfl 5 (by decide) (hts _ q439) (fun _ h9 => h9) rfl dX8_rowsThere_10 ?_
  refine lv_iload_n hx hb dX8_rowsThere_13 rfl (lv_at hl 0 rfl) ?_
  refine va_aldq hx hb hK hP 1 5 rfl rfl (vpi (by decide)) dX8_rowsThere_14 ?_
  refine W.eq (g2 := F0 m 15 ls [.ref (g 33)]) rfl ?_
  refine va_get (D := D) (ci := 5) (v := .int 0) (C := RX5) (T := TX5) (N := 4) hx hb hts iX5 hown hK hP 5 rfl rfl 0 (by decide) (hts _ q417) (fun _ h9 => h9) rfl dX8_rowsThere_15 ?_
  refine lv_if_eq (tgt := 24) hx hb dX8_rowsThere_18 (by decide) (fun _ => ?_) (fun c9 => absurd c9 (by decide))
  refine lv_iinc (v := 4) (lv' := [(2, .int 4), (1, .int 0), (0, .ref (g 0))]) hx hb dX8_rowsThere_24 hl (k := 0) rfl (by decide) (by decide) rfl (fun ls hl => ?_)
  refine lv_goto (tgt := 4) hx hb dX8_rowsThere_27 (by decide) ?_
  refine lv_iload_n hx hb dX8_rowsThere_4 rfl (lv_at hl 0 rfl) ?_
  refine lv_iconst (v := 4) hx hb dX8_rowsThere_5 (by decide) ?_
  refine lv_icmp_ge (tgt := 30) hx hb dX8_rowsThere_6 (by decide) (fun _ => ?_) (fun c9 => absurd c9 (by decide))
  refine lv_iload_n hx hb dX8_rowsThere_30 rfl (lv_at hl 1 rfl) ?_
  have hP9 := hP.sub (ws' := [(g 0, .inr (8, xF g)), (g 26, .inl (cy 5, 4, .inr (.inr (.inr (.inr (va_up (va_up (va_up (va_up (fun _ => none) 0 (some (g 27))) 1 (some (g 29))) 2 (some (g 31))) 3 (some (g 33)))))))), (g 27, .inr (5, [.int 0, .int 0, .int 0, .ref (g 28)])), (g 29, .inr (5, [.int 0, .int 0, .int 0, .ref (g 30)])), (g 31, .inr (5, [.int 0, .int 0, .int 0, .ref (g 32)])), (g 33, .inr (5, [.int 0, .int 0, .int 0, .ref (g 34)]))]) [0, 1, 2, 3, 4, 5] rfl
  have hD9 := hD.sub (ws' := [(g 0, .inr (8, xF g)), (g 26, .inl (cy 5, 4, .inr (.inr (.inr (.inr (va_up (va_up (va_up (va_up (fun _ => none) 0 (some (g 27))) 1 (some (g 29))) 2 (some (g 31))) 3 (some (g 33)))))))), (g 27, .inr (5, [.int 0, .int 0, .int 0, .ref (g 28)])), (g 29, .inr (5, [.int 0, .int 0, .int 0, .ref (g 30)])), (g 31, .inr (5, [.int 0, .int 0, .int 0, .ref (g 32)])), (g 33, .inr (5, [.int 0, .int 0, .int 0, .ref (g 34)]))]) [0, 1, 2, 3, 4, 5] (by decide) rfl
  exact W.iret (v := 0) hx hb hr (fun tS ht hW => ⟨⟨0, (), rfl, rfl, by rw [ht]; exact hP9, va_K.moved hW.alike hK, hD9⟩, hS.F ht⟩) hS.2.2 dX8_rowsThere_31

theorem q716 : Cond.code yX8_brass cX8_brass 3 (some .int) ∈ lw_g := lw_gm (List.mem_of_getElem? (i := 716) (by decide +kernel)) rfl
theorem q717 : Cond.methodLink RX8 131 yX0_brassField ∈ lw_g := lw_gm (List.mem_of_getElem? (i := 717) (by decide +kernel)) rfl
theorem q718 : Cond.instanceMethod yX0_brassField ∈ lw_g := lw_gm (List.mem_of_getElem? (i := 718) (by decide +kernel)) rfl
theorem q719 : Cond.selects RX0 yX0_brassField yX0_brassField ∈ lw_g := lw_gm (List.mem_of_getElem? (i := 719) (by decide +kernel)) rfl
theorem dX8_brass_0 : decode cX8_brass 0 = .ok (.aload_n 0, 1) := by decide +kernel
theorem dX8_brass_1 : decode cX8_brass 1 = .ok (.getfield 19, 3) := by decide +kernel
theorem dX8_brass_4 : decode cX8_brass 4 = .ok (.iload_n 1, 1) := by decide +kernel
theorem dX8_brass_5 : decode cX8_brass 5 = .ok (.iload_n 2, 1) := by decide +kernel
theorem dX8_brass_6 : decode cX8_brass 6 = .ok (.invokevirtual 131, 3) := by decide +kernel
theorem dX8_brass_9 : decode cX8_brass 9 = .ok (.ireturn, 1) := by decide +kernel
set_option maxHeartbeats 4000000 in
set_option maxRecDepth 100000 in
theorem c_X8_brass (l : Launch) (D : va_G) (cy : Nat → ClassId) (g : Nat → Nat) (p1 : Int32) (p2 : Int32) (sz : Nat) : Met l yX8_brass (ww yX8_brass cX8_brass 3 (some .int)) ({ frames := 3, cells := 0, slots := 0, locals := 192 }) (va_Pc [.ref (g 0), .int p1, .int p2] (pre D cy [(g 0, .inr (8, xF g)), (g 3, .inr (0, [.int 0, .int 0, .int 0, .int 0, .int 0, .int 0, .ref (g 4), .ref (g 5), .ref (g 6), .ref (g 7)]))] sz)) (qi D cy (va_A [(g 0, .inr (8, xF g)), (g 3, .inr (0, [.int 0, .int 0, .int 0, .int 0, .int 0, .int 0, .ref (g 4), .ref (g 5), .ref (g 6), .ref (g 7)]))] sz) (fun (r : Int32) (_ : Unit) => r = (-2)) (fun (_ : Unit) => [(g 0, .inr (8, xF g)), (g 3, .inr (0, [.int 0, .int 0, .int 0, .int 0, .int 0, .int 0, .ref (g 4), .ref (g 5), .ref (g 6), .ref (g 7)]))])) 0 0 (va_A [(g 0, .inr (8, xF g)), (g 3, .inr (0, [.int 0, .int 0, .int 0, .int 0, .int 0, .int 0, .ref (g 4), .ref (g 5), .ref (g 6), .ref (g 7)]))] sz) := by
  refine Met.ofW (cc := cX8_brass) (maxL := 3) (ret := (some .int)) (by decide) rfl ?_
  intro p e s m args below meth c s₁ B hml hv
  obtain ⟨rfl, hsz, hP, hK, hD0⟩ := hv
  have hx := B.exec
  have hb := B.bytes
  have hr := B.returns
  have hts := hts_g (atoms_spec (ws := ww yX8_brass cX8_brass 3 (some .int)) B.pre)
  have hown : s.vm.findClass RX8 = some m.cls := findClass_of_methodNamed B.named
  have hlocks := B.notSynchronized
  subst hsz
  have hD := hD0.self (sz := s.heap.size)
  generalize hAe : va_A [(g 0, .inr (8, xF g)), (g 3, .inr (0, [.int 0, .int 0, .int 0, .int 0, .int 0, .int 0, .ref (g 4), .ref (g 5), .ref (g 6), .ref (g 7)]))] s.heap.size = A at hD ⊢
  have hA : ∀ q : Nat, s.heap.size ≤ q → A q := fun q h => by rw [← hAe]; exact Or.inr h
  have hS : va_S A s.heap s.heap [] := va_S.rf
  have hl := lv_entry ([.ref (g 0), .int p1, .int p2]) (n := 3) (Nat.le_of_ble_eq_true rfl)
  rw [lg_entry_eq]
  generalize (lg_sl ([.ref (g 0), .int p1, .int p2]) ++ List.replicate (3 - (lg_sl ([.ref (g 0), .int p1, .int p2])).length) Slot.unset).toArray = ls at hl ⊢
  have hl : lv_has ls 3 [(0, .ref (g 0)), (1, .int p1), (2, .int p2)] := hl
  refine lv_aload_n hx hb dX8_brass_0 rfl (lv_at hl 0 rfl) ?_
  refine va_get (D := D) (ci := 8) (v := .ref (g 3)) (C := RX8) (T := TX8) (N := 12) hx hb hts iX8 hown hK hP 0 rfl rfl 1 (by decide) (hts _ q435) (fun _ h9 => h9) rfl dX8_brass_1 ?_
  refine lv_iload_n hx hb dX8_brass_4 rfl (lv_at hl 1 rfl) ?_
  refine lv_iload_n hx hb dX8_brass_5 rfl (lv_at hl 2 rfl) ?_
  have hPc := hP.sub (ws' := [(g 3, .inr (0, [.int 0, .int 0, .int 0, .int 0, .int 0, .int 0, .ref (g 4), .ref (g 5), .ref (g 6), .ref (g 7)]))]) [1] rfl
  have hDc := hD.sub (ws' := [(g 3, .inr (0, [.int 0, .int 0, .int 0, .int 0, .int 0, .int 0, .ref (g 4), .ref (g 5), .ref (g 6), .ref (g 7)]))]) [1] (by decide) rfl
  have hFc := va_free (wc := [(g 3, .inr (0, [.int 0, .int 0, .int 0, .int 0, .int 0, .int 0, .ref (g 4), .ref (g 5), .ref (g 6), .ref (g 7)]))]) hD hS hA [1] rfl
  refine va_calli (va_runV (As := [.int p1, .int p2]) (rest := []) ⟨hx, hb, hml, hown, hts⟩ (c_X0_brassField l D cy (g 3) (g 4) (g 5) (g 6) (g 7) p1 p2 s.heap.size) (cwV 2 hts (gd_V q717 q718 q719 q127 q720) rfl rfl rfl (by decide +kernel) ⟨Nat.le_of_ble_eq_true rfl, Nat.le_of_ble_eq_true rfl⟩) (pr_V hPc hK hDc (va_recv hK hPc (ci := 0) (q0 := 0) rfl rfl)) rfl rfl hl.1 rfl (lv_room (Nat.le_of_ble_eq_true rfl)) dX8_brass_6 ⟨Nat.le_of_ble_eq_true rfl, Nat.le_of_ble_eq_true rfl⟩) hS (fun q _ h => hFc q h) hFc (fun r_1 u tS H1 locs ht hvm hw hB hz1 hk1 hS => ?_)
  obtain ⟨hP1, hK1, hD1⟩ := hB
  rw [ht] at hP1
  try dsimp only at hw
  obtain ⟨hP, hD⟩ := va_join (wr := [(g 0, .inr (8, xF g))]) (w1 := [(g 3, .inr (0, [.int 0, .int 0, .int 0, .int 0, .int 0, .int 0, .ref (g 4), .ref (g 5), .ref (g 6), .ref (g 7)]))]) hP hD [1] [0] rfl rfl (by decide) (by decide) hk1 hFc hP1 hD1
  generalize H1 = H at hP hS ⊢
  have hP : va_P D clz [(g 0, .inr (8, xF g)), (g 3, .inr (0, [.int 0, .int 0, .int 0, .int 0, .int 0, .int 0, .ref (g 4), .ref (g 5), .ref (g 6), .ref (g 7)]))] H := hP
  have hD : va_D A [(g 0, .inr (8, xF g)), (g 3, .inr (0, [.int 0, .int 0, .int 0, .int 0, .int 0, .int 0, .ref (g 4), .ref (g 5), .ref (g 6), .ref (g 7)]))] := hD
  subst hw
  have hP9 := hP.sub (ws' := [(g 0, .inr (8, xF g)), (g 3, .inr (0, [.int 0, .int 0, .int 0, .int 0, .int 0, .int 0, .ref (g 4), .ref (g 5), .ref (g 6), .ref (g 7)]))]) [0, 1] rfl
  have hD9 := hD.sub (ws' := [(g 0, .inr (8, xF g)), (g 3, .inr (0, [.int 0, .int 0, .int 0, .int 0, .int 0, .int 0, .ref (g 4), .ref (g 5), .ref (g 6), .ref (g 7)]))]) [0, 1] (by decide) rfl
  exact W.iret (v := (-2)) hx hb hr (fun tS ht hW => ⟨⟨(-2), (), rfl, rfl, by rw [ht]; exact hP9, va_K.moved hW.alike hK, hD9⟩, hS.F ht⟩) hS.2.2 dX8_brass_9

theorem q724 : Cond.code yX8_player cX8_player 3 (some .int) ∈ lw_g := lw_gm (List.mem_of_getElem? (i := 724) (by decide +kernel)) rfl
theorem q725 : Cond.methodLink RX8 135 yX0_playerField ∈ lw_g := lw_gm (List.mem_of_getElem? (i := 725) (by decide +kernel)) rfl
theorem q726 : Cond.instanceMethod yX0_playerField ∈ lw_g := lw_gm (List.mem_of_getElem? (i := 726) (by decide +kernel)) rfl
theorem q727 : Cond.selects RX0 yX0_playerField yX0_playerField ∈ lw_g := lw_gm (List.mem_of_getElem? (i := 727) (by decide +kernel)) rfl
theorem dX8_player_0 : decode cX8_player 0 = .ok (.aload_n 0, 1) := by decide +kernel
theorem dX8_player_1 : decode cX8_player 1 = .ok (.getfield 19, 3) := by decide +kernel
theorem dX8_player_4 : decode cX8_player 4 = .ok (.iload_n 1, 1) := by decide +kernel
theorem dX8_player_5 : decode cX8_player 5 = .ok (.iload_n 2, 1) := by decide +kernel
theorem dX8_player_6 : decode cX8_player 6 = .ok (.invokevirtual 135, 3) := by decide +kernel
theorem dX8_player_9 : decode cX8_player 9 = .ok (.ireturn, 1) := by decide +kernel
set_option maxHeartbeats 4000000 in
set_option maxRecDepth 100000 in
theorem c_X8_player (l : Launch) (D : va_G) (cy : Nat → ClassId) (g : Nat → Nat) (p1 : Int32) (p2 : Int32) (sz : Nat) : Met l yX8_player (ww yX8_player cX8_player 3 (some .int)) ({ frames := 3, cells := 0, slots := 0, locals := 192 }) (va_Pc [.ref (g 0), .int p1, .int p2] (pre D cy [(g 0, .inr (8, xF g)), (g 3, .inr (0, [.int 0, .int 0, .int 0, .int 0, .int 0, .int 0, .ref (g 4), .ref (g 5), .ref (g 6), .ref (g 7)]))] sz)) (qi D cy (va_A [(g 0, .inr (8, xF g)), (g 3, .inr (0, [.int 0, .int 0, .int 0, .int 0, .int 0, .int 0, .ref (g 4), .ref (g 5), .ref (g 6), .ref (g 7)]))] sz) (fun (r : Int32) (_ : Unit) => r = (-2)) (fun (_ : Unit) => [(g 0, .inr (8, xF g)), (g 3, .inr (0, [.int 0, .int 0, .int 0, .int 0, .int 0, .int 0, .ref (g 4), .ref (g 5), .ref (g 6), .ref (g 7)]))])) 0 0 (va_A [(g 0, .inr (8, xF g)), (g 3, .inr (0, [.int 0, .int 0, .int 0, .int 0, .int 0, .int 0, .ref (g 4), .ref (g 5), .ref (g 6), .ref (g 7)]))] sz) := by
  refine Met.ofW (cc := cX8_player) (maxL := 3) (ret := (some .int)) (by decide) rfl ?_
  intro p e s m args below meth c s₁ B hml hv
  obtain ⟨rfl, hsz, hP, hK, hD0⟩ := hv
  have hx := B.exec
  have hb := B.bytes
  have hr := B.returns
  have hts := hts_g (atoms_spec (ws := ww yX8_player cX8_player 3 (some .int)) B.pre)
  have hown : s.vm.findClass RX8 = some m.cls := findClass_of_methodNamed B.named
  have hlocks := B.notSynchronized
  subst hsz
  have hD := hD0.self (sz := s.heap.size)
  generalize hAe : va_A [(g 0, .inr (8, xF g)), (g 3, .inr (0, [.int 0, .int 0, .int 0, .int 0, .int 0, .int 0, .ref (g 4), .ref (g 5), .ref (g 6), .ref (g 7)]))] s.heap.size = A at hD ⊢
  have hA : ∀ q : Nat, s.heap.size ≤ q → A q := fun q h => by rw [← hAe]; exact Or.inr h
  have hS : va_S A s.heap s.heap [] := va_S.rf
  have hl := lv_entry ([.ref (g 0), .int p1, .int p2]) (n := 3) (Nat.le_of_ble_eq_true rfl)
  rw [lg_entry_eq]
  generalize (lg_sl ([.ref (g 0), .int p1, .int p2]) ++ List.replicate (3 - (lg_sl ([.ref (g 0), .int p1, .int p2])).length) Slot.unset).toArray = ls at hl ⊢
  have hl : lv_has ls 3 [(0, .ref (g 0)), (1, .int p1), (2, .int p2)] := hl
  refine lv_aload_n hx hb dX8_player_0 rfl (lv_at hl 0 rfl) ?_
  refine va_get (D := D) (ci := 8) (v := .ref (g 3)) (C := RX8) (T := TX8) (N := 12) hx hb hts iX8 hown hK hP 0 rfl rfl 1 (by decide) (hts _ q435) (fun _ h9 => h9) rfl dX8_player_1 ?_
  refine lv_iload_n hx hb dX8_player_4 rfl (lv_at hl 1 rfl) ?_
  refine lv_iload_n hx hb dX8_player_5 rfl (lv_at hl 2 rfl) ?_
  have hPc := hP.sub (ws' := [(g 3, .inr (0, [.int 0, .int 0, .int 0, .int 0, .int 0, .int 0, .ref (g 4), .ref (g 5), .ref (g 6), .ref (g 7)]))]) [1] rfl
  have hDc := hD.sub (ws' := [(g 3, .inr (0, [.int 0, .int 0, .int 0, .int 0, .int 0, .int 0, .ref (g 4), .ref (g 5), .ref (g 6), .ref (g 7)]))]) [1] (by decide) rfl
  have hFc := va_free (wc := [(g 3, .inr (0, [.int 0, .int 0, .int 0, .int 0, .int 0, .int 0, .ref (g 4), .ref (g 5), .ref (g 6), .ref (g 7)]))]) hD hS hA [1] rfl
  refine va_calli (va_runV (As := [.int p1, .int p2]) (rest := []) ⟨hx, hb, hml, hown, hts⟩ (c_X0_playerField l D cy (g 3) (g 4) (g 5) (g 6) (g 7) p1 p2 s.heap.size) (cwV 2 hts (gd_V q725 q726 q727 q127 q728) rfl rfl rfl (by decide +kernel) ⟨Nat.le_of_ble_eq_true rfl, Nat.le_of_ble_eq_true rfl⟩) (pr_V hPc hK hDc (va_recv hK hPc (ci := 0) (q0 := 0) rfl rfl)) rfl rfl hl.1 rfl (lv_room (Nat.le_of_ble_eq_true rfl)) dX8_player_6 ⟨Nat.le_of_ble_eq_true rfl, Nat.le_of_ble_eq_true rfl⟩) hS (fun q _ h => hFc q h) hFc (fun r_1 u tS H1 locs ht hvm hw hB hz1 hk1 hS => ?_)
  obtain ⟨hP1, hK1, hD1⟩ := hB
  rw [ht] at hP1
  try dsimp only at hw
  obtain ⟨hP, hD⟩ := va_join (wr := [(g 0, .inr (8, xF g))]) (w1 := [(g 3, .inr (0, [.int 0, .int 0, .int 0, .int 0, .int 0, .int 0, .ref (g 4), .ref (g 5), .ref (g 6), .ref (g 7)]))]) hP hD [1] [0] rfl rfl (by decide) (by decide) hk1 hFc hP1 hD1
  generalize H1 = H at hP hS ⊢
  have hP : va_P D clz [(g 0, .inr (8, xF g)), (g 3, .inr (0, [.int 0, .int 0, .int 0, .int 0, .int 0, .int 0, .ref (g 4), .ref (g 5), .ref (g 6), .ref (g 7)]))] H := hP
  have hD : va_D A [(g 0, .inr (8, xF g)), (g 3, .inr (0, [.int 0, .int 0, .int 0, .int 0, .int 0, .int 0, .ref (g 4), .ref (g 5), .ref (g 6), .ref (g 7)]))] := hD
  subst hw
  have hP9 := hP.sub (ws' := [(g 0, .inr (8, xF g)), (g 3, .inr (0, [.int 0, .int 0, .int 0, .int 0, .int 0, .int 0, .ref (g 4), .ref (g 5), .ref (g 6), .ref (g 7)]))]) [0, 1] rfl
  have hD9 := hD.sub (ws' := [(g 0, .inr (8, xF g)), (g 3, .inr (0, [.int 0, .int 0, .int 0, .int 0, .int 0, .int 0, .ref (g 4), .ref (g 5), .ref (g 6), .ref (g 7)]))]) [0, 1] (by decide) rfl
  exact W.iret (v := (-2)) hx hb hr (fun tS ht hW => ⟨⟨(-2), (), rfl, rfl, by rw [ht]; exact hP9, va_K.moved hW.alike hK, hD9⟩, hS.F ht⟩) hS.2.2 dX8_player_9

theorem q732 : Cond.code yX8_tone cX8_tone 4 (some .int) ∈ lw_g := lw_gm (List.mem_of_getElem? (i := 732) (by decide +kernel)) rfl
theorem q733 : Cond.methodLink RX8 138 yX0_toneField ∈ lw_g := lw_gm (List.mem_of_getElem? (i := 733) (by decide +kernel)) rfl
theorem q661 : Cond.instanceMethod yX0_toneField ∈ lw_g := lw_gm (List.mem_of_getElem? (i := 661) (by decide +kernel)) rfl
theorem q662 : Cond.selects RX0 yX0_toneField yX0_toneField ∈ lw_g := lw_gm (List.mem_of_getElem? (i := 662) (by decide +kernel)) rfl
theorem dX8_tone_0 : decode cX8_tone 0 = .ok (.aload_n 0, 1) := by decide +kernel
theorem dX8_tone_1 : decode cX8_tone 1 = .ok (.getfield 19, 3) := by decide +kernel
theorem dX8_tone_4 : decode cX8_tone 4 = .ok (.iload_n 1, 1) := by decide +kernel
theorem dX8_tone_5 : decode cX8_tone 5 = .ok (.iload_n 2, 1) := by decide +kernel
theorem dX8_tone_6 : decode cX8_tone 6 = .ok (.iload_n 3, 1) := by decide +kernel
theorem dX8_tone_7 : decode cX8_tone 7 = .ok (.invokevirtual 138, 3) := by decide +kernel
theorem dX8_tone_10 : decode cX8_tone 10 = .ok (.ireturn, 1) := by decide +kernel
set_option maxHeartbeats 4000000 in
set_option maxRecDepth 100000 in
theorem c_X8_tone (l : Launch) (D : va_G) (cy : Nat → ClassId) (g : Nat → Nat) (p1 : Int32) (p2 : Int32) (p3 : Int32) (sz : Nat) : Met l yX8_tone (ww yX8_tone cX8_tone 4 (some .int)) ({ frames := 3, cells := 0, slots := 0, locals := 192 }) (va_Pc [.ref (g 0), .int p1, .int p2, .int p3] (pre D cy [(g 0, .inr (8, xF g)), (g 3, .inr (0, [.int 0, .int 0, .int 0, .int 0, .int 0, .int 0, .ref (g 4), .ref (g 5), .ref (g 6), .ref (g 7)]))] sz)) (qi D cy (va_A [(g 0, .inr (8, xF g)), (g 3, .inr (0, [.int 0, .int 0, .int 0, .int 0, .int 0, .int 0, .ref (g 4), .ref (g 5), .ref (g 6), .ref (g 7)]))] sz) (fun (r : Int32) (_ : Unit) => r = (-2)) (fun (_ : Unit) => [(g 0, .inr (8, xF g)), (g 3, .inr (0, [.int 0, .int 0, .int 0, .int 0, .int 0, .int 0, .ref (g 4), .ref (g 5), .ref (g 6), .ref (g 7)]))])) 0 0 (va_A [(g 0, .inr (8, xF g)), (g 3, .inr (0, [.int 0, .int 0, .int 0, .int 0, .int 0, .int 0, .ref (g 4), .ref (g 5), .ref (g 6), .ref (g 7)]))] sz) := by
  refine Met.ofW (cc := cX8_tone) (maxL := 4) (ret := (some .int)) (by decide) rfl ?_
  intro p e s m args below meth c s₁ B hml hv
  obtain ⟨rfl, hsz, hP, hK, hD0⟩ := hv
  have hx := B.exec
  have hb := B.bytes
  have hr := B.returns
  have hts := hts_g (atoms_spec (ws := ww yX8_tone cX8_tone 4 (some .int)) B.pre)
  have hown : s.vm.findClass RX8 = some m.cls := findClass_of_methodNamed B.named
  have hlocks := B.notSynchronized
  subst hsz
  have hD := hD0.self (sz := s.heap.size)
  generalize hAe : va_A [(g 0, .inr (8, xF g)), (g 3, .inr (0, [.int 0, .int 0, .int 0, .int 0, .int 0, .int 0, .ref (g 4), .ref (g 5), .ref (g 6), .ref (g 7)]))] s.heap.size = A at hD ⊢
  have hA : ∀ q : Nat, s.heap.size ≤ q → A q := fun q h => by rw [← hAe]; exact Or.inr h
  have hS : va_S A s.heap s.heap [] := va_S.rf
  have hl := lv_entry ([.ref (g 0), .int p1, .int p2, .int p3]) (n := 4) (Nat.le_of_ble_eq_true rfl)
  rw [lg_entry_eq]
  generalize (lg_sl ([.ref (g 0), .int p1, .int p2, .int p3]) ++ List.replicate (4 - (lg_sl ([.ref (g 0), .int p1, .int p2, .int p3])).length) Slot.unset).toArray = ls at hl ⊢
  have hl : lv_has ls 4 [(0, .ref (g 0)), (1, .int p1), (2, .int p2), (3, .int p3)] := hl
  refine lv_aload_n hx hb dX8_tone_0 rfl (lv_at hl 0 rfl) ?_
  refine va_get (D := D) (ci := 8) (v := .ref (g 3)) (C := RX8) (T := TX8) (N := 12) hx hb hts iX8 hown hK hP 0 rfl rfl 1 (by decide) (hts _ q435) (fun _ h9 => h9) rfl dX8_tone_1 ?_
  refine lv_iload_n hx hb dX8_tone_4 rfl (lv_at hl 1 rfl) ?_
  refine lv_iload_n hx hb dX8_tone_5 rfl (lv_at hl 2 rfl) ?_
  refine lv_iload_n hx hb dX8_tone_6 rfl (lv_at hl 3 rfl) ?_
  have hPc := hP.sub (ws' := [(g 3, .inr (0, [.int 0, .int 0, .int 0, .int 0, .int 0, .int 0, .ref (g 4), .ref (g 5), .ref (g 6), .ref (g 7)]))]) [1] rfl
  have hDc := hD.sub (ws' := [(g 3, .inr (0, [.int 0, .int 0, .int 0, .int 0, .int 0, .int 0, .ref (g 4), .ref (g 5), .ref (g 6), .ref (g 7)]))]) [1] (by decide) rfl
  have hFc := va_free (wc := [(g 3, .inr (0, [.int 0, .int 0, .int 0, .int 0, .int 0, .int 0, .ref (g 4), .ref (g 5), .ref (g 6), .ref (g 7)]))]) hD hS hA [1] rfl
  refine va_calli (va_runV (As := [.int p1, .int p2, .int p3]) (rest := []) ⟨hx, hb, hml, hown, hts⟩ (c_X0_toneField l D cy (g 3) (g 4) (g 5) (g 6) (g 7) p1 p2 p3 s.heap.size) (cwV 3 hts (gd_V q733 q661 q662 q127 q663) rfl rfl rfl (by decide +kernel) ⟨Nat.le_of_ble_eq_true rfl, Nat.le_of_ble_eq_true rfl⟩) (pr_V hPc hK hDc (va_recv hK hPc (ci := 0) (q0 := 0) rfl rfl)) rfl rfl hl.1 rfl (lv_room (Nat.le_of_ble_eq_true rfl)) dX8_tone_7 ⟨Nat.le_of_ble_eq_true rfl, Nat.le_of_ble_eq_true rfl⟩) hS (fun q _ h => hFc q h) hFc (fun r_1 u tS H1 locs ht hvm hw hB hz1 hk1 hS => ?_)
  obtain ⟨hP1, hK1, hD1⟩ := hB
  rw [ht] at hP1
  try dsimp only at hw
  obtain ⟨hP, hD⟩ := va_join (wr := [(g 0, .inr (8, xF g))]) (w1 := [(g 3, .inr (0, [.int 0, .int 0, .int 0, .int 0, .int 0, .int 0, .ref (g 4), .ref (g 5), .ref (g 6), .ref (g 7)]))]) hP hD [1] [0] rfl rfl (by decide) (by decide) hk1 hFc hP1 hD1
  generalize H1 = H at hP hS ⊢
  have hP : va_P D clz [(g 0, .inr (8, xF g)), (g 3, .inr (0, [.int 0, .int 0, .int 0, .int 0, .int 0, .int 0, .ref (g 4), .ref (g 5), .ref (g 6), .ref (g 7)]))] H := hP
  have hD : va_D A [(g 0, .inr (8, xF g)), (g 3, .inr (0, [.int 0, .int 0, .int 0, .int 0, .int 0, .int 0, .ref (g 4), .ref (g 5), .ref (g 6), .ref (g 7)]))] := hD
  subst hw
  have hP9 := hP.sub (ws' := [(g 0, .inr (8, xF g)), (g 3, .inr (0, [.int 0, .int 0, .int 0, .int 0, .int 0, .int 0, .ref (g 4), .ref (g 5), .ref (g 6), .ref (g 7)]))]) [0, 1] rfl
  have hD9 := hD.sub (ws' := [(g 0, .inr (8, xF g)), (g 3, .inr (0, [.int 0, .int 0, .int 0, .int 0, .int 0, .int 0, .ref (g 4), .ref (g 5), .ref (g 6), .ref (g 7)]))]) [0, 1] (by decide) rfl
  exact W.iret (v := (-2)) hx hb hr (fun tS ht hW => ⟨⟨(-2), (), rfl, rfl, by rw [ht]; exact hP9, va_K.moved hW.alike hK, hD9⟩, hS.F ht⟩) hS.2.2 dX8_tone_10

theorem q737 : Cond.code yX8_tones cX8_tones 2 (some .int) ∈ lw_g := lw_gm (List.mem_of_getElem? (i := 737) (by decide +kernel)) rfl
theorem q738 : Cond.methodLink RX8 142 yX0_hasPart ∈ lw_g := lw_gm (List.mem_of_getElem? (i := 738) (by decide +kernel)) rfl
theorem q649 : Cond.instanceMethod yX0_hasPart ∈ lw_g := lw_gm (List.mem_of_getElem? (i := 649) (by decide +kernel)) rfl
theorem q650 : Cond.selects RX0 yX0_hasPart yX0_hasPart ∈ lw_g := lw_gm (List.mem_of_getElem? (i := 650) (by decide +kernel)) rfl
theorem dX8_tones_0 : decode cX8_tones 0 = .ok (.aload_n 0, 1) := by decide +kernel
theorem dX8_tones_1 : decode cX8_tones 1 = .ok (.getfield 19, 3) := by decide +kernel
theorem dX8_tones_4 : decode cX8_tones 4 = .ok (.iload_n 1, 1) := by decide +kernel
theorem dX8_tones_5 : decode cX8_tones 5 = .ok (.invokevirtual 142, 3) := by decide +kernel
theorem dX8_tones_8 : decode cX8_tones 8 = .ok (.ifCond .eq 14, 3) := by decide +kernel
theorem dX8_tones_22 : decode cX8_tones 22 = .ok (.bipush (-2), 2) := by decide +kernel
theorem dX8_tones_24 : decode cX8_tones 24 = .ok (.ireturn, 1) := by decide +kernel
set_option maxHeartbeats 4000000 in
set_option maxRecDepth 100000 in
theorem c_X8_tones (l : Launch) (D : va_G) (cy : Nat → ClassId) (g : Nat → Nat) (p1 : Int32) (sz : Nat) : Met l yX8_tones (ww yX8_tones cX8_tones 2 (some .int)) ({ frames := 2, cells := 0, slots := 0, locals := 128 }) (va_Pc [.ref (g 0), .int p1] (pre D cy [(g 0, .inr (8, xF g)), (g 3, .inr (0, [.int 0, .int 0, .int 0, .int 0, .int 0, .int 0, .ref (g 4), .ref (g 5), .ref (g 6), .ref (g 7)]))] sz)) (qi D cy (va_A [(g 0, .inr (8, xF g)), (g 3, .inr (0, [.int 0, .int 0, .int 0, .int 0, .int 0, .int 0, .ref (g 4), .ref (g 5), .ref (g 6), .ref (g 7)]))] sz) (fun (r : Int32) (_ : Unit) => r = (-2)) (fun (_ : Unit) => [(g 0, .inr (8, xF g)), (g 3, .inr (0, [.int 0, .int 0, .int 0, .int 0, .int 0, .int 0, .ref (g 4), .ref (g 5), .ref (g 6), .ref (g 7)]))])) 0 0 (va_A [(g 0, .inr (8, xF g)), (g 3, .inr (0, [.int 0, .int 0, .int 0, .int 0, .int 0, .int 0, .ref (g 4), .ref (g 5), .ref (g 6), .ref (g 7)]))] sz) := by
  refine Met.ofW (cc := cX8_tones) (maxL := 2) (ret := (some .int)) (by decide) rfl ?_
  intro p e s m args below meth c s₁ B hml hv
  obtain ⟨rfl, hsz, hP, hK, hD0⟩ := hv
  have hx := B.exec
  have hb := B.bytes
  have hr := B.returns
  have hts := hts_g (atoms_spec (ws := ww yX8_tones cX8_tones 2 (some .int)) B.pre)
  have hown : s.vm.findClass RX8 = some m.cls := findClass_of_methodNamed B.named
  have hlocks := B.notSynchronized
  subst hsz
  have hD := hD0.self (sz := s.heap.size)
  generalize hAe : va_A [(g 0, .inr (8, xF g)), (g 3, .inr (0, [.int 0, .int 0, .int 0, .int 0, .int 0, .int 0, .ref (g 4), .ref (g 5), .ref (g 6), .ref (g 7)]))] s.heap.size = A at hD ⊢
  have hA : ∀ q : Nat, s.heap.size ≤ q → A q := fun q h => by rw [← hAe]; exact Or.inr h
  have hS : va_S A s.heap s.heap [] := va_S.rf
  have hl := lv_entry ([.ref (g 0), .int p1]) (n := 2) (Nat.le_of_ble_eq_true rfl)
  rw [lg_entry_eq]
  generalize (lg_sl ([.ref (g 0), .int p1]) ++ List.replicate (2 - (lg_sl ([.ref (g 0), .int p1])).length) Slot.unset).toArray = ls at hl ⊢
  have hl : lv_has ls 2 [(0, .ref (g 0)), (1, .int p1)] := hl
  refine lv_aload_n hx hb dX8_tones_0 rfl (lv_at hl 0 rfl) ?_
  refine va_get (D := D) (ci := 8) (v := .ref (g 3)) (C := RX8) (T := TX8) (N := 12) hx hb hts iX8 hown hK hP 0 rfl rfl 1 (by decide) (hts _ q435) (fun _ h9 => h9) rfl dX8_tones_1 ?_
  refine lv_iload_n hx hb dX8_tones_4 rfl (lv_at hl 1 rfl) ?_
  have hPc := hP.sub (ws' := [(g 3, .inr (0, [.int 0, .int 0, .int 0, .int 0, .int 0, .int 0, .ref (g 4), .ref (g 5), .ref (g 6), .ref (g 7)]))]) [1] rfl
  have hDc := hD.sub (ws' := [(g 3, .inr (0, [.int 0, .int 0, .int 0, .int 0, .int 0, .int 0, .ref (g 4), .ref (g 5), .ref (g 6), .ref (g 7)]))]) [1] (by decide) rfl
  have hFc := va_free (wc := [(g 3, .inr (0, [.int 0, .int 0, .int 0, .int 0, .int 0, .int 0, .ref (g 4), .ref (g 5), .ref (g 6), .ref (g 7)]))]) hD hS hA [1] rfl
  refine va_calli (va_runV (As := [.int p1]) (rest := []) ⟨hx, hb, hml, hown, hts⟩ (c_X0_hasPart l D cy (g 3) (g 4) (g 5) (g 6) (g 7) p1 s.heap.size) (cwV 1 hts (gd_V q738 q649 q650 q127 q651) rfl rfl rfl (by decide +kernel) ⟨Nat.le_of_ble_eq_true rfl, Nat.le_of_ble_eq_true rfl⟩) (pr_V hPc hK hDc (va_recv hK hPc (ci := 0) (q0 := 0) rfl rfl)) rfl rfl hl.1 rfl (lv_room (Nat.le_of_ble_eq_true rfl)) dX8_tones_5 ⟨Nat.le_of_ble_eq_true rfl, Nat.le_of_ble_eq_true rfl⟩) hS (fun q _ h => hFc q h) hFc (fun r_1 u tS H1 locs ht hvm hw hB hz1 hk1 hS => ?_)
  obtain ⟨hP1, hK1, hD1⟩ := hB
  rw [ht] at hP1
  try dsimp only at hw
  obtain ⟨hP, hD⟩ := va_join (wr := [(g 0, .inr (8, xF g))]) (w1 := [(g 3, .inr (0, [.int 0, .int 0, .int 0, .int 0, .int 0, .int 0, .ref (g 4), .ref (g 5), .ref (g 6), .ref (g 7)]))]) hP hD [1] [0] rfl rfl (by decide) (by decide) hk1 hFc hP1 hD1
  generalize H1 = H at hP hS ⊢
  have hP : va_P D clz [(g 0, .inr (8, xF g)), (g 3, .inr (0, [.int 0, .int 0, .int 0, .int 0, .int 0, .int 0, .ref (g 4), .ref (g 5), .ref (g 6), .ref (g 7)]))] H := hP
  have hD : va_D A [(g 0, .inr (8, xF g)), (g 3, .inr (0, [.int 0, .int 0, .int 0, .int 0, .int 0, .int 0, .ref (g 4), .ref (g 5), .ref (g 6), .ref (g 7)]))] := hD
  subst hw
  refine lv_if_eq (tgt := 22) hx hb dX8_tones_8 (by decide) (fun _ => ?_) (fun c9 => absurd c9 (by decide))
  refine lv_bipush (v := (-2)) hx hb dX8_tones_22 (by decide) ?_
  have hP9 := hP.sub (ws' := [(g 0, .inr (8, xF g)), (g 3, .inr (0, [.int 0, .int 0, .int 0, .int 0, .int 0, .int 0, .ref (g 4), .ref (g 5), .ref (g 6), .ref (g 7)]))]) [0, 1] rfl
  have hD9 := hD.sub (ws' := [(g 0, .inr (8, xF g)), (g 3, .inr (0, [.int 0, .int 0, .int 0, .int 0, .int 0, .int 0, .ref (g 4), .ref (g 5), .ref (g 6), .ref (g 7)]))]) [0, 1] (by decide) rfl
  exact W.iret (v := (-2)) hx hb hr (fun tS ht hW => ⟨⟨(-2), (), rfl, rfl, by rw [ht]; exact hP9, va_K.moved hW.alike hK, hD9⟩, hS.F ht⟩) hS.2.2 dX8_tones_24

theorem q743 : Cond.code yX8_beats cX8_beats 2 (some .int) ∈ lw_g := lw_gm (List.mem_of_getElem? (i := 743) (by decide +kernel)) rfl
theorem dX8_beats_0 : decode cX8_beats 0 = .ok (.aload_n 0, 1) := by decide +kernel
theorem dX8_beats_1 : decode cX8_beats 1 = .ok (.getfield 19, 3) := by decide +kernel
theorem dX8_beats_4 : decode cX8_beats 4 = .ok (.iload_n 1, 1) := by decide +kernel
theorem dX8_beats_5 : decode cX8_beats 5 = .ok (.invokevirtual 142, 3) := by decide +kernel
theorem dX8_beats_8 : decode cX8_beats 8 = .ok (.ifCond .eq 16, 3) := by decide +kernel
theorem dX8_beats_24 : decode cX8_beats 24 = .ok (.bipush (-2), 2) := by decide +kernel
theorem dX8_beats_26 : decode cX8_beats 26 = .ok (.ireturn, 1) := by decide +kernel
set_option maxHeartbeats 4000000 in
set_option maxRecDepth 100000 in
theorem c_X8_beats (l : Launch) (D : va_G) (cy : Nat → ClassId) (g : Nat → Nat) (p1 : Int32) (sz : Nat) : Met l yX8_beats (ww yX8_beats cX8_beats 2 (some .int)) ({ frames := 2, cells := 0, slots := 0, locals := 128 }) (va_Pc [.ref (g 0), .int p1] (pre D cy [(g 0, .inr (8, xF g)), (g 3, .inr (0, [.int 0, .int 0, .int 0, .int 0, .int 0, .int 0, .ref (g 4), .ref (g 5), .ref (g 6), .ref (g 7)]))] sz)) (qi D cy (va_A [(g 0, .inr (8, xF g)), (g 3, .inr (0, [.int 0, .int 0, .int 0, .int 0, .int 0, .int 0, .ref (g 4), .ref (g 5), .ref (g 6), .ref (g 7)]))] sz) (fun (r : Int32) (_ : Unit) => r = (-2)) (fun (_ : Unit) => [(g 0, .inr (8, xF g)), (g 3, .inr (0, [.int 0, .int 0, .int 0, .int 0, .int 0, .int 0, .ref (g 4), .ref (g 5), .ref (g 6), .ref (g 7)]))])) 0 0 (va_A [(g 0, .inr (8, xF g)), (g 3, .inr (0, [.int 0, .int 0, .int 0, .int 0, .int 0, .int 0, .ref (g 4), .ref (g 5), .ref (g 6), .ref (g 7)]))] sz) := by
  refine Met.ofW (cc := cX8_beats) (maxL := 2) (ret := (some .int)) (by decide) rfl ?_
  intro p e s m args below meth c s₁ B hml hv
  obtain ⟨rfl, hsz, hP, hK, hD0⟩ := hv
  have hx := B.exec
  have hb := B.bytes
  have hr := B.returns
  have hts := hts_g (atoms_spec (ws := ww yX8_beats cX8_beats 2 (some .int)) B.pre)
  have hown : s.vm.findClass RX8 = some m.cls := findClass_of_methodNamed B.named
  have hlocks := B.notSynchronized
  subst hsz
  have hD := hD0.self (sz := s.heap.size)
  generalize hAe : va_A [(g 0, .inr (8, xF g)), (g 3, .inr (0, [.int 0, .int 0, .int 0, .int 0, .int 0, .int 0, .ref (g 4), .ref (g 5), .ref (g 6), .ref (g 7)]))] s.heap.size = A at hD ⊢
  have hA : ∀ q : Nat, s.heap.size ≤ q → A q := fun q h => by rw [← hAe]; exact Or.inr h
  have hS : va_S A s.heap s.heap [] := va_S.rf
  have hl := lv_entry ([.ref (g 0), .int p1]) (n := 2) (Nat.le_of_ble_eq_true rfl)
  rw [lg_entry_eq]
  generalize (lg_sl ([.ref (g 0), .int p1]) ++ List.replicate (2 - (lg_sl ([.ref (g 0), .int p1])).length) Slot.unset).toArray = ls at hl ⊢
  have hl : lv_has ls 2 [(0, .ref (g 0)), (1, .int p1)] := hl
  refine lv_aload_n hx hb dX8_beats_0 rfl (lv_at hl 0 rfl) ?_
  refine va_get (D := D) (ci := 8) (v := .ref (g 3)) (C := RX8) (T := TX8) (N := 12) hx hb hts iX8 hown hK hP 0 rfl rfl 1 (by decide) (hts _ q435) (fun _ h9 => h9) rfl dX8_beats_1 ?_
  refine lv_iload_n hx hb dX8_beats_4 rfl (lv_at hl 1 rfl) ?_
  have hPc := hP.sub (ws' := [(g 3, .inr (0, [.int 0, .int 0, .int 0, .int 0, .int 0, .int 0, .ref (g 4), .ref (g 5), .ref (g 6), .ref (g 7)]))]) [1] rfl
  have hDc := hD.sub (ws' := [(g 3, .inr (0, [.int 0, .int 0, .int 0, .int 0, .int 0, .int 0, .ref (g 4), .ref (g 5), .ref (g 6), .ref (g 7)]))]) [1] (by decide) rfl
  have hFc := va_free (wc := [(g 3, .inr (0, [.int 0, .int 0, .int 0, .int 0, .int 0, .int 0, .ref (g 4), .ref (g 5), .ref (g 6), .ref (g 7)]))]) hD hS hA [1] rfl
  refine va_calli (va_runV (As := [.int p1]) (rest := []) ⟨hx, hb, hml, hown, hts⟩ (c_X0_hasPart l D cy (g 3) (g 4) (g 5) (g 6) (g 7) p1 s.heap.size) (cwV 1 hts (gd_V q738 q649 q650 q127 q651) rfl rfl rfl (by decide +kernel) ⟨Nat.le_of_ble_eq_true rfl, Nat.le_of_ble_eq_true rfl⟩) (pr_V hPc hK hDc (va_recv hK hPc (ci := 0) (q0 := 0) rfl rfl)) rfl rfl hl.1 rfl (lv_room (Nat.le_of_ble_eq_true rfl)) dX8_beats_5 ⟨Nat.le_of_ble_eq_true rfl, Nat.le_of_ble_eq_true rfl⟩) hS (fun q _ h => hFc q h) hFc (fun r_1 u tS H1 locs ht hvm hw hB hz1 hk1 hS => ?_)
  obtain ⟨hP1, hK1, hD1⟩ := hB
  rw [ht] at hP1
  try dsimp only at hw
  obtain ⟨hP, hD⟩ := va_join (wr := [(g 0, .inr (8, xF g))]) (w1 := [(g 3, .inr (0, [.int 0, .int 0, .int 0, .int 0, .int 0, .int 0, .ref (g 4), .ref (g 5), .ref (g 6), .ref (g 7)]))]) hP hD [1] [0] rfl rfl (by decide) (by decide) hk1 hFc hP1 hD1
  generalize H1 = H at hP hS ⊢
  have hP : va_P D clz [(g 0, .inr (8, xF g)), (g 3, .inr (0, [.int 0, .int 0, .int 0, .int 0, .int 0, .int 0, .ref (g 4), .ref (g 5), .ref (g 6), .ref (g 7)]))] H := hP
  have hD : va_D A [(g 0, .inr (8, xF g)), (g 3, .inr (0, [.int 0, .int 0, .int 0, .int 0, .int 0, .int 0, .ref (g 4), .ref (g 5), .ref (g 6), .ref (g 7)]))] := hD
  subst hw
  refine lv_if_eq (tgt := 24) hx hb dX8_beats_8 (by decide) (fun _ => ?_) (fun c9 => absurd c9 (by decide))
  refine lv_bipush (v := (-2)) hx hb dX8_beats_24 (by decide) ?_
  have hP9 := hP.sub (ws' := [(g 0, .inr (8, xF g)), (g 3, .inr (0, [.int 0, .int 0, .int 0, .int 0, .int 0, .int 0, .ref (g 4), .ref (g 5), .ref (g 6), .ref (g 7)]))]) [0, 1] rfl
  have hD9 := hD.sub (ws' := [(g 0, .inr (8, xF g)), (g 3, .inr (0, [.int 0, .int 0, .int 0, .int 0, .int 0, .int 0, .ref (g 4), .ref (g 5), .ref (g 6), .ref (g 7)]))]) [0, 1] (by decide) rfl
  exact W.iret (v := (-2)) hx hb hr (fun tS ht hW => ⟨⟨(-2), (), rfl, rfl, by rw [ht]; exact hP9, va_K.moved hW.alike hK, hD9⟩, hS.F ht⟩) hS.2.2 dX8_beats_26

theorem q748 : Cond.code yX8_phrase cX8_phrase 8 (some .int) ∈ lw_g := lw_gm (List.mem_of_getElem? (i := 748) (by decide +kernel)) rfl
theorem dX8_phrase_0 : decode cX8_phrase 0 = .ok (.aload_n 0, 1) := by decide +kernel
theorem dX8_phrase_1 : decode cX8_phrase 1 = .ok (.getfield 19, 3) := by decide +kernel
theorem dX8_phrase_4 : decode cX8_phrase 4 = .ok (.iload_n 1, 1) := by decide +kernel
theorem dX8_phrase_5 : decode cX8_phrase 5 = .ok (.invokevirtual 142, 3) := by decide +kernel
theorem dX8_phrase_8 : decode cX8_phrase 8 = .ok (.ifCond .eq 12, 3) := by decide +kernel
theorem dX8_phrase_20 : decode cX8_phrase 20 = .ok (.bipush (-2), 2) := by decide +kernel
theorem dX8_phrase_22 : decode cX8_phrase 22 = .ok (.ireturn, 1) := by decide +kernel
set_option maxHeartbeats 4000000 in
set_option maxRecDepth 100000 in
theorem c_X8_phrase (l : Launch) (D : va_G) (cy : Nat → ClassId) (g : Nat → Nat) (p1 : Int32) (p2 : Int32) (sz : Nat) : Met l yX8_phrase (ww yX8_phrase cX8_phrase 8 (some .int)) ({ frames := 2, cells := 0, slots := 0, locals := 128 }) (va_Pc [.ref (g 0), .int p1, .int p2] (pre D cy [(g 0, .inr (8, xF g)), (g 3, .inr (0, [.int 0, .int 0, .int 0, .int 0, .int 0, .int 0, .ref (g 4), .ref (g 5), .ref (g 6), .ref (g 7)]))] sz)) (qi D cy (va_A [(g 0, .inr (8, xF g)), (g 3, .inr (0, [.int 0, .int 0, .int 0, .int 0, .int 0, .int 0, .ref (g 4), .ref (g 5), .ref (g 6), .ref (g 7)]))] sz) (fun (r : Int32) (_ : Unit) => r = (-2)) (fun (_ : Unit) => [(g 0, .inr (8, xF g)), (g 3, .inr (0, [.int 0, .int 0, .int 0, .int 0, .int 0, .int 0, .ref (g 4), .ref (g 5), .ref (g 6), .ref (g 7)]))])) 0 0 (va_A [(g 0, .inr (8, xF g)), (g 3, .inr (0, [.int 0, .int 0, .int 0, .int 0, .int 0, .int 0, .ref (g 4), .ref (g 5), .ref (g 6), .ref (g 7)]))] sz) := by
  refine Met.ofW (cc := cX8_phrase) (maxL := 8) (ret := (some .int)) (by decide) rfl ?_
  intro p e s m args below meth c s₁ B hml hv
  obtain ⟨rfl, hsz, hP, hK, hD0⟩ := hv
  have hx := B.exec
  have hb := B.bytes
  have hr := B.returns
  have hts := hts_g (atoms_spec (ws := ww yX8_phrase cX8_phrase 8 (some .int)) B.pre)
  have hown : s.vm.findClass RX8 = some m.cls := findClass_of_methodNamed B.named
  have hlocks := B.notSynchronized
  subst hsz
  have hD := hD0.self (sz := s.heap.size)
  generalize hAe : va_A [(g 0, .inr (8, xF g)), (g 3, .inr (0, [.int 0, .int 0, .int 0, .int 0, .int 0, .int 0, .ref (g 4), .ref (g 5), .ref (g 6), .ref (g 7)]))] s.heap.size = A at hD ⊢
  have hA : ∀ q : Nat, s.heap.size ≤ q → A q := fun q h => by rw [← hAe]; exact Or.inr h
  have hS : va_S A s.heap s.heap [] := va_S.rf
  have hl := lv_entry ([.ref (g 0), .int p1, .int p2]) (n := 8) (Nat.le_of_ble_eq_true rfl)
  rw [lg_entry_eq]
  generalize (lg_sl ([.ref (g 0), .int p1, .int p2]) ++ List.replicate (8 - (lg_sl ([.ref (g 0), .int p1, .int p2])).length) Slot.unset).toArray = ls at hl ⊢
  have hl : lv_has ls 8 [(0, .ref (g 0)), (1, .int p1), (2, .int p2)] := hl
  refine lv_aload_n hx hb dX8_phrase_0 rfl (lv_at hl 0 rfl) ?_
  refine va_get (D := D) (ci := 8) (v := .ref (g 3)) (C := RX8) (T := TX8) (N := 12) hx hb hts iX8 hown hK hP 0 rfl rfl 1 (by decide) (hts _ q435) (fun _ h9 => h9) rfl dX8_phrase_1 ?_
  refine lv_iload_n hx hb dX8_phrase_4 rfl (lv_at hl 1 rfl) ?_
  have hPc := hP.sub (ws' := [(g 3, .inr (0, [.int 0, .int 0, .int 0, .int 0, .int 0, .int 0, .ref (g 4), .ref (g 5), .ref (g 6), .ref (g 7)]))]) [1] rfl
  have hDc := hD.sub (ws' := [(g 3, .inr (0, [.int 0, .int 0, .int 0, .int 0, .int 0, .int 0, .ref (g 4), .ref (g 5), .ref (g 6), .ref (g 7)]))]) [1] (by decide) rfl
  have hFc := va_free (wc := [(g 3, .inr (0, [.int 0, .int 0, .int 0, .int 0, .int 0, .int 0, .ref (g 4), .ref (g 5), .ref (g 6), .ref (g 7)]))]) hD hS hA [1] rfl
  refine va_calli (va_runV (As := [.int p1]) (rest := []) ⟨hx, hb, hml, hown, hts⟩ (c_X0_hasPart l D cy (g 3) (g 4) (g 5) (g 6) (g 7) p1 s.heap.size) (cwV 1 hts (gd_V q738 q649 q650 q127 q651) rfl rfl rfl (by decide +kernel) ⟨Nat.le_of_ble_eq_true rfl, Nat.le_of_ble_eq_true rfl⟩) (pr_V hPc hK hDc (va_recv hK hPc (ci := 0) (q0 := 0) rfl rfl)) rfl rfl hl.1 rfl (lv_room (Nat.le_of_ble_eq_true rfl)) dX8_phrase_5 ⟨Nat.le_of_ble_eq_true rfl, Nat.le_of_ble_eq_true rfl⟩) hS (fun q _ h => hFc q h) hFc (fun r_1 u tS H1 locs ht hvm hw hB hz1 hk1 hS => ?_)
  obtain ⟨hP1, hK1, hD1⟩ := hB
  rw [ht] at hP1
  try dsimp only at hw
  obtain ⟨hP, hD⟩ := va_join (wr := [(g 0, .inr (8, xF g))]) (w1 := [(g 3, .inr (0, [.int 0, .int 0, .int 0, .int 0, .int 0, .int 0, .ref (g 4), .ref (g 5), .ref (g 6), .ref (g 7)]))]) hP hD [1] [0] rfl rfl (by decide) (by decide) hk1 hFc hP1 hD1
  generalize H1 = H at hP hS ⊢
  have hP : va_P D clz [(g 0, .inr (8, xF g)), (g 3, .inr (0, [.int 0, .int 0, .int 0, .int 0, .int 0, .int 0, .ref (g 4), .ref (g 5), .ref (g 6), .ref (g 7)]))] H := hP
  have hD : va_D A [(g 0, .inr (8, xF g)), (g 3, .inr (0, [.int 0, .int 0, .int 0, .int 0, .int 0, .int 0, .ref (g 4), .ref (g 5), .ref (g 6), .ref (g 7)]))] := hD
  subst hw
  refine lv_if_eq (tgt := 20) hx hb dX8_phrase_8 (by decide) (fun _ => ?_) (fun c9 => absurd c9 (by decide))
  refine lv_bipush (v := (-2)) hx hb dX8_phrase_20 (by decide) ?_
  have hP9 := hP.sub (ws' := [(g 0, .inr (8, xF g)), (g 3, .inr (0, [.int 0, .int 0, .int 0, .int 0, .int 0, .int 0, .ref (g 4), .ref (g 5), .ref (g 6), .ref (g 7)]))]) [0, 1] rfl
  have hD9 := hD.sub (ws' := [(g 0, .inr (8, xF g)), (g 3, .inr (0, [.int 0, .int 0, .int 0, .int 0, .int 0, .int 0, .ref (g 4), .ref (g 5), .ref (g 6), .ref (g 7)]))]) [0, 1] (by decide) rfl
  exact W.iret (v := (-2)) hx hb hr (fun tS ht hW => ⟨⟨(-2), (), rfl, rfl, by rw [ht]; exact hP9, va_K.moved hW.alike hK, hD9⟩, hS.F ht⟩) hS.2.2 dX8_phrase_22

theorem q756 : Cond.code yX8_pitches cX8_pitches 5 (some .int) ∈ lw_g := lw_gm (List.mem_of_getElem? (i := 756) (by decide +kernel)) rfl
theorem dX8_pitches_0 : decode cX8_pitches 0 = .ok (.aload_n 0, 1) := by decide +kernel
theorem dX8_pitches_1 : decode cX8_pitches 1 = .ok (.getfield 19, 3) := by decide +kernel
theorem dX8_pitches_4 : decode cX8_pitches 4 = .ok (.iload_n 1, 1) := by decide +kernel
theorem dX8_pitches_5 : decode cX8_pitches 5 = .ok (.invokevirtual 142, 3) := by decide +kernel
theorem dX8_pitches_8 : decode cX8_pitches 8 = .ok (.ifCond .ne 6, 3) := by decide +kernel
theorem dX8_pitches_11 : decode cX8_pitches 11 = .ok (.bipush (-2), 2) := by decide +kernel
theorem dX8_pitches_13 : decode cX8_pitches 13 = .ok (.ireturn, 1) := by decide +kernel
set_option maxHeartbeats 4000000 in
set_option maxRecDepth 100000 in
theorem c_X8_pitches (l : Launch) (D : va_G) (cy : Nat → ClassId) (g : Nat → Nat) (p1 : Int32) (sz : Nat) : Met l yX8_pitches (ww yX8_pitches cX8_pitches 5 (some .int)) ({ frames := 2, cells := 0, slots := 0, locals := 128 }) (va_Pc [.ref (g 0), .int p1] (pre D cy [(g 0, .inr (8, xF g)), (g 3, .inr (0, [.int 0, .int 0, .int 0, .int 0, .int 0, .int 0, .ref (g 4), .ref (g 5), .ref (g 6), .ref (g 7)]))] sz)) (qi D cy (va_A [(g 0, .inr (8, xF g)), (g 3, .inr (0, [.int 0, .int 0, .int 0, .int 0, .int 0, .int 0, .ref (g 4), .ref (g 5), .ref (g 6), .ref (g 7)]))] sz) (fun (r : Int32) (_ : Unit) => r = (-2)) (fun (_ : Unit) => [(g 0, .inr (8, xF g)), (g 3, .inr (0, [.int 0, .int 0, .int 0, .int 0, .int 0, .int 0, .ref (g 4), .ref (g 5), .ref (g 6), .ref (g 7)]))])) 0 0 (va_A [(g 0, .inr (8, xF g)), (g 3, .inr (0, [.int 0, .int 0, .int 0, .int 0, .int 0, .int 0, .ref (g 4), .ref (g 5), .ref (g 6), .ref (g 7)]))] sz) := by
  refine Met.ofW (cc := cX8_pitches) (maxL := 5) (ret := (some .int)) (by decide) rfl ?_
  intro p e s m args below meth c s₁ B hml hv
  obtain ⟨rfl, hsz, hP, hK, hD0⟩ := hv
  have hx := B.exec
  have hb := B.bytes
  have hr := B.returns
  have hts := hts_g (atoms_spec (ws := ww yX8_pitches cX8_pitches 5 (some .int)) B.pre)
  have hown : s.vm.findClass RX8 = some m.cls := findClass_of_methodNamed B.named
  have hlocks := B.notSynchronized
  subst hsz
  have hD := hD0.self (sz := s.heap.size)
  generalize hAe : va_A [(g 0, .inr (8, xF g)), (g 3, .inr (0, [.int 0, .int 0, .int 0, .int 0, .int 0, .int 0, .ref (g 4), .ref (g 5), .ref (g 6), .ref (g 7)]))] s.heap.size = A at hD ⊢
  have hA : ∀ q : Nat, s.heap.size ≤ q → A q := fun q h => by rw [← hAe]; exact Or.inr h
  have hS : va_S A s.heap s.heap [] := va_S.rf
  have hl := lv_entry ([.ref (g 0), .int p1]) (n := 5) (Nat.le_of_ble_eq_true rfl)
  rw [lg_entry_eq]
  generalize (lg_sl ([.ref (g 0), .int p1]) ++ List.replicate (5 - (lg_sl ([.ref (g 0), .int p1])).length) Slot.unset).toArray = ls at hl ⊢
  have hl : lv_has ls 5 [(0, .ref (g 0)), (1, .int p1)] := hl
  refine lv_aload_n hx hb dX8_pitches_0 rfl (lv_at hl 0 rfl) ?_
  refine va_get (D := D) (ci := 8) (v := .ref (g 3)) (C := RX8) (T := TX8) (N := 12) hx hb hts iX8 hown hK hP 0 rfl rfl 1 (by decide) (hts _ q435) (fun _ h9 => h9) rfl dX8_pitches_1 ?_
  refine lv_iload_n hx hb dX8_pitches_4 rfl (lv_at hl 1 rfl) ?_
  have hPc := hP.sub (ws' := [(g 3, .inr (0, [.int 0, .int 0, .int 0, .int 0, .int 0, .int 0, .ref (g 4), .ref (g 5), .ref (g 6), .ref (g 7)]))]) [1] rfl
  have hDc := hD.sub (ws' := [(g 3, .inr (0, [.int 0, .int 0, .int 0, .int 0, .int 0, .int 0, .ref (g 4), .ref (g 5), .ref (g 6), .ref (g 7)]))]) [1] (by decide) rfl
  have hFc := va_free (wc := [(g 3, .inr (0, [.int 0, .int 0, .int 0, .int 0, .int 0, .int 0, .ref (g 4), .ref (g 5), .ref (g 6), .ref (g 7)]))]) hD hS hA [1] rfl
  refine va_calli (va_runV (As := [.int p1]) (rest := []) ⟨hx, hb, hml, hown, hts⟩ (c_X0_hasPart l D cy (g 3) (g 4) (g 5) (g 6) (g 7) p1 s.heap.size) (cwV 1 hts (gd_V q738 q649 q650 q127 q651) rfl rfl rfl (by decide +kernel) ⟨Nat.le_of_ble_eq_true rfl, Nat.le_of_ble_eq_true rfl⟩) (pr_V hPc hK hDc (va_recv hK hPc (ci := 0) (q0 := 0) rfl rfl)) rfl rfl hl.1 rfl (lv_room (Nat.le_of_ble_eq_true rfl)) dX8_pitches_5 ⟨Nat.le_of_ble_eq_true rfl, Nat.le_of_ble_eq_true rfl⟩) hS (fun q _ h => hFc q h) hFc (fun r_1 u tS H1 locs ht hvm hw hB hz1 hk1 hS => ?_)
  obtain ⟨hP1, hK1, hD1⟩ := hB
  rw [ht] at hP1
  try dsimp only at hw
  obtain ⟨hP, hD⟩ := va_join (wr := [(g 0, .inr (8, xF g))]) (w1 := [(g 3, .inr (0, [.int 0, .int 0, .int 0, .int 0, .int 0, .int 0, .ref (g 4), .ref (g 5), .ref (g 6), .ref (g 7)]))]) hP hD [1] [0] rfl rfl (by decide) (by decide) hk1 hFc hP1 hD1
  generalize H1 = H at hP hS ⊢
  have hP : va_P D clz [(g 0, .inr (8, xF g)), (g 3, .inr (0, [.int 0, .int 0, .int 0, .int 0, .int 0, .int 0, .ref (g 4), .ref (g 5), .ref (g 6), .ref (g 7)]))] H := hP
  have hD : va_D A [(g 0, .inr (8, xF g)), (g 3, .inr (0, [.int 0, .int 0, .int 0, .int 0, .int 0, .int 0, .ref (g 4), .ref (g 5), .ref (g 6), .ref (g 7)]))] := hD
  subst hw
  refine lv_if_ne (tgt := 14) hx hb dX8_pitches_8 (by decide) (fun c9 => absurd c9 (by decide)) (fun _ => ?_)
  refine lv_bipush (v := (-2)) hx hb dX8_pitches_11 (by decide) ?_
  have hP9 := hP.sub (ws' := [(g 0, .inr (8, xF g)), (g 3, .inr (0, [.int 0, .int 0, .int 0, .int 0, .int 0, .int 0, .ref (g 4), .ref (g 5), .ref (g 6), .ref (g 7)]))]) [0, 1] rfl
  have hD9 := hD.sub (ws' := [(g 0, .inr (8, xF g)), (g 3, .inr (0, [.int 0, .int 0, .int 0, .int 0, .int 0, .int 0, .ref (g 4), .ref (g 5), .ref (g 6), .ref (g 7)]))]) [0, 1] (by decide) rfl
  exact W.iret (v := (-2)) hx hb hr (fun tS ht hW => ⟨⟨(-2), (), rfl, rfl, by rw [ht]; exact hP9, va_K.moved hW.alike hK, hD9⟩, hS.F ht⟩) hS.2.2 dX8_pitches_13

theorem q766 : Cond.code yX8_train cX8_train 5 (some .int) ∈ lw_g := lw_gm (List.mem_of_getElem? (i := 766) (by decide +kernel)) rfl
theorem dX8_train_0 : decode cX8_train 0 = .ok (.aload_n 0, 1) := by decide +kernel
theorem dX8_train_1 : decode cX8_train 1 = .ok (.getfield 19, 3) := by decide +kernel
theorem dX8_train_4 : decode cX8_train 4 = .ok (.iload_n 1, 1) := by decide +kernel
theorem dX8_train_5 : decode cX8_train 5 = .ok (.invokevirtual 163, 3) := by decide +kernel
theorem dX8_train_8 : decode cX8_train 8 = .ok (.ifCond .eq 11, 3) := by decide +kernel
theorem dX8_train_19 : decode cX8_train 19 = .ok (.bipush (-2), 2) := by decide +kernel
theorem dX8_train_21 : decode cX8_train 21 = .ok (.ireturn, 1) := by decide +kernel
set_option maxHeartbeats 4000000 in
set_option maxRecDepth 100000 in
theorem c_X8_train (l : Launch) (D : va_G) (cy : Nat → ClassId) (g : Nat → Nat) (p1 : Int32) (p2 : Int32) (p3 : Int32) (sz : Nat) : Met l yX8_train (ww yX8_train cX8_train 5 (some .int)) ({ frames := 2, cells := 0, slots := 0, locals := 128 }) (va_Pc [.ref (g 0), .int p1, .int p2, .int p3] (pre D cy [(g 0, .inr (8, xF g)), (g 3, .inr (0, [.int 0, .int 0, .int 0, .int 0, .int 0, .int 0, .ref (g 4), .ref (g 5), .ref (g 6), .ref (g 7)]))] sz)) (qi D cy (va_A [(g 0, .inr (8, xF g)), (g 3, .inr (0, [.int 0, .int 0, .int 0, .int 0, .int 0, .int 0, .ref (g 4), .ref (g 5), .ref (g 6), .ref (g 7)]))] sz) (fun (r : Int32) (_ : Unit) => r = (-2)) (fun (_ : Unit) => [(g 0, .inr (8, xF g)), (g 3, .inr (0, [.int 0, .int 0, .int 0, .int 0, .int 0, .int 0, .ref (g 4), .ref (g 5), .ref (g 6), .ref (g 7)]))])) 0 0 (va_A [(g 0, .inr (8, xF g)), (g 3, .inr (0, [.int 0, .int 0, .int 0, .int 0, .int 0, .int 0, .ref (g 4), .ref (g 5), .ref (g 6), .ref (g 7)]))] sz) := by
  refine Met.ofW (cc := cX8_train) (maxL := 5) (ret := (some .int)) (by decide) rfl ?_
  intro p e s m args below meth c s₁ B hml hv
  obtain ⟨rfl, hsz, hP, hK, hD0⟩ := hv
  have hx := B.exec
  have hb := B.bytes
  have hr := B.returns
  have hts := hts_g (atoms_spec (ws := ww yX8_train cX8_train 5 (some .int)) B.pre)
  have hown : s.vm.findClass RX8 = some m.cls := findClass_of_methodNamed B.named
  have hlocks := B.notSynchronized
  subst hsz
  have hD := hD0.self (sz := s.heap.size)
  generalize hAe : va_A [(g 0, .inr (8, xF g)), (g 3, .inr (0, [.int 0, .int 0, .int 0, .int 0, .int 0, .int 0, .ref (g 4), .ref (g 5), .ref (g 6), .ref (g 7)]))] s.heap.size = A at hD ⊢
  have hA : ∀ q : Nat, s.heap.size ≤ q → A q := fun q h => by rw [← hAe]; exact Or.inr h
  have hS : va_S A s.heap s.heap [] := va_S.rf
  have hl := lv_entry ([.ref (g 0), .int p1, .int p2, .int p3]) (n := 5) (Nat.le_of_ble_eq_true rfl)
  rw [lg_entry_eq]
  generalize (lg_sl ([.ref (g 0), .int p1, .int p2, .int p3]) ++ List.replicate (5 - (lg_sl ([.ref (g 0), .int p1, .int p2, .int p3])).length) Slot.unset).toArray = ls at hl ⊢
  have hl : lv_has ls 5 [(0, .ref (g 0)), (1, .int p1), (2, .int p2), (3, .int p3)] := hl
  refine lv_aload_n hx hb dX8_train_0 rfl (lv_at hl 0 rfl) ?_
  refine va_get (D := D) (ci := 8) (v := .ref (g 3)) (C := RX8) (T := TX8) (N := 12) hx hb hts iX8 hown hK hP 0 rfl rfl 1 (by decide) (hts _ q435) (fun _ h9 => h9) rfl dX8_train_1 ?_
  refine lv_iload_n hx hb dX8_train_4 rfl (lv_at hl 1 rfl) ?_
  have hPc := hP.sub (ws' := [(g 3, .inr (0, [.int 0, .int 0, .int 0, .int 0, .int 0, .int 0, .ref (g 4), .ref (g 5), .ref (g 6), .ref (g 7)]))]) [1] rfl
  have hDc := hD.sub (ws' := [(g 3, .inr (0, [.int 0, .int 0, .int 0, .int 0, .int 0, .int 0, .ref (g 4), .ref (g 5), .ref (g 6), .ref (g 7)]))]) [1] (by decide) rfl
  have hFc := va_free (wc := [(g 3, .inr (0, [.int 0, .int 0, .int 0, .int 0, .int 0, .int 0, .ref (g 4), .ref (g 5), .ref (g 6), .ref (g 7)]))]) hD hS hA [1] rfl
  refine va_calli (va_runV (As := [.int p1]) (rest := []) ⟨hx, hb, hml, hown, hts⟩ (c_X0_hasPlayer l D cy (g 3) (g 4) (g 5) (g 6) (g 7) p1 s.heap.size) (cwV 1 hts (gd_V q767 q628 q629 q127 q630) rfl rfl rfl (by decide +kernel) ⟨Nat.le_of_ble_eq_true rfl, Nat.le_of_ble_eq_true rfl⟩) (pr_V hPc hK hDc (va_recv hK hPc (ci := 0) (q0 := 0) rfl rfl)) rfl rfl hl.1 rfl (lv_room (Nat.le_of_ble_eq_true rfl)) dX8_train_5 ⟨Nat.le_of_ble_eq_true rfl, Nat.le_of_ble_eq_true rfl⟩) hS (fun q _ h => hFc q h) hFc (fun r_1 u tS H1 locs ht hvm hw hB hz1 hk1 hS => ?_)
  obtain ⟨hP1, hK1, hD1⟩ := hB
  rw [ht] at hP1
  try dsimp only at hw
  obtain ⟨hP, hD⟩ := va_join (wr := [(g 0, .inr (8, xF g))]) (w1 := [(g 3, .inr (0, [.int 0, .int 0, .int 0, .int 0, .int 0, .int 0, .ref (g 4), .ref (g 5), .ref (g 6), .ref (g 7)]))]) hP hD [1] [0] rfl rfl (by decide) (by decide) hk1 hFc hP1 hD1
  generalize H1 = H at hP hS ⊢
  have hP : va_P D clz [(g 0, .inr (8, xF g)), (g 3, .inr (0, [.int 0, .int 0, .int 0, .int 0, .int 0, .int 0, .ref (g 4), .ref (g 5), .ref (g 6), .ref (g 7)]))] H := hP
  have hD : va_D A [(g 0, .inr (8, xF g)), (g 3, .inr (0, [.int 0, .int 0, .int 0, .int 0, .int 0, .int 0, .ref (g 4), .ref (g 5), .ref (g 6), .ref (g 7)]))] := hD
  subst hw
  refine lv_if_eq (tgt := 19) hx hb dX8_train_8 (by decide) (fun _ => ?_) (fun c9 => absurd c9 (by decide))
  refine lv_bipush (v := (-2)) hx hb dX8_train_19 (by decide) ?_
  have hP9 := hP.sub (ws' := [(g 0, .inr (8, xF g)), (g 3, .inr (0, [.int 0, .int 0, .int 0, .int 0, .int 0, .int 0, .ref (g 4), .ref (g 5), .ref (g 6), .ref (g 7)]))]) [0, 1] rfl
  have hD9 := hD.sub (ws' := [(g 0, .inr (8, xF g)), (g 3, .inr (0, [.int 0, .int 0, .int 0, .int 0, .int 0, .int 0, .ref (g 4), .ref (g 5), .ref (g 6), .ref (g 7)]))]) [0, 1] (by decide) rfl
  exact W.iret (v := (-2)) hx hb hr (fun tS ht hW => ⟨⟨(-2), (), rfl, rfl, by rw [ht]; exact hP9, va_K.moved hW.alike hK, hD9⟩, hS.F ht⟩) hS.2.2 dX8_train_21

theorem q775 : Cond.code yX8_tune cX8_tune 4 (some .int) ∈ lw_g := lw_gm (List.mem_of_getElem? (i := 775) (by decide +kernel)) rfl
theorem dX8_tune_0 : decode cX8_tune 0 = .ok (.aload_n 0, 1) := by decide +kernel
theorem dX8_tune_1 : decode cX8_tune 1 = .ok (.getfield 19, 3) := by decide +kernel
theorem dX8_tune_4 : decode cX8_tune 4 = .ok (.iload_n 1, 1) := by decide +kernel
theorem dX8_tune_5 : decode cX8_tune 5 = .ok (.invokevirtual 173, 3) := by decide +kernel
theorem dX8_tune_8 : decode cX8_tune 8 = .ok (.ifCond .eq 16, 3) := by decide +kernel
theorem dX8_tune_24 : decode cX8_tune 24 = .ok (.bipush (-2), 2) := by decide +kernel
theorem dX8_tune_26 : decode cX8_tune 26 = .ok (.ireturn, 1) := by decide +kernel
set_option maxHeartbeats 4000000 in
set_option maxRecDepth 100000 in
theorem c_X8_tune (l : Launch) (D : va_G) (cy : Nat → ClassId) (g : Nat → Nat) (p1 : Int32) (p2 : Int32) (sz : Nat) : Met l yX8_tune (ww yX8_tune cX8_tune 4 (some .int)) ({ frames := 2, cells := 0, slots := 0, locals := 128 }) (va_Pc [.ref (g 0), .int p1, .int p2] (pre D cy [(g 0, .inr (8, xF g)), (g 3, .inr (0, [.int 0, .int 0, .int 0, .int 0, .int 0, .int 0, .ref (g 4), .ref (g 5), .ref (g 6), .ref (g 7)]))] sz)) (qi D cy (va_A [(g 0, .inr (8, xF g)), (g 3, .inr (0, [.int 0, .int 0, .int 0, .int 0, .int 0, .int 0, .ref (g 4), .ref (g 5), .ref (g 6), .ref (g 7)]))] sz) (fun (r : Int32) (_ : Unit) => r = (-2)) (fun (_ : Unit) => [(g 0, .inr (8, xF g)), (g 3, .inr (0, [.int 0, .int 0, .int 0, .int 0, .int 0, .int 0, .ref (g 4), .ref (g 5), .ref (g 6), .ref (g 7)]))])) 0 0 (va_A [(g 0, .inr (8, xF g)), (g 3, .inr (0, [.int 0, .int 0, .int 0, .int 0, .int 0, .int 0, .ref (g 4), .ref (g 5), .ref (g 6), .ref (g 7)]))] sz) := by
  refine Met.ofW (cc := cX8_tune) (maxL := 4) (ret := (some .int)) (by decide) rfl ?_
  intro p e s m args below meth c s₁ B hml hv
  obtain ⟨rfl, hsz, hP, hK, hD0⟩ := hv
  have hx := B.exec
  have hb := B.bytes
  have hr := B.returns
  have hts := hts_g (atoms_spec (ws := ww yX8_tune cX8_tune 4 (some .int)) B.pre)
  have hown : s.vm.findClass RX8 = some m.cls := findClass_of_methodNamed B.named
  have hlocks := B.notSynchronized
  subst hsz
  have hD := hD0.self (sz := s.heap.size)
  generalize hAe : va_A [(g 0, .inr (8, xF g)), (g 3, .inr (0, [.int 0, .int 0, .int 0, .int 0, .int 0, .int 0, .ref (g 4), .ref (g 5), .ref (g 6), .ref (g 7)]))] s.heap.size = A at hD ⊢
  have hA : ∀ q : Nat, s.heap.size ≤ q → A q := fun q h => by rw [← hAe]; exact Or.inr h
  have hS : va_S A s.heap s.heap [] := va_S.rf
  have hl := lv_entry ([.ref (g 0), .int p1, .int p2]) (n := 4) (Nat.le_of_ble_eq_true rfl)
  rw [lg_entry_eq]
  generalize (lg_sl ([.ref (g 0), .int p1, .int p2]) ++ List.replicate (4 - (lg_sl ([.ref (g 0), .int p1, .int p2])).length) Slot.unset).toArray = ls at hl ⊢
  have hl : lv_has ls 4 [(0, .ref (g 0)), (1, .int p1), (2, .int p2)] := hl
  refine lv_aload_n hx hb dX8_tune_0 rfl (lv_at hl 0 rfl) ?_
  refine va_get (D := D) (ci := 8) (v := .ref (g 3)) (C := RX8) (T := TX8) (N := 12) hx hb hts iX8 hown hK hP 0 rfl rfl 1 (by decide) (hts _ q435) (fun _ h9 => h9) rfl dX8_tune_1 ?_
  refine lv_iload_n hx hb dX8_tune_4 rfl (lv_at hl 1 rfl) ?_
  have hPc := hP.sub (ws' := [(g 3, .inr (0, [.int 0, .int 0, .int 0, .int 0, .int 0, .int 0, .ref (g 4), .ref (g 5), .ref (g 6), .ref (g 7)]))]) [1] rfl
  have hDc := hD.sub (ws' := [(g 3, .inr (0, [.int 0, .int 0, .int 0, .int 0, .int 0, .int 0, .ref (g 4), .ref (g 5), .ref (g 6), .ref (g 7)]))]) [1] (by decide) rfl
  have hFc := va_free (wc := [(g 3, .inr (0, [.int 0, .int 0, .int 0, .int 0, .int 0, .int 0, .ref (g 4), .ref (g 5), .ref (g 6), .ref (g 7)]))]) hD hS hA [1] rfl
  refine va_calli (va_runV (As := [.int p1]) (rest := []) ⟨hx, hb, hml, hown, hts⟩ (c_X0_hasBrass l D cy (g 3) (g 4) (g 5) (g 6) (g 7) p1 s.heap.size) (cwV 1 hts (gd_V q776 q599 q600 q127 q601) rfl rfl rfl (by decide +kernel) ⟨Nat.le_of_ble_eq_true rfl, Nat.le_of_ble_eq_true rfl⟩) (pr_V hPc hK hDc (va_recv hK hPc (ci := 0) (q0 := 0) rfl rfl)) rfl rfl hl.1 rfl (lv_room (Nat.le_of_ble_eq_true rfl)) dX8_tune_5 ⟨Nat.le_of_ble_eq_true rfl, Nat.le_of_ble_eq_true rfl⟩) hS (fun q _ h => hFc q h) hFc (fun r_1 u tS H1 locs ht hvm hw hB hz1 hk1 hS => ?_)
  obtain ⟨hP1, hK1, hD1⟩ := hB
  rw [ht] at hP1
  try dsimp only at hw
  obtain ⟨hP, hD⟩ := va_join (wr := [(g 0, .inr (8, xF g))]) (w1 := [(g 3, .inr (0, [.int 0, .int 0, .int 0, .int 0, .int 0, .int 0, .ref (g 4), .ref (g 5), .ref (g 6), .ref (g 7)]))]) hP hD [1] [0] rfl rfl (by decide) (by decide) hk1 hFc hP1 hD1
  generalize H1 = H at hP hS ⊢
  have hP : va_P D clz [(g 0, .inr (8, xF g)), (g 3, .inr (0, [.int 0, .int 0, .int 0, .int 0, .int 0, .int 0, .ref (g 4), .ref (g 5), .ref (g 6), .ref (g 7)]))] H := hP
  have hD : va_D A [(g 0, .inr (8, xF g)), (g 3, .inr (0, [.int 0, .int 0, .int 0, .int 0, .int 0, .int 0, .ref (g 4), .ref (g 5), .ref (g 6), .ref (g 7)]))] := hD
  subst hw
  refine lv_if_eq (tgt := 24) hx hb dX8_tune_8 (by decide) (fun _ => ?_) (fun c9 => absurd c9 (by decide))
  refine lv_bipush (v := (-2)) hx hb dX8_tune_24 (by decide) ?_
  have hP9 := hP.sub (ws' := [(g 0, .inr (8, xF g)), (g 3, .inr (0, [.int 0, .int 0, .int 0, .int 0, .int 0, .int 0, .ref (g 4), .ref (g 5), .ref (g 6), .ref (g 7)]))]) [0, 1] rfl
  have hD9 := hD.sub (ws' := [(g 0, .inr (8, xF g)), (g 3, .inr (0, [.int 0, .int 0, .int 0, .int 0, .int 0, .int 0, .ref (g 4), .ref (g 5), .ref (g 6), .ref (g 7)]))]) [0, 1] (by decide) rfl
  exact W.iret (v := (-2)) hx hb hr (fun tS ht hW => ⟨⟨(-2), (), rfl, rfl, by rw [ht]; exact hP9, va_K.moved hW.alike hK, hD9⟩, hS.F ht⟩) hS.2.2 dX8_tune_26

