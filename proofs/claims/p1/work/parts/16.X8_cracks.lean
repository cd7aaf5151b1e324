theorem q1306 : Cond.code yX8_cracks cX8_cracks 5 (some .int) ∈ lw_g := lw_gm (List.mem_of_getElem? (i := 1306) (by decide +kernel)) rfl
theorem q1307 : Cond.methodLink RX8 396 yX8_isSeed ∈ lw_g := lw_gm (List.mem_of_getElem? (i := 1307) (by decide +kernel)) rfl
theorem q1308 : Cond.static yX8_isSeed ∈ lw_g := lw_gm (List.mem_of_getElem? (i := 1308) (by decide +kernel)) rfl
theorem dX8_cracks_0 : decode cX8_cracks 0 = .ok (.iload_n 1, 1) := by decide +kernel
theorem dX8_cracks_1 : decode cX8_cracks 1 = .ok (.invokestatic 396, 3) := by decide +kernel
theorem dX8_cracks_4 : decode cX8_cracks 4 = .ok (.ifCond .ne 6, 3) := by decide +kernel
theorem dX8_cracks_7 : decode cX8_cracks 7 = .ok (.bipush (-2), 2) := by decide +kernel
theorem dX8_cracks_9 : decode cX8_cracks 9 = .ok (.ireturn, 1) := by decide +kernel
theorem dX8_cracks_10 : decode cX8_cracks 10 = .ok (.aload_n 0, 1) := by decide +kernel
theorem dX8_cracks_11 : decode cX8_cracks 11 = .ok (.iload_n 2, 1) := by decide +kernel
theorem dX8_cracks_12 : decode cX8_cracks 12 = .ok (.iload_n 3, 1) := by decide +kernel
theorem dX8_cracks_13 : decode cX8_cracks 13 = .ok (.invokevirtual 248, 3) := by decide +kernel
theorem dX8_cracks_16 : decode cX8_cracks 16 = .ok (.istore 4, 2) := by decide +kernel
theorem dX8_cracks_18 : decode cX8_cracks 18 = .ok (.iload 4, 2) := by decide +kernel
theorem dX8_cracks_20 : decode cX8_cracks 20 = .ok (.ifCond .eq 6, 3) := by decide +kernel
theorem dX8_cracks_23 : decode cX8_cracks 23 = .ok (.iload 4, 2) := by decide +kernel
theorem dX8_cracks_25 : decode cX8_cracks 25 = .ok (.ireturn, 1) := by decide +kernel
set_option maxHeartbeats 4000000 in
set_option maxRecDepth 100000 in
theorem c_X8_cracks (l : Launch) (D : va_G) (cy : Nat → ClassId) (g : Nat → Nat) (p1 : Int32) (p2 : Int32) (p3 : Int32) (sz : Nat) : Met l yX8_cracks (ww yX8_cracks cX8_cracks 5 (some .int)) ({ frames := 4, cells := 0, slots := 0, locals := 256 }) (va_Pc [.ref (g 0), .int p1, .int p2, .int p3] (pre D cy [(g 0, .inr (8, xF g)), (g 3, .inr (0, [.int 0, .int 0, .int 0, .int 0, .int 0, .int 0, .ref (g 4), .ref (g 5), .ref (g 6), .ref (g 7)]))] sz)) (qi D cy (va_A [(g 0, .inr (8, xF g)), (g 3, .inr (0, [.int 0, .int 0, .int 0, .int 0, .int 0, .int 0, .ref (g 4), .ref (g 5), .ref (g 6), .ref (g 7)]))] sz) (fun (r : Int32) (_ : Unit) => r = (-2)) (fun (_ : Unit) => [(g 0, .inr (8, xF g)), (g 3, .inr (0, [.int 0, .int 0, .int 0, .int 0, .int 0, .int 0, .ref (g 4), .ref (g 5), .ref (g 6), .ref (g 7)]))])) 0 0 (va_A [(g 0, .inr (8, xF g)), (g 3, .inr (0, [.int 0, .int 0, .int 0, .int 0, .int 0, .int 0, .ref (g 4), .ref (g 5), .ref (g 6), .ref (g 7)]))] sz) := by
  refine Met.ofW (cc := cX8_cracks) (maxL := 5) (ret := (some .int)) (by decide) rfl ?_
  intro p e s m args below meth c s₁ B hml hv
  obtain ⟨rfl, hsz, hP, hK, hD0⟩ := hv
  have hx := B.exec
  have hb := B.bytes
  have hr := B.returns
  have hts := hts_g (atoms_spec (ws := ww yX8_cracks cX8_cracks 5 (some .int)) B.pre)
  have hown : s.vm.findClass RX8 = some m.cls := findClass_of_methodNamed B.named
  have hlocks := B.notSynchronized
  subst hsz
  have hD := hD0.self (sz := s.heap.size)
  generalize hAe : va_A [(g 0, .inr (8, xF g)), (g 3, .inr (0, [.int 0, .int 0, .int 0, .int 0, .int 0, .int 0, .ref (g 4), .ref (g 5), .ref (g 6), .ref (g 7)]))] s.heap.size = A at hD ⊢
  have hA : ∀ q : Nat, s.heap.size ≤ q → A q := fun q h => by rw [← hAe]; exact Or.inr h
  have hS : va_S A s.heap s.heap [] := va_S.rf
  have hl := lv_entry ([.ref (g 0), .int p1, .int p2, .int p3]) (n := 5) (Nat.le_of_ble_eq_true rfl)
  rw [lg_entry_eq]
  generalize (lg_sl ([.ref (g 0), .int p1, .int p2, .int p3]) ++ List.replicate (5 - (lg_sl ([.ref (g 0), .int p1, .int p2, .int p3])).length) Slot.unset).toArray = ls at hl ⊢
  have hl : lv_has ls 5 [(0, .ref (g 0)), (1, .int p1), (2, .int p2), (3, .int p3)] := hl
  refine lv_iload_n hx hb dX8_cracks_0 rfl (lv_at hl 1 rfl) ?_
  have hPc := hP.sub (ws' := []) [] rfl
  have hDc := hD.sub (ws' := []) [] (by decide) rfl
  have hFc := va_free (wc := []) hD hS hA [] rfl
  refine va_calli (va_runS (As := [.int p1]) (rest := []) ⟨hx, hb, hml, hown, hts⟩ (c_X8_isSeed l D cy p1 s.heap.size) (va_cwS 1 hts (gd_S q1307 q1308 q125 q1309) rfl rfl rfl (by decide +kernel) ⟨Nat.le_of_ble_eq_true rfl, Nat.le_of_ble_eq_true rfl⟩) (pr_S hPc hK hDc) rfl rfl hl.1 rfl (lv_room (Nat.le_of_ble_eq_true rfl)) dX8_cracks_1 ⟨Nat.le_of_ble_eq_true rfl, Nat.le_of_ble_eq_true rfl⟩) hS (fun q _ h => hFc q h) hFc (fun r_1 u tS H1 locs ht hvm hw hB hz1 hk1 hS => ?_)
  obtain ⟨hP1, hK1, hD1⟩ := hB
  rw [ht] at hP1
  try dsimp only at hw
  obtain ⟨hP, hD⟩ := va_join (wr := [(g 0, .inr (8, xF g)), (g 3, .inr (0, [.int 0, .int 0, .int 0, .int 0, .int 0, .int 0, .ref (g 4), .ref (g 5), .ref (g 6), .ref (g 7)]))]) (w1 := []) hP hD [] [0, 1] rfl rfl (by decide) (by decide) hk1 hFc hP1 hD1
  generalize H1 = H at hP hS ⊢
  have hP : va_P D clz [(g 0, .inr (8, xF g)), (g 3, .inr (0, [.int 0, .int 0, .int 0, .int 0, .int 0, .int 0, .ref (g 4), .ref (g 5), .ref (g 6), .ref (g 7)]))] H := hP
  have hD : va_D A [(g 0, .inr (8, xF g)), (g 3, .inr (0, [.int 0, .int 0, .int 0, .int 0, .int 0, .int 0, .ref (g 4), .ref (g 5), .ref (g 6), .ref (g 7)]))] := hD
  by_cases hc_2 : ((0 : Int32) ≤ p1 ∧ p1 ≤ (2000000000 : Int32))
  ·
    rw [if_pos hc_2] at hw
    subst hw
    refine lv_if_ne (tgt := 10) hx hb dX8_cracks_4 (by decide) (fun _ => ?_) (fun c9 => absurd c9 (by decide))
    refine lv_aload_n hx hb dX8_cracks_10 rfl (lv_at hl 0 rfl) ?_
    refine lv_iload_n hx hb dX8_cracks_11 rfl (lv_at hl 2 rfl) ?_
    refine lv_iload_n hx hb dX8_cracks_12 rfl (lv_at hl 3 rfl) ?_
    have hPc := hP.sub (ws' := [(g 0, .inr (8, xF g)), (g 3, .inr (0, [.int 0, .int 0, .int 0, .int 0, .int 0, .int 0, .ref (g 4), .ref (g 5), .ref (g 6), .ref (g 7)]))]) [0, 1] rfl
    have hDc := hD.sub (ws' := [(g 0, .inr (8, xF g)), (g 3, .inr (0, [.int 0, .int 0, .int 0, .int 0, .int 0, .int 0, .ref (g 4), .ref (g 5), .ref (g 6), .ref (g 7)]))]) [0, 1] (by decide) rfl
    have hFc := va_free (wc := [(g 0, .inr (8, xF g)), (g 3, .inr (0, [.int 0, .int 0, .int 0, .int 0, .int 0, .int 0, .ref (g 4), .ref (g 5), .ref (g 6), .ref (g 7)]))]) hD hS hA [0, 1] rfl
    refine va_calli (va_runV (As := [.int p2, .int p3]) (rest := []) ⟨hx, hb, hml, hown, hts⟩ (c_X8_layBest l D cy g p2 p3 H.size) (cwV 2 hts (gd_V q914 q916 q18 q125 q917) rfl rfl rfl (by decide +kernel) ⟨Nat.le_of_ble_eq_true rfl, Nat.le_of_ble_eq_true rfl⟩) (pr_V hPc hK hDc (va_recv hK hPc (ci := 8) (q0 := 0) rfl rfl)) rfl rfl hl.1 rfl (lv_room (Nat.le_of_ble_eq_true rfl)) dX8_cracks_13 ⟨Nat.le_of_ble_eq_true rfl, Nat.le_of_ble_eq_true rfl⟩) hS (fun q _ h => hFc q h) hFc (fun r_3 u tS H1 locs ht hvm hw hB hz1 hk1 hS => ?_)
    obtain ⟨hP1, hK1, hD1⟩ := hB
    rw [ht] at hP1
    try dsimp only at hw
    obtain ⟨hP, hD⟩ := va_join (wr := []) (w1 := [(g 0, .inr (8, xF g)), (g 3, .inr (0, [.int 0, .int 0, .int 0, .int 0, .int 0, .int 0, .ref (g 4), .ref (g 5), .ref (g 6), .ref (g 7)]))]) hP hD [0, 1] [] rfl rfl (by decide) (by decide) hk1 hFc hP1 hD1
    generalize H1 = H at hP hS ⊢
    have hP : va_P D clz [(g 0, .inr (8, xF g)), (g 3, .inr (0, [.int 0, .int 0, .int 0, .int 0, .int 0, .int 0, .ref (g 4), .ref (g 5), .ref (g 6), .ref (g 7)]))] H := hP
    have hD : va_D A [(g 0, .inr (8, xF g)), (g 3, .inr (0, [.int 0, .int 0, .int 0, .int 0, .int 0, .int 0, .ref (g 4), .ref (g 5), .ref (g 6), .ref (g 7)]))] := hD
    subst hw
    refine lv_istore (lv' := [(4, .int (-2)), (0, .ref (g 0)), (1, .int p1), (2, .int p2), (3, .int p3)]) hx hb dX8_cracks_16 hl (by decide) rfl (fun ls hl => ?_)
    refine lv_iload hx hb dX8_cracks_18 (lv_at hl 0 rfl) ?_
    refine lv_if_eq (tgt := 26) hx hb dX8_cracks_20 (by decide) (fun c9 => absurd c9 (by decide)) (fun _ => ?_)
    refine lv_iload hx hb dX8_cracks_23 (lv_at hl 0 rfl) ?_
    have hP9 := hP.sub (ws' := [(g 0, .inr (8, xF g)), (g 3, .inr (0, [.int 0, .int 0, .int 0, .int 0, .int 0, .int 0, .ref (g 4), .ref (g 5), .ref (g 6), .ref (g 7)]))]) [0, 1] rfl
    have hD9 := hD.sub (ws' := [(g 0, .inr (8, xF g)), (g 3, .inr (0, [.int 0, .int 0, .int 0, .int 0, .int 0, .int 0, .ref (g 4), .ref (g 5), .ref (g 6), .ref (g 7)]))]) [0, 1] (by decide) rfl
    exact W.iret (v := (-2)) hx hb hr (fun tS ht hW => ⟨⟨(-2), (), rfl, rfl, by rw [ht]; exact hP9, va_K.moved hW.alike hK, hD9⟩, hS.F ht⟩) hS.2.2 dX8_cracks_25
  ·
    rw [if_neg hc_2] at hw
    subst hw
    refine lv_if_ne (tgt := 10) hx hb dX8_cracks_4 (by decide) (fun c9 => absurd c9 (by decide)) (fun _ => ?_)
    refine lv_bipush (v := (-2)) hx hb dX8_cracks_7 (by decide) ?_
    have hP9 := hP.sub (ws' := [(g 0, .inr (8, xF g)), (g 3, .inr (0, [.int 0, .int 0, .int 0, .int 0, .int 0, .int 0, .ref (g 4), .ref (g 5), .ref (g 6), .ref (g 7)]))]) [0, 1] rfl
    have hD9 := hD.sub (ws' := [(g 0, .inr (8, xF g)), (g 3, .inr (0, [.int 0, .int 0, .int 0, .int 0, .int 0, .int 0, .ref (g 4), .ref (g 5), .ref (g 6), .ref (g 7)]))]) [0, 1] (by decide) rfl
    exact W.iret (v := (-2)) hx hb hr (fun tS ht hW => ⟨⟨(-2), (), rfl, rfl, by rw [ht]; exact hP9, va_K.moved hW.alike hK, hD9⟩, hS.F ht⟩) hS.2.2 dX8_cracks_9

theorem q1323 : Cond.code yX8_cracked cX8_cracked 5 (some .int) ∈ lw_g := lw_gm (List.mem_of_getElem? (i := 1323) (by decide +kernel)) rfl
theorem dX8_cracked_0 : decode cX8_cracked 0 = .ok (.iload_n 1, 1) := by decide +kernel
theorem dX8_cracked_1 : decode cX8_cracked 1 = .ok (.invokestatic 396, 3) := by decide +kernel
theorem dX8_cracked_4 : decode cX8_cracked 4 = .ok (.ifCond .ne 6, 3) := by decide +kernel
theorem dX8_cracked_7 : decode cX8_cracked 7 = .ok (.bipush (-2), 2) := by decide +kernel
theorem dX8_cracked_9 : decode cX8_cracked 9 = .ok (.ireturn, 1) := by decide +kernel
theorem dX8_cracked_10 : decode cX8_cracked 10 = .ok (.aload_n 0, 1) := by decide +kernel
theorem dX8_cracked_11 : decode cX8_cracked 11 = .ok (.iload_n 2, 1) := by decide +kernel
theorem dX8_cracked_12 : decode cX8_cracked 12 = .ok (.iload_n 3, 1) := by decide +kernel
theorem dX8_cracked_13 : decode cX8_cracked 13 = .ok (.invokevirtual 248, 3) := by decide +kernel
theorem dX8_cracked_16 : decode cX8_cracked 16 = .ok (.istore 4, 2) := by decide +kernel
theorem dX8_cracked_18 : decode cX8_cracked 18 = .ok (.iload 4, 2) := by decide +kernel
theorem dX8_cracked_20 : decode cX8_cracked 20 = .ok (.ifCond .eq 6, 3) := by decide +kernel
theorem dX8_cracked_23 : decode cX8_cracked 23 = .ok (.iload 4, 2) := by decide +kernel
theorem dX8_cracked_25 : decode cX8_cracked 25 = .ok (.ireturn, 1) := by decide +kernel
set_option maxHeartbeats 4000000 in
set_option maxRecDepth 100000 in
theorem c_X8_cracked (l : Launch) (D : va_G) (cy : Nat → ClassId) (g : Nat → Nat) (p1 : Int32) (p2 : Int32) (p3 : Int32) (sz : Nat) : Met l yX8_cracked (ww yX8_cracked cX8_cracked 5 (some .int)) ({ frames := 4, cells := 0, slots := 0, locals := 256 }) (va_Pc [.ref (g 0), .int p1, .int p2, .int p3] (pre D cy [(g 0, .inr (8, xF g)), (g 3, .inr (0, [.int 0, .int 0, .int 0, .int 0, .int 0, .int 0, .ref (g 4), .ref (g 5), .ref (g 6), .ref (g 7)]))] sz)) (qi D cy (va_A [(g 0, .inr (8, xF g)), (g 3, .inr (0, [.int 0, .int 0, .int 0, .int 0, .int 0, .int 0, .ref (g 4), .ref (g 5), .ref (g 6), .ref (g 7)]))] sz) (fun (r : Int32) (_ : Unit) => r = (-2)) (fun (_ : Unit) => [(g 0, .inr (8, xF g)), (g 3, .inr (0, [.int 0, .int 0, .int 0, .int 0, .int 0, .int 0, .ref (g 4), .ref (g 5), .ref (g 6), .ref (g 7)]))])) 0 0 (va_A [(g 0, .inr (8, xF g)), (g 3, .inr (0, [.int 0, .int 0, .int 0, .int 0, .int 0, .int 0, .ref (g 4), .ref (g 5), .ref (g 6), .ref (g 7)]))] sz) := by
  refine Met.ofW (cc := cX8_cracked) (maxL := 5) (ret := (some .int)) (by decide) rfl ?_
  intro p e s m args below meth c s₁ B hml hv
  obtain ⟨rfl, hsz, hP, hK, hD0⟩ := hv
  have hx := B.exec
  have hb := B.bytes
  have hr := B.returns
  have hts := hts_g (atoms_spec (ws := ww yX8_cracked cX8_cracked 5 (some .int)) B.pre)
  have hown : s.vm.findClass RX8 = some m.cls := findClass_of_methodNamed B.named
  have hlocks := B.notSynchronized
  subst hsz
  have hD := hD0.self (sz := s.heap.size)
  generalize hAe : va_A [(g 0, .inr (8, xF g)), (g 3, .inr (0, [.int 0, .int 0, .int 0, .int 0, .int 0, .int 0, .ref (g 4), .ref (g 5), .ref (g 6), .ref (g 7)]))] s.heap.size = A at hD ⊢
  have hA : ∀ q : Nat, s.heap.size ≤ q → A q := fun q h => by rw [← hAe]; exact Or.inr h
  have hS : va_S A s.heap s.heap [] := va_S.rf
  have hl := lv_entry ([.ref (g 0), .int p1, .int p2, .int p3]) (n := 5) (Nat.le_of_ble_eq_true rfl)
  rw [lg_entry_eq]
  generalize (lg_sl ([.ref (g 0), .int p1, .int p2, .int p3]) ++ List.replicate (5 - (lg_sl ([.ref (g 0), .int p1, .int p2, .int p3])).length) Slot.unset).toArray = ls at hl ⊢
  have hl : lv_has ls 5 [(0, .ref (g 0)), (1, .int p1), (2, .int p2), (3, .int p3)] := hl
  refine lv_iload_n hx hb dX8_cracked_0 rfl (lv_at hl 1 rfl) ?_
  have hPc := hP.sub (ws' := []) [] rfl
  have hDc := hD.sub (ws' := []) [] (by decide) rfl
  have hFc := va_free (wc := []) hD hS hA [] rfl
  refine va_calli (va_runS (As := [.int p1]) (rest := []) ⟨hx, hb, hml, hown, hts⟩ (c_X8_isSeed l D cy p1 s.heap.size) (va_cwS 1 hts (gd_S q1307 q1308 q125 q1309) rfl rfl rfl (by decide +kernel) ⟨Nat.le_of_ble_eq_true rfl, Nat.le_of_ble_eq_true rfl⟩) (pr_S hPc hK hDc) rfl rfl hl.1 rfl (lv_room (Nat.le_of_ble_eq_true rfl)) dX8_cracked_1 ⟨Nat.le_of_ble_eq_true rfl, Nat.le_of_ble_eq_true rfl⟩) hS (fun q _ h => hFc q h) hFc (fun r_1 u tS H1 locs ht hvm hw hB hz1 hk1 hS => ?_)
  obtain ⟨hP1, hK1, hD1⟩ := hB
  rw [ht] at hP1
  try dsimp only at hw
  obtain ⟨hP, hD⟩ := va_join (wr := [(g 0, .inr (8, xF g)), (g 3, .inr (0, [.int 0, .int 0, .int 0, .int 0, .int 0, .int 0, .ref (g 4), .ref (g 5), .ref (g 6), .ref (g 7)]))]) (w1 := []) hP hD [] [0, 1] rfl rfl (by decide) (by decide) hk1 hFc hP1 hD1
  generalize H1 = H at hP hS ⊢
  have hP : va_P D clz [(g 0, .inr (8, xF g)), (g 3, .inr (0, [.int 0, .int 0, .int 0, .int 0, .int 0, .int 0, .ref (g 4), .ref (g 5), .ref (g 6), .ref (g 7)]))] H := hP
  have hD : va_D A [(g 0, .inr (8, xF g)), (g 3, .inr (0, [.int 0, .int 0, .int 0, .int 0, .int 0, .int 0, .ref (g 4), .ref (g 5), .ref (g 6), .ref (g 7)]))] := hD
  by_cases hc_2 : ((0 : Int32) ≤ p1 ∧ p1 ≤ (2000000000 : Int32))
  ·
    rw [if_pos hc_2] at hw
    subst hw
    refine lv_if_ne (tgt := 10) hx hb dX8_cracked_4 (by decide) (fun _ => ?_) (fun c9 => absurd c9 (by decide))
    refine lv_aload_n hx hb dX8_cracked_10 rfl (lv_at hl 0 rfl) ?_
    refine lv_iload_n hx hb dX8_cracked_11 rfl (lv_at hl 2 rfl) ?_
    refine lv_iload_n hx hb dX8_cracked_12 rfl (lv_at hl 3 rfl) ?_
    have hPc := hP.sub (ws' := [(g 0, .inr (8, xF g)), (g 3, .inr (0, [.int 0, .int 0, .int 0, .int 0, .int 0, .int 0, .ref (g 4), .ref (g 5), .ref (g 6), .ref (g 7)]))]) [0, 1] rfl
    have hDc := hD.sub (ws' := [(g 0, .inr (8, xF g)), (g 3, .inr (0, [.int 0, .int 0, .int 0, .int 0, .int 0, .int 0, .ref (g 4), .ref (g 5), .ref (g 6), .ref (g 7)]))]) [0, 1] (by decide) rfl
    have hFc := va_free (wc := [(g 0, .inr (8, xF g)), (g 3, .inr (0, [.int 0, .int 0, .int 0, .int 0, .int 0, .int 0, .ref (g 4), .ref (g 5), .ref (g 6), .ref (g 7)]))]) hD hS hA [0, 1] rfl
    refine va_calli (va_runV (As := [.int p2, .int p3]) (rest := []) ⟨hx, hb, hml, hown, hts⟩ (c_X8_layBest l D cy g p2 p3 H.size) (cwV 2 hts (gd_V q914 q916 q18 q125 q917) rfl rfl rfl (by decide +kernel) ⟨Nat.le_of_ble_eq_true rfl, Nat.le_of_ble_eq_true rfl⟩) (pr_V hPc hK hDc (va_recv hK hPc (ci := 8) (q0 := 0) rfl rfl)) rfl rfl hl.1 rfl (lv_room (Nat.le_of_ble_eq_true rfl)) dX8_cracked_13 ⟨Nat.le_of_ble_eq_true rfl, Nat.le_of_ble_eq_true rfl⟩) hS (fun q _ h => hFc q h) hFc (fun r_3 u tS H1 locs ht hvm hw hB hz1 hk1 hS => ?_)
    obtain ⟨hP1, hK1, hD1⟩ := hB
    rw [ht] at hP1
    try dsimp only at hw
    obtain ⟨hP, hD⟩ := va_join (wr := []) (w1 := [(g 0, .inr (8, xF g)), (g 3, .inr (0, [.int 0, .int 0, .int 0, .int 0, .int 0, .int 0, .ref (g 4), .ref (g 5), .ref (g 6), .ref (g 7)]))]) hP hD [0, 1] [] rfl rfl (by decide) (by decide) hk1 hFc hP1 hD1
    generalize H1 = H at hP hS ⊢
    have hP : va_P D clz [(g 0, .inr (8, xF g)), (g 3, .inr (0, [.int 0, .int 0, .int 0, .int 0, .int 0, .int 0, .ref (g 4), .ref (g 5), .ref (g 6), .ref (g 7)]))] H := hP
    have hD : va_D A [(g 0, .inr (8, xF g)), (g 3, .inr (0, [.int 0, .int 0, .int 0, .int 0, .int 0, .int 0, .ref (g 4), .ref (g 5), .ref (g 6), .ref (g 7)]))] := hD
    subst hw
    refine lv_istore (lv' := [(4, .int (-2)), (0, .ref (g 0)), (1, .int p1), (2, .int p2), (3, .int p3)]) hx hb dX8_cracked_16 hl (by decide) rfl (fun ls hl => ?_)
    refine lv_iload hx hb dX8_cracked_18 (lv_at hl 0 rfl) ?_
    refine lv_if_eq (tgt := 26) hx hb dX8_cracked_20 (by decide) (fun c9 => absurd c9 (by decide)) (fun _ => ?_)
    refine lv_iload hx hb dX8_cracked_23 (lv_at hl 0 rfl) ?_
    have hP9 := hP.sub (ws' := [(g 0, .inr (8, xF g)), (g 3, .inr (0, [.int 0, .int 0, .int 0, .int 0, .int 0, .int 0, .ref (g 4), .ref (g 5), .ref (g 6), .ref (g 7)]))]) [0, 1] rfl
    have hD9 := hD.sub (ws' := [(g 0, .inr (8, xF g)), (g 3, .inr (0, [.int 0, .int 0, .int 0, .int 0, .int 0, .int 0, .ref (g 4), .ref (g 5), .ref (g 6), .ref (g 7)]))]) [0, 1] (by decide) rfl
    exact W.iret (v := (-2)) hx hb hr (fun tS ht hW => ⟨⟨(-2), (), rfl, rfl, by rw [ht]; exact hP9, va_K.moved hW.alike hK, hD9⟩, hS.F ht⟩) hS.2.2 dX8_cracked_25
  ·
    rw [if_neg hc_2] at hw
    subst hw
    refine lv_if_ne (tgt := 10) hx hb dX8_cracked_4 (by decide) (fun c9 => absurd c9 (by decide)) (fun _ => ?_)
    refine lv_bipush (v := (-2)) hx hb dX8_cracked_7 (by decide) ?_
    have hP9 := hP.sub (ws' := [(g 0, .inr (8, xF g)), (g 3, .inr (0, [.int 0, .int 0, .int 0, .int 0, .int 0, .int 0, .ref (g 4), .ref (g 5), .ref (g 6), .ref (g 7)]))]) [0, 1] rfl
    have hD9 := hD.sub (ws' := [(g 0, .inr (8, xF g)), (g 3, .inr (0, [.int 0, .int 0, .int 0, .int 0, .int 0, .int 0, .ref (g 4), .ref (g 5), .ref (g 6), .ref (g 7)]))]) [0, 1] (by decide) rfl
    exact W.iret (v := (-2)) hx hb hr (fun tS ht hW => ⟨⟨(-2), (), rfl, rfl, by rw [ht]; exact hP9, va_K.moved hW.alike hK, hD9⟩, hS.F ht⟩) hS.2.2 dX8_cracked_9

theorem q1327 : Cond.code yX8_clean cX8_clean 8 (some .int) ∈ lw_g := lw_gm (List.mem_of_getElem? (i := 1327) (by decide +kernel)) rfl
theorem dX8_clean_0 : decode cX8_clean 0 = .ok (.iload_n 1, 1) := by decide +kernel
theorem dX8_clean_1 : decode cX8_clean 1 = .ok (.invokestatic 396, 3) := by decide +kernel
theorem dX8_clean_4 : decode cX8_clean 4 = .ok (.ifCond .eq 14, 3) := by decide +kernel
theorem dX8_clean_7 : decode cX8_clean 7 = .ok (.iload_n 2, 1) := by decide +kernel
theorem dX8_clean_8 : decode cX8_clean 8 = .ok (.iconst 1, 1) := by decide +kernel
theorem dX8_clean_9 : decode cX8_clean 9 = .ok (.if_icmp .lt 9, 3) := by decide +kernel
theorem dX8_clean_12 : decode cX8_clean 12 = .ok (.iload_n 2, 1) := by decide +kernel
theorem dX8_clean_13 : decode cX8_clean 13 = .ok (.bipush 20, 2) := by decide +kernel
theorem dX8_clean_15 : decode cX8_clean 15 = .ok (.if_icmp .le 6, 3) := by decide +kernel
theorem dX8_clean_18 : decode cX8_clean 18 = .ok (.bipush (-2), 2) := by decide +kernel
theorem dX8_clean_20 : decode cX8_clean 20 = .ok (.ireturn, 1) := by decide +kernel
theorem dX8_clean_21 : decode cX8_clean 21 = .ok (.aload_n 0, 1) := by decide +kernel
theorem dX8_clean_22 : decode cX8_clean 22 = .ok (.iload_n 3, 1) := by decide +kernel
theorem dX8_clean_23 : decode cX8_clean 23 = .ok (.iload 4, 2) := by decide +kernel
theorem dX8_clean_25 : decode cX8_clean 25 = .ok (.invokevirtual 248, 3) := by decide +kernel
theorem dX8_clean_28 : decode cX8_clean 28 = .ok (.istore 5, 2) := by decide +kernel
theorem dX8_clean_30 : decode cX8_clean 30 = .ok (.iload 5, 2) := by decide +kernel
theorem dX8_clean_32 : decode cX8_clean 32 = .ok (.ifCond .eq 6, 3) := by decide +kernel
theorem dX8_clean_35 : decode cX8_clean 35 = .ok (.iload 5, 2) := by decide +kernel
theorem dX8_clean_37 : decode cX8_clean 37 = .ok (.ireturn, 1) := by decide +kernel
set_option maxHeartbeats 4000000 in
set_option maxRecDepth 100000 in
theorem c_X8_clean (l : Launch) (D : va_G) (cy : Nat → ClassId) (g : Nat → Nat) (p1 : Int32) (p2 : Int32) (p3 : Int32) (p4 : Int32) (sz : Nat) : Met l yX8_clean (ww yX8_clean cX8_clean 8 (some .int)) ({ frames := 4, cells := 0, slots := 0, locals := 256 }) (va_Pc [.ref (g 0), .int p1, .int p2, .int p3, .int p4] (pre D cy [(g 0, .inr (8, xF g)), (g 3, .inr (0, [.int 0, .int 0, .int 0, .int 0, .int 0, .int 0, .ref (g 4), .ref (g 5), .ref (g 6), .ref (g 7)]))] sz)) (qi D cy (va_A [(g 0, .inr (8, xF g)), (g 3, .inr (0, [.int 0, .int 0, .int 0, .int 0, .int 0, .int 0, .ref (g 4), .ref (g 5), .ref (g 6), .ref (g 7)]))] sz) (fun (r : Int32) (_ : Unit) => r = (-2)) (fun (_ : Unit) => [(g 0, .inr (8, xF g)), (g 3, .inr (0, [.int 0, .int 0, .int 0, .int 0, .int 0, .int 0, .ref (g 4), .ref (g 5), .ref (g 6), .ref (g 7)]))])) 0 0 (va_A [(g 0, .inr (8, xF g)), (g 3, .inr (0, [.int 0, .int 0, .int 0, .int 0, .int 0, .int 0, .ref (g 4), .ref (g 5), .ref (g 6), .ref (g 7)]))] sz) := by
  refine Met.ofW (cc := cX8_clean) (maxL := 8) (ret := (some .int)) (by decide) rfl ?_
  intro p e s m args below meth c s₁ B hml hv
  obtain ⟨rfl, hsz, hP, hK, hD0⟩ := hv
  have hx := B.exec
  have hb := B.bytes
  have hr := B.returns
  have hts := hts_g (atoms_spec (ws := ww yX8_clean cX8_clean 8 (some .int)) B.pre)
  have hown : s.vm.findClass RX8 = some m.cls := findClass_of_methodNamed B.named
  have hlocks := B.notSynchronized
  subst hsz
  have hD := hD0.self (sz := s.heap.size)
  generalize hAe : va_A [(g 0, .inr (8, xF g)), (g 3, .inr (0, [.int 0, .int 0, .int 0, .int 0, .int 0, .int 0, .ref (g 4), .ref (g 5), .ref (g 6), .ref (g 7)]))] s.heap.size = A at hD ⊢
  have hA : ∀ q : Nat, s.heap.size ≤ q → A q := fun q h => by rw [← hAe]; exact Or.inr h
  have hS : va_S A s.heap s.heap [] := va_S.rf
  have hl := lv_entry ([.ref (g 0), .int p1, .int p2, .int p3, .int p4]) (n := 8) (Nat.le_of_ble_eq_true rfl)
  rw [lg_entry_eq]
  generalize (lg_sl ([.ref (g 0), .int p1, .int p2, .int p3, .int p4]) ++ List.replicate (8 - (lg_sl ([.ref (g 0), .int p1, .int p2, .int p3, .int p4])).length) Slot.unset).toArray = ls at hl ⊢
  have hl : lv_has ls 8 [(0, .ref (g 0)), (1, .int p1), (2, .int p2), (3, .int p3), (4, .int p4)] := hl
  refine lv_iload_n hx hb dX8_clean_0 rfl (lv_at hl 1 rfl) ?_
  have hPc := hP.sub (ws' := []) [] rfl
  have hDc := hD.sub (ws' := []) [] (by decide) rfl
  have hFc := va_free (wc := []) hD hS hA [] rfl
  refine va_calli (va_runS (As := [.int p1]) (rest := []) ⟨hx, hb, hml, hown, hts⟩ (c_X8_isSeed l D cy p1 s.heap.size) (va_cwS 1 hts (gd_S q1307 q1308 q125 q1309) rfl rfl rfl (by decide +kernel) ⟨Nat.le_of_ble_eq_true rfl, Nat.le_of_ble_eq_true rfl⟩) (pr_S hPc hK hDc) rfl rfl hl.1 rfl (lv_room (Nat.le_of_ble_eq_true rfl)) dX8_clean_1 ⟨Nat.le_of_ble_eq_true rfl, Nat.le_of_ble_eq_true rfl⟩) hS (fun q _ h => hFc q h) hFc (fun r_1 u tS H1 locs ht hvm hw hB hz1 hk1 hS => ?_)
  obtain ⟨hP1, hK1, hD1⟩ := hB
  rw [ht] at hP1
  try dsimp only at hw
  obtain ⟨hP, hD⟩ := va_join (wr := [(g 0, .inr (8, xF g)), (g 3, .inr (0, [.int 0, .int 0, .int 0, .int 0, .int 0, .int 0, .ref (g 4), .ref (g 5), .ref (g 6), .ref (g 7)]))]) (w1 := []) hP hD [] [0, 1] rfl rfl (by decide) (by decide) hk1 hFc hP1 hD1
  generalize H1 = H at hP hS ⊢
  have hP : va_P D clz [(g 0, .inr (8, xF g)), (g 3, .inr (0, [.int 0, .int 0, .int 0, .int 0, .int 0, .int 0, .ref (g 4), .ref (g 5), .ref (g 6), .ref (g 7)]))] H := hP
  have hD : va_D A [(g 0, .inr (8, xF g)), (g 3, .inr (0, [.int 0, .int 0, .int 0, .int 0, .int 0, .int 0, .ref (g 4), .ref (g 5), .ref (g 6), .ref (g 7)]))] := hD
  by_cases hc_2 : ((0 : Int32) ≤ p1 ∧ p1 ≤ (2000000000 : Int32))
  ·
    rw [if_pos hc_2] at hw
    subst hw
    refine lv_if_eq (tgt := 18) hx hb dX8_clean_4 (by decide) (fun c9 => absurd c9 (by decide)) (fun _ => ?_)
    refine lv_iload_n hx hb dX8_clean_7 rfl (lv_at hl 2 rfl) ?_
    refine lv_iconst (v := 1) hx hb dX8_clean_8 (by decide) ?_
    refine lv_icmp_lt (tgt := 18) hx hb dX8_clean_9 (by decide) (fun c_3 => ?_) (fun c_3 => ?_)
    ·
      refine lv_bipush (v := (-2)) hx hb dX8_clean_18 (by decide) ?_
      have hP9 := hP.sub (ws' := [(g 0, .inr (8, xF g)), (g 3, .inr (0, [.int 0, .int 0, .int 0, .int 0, .int 0, .int 0, .ref (g 4), .ref (g 5), .ref (g 6), .ref (g 7)]))]) [0, 1] rfl
      have hD9 := hD.sub (ws' := [(g 0, .inr (8, xF g)), (g 3, .inr (0, [.int 0, .int 0, .int 0, .int 0, .int 0, .int 0, .ref (g 4), .ref (g 5), .ref (g 6), .ref (g 7)]))]) [0, 1] (by decide) rfl
      exact W.iret (v := (-2)) hx hb hr (fun tS ht hW => ⟨⟨(-2), (), rfl, rfl, by rw [ht]; exact hP9, va_K.moved hW.alike hK, hD9⟩, hS.F ht⟩) hS.2.2 dX8_clean_20
    ·
      refine lv_iload_n hx hb dX8_clean_12 rfl (lv_at hl 2 rfl) ?_
      refine lv_bipush (v := 20) hx hb dX8_clean_13 (by decide) ?_
      refine lv_icmp_le (tgt := 21) hx hb dX8_clean_15 (by decide) (fun c_4 => ?_) (fun c_4 => ?_)
      ·
        refine lv_aload_n hx hb dX8_clean_21 rfl (lv_at hl 0 rfl) ?_
        refine lv_iload_n hx hb dX8_clean_22 rfl (lv_at hl 3 rfl) ?_
        refine lv_iload hx hb dX8_clean_23 (lv_at hl 4 rfl) ?_
        have hPc := hP.sub (ws' := [(g 0, .inr (8, xF g)), (g 3, .inr (0, [.int 0, .int 0, .int 0, .int 0, .int 0, .int 0, .ref (g 4), .ref (g 5), .ref (g 6), .ref (g 7)]))]) [0, 1] rfl
        have hDc := hD.sub (ws' := [(g 0, .inr (8, xF g)), (g 3, .inr (0, [.int 0, .int 0, .int 0, .int 0, .int 0, .int 0, .ref (g 4), .ref (g 5), .ref (g 6), .ref (g 7)]))]) [0, 1] (by decide) rfl
        have hFc := va_free (wc := [(g 0, .inr (8, xF g)), (g 3, .inr (0, [.int 0, .int 0, .int 0, .int 0, .int 0, .int 0, .ref (g 4), .ref (g 5), .ref (g 6), .ref (g 7)]))]) hD hS hA [0, 1] rfl
        refine va_calli (va_runV (As := [.int p3, .int p4]) (rest := []) ⟨hx, hb, hml, hown, hts⟩ (c_X8_layBest l D cy g p3 p4 H.size) (cwV 2 hts (gd_V q914 q916 q18 q125 q917) rfl rfl rfl (by decide +kernel) ⟨Nat.le_of_ble_eq_true rfl, Nat.le_of_ble_eq_true rfl⟩) (pr_V hPc hK hDc (va_recv hK hPc (ci := 8) (q0 := 0) rfl rfl)) rfl rfl hl.1 rfl (lv_room (Nat.le_of_ble_eq_true rfl)) dX8_clean_25 ⟨Nat.le_of_ble_eq_true rfl, Nat.le_of_ble_eq_true rfl⟩) hS (fun q _ h => hFc q h) hFc (fun r_5 u tS H1 locs ht hvm hw hB hz1 hk1 hS => ?_)
        obtain ⟨hP1, hK1, hD1⟩ := hB
        rw [ht] at hP1
        try dsimp only at hw
        obtain ⟨hP, hD⟩ := va_join (wr := []) (w1 := [(g 0, .inr (8, xF g)), (g 3, .inr (0, [.int 0, .int 0, .int 0, .int 0, .int 0, .int 0, .ref (g 4), .ref (g 5), .ref (g 6), .ref (g 7)]))]) hP hD [0, 1] [] rfl rfl (by decide) (by decide) hk1 hFc hP1 hD1
        generalize H1 = H at hP hS ⊢
        have hP : va_P D clz [(g 0, .inr (8, xF g)), (g 3, .inr (0, [.int 0, .int 0, .int 0, .int 0, .int 0, .int 0, .ref (g 4), .ref (g 5), .ref (g 6), .ref (g 7)]))] H := hP
        have hD : va_D A [(g 0, .inr (8, xF g)), (g 3, .inr (0, [.int 0, .int 0, .int 0, .int 0, .int 0, .int 0, .ref (g 4), .ref (g 5), .ref (g 6), .ref (g 7)]))] := hD
        subst hw
        refine lv_istore (lv' := [(5, .int (-2)), (0, .ref (g 0)), (1, .int p1), (2, .int p2), (3, .int p3), (4, .int p4)]) hx hb dX8_clean_28 hl (by decide) rfl (fun ls hl => ?_)
        refine lv_iload hx hb dX8_clean_30 (lv_at hl 0 rfl) ?_
        refine lv_if_eq (tgt := 38) hx hb dX8_clean_32 (by decide) (fun c9 => absurd c9 (by decide)) (fun _ => ?_)
        refine lv_iload hx hb dX8_clean_35 (lv_at hl 0 rfl) ?_
        have hP9 := hP.sub (ws' := [(g 0, .inr (8, xF g)), (g 3, .inr (0, [.int 0, .int 0, .int 0, .int 0, .int 0, .int 0, .ref (g 4), .ref (g 5), .ref (g 6), .ref (g 7)]))]) [0, 1] rfl
        have hD9 := hD.sub (ws' := [(g 0, .inr (8, xF g)), (g 3, .inr (0, [.int 0, .int 0, .int 0, .int 0, .int 0, .int 0, .ref (g 4), .ref (g 5), .ref (g 6), .ref (g 7)]))]) [0, 1] (by decide) rfl
        exact W.iret (v := (-2)) hx hb hr (fun tS ht hW => ⟨⟨(-2), (), rfl, rfl, by rw [ht]; exact hP9, va_K.moved hW.alike hK, hD9⟩, hS.F ht⟩) hS.2.2 dX8_clean_37
      ·
        refine lv_bipush (v := (-2)) hx hb dX8_clean_18 (by decide) ?_
        have hP9 := hP.sub (ws' := [(g 0, .inr (8, xF g)), (g 3, .inr (0, [.int 0, .int 0, .int 0, .int 0, .int 0, .int 0, .ref (g 4), .ref (g 5), .ref (g 6), .ref (g 7)]))]) [0, 1] rfl
        have hD9 := hD.sub (ws' := [(g 0, .inr (8, xF g)), (g 3, .inr (0, [.int 0, .int 0, .int 0, .int 0, .int 0, .int 0, .ref (g 4), .ref (g 5), .ref (g 6), .ref (g 7)]))]) [0, 1] (by decide) rfl
        exact W.iret (v := (-2)) hx hb hr (fun tS ht hW => ⟨⟨(-2), (), rfl, rfl, by rw [ht]; exact hP9, va_K.moved hW.alike hK, hD9⟩, hS.F ht⟩) hS.2.2 dX8_clean_20
  ·
    rw [if_neg hc_2] at hw
    subst hw
    refine lv_if_eq (tgt := 18) hx hb dX8_clean_4 (by decide) (fun _ => ?_) (fun c9 => absurd c9 (by decide))
    refine lv_bipush (v := (-2)) hx hb dX8_clean_18 (by decide) ?_
    have hP9 := hP.sub (ws' := [(g 0, .inr (8, xF g)), (g 3, .inr (0, [.int 0, .int 0, .int 0, .int 0, .int 0, .int 0, .ref (g 4), .ref (g 5), .ref (g 6), .ref (g 7)]))]) [0, 1] rfl
    have hD9 := hD.sub (ws' := [(g 0, .inr (8, xF g)), (g 3, .inr (0, [.int 0, .int 0, .int 0, .int 0, .int 0, .int 0, .ref (g 4), .ref (g 5), .ref (g 6), .ref (g 7)]))]) [0, 1] (by decide) rfl
    exact W.iret (v := (-2)) hx hb hr (fun tS ht hW => ⟨⟨(-2), (), rfl, rfl, by rw [ht]; exact hP9, va_K.moved hW.alike hK, hD9⟩, hS.F ht⟩) hS.2.2 dX8_clean_20

theorem q824 : Cond.code yX8_off cX8_off 5 (some .int) ∈ lw_g := lw_gm (List.mem_of_getElem? (i := 824) (by decide +kernel)) rfl
theorem q837 : Cond.constant RX8 203 (-100000) ∈ lw_g := lw_gm (List.mem_of_getElem? (i := 837) (by decide +kernel)) rfl
theorem dX8_off_0 : decode cX8_off 0 = .ok (.aload_n 0, 1) := by decide +kernel
theorem dX8_off_1 : decode cX8_off 1 = .ok (.iload_n 1, 1) := by decide +kernel
theorem dX8_off_2 : decode cX8_off 2 = .ok (.iload_n 2, 1) := by decide +kernel
theorem dX8_off_3 : decode cX8_off 3 = .ok (.iload_n 3, 1) := by decide +kernel
theorem dX8_off_4 : decode cX8_off 4 = .ok (.iload 4, 2) := by decide +kernel
theorem dX8_off_6 : decode cX8_off 6 = .ok (.invokevirtual 199, 3) := by decide +kernel
theorem dX8_off_9 : decode cX8_off 9 = .ok (.ifCond .ne 6, 3) := by decide +kernel
theorem dX8_off_12 : decode cX8_off 12 = .ok (.ldc 203, 2) := by decide +kernel
theorem dX8_off_14 : decode cX8_off 14 = .ok (.ireturn, 1) := by decide +kernel
set_option maxHeartbeats 4000000 in
set_option maxRecDepth 100000 in
theorem c_X8_off (l : Launch) (D : va_G) (cy : Nat → ClassId) (g : Nat → Nat) (p1 : Int32) (p2 : Int32) (p3 : Int32) (p4 : Int32) (sz : Nat) : Met l yX8_off (ww yX8_off cX8_off 5 (some .int)) ({ frames := 4, cells := 0, slots := 0, locals := 256 }) (va_Pc [.ref (g 0), .int p1, .int p2, .int p3, .int p4] (pre D cy [(g 0, .inr (8, xF g)), (g 3, .inr (0, [.int 0, .int 0, .int 0, .int 0, .int 0, .int 0, .ref (g 4), .ref (g 5), .ref (g 6), .ref (g 7)]))] sz)) (qi D cy (va_A [(g 0, .inr (8, xF g)), (g 3, .inr (0, [.int 0, .int 0, .int 0, .int 0, .int 0, .int 0, .ref (g 4), .ref (g 5), .ref (g 6), .ref (g 7)]))] sz) (fun (r : Int32) (_ : Unit) => r = (-100000)) (fun (_ : Unit) => [(g 0, .inr (8, xF g)), (g 3, .inr (0, [.int 0, .int 0, .int 0, .int 0, .int 0, .int 0, .ref (g 4), .ref (g 5), .ref (g 6), .ref (g 7)]))])) 0 0 (va_A [(g 0, .inr (8, xF g)), (g 3, .inr (0, [.int 0, .int 0, .int 0, .int 0, .int 0, .int 0, .ref (g 4), .ref (g 5), .ref (g 6), .ref (g 7)]))] sz) := by
  refine Met.ofW (cc := cX8_off) (maxL := 5) (ret := (some .int)) (by decide) rfl ?_
  intro p e s m args below meth c s₁ B hml hv
  obtain ⟨rfl, hsz, hP, hK, hD0⟩ := hv
  have hx := B.exec
  have hb := B.bytes
  have hr := B.returns
  have hts := hts_g (atoms_spec (ws := ww yX8_off cX8_off 5 (some .int)) B.pre)
  have hown : s.vm.findClass RX8 = some m.cls := findClass_of_methodNamed B.named
  have hlocks := B.notSynchronized
  subst hsz
  have hD := hD0.self (sz := s.heap.size)
  generalize hAe : va_A [(g 0, .inr (8, xF g)), (g 3, .inr (0, [.int 0, .int 0, .int 0, .int 0, .int 0, .int 0, .ref (g 4), .ref (g 5), .ref (g 6), .ref (g 7)]))] s.heap.size = A at hD ⊢
  have hA : ∀ q : Nat, s.heap.size ≤ q → A q := fun q h => by rw [← hAe]; exact Or.inr h
  have hS : va_S A s.heap s.heap [] := va_S.rf
  have hl := lv_entry ([.ref (g 0), .int p1, .int p2, .int p3, .int p4]) (n := 5) (Nat.le_of_ble_eq_true rfl)
  rw [lg_entry_eq]
  generalize (lg_sl ([.ref (g 0), .int p1, .int p2, .int p3, .int p4]) ++ List.replicate (5 - (lg_sl ([.ref (g 0), .int p1, .int p2, .int p3, .int p4])).length) Slot.unset).toArray = ls at hl ⊢
  have hl : lv_has ls 5 [(0, .ref (g 0)), (1, .int p1), (2, .int p2), (3, .int p3), (4, .int p4)] := hl
  refine lv_aload_n hx hb dX8_off_0 rfl (lv_at hl 0 rfl) ?_
  refine lv_iload_n hx hb dX8_off_1 rfl (lv_at hl 1 rfl) ?_
  refine lv_iload_n hx hb dX8_off_2 rfl (lv_at hl 2 rfl) ?_
  refine lv_iload_n hx hb dX8_off_3 rfl (lv_at hl 3 rfl) ?_
  refine lv_iload hx hb dX8_off_4 (lv_at hl 4 rfl) ?_
  have hPc := hP.sub (ws' := [(g 0, .inr (8, xF g)), (g 3, .inr (0, [.int 0, .int 0, .int 0, .int 0, .int 0, .int 0, .ref (g 4), .ref (g 5), .ref (g 6), .ref (g 7)]))]) [0, 1] rfl
  have hDc := hD.sub (ws' := [(g 0, .inr (8, xF g)), (g 3, .inr (0, [.int 0, .int 0, .int 0, .int 0, .int 0, .int 0, .ref (g 4), .ref (g 5), .ref (g 6), .ref (g 7)]))]) [0, 1] (by decide) rfl
  have hFc := va_free (wc := [(g 0, .inr (8, xF g)), (g 3, .inr (0, [.int 0, .int 0, .int 0, .int 0, .int 0, .int 0, .ref (g 4), .ref (g 5), .ref (g 6), .ref (g 7)]))]) hD hS hA [0, 1] rfl
  refine va_calli (va_runV (As := [.int p1, .int p2, .int p3, .int p4]) (rest := []) ⟨hx, hb, hml, hown, hts⟩ (c_X8_canBeTried l D cy g p1 p2 p3 p4 s.heap.size) (cwV 4 hts (gd_V q825 q827 q16 q125 q828) rfl rfl rfl (by decide +kernel) ⟨Nat.le_of_ble_eq_true rfl, Nat.le_of_ble_eq_true rfl⟩) (pr_V hPc hK hDc (va_recv hK hPc (ci := 8) (q0 := 0) rfl rfl)) rfl rfl hl.1 rfl (lv_room (Nat.le_of_ble_eq_true rfl)) dX8_off_6 ⟨Nat.le_of_ble_eq_true rfl, Nat.le_of_ble_eq_true rfl⟩) hS (fun q _ h => hFc q h) hFc (fun r_1 u tS H1 locs ht hvm hw hB hz1 hk1 hS => ?_)
  obtain ⟨hP1, hK1, hD1⟩ := hB
  rw [ht] at hP1
  try dsimp only at hw
  obtain ⟨hP, hD⟩ := va_join (wr := []) (w1 := [(g 0, .inr (8, xF g)), (g 3, .inr (0, [.int 0, .int 0, .int 0, .int 0, .int 0, .int 0, .ref (g 4), .ref (g 5), .ref (g 6), .ref (g 7)]))]) hP hD [0, 1] [] rfl rfl (by decide) (by decide) hk1 hFc hP1 hD1
  generalize H1 = H at hP hS ⊢
  have hP : va_P D clz [(g 0, .inr (8, xF g)), (g 3, .inr (0, [.int 0, .int 0, .int 0, .int 0, .int 0, .int 0, .ref (g 4), .ref (g 5), .ref (g 6), .ref (g 7)]))] H := hP
  have hD : va_D A [(g 0, .inr (8, xF g)), (g 3, .inr (0, [.int 0, .int 0, .int 0, .int 0, .int 0, .int 0, .ref (g 4), .ref (g 5), .ref (g 6), .ref (g 7)]))] := hD
  subst hw
  refine lv_if_ne (tgt := 15) hx hb dX8_off_9 (by decide) (fun c9 => absurd c9 (by decide)) (fun _ => ?_)
  refine lv_ldc (v := (-100000)) hx hb hown (hts _ q837) dX8_off_12 ?_
  have hP9 := hP.sub (ws' := [(g 0, .inr (8, xF g)), (g 3, .inr (0, [.int 0, .int 0, .int 0, .int 0, .int 0, .int 0, .ref (g 4), .ref (g 5), .ref (g 6), .ref (g 7)]))]) [0, 1] rfl
  have hD9 := hD.sub (ws' := [(g 0, .inr (8, xF g)), (g 3, .inr (0, [.int 0, .int 0, .int 0, .int 0, .int 0, .int 0, .ref (g 4), .ref (g 5), .ref (g 6), .ref (g 7)]))]) [0, 1] (by decide) rfl
  exact W.iret (v := (-100000)) hx hb hr (fun tS ht hW => ⟨⟨(-100000), (), rfl, rfl, by rw [ht]; exact hP9, va_K.moved hW.alike hK, hD9⟩, hS.F ht⟩) hS.2.2 dX8_off_14

theorem q486 : Cond.code yX8_end cX8_end 2 (some .int) ∈ lw_g := lw_gm (List.mem_of_getElem? (i := 486) (by decide +kernel)) rfl
theorem q159 : Cond.fieldLink RX8 87 "LipsAndSlides$Reader" "length" "I" ∈ lw_g := lw_gm (List.mem_of_getElem? (i := 159) (by decide +kernel)) rfl
theorem dX8_end_0 : decode cX8_end 0 = .ok (.iload_n 1, 1) := by decide +kernel
theorem dX8_end_1 : decode cX8_end 1 = .ok (.ifCond .lt 14, 3) := by decide +kernel
theorem dX8_end_4 : decode cX8_end 4 = .ok (.iload_n 1, 1) := by decide +kernel
theorem dX8_end_5 : decode cX8_end 5 = .ok (.aload_n 0, 1) := by decide +kernel
theorem dX8_end_6 : decode cX8_end 6 = .ok (.getfield 10, 3) := by decide +kernel
theorem dX8_end_9 : decode cX8_end 9 = .ok (.getfield 87, 3) := by decide +kernel
theorem dX8_end_12 : decode cX8_end 12 = .ok (.if_icmp .le 5, 3) := by decide +kernel
theorem dX8_end_15 : decode cX8_end 15 = .ok (.iconst (-1), 1) := by decide +kernel
theorem dX8_end_16 : decode cX8_end 16 = .ok (.ireturn, 1) := by decide +kernel
theorem dX8_end_17 : decode cX8_end 17 = .ok (.aload_n 0, 1) := by decide +kernel
theorem dX8_end_18 : decode cX8_end 18 = .ok (.getfield 10, 3) := by decide +kernel
theorem dX8_end_21 : decode cX8_end 21 = .ok (.iload_n 1, 1) := by decide +kernel
theorem dX8_end_22 : decode cX8_end 22 = .ok (.putfield 87, 3) := by decide +kernel
theorem dX8_end_25 : decode cX8_end 25 = .ok (.iload_n 1, 1) := by decide +kernel
theorem dX8_end_26 : decode cX8_end 26 = .ok (.ireturn, 1) := by decide +kernel
def sp_end2 (n : Int32) : Int32 := if n.toInt = 0 then n else -1
set_option maxHeartbeats 4000000 in
set_option maxRecDepth 100000 in
theorem c_X8_end (l : Launch) (D : va_G) (cy : Nat → ClassId) (g : Nat → Nat) (p1 : Int32) (sz : Nat) : Met l yX8_end (ww yX8_end cX8_end 2 (some .int)) ({ frames := 1, cells := 0, slots := 0, locals := 64 }) (va_Pc [.ref (g 0), .int p1] (pre D cy [(g 0, .inr (8, xF g)), (g 1, .inr (4, [.ref (g 2), .int 0, .int 0, .int (-1), .int 0, .int 0, .int 0, .int 0]))] sz)) (qi D cy (va_A [(g 0, .inr (8, xF g)), (g 1, .inr (4, [.ref (g 2), .int 0, .int 0, .int (-1), .int 0, .int 0, .int 0, .int 0]))] sz) (fun (r : Int32) (_ : Unit) => r = sp_end2 p1) (fun (_ : Unit) => [])) 0 0 (va_A [(g 0, .inr (8, xF g)), (g 1, .inr (4, [.ref (g 2), .int 0, .int 0, .int (-1), .int 0, .int 0, .int 0, .int 0]))] sz) := by
  refine Met.ofW (cc := cX8_end) (maxL := 2) (ret := (some .int)) (by decide) rfl ?_
  intro p e s m args below meth c s₁ B hml hv
  obtain ⟨rfl, hsz, hP, hK, hD0⟩ := hv
  have hx := B.exec
  have hb := B.bytes
  have hr := B.returns
  have hts := hts_g (atoms_spec (ws := ww yX8_end cX8_end 2 (some .int)) B.pre)
  have hown : s.vm.findClass RX8 = some m.cls := findClass_of_methodNamed B.named
  have hlocks := B.notSynchronized
  subst hsz
  have hD := hD0.self (sz := s.heap.size)
  generalize hAe : va_A [(g 0, .inr (8, xF g)), (g 1, .inr (4, [.ref (g 2), .int 0, .int 0, .int (-1), .int 0, .int 0, .int 0, .int 0]))] s.heap.size = A at hD ⊢
  have hA : ∀ q : Nat, s.heap.size ≤ q → A q := fun q h => by rw [← hAe]; exact Or.inr h
  have hS : va_S A s.heap s.heap [] := va_S.rf
  have hl := lv_entry ([.ref (g 0), .int p1]) (n := 2) (Nat.le_of_ble_eq_true rfl)
  rw [lg_entry_eq]
  generalize (lg_sl ([.ref (g 0), .int p1]) ++ List.replicate (2 - (lg_sl ([.ref (g 0), .int p1])).length) Slot.unset).toArray = ls at hl ⊢
  have hl : lv_has ls 2 [(0, .ref (g 0)), (1, .int p1)] := hl
  refine lv_iload_n hx hb dX8_end_0 rfl (lv_at hl 1 rfl) ?_
  refine lv_if_lt (tgt := 15) hx hb dX8_end_1 (by decide) (fun c_1 => ?_) (fun c_1 => ?_)
  ·
    refine lv_iconst (v := (-1)) hx hb dX8_end_15 (by decide) ?_
    have hP9 := hP.sub (ws' := []) [] rfl
    have hD9 := hD.sub (ws' := []) [] (by decide) rfl
    exact W.iret (v := (-1)) hx hb hr (fun tS ht hW => ⟨⟨(-1), (), rfl, (by have f0 := plt32 c_1; have z320 : (0 : Int32).toInt = 0 := (by decide); unfold sp_end2; (repeat' split) <;> first | rfl | (exfalso; omega)), by rw [ht]; exact hP9, va_K.moved hW.alike hK, hD9⟩, hS.F ht⟩) hS.2.2 dX8_end_16
  ·
    refine lv_iload_n hx hb dX8_end_4 rfl (lv_at hl 1 rfl) ?_
    refine lv_aload_n hx hb dX8_end_5 rfl (lv_at hl 0 rfl) ?_
    refine va_get (D := D) (ci := 8) (v := .ref (g 1)) (C := RX8) (T := TX8) (N := 12) hx hb hts iX8 hown hK hP 0 rfl rfl 0 (by decide) (hts _ q434) (fun _ h9 => h9) rfl dX8_end_6 ?_
    refine va_get (D := D) (ci := 4) (v := .int 0) (C := RX4) (T := TX4) (N := 8) hx hb hts iX4 hown hK hP 1 rfl rfl 1 (by decide) (hts _ q159) (fun _ h9 => h9) rfl dX8_end_9 ?_
    refine lv_icmp_le (tgt := 17) hx hb dX8_end_12 (by decide) (fun c_2 => ?_) (fun c_2 => ?_)
    ·
      refine lv_aload_n hx hb dX8_end_17 rfl (lv_at hl 0 rfl) ?_
      refine va_get (D := D) (ci := 8) (v := .ref (g 1)) (C := RX8) (T := TX8) (N := 12) hx hb hts iX8 hown hK hP 0 rfl rfl 0 (by decide) (hts _ q434) (fun _ h9 => h9) rfl dX8_end_18 ?_
      refine lv_iload_n hx hb dX8_end_21 rfl (lv_at hl 1 rfl) ?_
      refine va_put (D := D) (ci := 4) (v := .int p1) (ty := .int) (C := RX4) (T := TX4) (N := 8) hx hb hts iX4 tyX4 tyX4_ok nmX4 hown hK hP hD hS 1 rfl rfl 1 (by decide) (hts _ q159) (fun _ h9 => h9) rfl (by decide +kernel) rfl rfl (Nat.le_of_ble_eq_true rfl) dX8_end_22 (fun H locs hP hD hS => ?_)
      have hP : va_P D clz [(g 0, .inr (8, xF g)), (g 1, .inr (4, [.ref (g 2), .int p1, .int 0, .int (-1), .int 0, .int 0, .int 0, .int 0]))] H := hP
      have hD : va_D A [(g 0, .inr (8, xF g)), (g 1, .inr (4, [.ref (g 2), .int p1, .int 0, .int (-1), .int 0, .int 0, .int 0, .int 0]))] := hD
      refine lv_iload_n hx hb dX8_end_25 rfl (lv_at hl 1 rfl) ?_
      have hP9 := hP.sub (ws' := []) [] rfl
      have hD9 := hD.sub (ws' := []) [] (by decide) rfl
      exact W.iret (v := p1) hx hb hr (fun tS ht hW => ⟨⟨p1, (), rfl, (by have f0 := nlt32 c_1; have f1 := ple32 c_2; have z320 : (0 : Int32).toInt = 0 := (by decide); unfold sp_end2; (repeat' split) <;> first | rfl | (exfalso; omega)), by rw [ht]; exact hP9, va_K.moved hW.alike hK, hD9⟩, hS.F ht⟩) hS.2.2 dX8_end_26
    ·
      refine lv_iconst (v := (-1)) hx hb dX8_end_15 (by decide) ?_
      have hP9 := hP.sub (ws' := []) [] rfl
      have hD9 := hD.sub (ws' := []) [] (by decide) rfl
      exact W.iret (v := (-1)) hx hb hr (fun tS ht hW => ⟨⟨(-1), (), rfl, (by have f0 := nlt32 c_1; have f1 := nle32 c_2; have z320 : (0 : Int32).toInt = 0 := (by decide); unfold sp_end2; (repeat' split) <;> first | rfl | (exfalso; omega)), by rw [ht]; exact hP9, va_K.moved hW.alike hK, hD9⟩, hS.F ht⟩) hS.2.2 dX8_end_16

theorem q689 : Cond.code yX8_fault cX8_fault 2 (some .int) ∈ lw_g := lw_gm (List.mem_of_getElem? (i := 689) (by decide +kernel)) rfl
theorem q163 : Cond.fieldLink RX8 101 "LipsAndSlides$Reader" "faultPlace" "I" ∈ lw_g := lw_gm (List.mem_of_getElem? (i := 163) (by decide +kernel)) rfl
theorem q161 : Cond.fieldLink RX8 98 "LipsAndSlides$Reader" "faultKind" "I" ∈ lw_g := lw_gm (List.mem_of_getElem? (i := 161) (by decide +kernel)) rfl
theorem dX8_fault_0 : decode cX8_fault 0 = .ok (.iload_n 1, 1) := by decide +kernel
theorem dX8_fault_1 : decode cX8_fault 1 = .ok (.ifCond .ne 11, 3) := by decide +kernel
theorem dX8_fault_4 : decode cX8_fault 4 = .ok (.aload_n 0, 1) := by decide +kernel
theorem dX8_fault_5 : decode cX8_fault 5 = .ok (.getfield 10, 3) := by decide +kernel
theorem dX8_fault_8 : decode cX8_fault 8 = .ok (.getfield 98, 3) := by decide +kernel
theorem dX8_fault_11 : decode cX8_fault 11 = .ok (.ireturn, 1) := by decide +kernel
theorem dX8_fault_12 : decode cX8_fault 12 = .ok (.iload_n 1, 1) := by decide +kernel
theorem dX8_fault_13 : decode cX8_fault 13 = .ok (.iconst 1, 1) := by decide +kernel
theorem dX8_fault_14 : decode cX8_fault 14 = .ok (.if_icmp .ne 13, 3) := by decide +kernel
theorem dX8_fault_17 : decode cX8_fault 17 = .ok (.aload_n 0, 1) := by decide +kernel
theorem dX8_fault_18 : decode cX8_fault 18 = .ok (.getfield 10, 3) := by decide +kernel
theorem dX8_fault_21 : decode cX8_fault 21 = .ok (.getfield 101, 3) := by decide +kernel
theorem dX8_fault_24 : decode cX8_fault 24 = .ok (.goto 4, 3) := by decide +kernel
theorem dX8_fault_27 : decode cX8_fault 27 = .ok (.iconst (-1), 1) := by decide +kernel
theorem dX8_fault_28 : decode cX8_fault 28 = .ok (.ireturn, 1) := by decide +kernel
set_option maxHeartbeats 4000000 in
set_option maxRecDepth 100000 in
theorem c_X8_fault (l : Launch) (D : va_G) (cy : Nat → ClassId) (g : Nat → Nat) (p1 : Int32) (sz : Nat) : Met l yX8_fault (ww yX8_fault cX8_fault 2 (some .int)) ({ frames := 1, cells := 0, slots := 0, locals := 64 }) (va_Pc [.ref (g 0), .int p1] (pre D cy [(g 0, .inr (8, xF g)), (g 1, .inr (4, [.ref (g 2), .int 0, .int 0, .int (-1), .int 0, .int 0, .int 0, .int 0]))] sz)) (qi D cy (va_A [(g 0, .inr (8, xF g)), (g 1, .inr (4, [.ref (g 2), .int 0, .int 0, .int (-1), .int 0, .int 0, .int 0, .int 0]))] sz) (fun (r : Int32) (_ : Unit) => r = sp_fault p1) (fun (_ : Unit) => [])) 0 0 (va_A [(g 0, .inr (8, xF g)), (g 1, .inr (4, [.ref (g 2), .int 0, .int 0, .int (-1), .int 0, .int 0, .int 0, .int 0]))] sz) := by
  refine Met.ofW (cc := cX8_fault) (maxL := 2) (ret := (some .int)) (by decide) rfl ?_
  intro p e s m args below meth c s₁ B hml hv
  obtain ⟨rfl, hsz, hP, hK, hD0⟩ := hv
  have hx := B.exec
  have hb := B.bytes
  have hr := B.returns
  have hts := hts_g (atoms_spec (ws := ww yX8_fault cX8_fault 2 (some .int)) B.pre)
  have hown : s.vm.findClass RX8 = some m.cls := findClass_of_methodNamed B.named
  have hlocks := B.notSynchronized
  subst hsz
  have hD := hD0.self (sz := s.heap.size)
  generalize hAe : va_A [(g 0, .inr (8, xF g)), (g 1, .inr (4, [.ref (g 2), .int 0, .int 0, .int (-1), .int 0, .int 0, .int 0, .int 0]))] s.heap.size = A at hD ⊢
  have hA : ∀ q : Nat, s.heap.size ≤ q → A q := fun q h => by rw [← hAe]; exact Or.inr h
  have hS : va_S A s.heap s.heap [] := va_S.rf
  have hl := lv_entry ([.ref (g 0), .int p1]) (n := 2) (Nat.le_of_ble_eq_true rfl)
  rw [lg_entry_eq]
  generalize (lg_sl ([.ref (g 0), .int p1]) ++ List.replicate (2 - (lg_sl ([.ref (g 0), .int p1])).length) Slot.unset).toArray = ls at hl ⊢
  have hl : lv_has ls 2 [(0, .ref (g 0)), (1, .int p1)] := hl
  refine lv_iload_n hx hb dX8_fault_0 rfl (lv_at hl 1 rfl) ?_
  refine lv_if_ne (tgt := 12) hx hb dX8_fault_1 (by decide) (fun c_1 => ?_) (fun c_1 => ?_)
  ·
    refine lv_iload_n hx hb dX8_fault_12 rfl (lv_at hl 1 rfl) ?_
    refine lv_iconst (v := 1) hx hb dX8_fault_13 (by decide) ?_
    refine lv_icmp_ne (tgt := 27) hx hb dX8_fault_14 (by decide) (fun c_2 => ?_) (fun c_2 => ?_)
    ·
      refine lv_iconst (v := (-1)) hx hb dX8_fault_27 (by decide) ?_
      have hP9 := hP.sub (ws' := []) [] rfl
      have hD9 := hD.sub (ws' := []) [] (by decide) rfl
      exact W.iret (v := (-1)) hx hb hr (fun tS ht hW => ⟨⟨(-1), (), rfl, (by have f0 := neq32 c_1; have f1 := neq32 c_2; have z320 : (0 : Int32).toInt = 0 := (by decide); have z321 : (1 : Int32).toInt = 1 := (by decide); unfold sp_fault; (repeat' split) <;> first | rfl | (exfalso; omega)), by rw [ht]; exact hP9, va_K.moved hW.alike hK, hD9⟩, hS.F ht⟩) hS.2.2 dX8_fault_28
    ·
      refine lv_aload_n hx hb dX8_fault_17 rfl (lv_at hl 0 rfl) ?_
      refine va_get (D := D) (ci := 8) (v := .ref (g 1)) (C := RX8) (T := TX8) (N := 12) hx hb hts iX8 hown hK hP 0 rfl rfl 0 (by decide) (hts _ q434) (fun _ h9 => h9) rfl dX8_fault_18 ?_
      refine va_get (D := D) (ci := 4) (v := .int (-1)) (C := RX4) (T := TX4) (N := 8) hx hb hts iX4 hown hK hP 1 rfl rfl 3 (by decide) (hts _ q163) (fun _ h9 => h9) rfl dX8_fault_21 ?_
      refine lv_goto (tgt := 28) hx hb dX8_fault_24 (by decide) ?_
      have hP9 := hP.sub (ws' := []) [] rfl
      have hD9 := hD.sub (ws' := []) [] (by decide) rfl
      exact W.iret (v := (-1)) hx hb hr (fun tS ht hW => ⟨⟨(-1), (), rfl, (by have f0 := neq32 c_1; have f1 := peq32 c_2; have z320 : (0 : Int32).toInt = 0 := (by decide); have z321 : (1 : Int32).toInt = 1 := (by decide); unfold sp_fault; (repeat' split) <;> first | rfl | (exfalso; omega)), by rw [ht]; exact hP9, va_K.moved hW.alike hK, hD9⟩, hS.F ht⟩) hS.2.2 dX8_fault_28
  ·
    refine lv_aload_n hx hb dX8_fault_4 rfl (lv_at hl 0 rfl) ?_
    refine va_get (D := D) (ci := 8) (v := .ref (g 1)) (C := RX8) (T := TX8) (N := 12) hx hb hts iX8 hown hK hP 0 rfl rfl 0 (by decide) (hts _ q434) (fun _ h9 => h9) rfl dX8_fault_5 ?_
    refine va_get (D := D) (ci := 4) (v := .int 0) (C := RX4) (T := TX4) (N := 8) hx hb hts iX4 hown hK hP 1 rfl rfl 2 (by decide) (hts _ q161) (fun _ h9 => h9) rfl dX8_fault_8 ?_
    have hP9 := hP.sub (ws' := []) [] rfl
    have hD9 := hD.sub (ws' := []) [] (by decide) rfl
    exact W.iret (v := 0) hx hb hr (fun tS ht hW => ⟨⟨0, (), rfl, (by have f0 := peq32 c_1; have z320 : (0 : Int32).toInt = 0 := (by decide); unfold sp_fault; (repeat' split) <;> first | rfl | (exfalso; omega)), by rw [ht]; exact hP9, va_K.moved hW.alike hK, hD9⟩, hS.F ht⟩) hS.2.2 dX8_fault_11

theorem q474 : Cond.code yX8_feed cX8_feed 6 (some .int) ∈ lw_g := lw_gm (List.mem_of_getElem? (i := 474) (by decide +kernel)) rfl
theorem q475 : Cond.methodLink RX8 79 yX4_hasRoom ∈ lw_g := lw_gm (List.mem_of_getElem? (i := 475) (by decide +kernel)) rfl
theorem q476 : Cond.instanceMethod yX4_hasRoom ∈ lw_g := lw_gm (List.mem_of_getElem? (i := 476) (by decide +kernel)) rfl
theorem q477 : Cond.selects RX4 yX4_hasRoom yX4_hasRoom ∈ lw_g := lw_gm (List.mem_of_getElem? (i := 477) (by decide +kernel)) rfl
theorem q479 : Cond.methodLink RX8 83 yX4_append ∈ lw_g := lw_gm (List.mem_of_getElem? (i := 479) (by decide +kernel)) rfl
theorem q480 : Cond.instanceMethod yX4_append ∈ lw_g := lw_gm (List.mem_of_getElem? (i := 480) (by decide +kernel)) rfl
theorem q481 : Cond.selects RX4 yX4_append yX4_append ∈ lw_g := lw_gm (List.mem_of_getElem? (i := 481) (by decide +kernel)) rfl
theorem dX8_feed_0 : decode cX8_feed 0 = .ok (.aload_n 0, 1) := by decide +kernel
theorem dX8_feed_1 : decode cX8_feed 1 = .ok (.getfield 10, 3) := by decide +kernel
theorem dX8_feed_4 : decode cX8_feed 4 = .ok (.invokevirtual 79, 3) := by decide +kernel
theorem dX8_feed_7 : decode cX8_feed 7 = .ok (.ifCond .ne 5, 3) := by decide +kernel
theorem dX8_feed_12 : decode cX8_feed 12 = .ok (.aload_n 0, 1) := by decide +kernel
theorem dX8_feed_13 : decode cX8_feed 13 = .ok (.getfield 10, 3) := by decide +kernel
theorem dX8_feed_16 : decode cX8_feed 16 = .ok (.iload_n 1, 1) := by decide +kernel
theorem dX8_feed_17 : decode cX8_feed 17 = .ok (.invokevirtual 83, 3) := by decide +kernel
theorem dX8_feed_20 : decode cX8_feed 20 = .ok (.aload_n 0, 1) := by decide +kernel
theorem dX8_feed_21 : decode cX8_feed 21 = .ok (.getfield 10, 3) := by decide +kernel
theorem dX8_feed_24 : decode cX8_feed 24 = .ok (.iload_n 2, 1) := by decide +kernel
theorem dX8_feed_25 : decode cX8_feed 25 = .ok (.invokevirtual 83, 3) := by decide +kernel
theorem dX8_feed_28 : decode cX8_feed 28 = .ok (.aload_n 0, 1) := by decide +kernel
theorem dX8_feed_29 : decode cX8_feed 29 = .ok (.getfield 10, 3) := by decide +kernel
theorem dX8_feed_32 : decode cX8_feed 32 = .ok (.iload_n 3, 1) := by decide +kernel
theorem dX8_feed_33 : decode cX8_feed 33 = .ok (.invokevirtual 83, 3) := by decide +kernel
theorem dX8_feed_36 : decode cX8_feed 36 = .ok (.aload_n 0, 1) := by decide +kernel
theorem dX8_feed_37 : decode cX8_feed 37 = .ok (.getfield 10, 3) := by decide +kernel
theorem dX8_feed_40 : decode cX8_feed 40 = .ok (.iload 4, 2) := by decide +kernel
theorem dX8_feed_42 : decode cX8_feed 42 = .ok (.invokevirtual 83, 3) := by decide +kernel
theorem dX8_feed_45 : decode cX8_feed 45 = .ok (.aload_n 0, 1) := by decide +kernel
theorem dX8_feed_46 : decode cX8_feed 46 = .ok (.getfield 10, 3) := by decide +kernel
theorem dX8_feed_49 : decode cX8_feed 49 = .ok (.iload 5, 2) := by decide +kernel
theorem dX8_feed_51 : decode cX8_feed 51 = .ok (.invokevirtual 83, 3) := by decide +kernel
theorem dX8_feed_54 : decode cX8_feed 54 = .ok (.aload_n 0, 1) := by decide +kernel
theorem dX8_feed_55 : decode cX8_feed 55 = .ok (.getfield 10, 3) := by decide +kernel
theorem dX8_feed_58 : decode cX8_feed 58 = .ok (.getfield 87, 3) := by decide +kernel
theorem dX8_feed_61 : decode cX8_feed 61 = .ok (.ireturn, 1) := by decide +kernel
set_option maxHeartbeats 4000000 in
set_option maxRecDepth 100000 in
theorem c_X8_feed (l : Launch) (D : va_G) (cy : Nat → ClassId) (g : Nat → Nat) (p1 : Int32) (p2 : Int32) (p3 : Int32) (p4 : Int32) (p5 : Int32) (sz : Nat) : Met l yX8_feed (ww yX8_feed cX8_feed 6 (some .int)) ({ frames := 2, cells := 0, slots := 0, locals := 128 }) (va_Pc [.ref (g 0), .int p1, .int p2, .int p3, .int p4, .int p5] (pre D cy [(g 0, .inr (8, xF g)), (g 1, .inr (4, [.ref (g 2), .int 0, .int 0, .int (-1), .int 0, .int 0, .int 0, .int 0])), (g 2, .inl (cy 1, 2000, .inl (fun _ => 0)))] sz)) (qi D cy (va_A [(g 0, .inr (8, xF g)), (g 1, .inr (4, [.ref (g 2), .int 0, .int 0, .int (-1), .int 0, .int 0, .int 0, .int 0])), (g 2, .inl (cy 1, 2000, .inl (fun _ => 0)))] sz) (fun (r : Int32) (_ : Unit) => r = 20) (fun (_ : Unit) => [])) 0 0 (va_A [(g 0, .inr (8, xF g)), (g 1, .inr (4, [.ref (g 2), .int 0, .int 0, .int (-1), .int 0, .int 0, .int 0, .int 0])), (g 2, .inl (cy 1, 2000, .inl (fun _ => 0)))] sz) := by
  refine Met.ofW (cc := cX8_feed) (maxL := 6) (ret := (some .int)) (by decide) rfl ?_
  intro p e s m args below meth c s₁ B hml hv
  obtain ⟨rfl, hsz, hP, hK, hD0⟩ := hv
  have hx := B.exec
  have hb := B.bytes
  have hr := B.returns
  have hts := hts_g (atoms_spec (ws := ww yX8_feed cX8_feed 6 (some .int)) B.pre)
  have hown : s.vm.findClass RX8 = some m.cls := findClass_of_methodNamed B.named
  have hlocks := B.notSynchronized
  subst hsz
  have hD := hD0.self (sz := s.heap.size)
  generalize hAe : va_A [(g 0, .inr (8, xF g)), (g 1, .inr (4, [.ref (g 2), .int 0, .int 0, .int (-1), .int 0, .int 0, .int 0, .int 0])), (g 2, .inl (cy 1, 2000, .inl (fun _ => 0)))] s.heap.size = A at hD ⊢
  have hA : ∀ q : Nat, s.heap.size ≤ q → A q := fun q h => by rw [← hAe]; exact Or.inr h
  have hS : va_S A s.heap s.heap [] := va_S.rf
  have hl := lv_entry ([.ref (g 0), .int p1, .int p2, .int p3, .int p4, .int p5]) (n := 6) (Nat.le_of_ble_eq_true rfl)
  rw [lg_entry_eq]
  generalize (lg_sl ([.ref (g 0), .int p1, .int p2, .int p3, .int p4, .int p5]) ++ List.replicate (6 - (lg_sl ([.ref (g 0), .int p1, .int p2, .int p3, .int p4, .int p5])).length) Slot.unset).toArray = ls at hl ⊢
  have hl : lv_has ls 6 [(0, .ref (g 0)), (1, .int p1), (2, .int p2), (3, .int p3), (4, .int p4), (5, .int p5)] := hl
  refine lv_aload_n hx hb dX8_feed_0 rfl (lv_at hl 0 rfl) ?_
  refine va_get (D := D) (ci := 8) (v := .ref (g 1)) (C := RX8) (T := TX8) (N := 12) hx hb hts iX8 hown hK hP 0 rfl rfl 0 (by decide) (hts _ q434) (fun _ h9 => h9) rfl dX8_feed_1 ?_
  have hPc := hP.sub (ws' := [(g 1, .inr (4, [.ref (g 2), .int 0, .int 0, .int (-1), .int 0, .int 0, .int 0, .int 0]))]) [1] rfl
  have hDc := hD.sub (ws' := [(g 1, .inr (4, [.ref (g 2), .int 0, .int 0, .int (-1), .int 0, .int 0, .int 0, .int 0]))]) [1] (by decide) rfl
  have hFc := va_free (wc := [(g 1, .inr (4, [.ref (g 2), .int 0, .int 0, .int (-1), .int 0, .int 0, .int 0, .int 0]))]) hD hS hA [1] rfl
  refine va_calli (va_runV (As := []) (rest := []) ⟨hx, hb, hml, hown, hts⟩ (c_X4_hasRoom l D cy (g 1) (g 2) s.heap.size) (cwV 0 hts (gd_V q475 q476 q477 q126 q478) rfl rfl rfl (by decide +kernel) ⟨Nat.le_of_ble_eq_true rfl, Nat.le_of_ble_eq_true rfl⟩) (pr_V hPc hK hDc (va_recv hK hPc (ci := 4) (q0 := 0) rfl rfl)) rfl rfl hl.1 rfl (lv_room (Nat.le_of_ble_eq_true rfl)) dX8_feed_4 ⟨Nat.le_of_ble_eq_true rfl, Nat.le_of_ble_eq_true rfl⟩) hS (fun q _ h => hFc q h) hFc (fun r_1 u tS H1 locs ht hvm hw hB hz1 hk1 hS => ?_)
  obtain ⟨hP1, hK1, hD1⟩ := hB
  rw [ht] at hP1
  try dsimp only at hw
  obtain ⟨hP, hD⟩ := va_join (wr := [(g 0, .inr (8, xF g)), (g 2, .inl (cy 1, 2000, .inl (fun _ => 0)))]) (w1 := [(g 1, .inr (4, [.ref (g 2), .int 0, .int 0, .int (-1), .int 0, .int 0, .int 0, .int 0]))]) hP hD [1] [0, 2] rfl rfl (by decide) (by decide) hk1 hFc hP1 hD1
  generalize H1 = H at hP hS ⊢
  have hP : va_P D clz [(g 0, .inr (8, xF g)), (g 2, .inl (cy 1, 2000, .inl (fun _ => 0))), (g 1, .inr (4, [.ref (g 2), .int 0, .int 0, .int (-1), .int 0, .int 0, .int 0, .int 0]))] H := hP
  have hD : va_D A [(g 0, .inr (8, xF g)), (g 2, .inl (cy 1, 2000, .inl (fun _ => 0))), (g 1, .inr (4, [.ref (g 2), .int 0, .int 0, .int (-1), .int 0, .int 0, .int 0, .int 0]))] := hD
  subst hw
  refine lv_if_ne (tgt := 12) hx hb dX8_feed_7 (by decide) (fun _ => ?_) (fun c9 => absurd c9 (by decide))
  refine lv_aload_n hx hb dX8_feed_12 rfl (lv_at hl 0 rfl) ?_
  refine va_get (D := D) (ci := 8) (v := .ref (g 1)) (C := RX8) (T := TX8) (N := 12) hx hb hts iX8 hown hK hP 0 rfl rfl 0 (by decide) (hts _ q434) (fun _ h9 => h9) rfl dX8_feed_13 ?_
  refine lv_iload_n hx hb dX8_feed_16 rfl (lv_at hl 1 rfl) ?_
  have hPc := hP.sub (ws' := [(g 1, .inr (4, [.ref (g 2), .int 0, .int 0, .int (-1), .int 0, .int 0, .int 0, .int 0])), (g 2, .inl (cy 1, 2000, .inl (fun _ => 0)))]) [2, 1] rfl
  have hDc := hD.sub (ws' := [(g 1, .inr (4, [.ref (g 2), .int 0, .int 0, .int (-1), .int 0, .int 0, .int 0, .int 0])), (g 2, .inl (cy 1, 2000, .inl (fun _ => 0)))]) [2, 1] (by decide) rfl
  have hFc := va_free (wc := [(g 1, .inr (4, [.ref (g 2), .int 0, .int 0, .int (-1), .int 0, .int 0, .int 0, .int 0])), (g 2, .inl (cy 1, 2000, .inl (fun _ => 0)))]) hD hS hA [2, 1] rfl
  refine va_callv (va_runV (As := [.int p1]) (rest := []) ⟨hx, hb, hml, hown, hts⟩ (c_X4_append0 l D cy (g 1) (g 2) (fun _ => 0) p1 H.size) (cwV 1 hts (gd_V q479 q480 q481 q126 q482) rfl rfl rfl (by decide +kernel) ⟨Nat.le_of_ble_eq_true rfl, Nat.le_of_ble_eq_true rfl⟩) (pr_V hPc hK hDc (va_recv hK hPc (ci := 4) (q0 := 0) rfl rfl)) rfl rfl hl.1 rfl (lv_room (Nat.le_of_ble_eq_true rfl)) dX8_feed_17 ⟨Nat.le_of_ble_eq_true rfl, Nat.le_of_ble_eq_true rfl⟩) hS (fun q _ h => hFc q h) hFc (fun u tS H1 locs ht hvm hw hB hz1 hk1 hS => ?_)
  obtain ⟨hP1, hK1, hD1⟩ := hB
  rw [ht] at hP1
  try dsimp only at hw
  obtain ⟨g_3, rfl⟩ : ∃ z, z = u := ⟨_, rfl⟩
  obtain ⟨hP, hD⟩ := va_join (wr := [(g 0, .inr (8, xF g))]) (w1 := [(g 1, .inr (4, [.ref (g 2), .int 4, .int 0, .int (-1), .int 0, .int 0, .int 0, .int 0])), (g 2, .inl (cy 1, 2000, .inl g_3))]) hP hD [2, 1] [0] rfl rfl (by decide) (by decide) hk1 hFc hP1 hD1
  generalize H1 = H at hP hS ⊢
  have hP : va_P D clz [(g 0, .inr (8, xF g)), (g 1, .inr (4, [.ref (g 2), .int 4, .int 0, .int (-1), .int 0, .int 0, .int 0, .int 0])), (g 2, .inl (cy 1, 2000, .inl g_3))] H := hP
  have hD : va_D A [(g 0, .inr (8, xF g)), (g 1, .inr (4, [.ref (g 2), .int 4, .int 0, .int (-1), .int 0, .int 0, .int 0, .int 0])), (g 2, .inl (cy 1, 2000, .inl g_3))] := hD
  refine lv_aload_n hx hb dX8_feed_20 rfl (lv_at hl 0 rfl) ?_
  refine va_get (D := D) (ci := 8) (v := .ref (g 1)) (C := RX8) (T := TX8) (N := 12) hx hb hts iX8 hown hK hP 0 rfl rfl 0 (by decide) (hts _ q434) (fun _ h9 => h9) rfl dX8_feed_21 ?_
  refine lv_iload_n hx hb dX8_feed_24 rfl (lv_at hl 2 rfl) ?_
  have hPc := hP.sub (ws' := [(g 1, .inr (4, [.ref (g 2), .int 4, .int 0, .int (-1), .int 0, .int 0, .int 0, .int 0])), (g 2, .inl (cy 1, 2000, .inl g_3))]) [1, 2] rfl
  have hDc := hD.sub (ws' := [(g 1, .inr (4, [.ref (g 2), .int 4, .int 0, .int (-1), .int 0, .int 0, .int 0, .int 0])), (g 2, .inl (cy 1, 2000, .inl g_3))]) [1, 2] (by decide) rfl
  have hFc := va_free (wc := [(g 1, .inr (4, [.ref (g 2), .int 4, .int 0, .int (-1), .int 0, .int 0, .int 0, .int 0])), (g 2, .inl (cy 1, 2000, .inl g_3))]) hD hS hA [1, 2] rfl
  refine va_callv (va_runV (As := [.int p2]) (rest := []) ⟨hx, hb, hml, hown, hts⟩ (c_X4_append4 l D cy (g 1) (g 2) g_3 p2 H.size) (cwV 1 hts (gd_V q479 q480 q481 q126 q482) rfl rfl rfl (by decide +kernel) ⟨Nat.le_of_ble_eq_true rfl, Nat.le_of_ble_eq_true rfl⟩) (pr_V hPc hK hDc (va_recv hK hPc (ci := 4) (q0 := 0) rfl rfl)) rfl rfl hl.1 rfl (lv_room (Nat.le_of_ble_eq_true rfl)) dX8_feed_25 ⟨Nat.le_of_ble_eq_true rfl, Nat.le_of_ble_eq_true rfl⟩) hS (fun q _ h => hFc q h) hFc (fun u tS H1 locs ht hvm hw hB hz1 hk1 hS => ?_)
  obtain ⟨hP1, hK1, hD1⟩ := hB
  rw [ht] at hP1
  try dsimp only at hw
  obtain ⟨g_5, rfl⟩ : ∃ z, z = u := ⟨_, rfl⟩
  obtain ⟨hP, hD⟩ := va_join (wr := [(g 0, .inr (8, xF g))]) (w1 := [(g 1, .inr (4, [.ref (g 2), .int 8, .int 0, .int (-1), .int 0, .int 0, .int 0, .int 0])), (g 2, .inl (cy 1, 2000, .inl g_5))]) hP hD [1, 2] [0] rfl rfl (by decide) (by decide) hk1 hFc hP1 hD1
  generalize H1 = H at hP hS ⊢
  have hP : va_P D clz [(g 0, .inr (8, xF g)), (g 1, .inr (4, [.ref (g 2), .int 8, .int 0, .int (-1), .int 0, .int 0, .int 0, .int 0])), (g 2, .inl (cy 1, 2000, .inl g_5))] H := hP
  have hD : va_D A [(g 0, .inr (8, xF g)), (g 1, .inr (4, [.ref (g 2), .int 8, .int 0, .int (-1), .int 0, .int 0, .int 0, .int 0])), (g 2, .inl (cy 1, 2000, .inl g_5))] := hD
  refine lv_aload_n hx hb dX8_feed_28 rfl (lv_at hl 0 rfl) ?_
  refine va_get (D := D) (ci := 8) (v := .ref (g 1)) (C := RX8) (T := TX8) (N := 12) hx hb hts iX8 hown hK hP 0 rfl rfl 0 (by decide) (hts _ q434) (fun _ h9 => h9) rfl dX8_feed_29 ?_
  refine lv_iload_n hx hb dX8_feed_32 rfl (lv_at hl 3 rfl) ?_
  have hPc := hP.sub (ws' := [(g 1, .inr (4, [.ref (g 2), .int 8, .int 0, .int (-1), .int 0, .int 0, .int 0, .int 0])), (g 2, .inl (cy 1, 2000, .inl g_5))]) [1, 2] rfl
  have hDc := hD.sub (ws' := [(g 1, .inr (4, [.ref (g 2), .int 8, .int 0, .int (-1), .int 0, .int 0, .int 0, .int 0])), (g 2, .inl (cy 1, 2000, .inl g_5))]) [1, 2] (by decide) rfl
  have hFc := va_free (wc := [(g 1, .inr (4, [.ref (g 2), .int 8, .int 0, .int (-1), .int 0, .int 0, .int 0, .int 0])), (g 2, .inl (cy 1, 2000, .inl g_5))]) hD hS hA [1, 2] rfl
  refine va_callv (va_runV (As := [.int p3]) (rest := []) ⟨hx, hb, hml, hown, hts⟩ (c_X4_append8 l D cy (g 1) (g 2) g_5 p3 H.size) (cwV 1 hts (gd_V q479 q480 q481 q126 q482) rfl rfl rfl (by decide +kernel) ⟨Nat.le_of_ble_eq_true rfl, Nat.le_of_ble_eq_true rfl⟩) (pr_V hPc hK hDc (va_recv hK hPc (ci := 4) (q0 := 0) rfl rfl)) rfl rfl hl.1 rfl (lv_room (Nat.le_of_ble_eq_true rfl)) dX8_feed_33 ⟨Nat.le_of_ble_eq_true rfl, Nat.le_of_ble_eq_true rfl⟩) hS (fun q _ h => hFc q h) hFc (fun u tS H1 locs ht hvm hw hB hz1 hk1 hS => ?_)
  obtain ⟨hP1, hK1, hD1⟩ := hB
  rw [ht] at hP1
  try dsimp only at hw
  obtain ⟨g_7, rfl⟩ : ∃ z, z = u := ⟨_, rfl⟩
  obtain ⟨hP, hD⟩ := va_join (wr := [(g 0, .inr (8, xF g))]) (w1 := [(g 1, .inr (4, [.ref (g 2), .int 12, .int 0, .int (-1), .int 0, .int 0, .int 0, .int 0])), (g 2, .inl (cy 1, 2000, .inl g_7))]) hP hD [1, 2] [0] rfl rfl (by decide) (by decide) hk1 hFc hP1 hD1
  generalize H1 = H at hP hS ⊢
  have hP : va_P D clz [(g 0, .inr (8, xF g)), (g 1, .inr (4, [.ref (g 2), .int 12, .int 0, .int (-1), .int 0, .int 0, .int 0, .int 0])), (g 2, .inl (cy 1, 2000, .inl g_7))] H := hP
  have hD : va_D A [(g 0, .inr (8, xF g)), (g 1, .inr (4, [.ref (g 2), .int 12, .int 0, .int (-1), .int 0, .int 0, .int 0, .int 0])), (g 2, .inl (cy 1, 2000, .inl g_7))] := hD
  refine lv_aload_n hx hb dX8_feed_36 rfl (lv_at hl 0 rfl) ?_
  refine va_get (D := D) (ci := 8) (v := .ref (g 1)) (C := RX8) (T := TX8) (N := 12) hx hb hts iX8 hown hK hP 0 rfl rfl 0 (by decide) (hts _ q434) (fun _ h9 => h9) rfl dX8_feed_37 ?_
  refine lv_iload hx hb dX8_feed_40 (lv_at hl 4 rfl) ?_
  have hPc := hP.sub (ws' := [(g 1, .inr (4, [.ref (g 2), .int 12, .int 0, .int (-1), .int 0, .int 0, .int 0, .int 0])), (g 2, .inl (cy 1, 2000, .inl g_7))]) [1, 2] rfl
  have hDc := hD.sub (ws' := [(g 1, .inr (4, [.ref (g 2), .int 12, .int 0, .int (-1), .int 0, .int 0, .int 0, .int 0])), (g 2, .inl (cy 1, 2000, .inl g_7))]) [1, 2] (by decide) rfl
  have hFc := va_free (wc := [(g 1, .inr (4, [.ref (g 2), .int 12, .int 0, .int (-1), .int 0, .int 0, .int 0, .int 0])), (g 2, .inl (cy 1, 2000, .inl g_7))]) hD hS hA [1, 2] rfl
  refine va_callv (va_runV (As := [.int p4]) (rest := []) ⟨hx, hb, hml, hown, hts⟩ (c_X4_append12 l D cy (g 1) (g 2) g_7 p4 H.size) (cwV 1 hts (gd_V q479 q480 q481 q126 q482) rfl rfl rfl (by decide +kernel) ⟨Nat.le_of_ble_eq_true rfl, Nat.le_of_ble_eq_true rfl⟩) (pr_V hPc hK hDc (va_recv hK hPc (ci := 4) (q0 := 0) rfl rfl)) rfl rfl hl.1 rfl (lv_room (Nat.le_of_ble_eq_true rfl)) dX8_feed_42 ⟨Nat.le_of_ble_eq_true rfl, Nat.le_of_ble_eq_true rfl⟩) hS (fun q _ h => hFc q h) hFc (fun u tS H1 locs ht hvm hw hB hz1 hk1 hS => ?_)
  obtain ⟨hP1, hK1, hD1⟩ := hB
  rw [ht] at hP1
  try dsimp only at hw
  obtain ⟨g_9, rfl⟩ : ∃ z, z = u := ⟨_, rfl⟩
  obtain ⟨hP, hD⟩ := va_join (wr := [(g 0, .inr (8, xF g))]) (w1 := [(g 1, .inr (4, [.ref (g 2), .int 16, .int 0, .int (-1), .int 0, .int 0, .int 0, .int 0])), (g 2, .inl (cy 1, 2000, .inl g_9))]) hP hD [1, 2] [0] rfl rfl (by decide) (by decide) hk1 hFc hP1 hD1
  generalize H1 = H at hP hS ⊢
  have hP : va_P D clz [(g 0, .inr (8, xF g)), (g 1, .inr (4, [.ref (g 2), .int 16, .int 0, .int (-1), .int 0, .int 0, .int 0, .int 0])), (g 2, .inl (cy 1, 2000, .inl g_9))] H := hP
  have hD : va_D A [(g 0, .inr (8, xF g)), (g 1, .inr (4, [.ref (g 2), .int 16, .int 0, .int (-1), .int 0, .int 0, .int 0, .int 0])), (g 2, .inl (cy 1, 2000, .inl g_9))] := hD
  refine lv_aload_n hx hb dX8_feed_45 rfl (lv_at hl 0 rfl) ?_
  refine va_get (D := D) (ci := 8) (v := .ref (g 1)) (C := RX8) (T := TX8) (N := 12) hx hb hts iX8 hown hK hP 0 rfl rfl 0 (by decide) (hts _ q434) (fun _ h9 => h9) rfl dX8_feed_46 ?_
  refine lv_iload hx hb dX8_feed_49 (lv_at hl 5 rfl) ?_
  have hPc := hP.sub (ws' := [(g 1, .inr (4, [.ref (g 2), .int 16, .int 0, .int (-1), .int 0, .int 0, .int 0, .int 0])), (g 2, .inl (cy 1, 2000, .inl g_9))]) [1, 2] rfl
  have hDc := hD.sub (ws' := [(g 1, .inr (4, [.ref (g 2), .int 16, .int 0, .int (-1), .int 0, .int 0, .int 0, .int 0])), (g 2, .inl (cy 1, 2000, .inl g_9))]) [1, 2] (by decide) rfl
  have hFc := va_free (wc := [(g 1, .inr (4, [.ref (g 2), .int 16, .int 0, .int (-1), .int 0, .int 0, .int 0, .int 0])), (g 2, .inl (cy 1, 2000, .inl g_9))]) hD hS hA [1, 2] rfl
  refine va_callv (va_runV (As := [.int p5]) (rest := []) ⟨hx, hb, hml, hown, hts⟩ (c_X4_append16 l D cy (g 1) (g 2) g_9 p5 H.size) (cwV 1 hts (gd_V q479 q480 q481 q126 q482) rfl rfl rfl (by decide +kernel) ⟨Nat.le_of_ble_eq_true rfl, Nat.le_of_ble_eq_true rfl⟩) (pr_V hPc hK hDc (va_recv hK hPc (ci := 4) (q0 := 0) rfl rfl)) rfl rfl hl.1 rfl (lv_room (Nat.le_of_ble_eq_true rfl)) dX8_feed_51 ⟨Nat.le_of_ble_eq_true rfl, Nat.le_of_ble_eq_true rfl⟩) hS (fun q _ h => hFc q h) hFc (fun u tS H1 locs ht hvm hw hB hz1 hk1 hS => ?_)
  obtain ⟨hP1, hK1, hD1⟩ := hB
  rw [ht] at hP1
  try dsimp only at hw
  obtain ⟨g_11, rfl⟩ : ∃ z, z = u := ⟨_, rfl⟩
  obtain ⟨hP, hD⟩ := va_join (wr := [(g 0, .inr (8, xF g))]) (w1 := [(g 1, .inr (4, [.ref (g 2), .int 20, .int 0, .int (-1), .int 0, .int 0, .int 0, .int 0])), (g 2, .inl (cy 1, 2000, .inl g_11))]) hP hD [1, 2] [0] rfl rfl (by decide) (by decide) hk1 hFc hP1 hD1
  generalize H1 = H at hP hS ⊢
  have hP : va_P D clz [(g 0, .inr (8, xF g)), (g 1, .inr (4, [.ref (g 2), .int 20, .int 0, .int (-1), .int 0, .int 0, .int 0, .int 0])), (g 2, .inl (cy 1, 2000, .inl g_11))] H := hP
  have hD : va_D A [(g 0, .inr (8, xF g)), (g 1, .inr (4, [.ref (g 2), .int 20, .int 0, .int (-1), .int 0, .int 0, .int 0, .int 0])), (g 2, .inl (cy 1, 2000, .inl g_11))] := hD
  refine lv_aload_n hx hb dX8_feed_54 rfl (lv_at hl 0 rfl) ?_
  refine va_get (D := D) (ci := 8) (v := .ref (g 1)) (C := RX8) (T := TX8) (N := 12) hx hb hts iX8 hown hK hP 0 rfl rfl 0 (by decide) (hts _ q434) (fun _ h9 => h9) rfl dX8_feed_55 ?_
  refine va_get (D := D) (ci := 4) (v := .int 20) (C := RX4) (T := TX4) (N := 8) hx hb hts iX4 hown hK hP 1 rfl rfl 1 (by decide) (hts _ q159) (fun _ h9 => h9) rfl dX8_feed_58 ?_
  have hP9 := hP.sub (ws' := []) [] rfl
  have hD9 := hD.sub (ws' := []) [] (by decide) rfl
  exact W.iret (v := 20) hx hb hr (fun tS ht hW => ⟨⟨20, (), rfl, rfl, by rw [ht]; exact hP9, va_K.moved hW.alike hK, hD9⟩, hS.F ht⟩) hS.2.2 dX8_feed_61

theorem q490 : Cond.code yX8_desk cX8_desk 2 (some .int) ∈ lw_g := lw_gm (List.mem_of_getElem? (i := 490) (by decide +kernel)) rfl
theorem q491 : Cond.methodLink RX8 91 yX4_readInto ∈ lw_g := lw_gm (List.mem_of_getElem? (i := 491) (by decide +kernel)) rfl
theorem q492 : Cond.instanceMethod yX4_readInto ∈ lw_g := lw_gm (List.mem_of_getElem? (i := 492) (by decide +kernel)) rfl
theorem q493 : Cond.selects RX4 yX4_readInto yX4_readInto ∈ lw_g := lw_gm (List.mem_of_getElem? (i := 493) (by decide +kernel)) rfl
theorem dX8_desk_0 : decode cX8_desk 0 = .ok (.aload_n 0, 1) := by decide +kernel
theorem dX8_desk_1 : decode cX8_desk 1 = .ok (.getfield 10, 3) := by decide +kernel
theorem dX8_desk_4 : decode cX8_desk 4 = .ok (.aload_n 0, 1) := by decide +kernel
theorem dX8_desk_5 : decode cX8_desk 5 = .ok (.getfield 23, 3) := by decide +kernel
theorem dX8_desk_8 : decode cX8_desk 8 = .ok (.invokevirtual 91, 3) := by decide +kernel
theorem dX8_desk_11 : decode cX8_desk 11 = .ok (.ifCond .ne 6, 3) := by decide +kernel
theorem dX8_desk_17 : decode cX8_desk 17 = .ok (.aload_n 0, 1) := by decide +kernel
theorem dX8_desk_18 : decode cX8_desk 18 = .ok (.getfield 19, 3) := by decide +kernel
theorem dX8_desk_21 : decode cX8_desk 21 = .ok (.astore_n 1, 1) := by decide +kernel
theorem dX8_desk_22 : decode cX8_desk 22 = .ok (.aload_n 0, 1) := by decide +kernel
theorem dX8_desk_23 : decode cX8_desk 23 = .ok (.aload_n 0, 1) := by decide +kernel
theorem dX8_desk_24 : decode cX8_desk 24 = .ok (.getfield 23, 3) := by decide +kernel
theorem dX8_desk_27 : decode cX8_desk 27 = .ok (.putfield 19, 3) := by decide +kernel
theorem dX8_desk_30 : decode cX8_desk 30 = .ok (.aload_n 0, 1) := by decide +kernel
theorem dX8_desk_31 : decode cX8_desk 31 = .ok (.aload_n 1, 1) := by decide +kernel
theorem dX8_desk_32 : decode cX8_desk 32 = .ok (.putfield 23, 3) := by decide +kernel
theorem dX8_desk_35 : decode cX8_desk 35 = .ok (.aload_n 0, 1) := by decide +kernel
theorem dX8_desk_36 : decode cX8_desk 36 = .ok (.getfield 10, 3) := by decide +kernel
theorem dX8_desk_39 : decode cX8_desk 39 = .ok (.iconst 0, 1) := by decide +kernel
theorem dX8_desk_40 : decode cX8_desk 40 = .ok (.putfield 87, 3) := by decide +kernel
theorem dX8_desk_43 : decode cX8_desk 43 = .ok (.aload_n 0, 1) := by decide +kernel
theorem dX8_desk_44 : decode cX8_desk 44 = .ok (.getfield 19, 3) := by decide +kernel
theorem dX8_desk_47 : decode cX8_desk 47 = .ok (.getfield 95, 3) := by decide +kernel
theorem dX8_desk_50 : decode cX8_desk 50 = .ok (.ireturn, 1) := by decide +kernel
set_option maxHeartbeats 4000000 in
set_option maxRecDepth 100000 in
theorem c_X8_desk (l : Launch) (D : va_G) (cy : Nat → ClassId) (g : Nat → Nat) (sz : Nat) : Met l yX8_desk (ww yX8_desk cX8_desk 2 (some .int)) ({ frames := 4, cells := 0, slots := 0, locals := 256 }) (va_Pc [.ref (g 0)] (pre D cy [(g 0, .inr (8, xF g)), (g 1, .inr (4, [.ref (g 2), .int 0, .int 0, .int (-1), .int 0, .int 0, .int 0, .int 0])), (g 3, .inr (0, [.int 0, .int 0, .int 0, .int 0, .int 0, .int 0, .ref (g 4), .ref (g 5), .ref (g 6), .ref (g 7)])), (g 8, .inr (0, [.int 0, .int 0, .int 0, .int 0, .int 0, .int 0, .ref (g 40), .ref (g 41), .ref (g 42), .ref (g 43)]))] sz)) (qi D cy (va_A [(g 0, .inr (8, xF g)), (g 1, .inr (4, [.ref (g 2), .int 0, .int 0, .int (-1), .int 0, .int 0, .int 0, .int 0])), (g 3, .inr (0, [.int 0, .int 0, .int 0, .int 0, .int 0, .int 0, .ref (g 4), .ref (g 5), .ref (g 6), .ref (g 7)])), (g 8, .inr (0, [.int 0, .int 0, .int 0, .int 0, .int 0, .int 0, .ref (g 40), .ref (g 41), .ref (g 42), .ref (g 43)]))] sz) (fun (r : Int32) (_ : Unit) => r = 0) (fun (_ : Unit) => [])) 0 0 (va_A [(g 0, .inr (8, xF g)), (g 1, .inr (4, [.ref (g 2), .int 0, .int 0, .int (-1), .int 0, .int 0, .int 0, .int 0])), (g 3, .inr (0, [.int 0, .int 0, .int 0, .int 0, .int 0, .int 0, .ref (g 4), .ref (g 5), .ref (g 6), .ref (g 7)])), (g 8, .inr (0, [.int 0, .int 0, .int 0, .int 0, .int 0, .int 0, .ref (g 40), .ref (g 41), .ref (g 42), .ref (g 43)]))] sz) := by
  refine Met.ofW (cc := cX8_desk) (maxL := 2) (ret := (some .int)) (by decide) rfl ?_
  intro p e s m args below meth c s₁ B hml hv
  obtain ⟨rfl, hsz, hP, hK, hD0⟩ := hv
  have hx := B.exec
  have hb := B.bytes
  have hr := B.returns
  have hts := hts_g (atoms_spec (ws := ww yX8_desk cX8_desk 2 (some .int)) B.pre)
  have hown : s.vm.findClass RX8 = some m.cls := findClass_of_methodNamed B.named
  have hlocks := B.notSynchronized
  subst hsz
  have hD := hD0.self (sz := s.heap.size)
  generalize hAe : va_A [(g 0, .inr (8, xF g)), (g 1, .inr (4, [.ref (g 2), .int 0, .int 0, .int (-1), .int 0, .int 0, .int 0, .int 0])), (g 3, .inr (0, [.int 0, .int 0, .int 0, .int 0, .int 0, .int 0, .ref (g 4), .ref (g 5), .ref (g 6), .ref (g 7)])), (g 8, .inr (0, [.int 0, .int 0, .int 0, .int 0, .int 0, .int 0, .ref (g 40), .ref (g 41), .ref (g 42), .ref (g 43)]))] s.heap.size = A at hD ⊢
  have hA : ∀ q : Nat, s.heap.size ≤ q → A q := fun q h => by rw [← hAe]; exact Or.inr h
  have hS : va_S A s.heap s.heap [] := va_S.rf
  have hl := lv_entry ([.ref (g 0)]) (n := 2) (Nat.le_of_ble_eq_true rfl)
  rw [lg_entry_eq]
  generalize (lg_sl ([.ref (g 0)]) ++ List.replicate (2 - (lg_sl ([.ref (g 0)])).length) Slot.unset).toArray = ls at hl ⊢
  have hl : lv_has ls 2 [(0, .ref (g 0))] := hl
  refine lv_aload_n hx hb dX8_desk_0 rfl (lv_at hl 0 rfl) ?_
  refine va_get (D := D) (ci := 8) (v := .ref (g 1)) (C := RX8) (T := TX8) (N := 12) hx hb hts iX8 hown hK hP 0 rfl rfl 0 (by decide) (hts _ q434) (fun _ h9 => h9) rfl dX8_desk_1 ?_
  refine lv_aload_n hx hb dX8_desk_4 rfl (lv_at hl 0 rfl) ?_
  refine va_get (D := D) (ci := 8) (v := .ref (g 8)) (C := RX8) (T := TX8) (N := 12) hx hb hts iX8 hown hK hP 0 rfl rfl 2 (by decide) (hts _ q436) (fun _ h9 => h9) rfl dX8_desk_5 ?_
  have hPc := hP.sub (ws' := [(g 1, .inr (4, [.ref (g 2), .int 0, .int 0, .int (-1), .int 0, .int 0, .int 0, .int 0])), (g 8, .inr (0, [.int 0, .int 0, .int 0, .int 0, .int 0, .int 0, .ref (g 40), .ref (g 41), .ref (g 42), .ref (g 43)]))]) [1, 3] rfl
  have hDc := hD.sub (ws' := [(g 1, .inr (4, [.ref (g 2), .int 0, .int 0, .int (-1), .int 0, .int 0, .int 0, .int 0])), (g 8, .inr (0, [.int 0, .int 0, .int 0, .int 0, .int 0, .int 0, .ref (g 40), .ref (g 41), .ref (g 42), .ref (g 43)]))]) [1, 3] (by decide) rfl
  have hFc := va_free (wc := [(g 1, .inr (4, [.ref (g 2), .int 0, .int 0, .int (-1), .int 0, .int 0, .int 0, .int 0])), (g 8, .inr (0, [.int 0, .int 0, .int 0, .int 0, .int 0, .int 0, .ref (g 40), .ref (g 41), .ref (g 42), .ref (g 43)]))]) hD hS hA [1, 3] rfl
  refine va_calli (va_runV (As := [.ref (g 8)]) (rest := []) ⟨hx, hb, hml, hown, hts⟩ (c_X4_readInto l D cy (g 1) (g 2) (g 8) (g 40) (g 41) (g 42) (g 43) s.heap.size) (cwV 1 hts (gd_V q491 q492 q493 q126 q494) rfl rfl rfl (by decide +kernel) ⟨Nat.le_of_ble_eq_true rfl, Nat.le_of_ble_eq_true rfl⟩) (pr_V hPc hK hDc (va_recv hK hPc (ci := 4) (q0 := 0) rfl rfl)) rfl rfl hl.1 rfl (lv_room (Nat.le_of_ble_eq_true rfl)) dX8_desk_8 ⟨Nat.le_of_ble_eq_true rfl, Nat.le_of_ble_eq_true rfl⟩) hS (fun q _ h => hFc q h) hFc (fun r_1 u tS H1 locs ht hvm hw hB hz1 hk1 hS => ?_)
  obtain ⟨hP1, hK1, hD1⟩ := hB
  rw [ht] at hP1
  try dsimp only at hw
  obtain ⟨hP, hD⟩ := va_join (wr := [(g 0, .inr (8, xF g)), (g 3, .inr (0, [.int 0, .int 0, .int 0, .int 0, .int 0, .int 0, .ref (g 4), .ref (g 5), .ref (g 6), .ref (g 7)]))]) (w1 := [(g 1, .inr (4, [.ref (g 2), .int 0, .int 0, .int (-1), .int 0, .int 0, .int 0, .int 0])), (g 8, .inr (0, [.int 0, .int 0, .int 0, .int 0, .int 0, .int 0, .ref (g 40), .ref (g 41), .ref (g 42), .ref (g 43)]))]) hP hD [1, 3] [0, 2] rfl rfl (by decide) (by decide) hk1 hFc hP1 hD1
  generalize H1 = H at hP hS ⊢
  have hP : va_P D clz [(g 0, .inr (8, xF g)), (g 3, .inr (0, [.int 0, .int 0, .int 0, .int 0, .int 0, .int 0, .ref (g 4), .ref (g 5), .ref (g 6), .ref (g 7)])), (g 1, .inr (4, [.ref (g 2), .int 0, .int 0, .int (-1), .int 0, .int 0, .int 0, .int 0])), (g 8, .inr (0, [.int 0, .int 0, .int 0, .int 0, .int 0, .int 0, .ref (g 40), .ref (g 41), .ref (g 42), .ref (g 43)]))] H := hP
  have hD : va_D A [(g 0, .inr (8, xF g)), (g 3, .inr (0, [.int 0, .int 0, .int 0, .int 0, .int 0, .int 0, .ref (g 4), .ref (g 5), .ref (g 6), .ref (g 7)])), (g 1, .inr (4, [.ref (g 2), .int 0, .int 0, .int (-1), .int 0, .int 0, .int 0, .int 0])), (g 8, .inr (0, [.int 0, .int 0, .int 0, .int 0, .int 0, .int 0, .ref (g 40), .ref (g 41), .ref (g 42), .ref (g 43)]))] := hD
  subst hw
  refine lv_if_ne (tgt := 17) hx hb dX8_desk_11 (by decide) (fun _ => ?_) (fun c9 => absurd c9 (by decide))
  refine lv_aload_n hx hb dX8_desk_17 rfl (lv_at hl 0 rfl) ?_
  refine va_get (D := D) (ci := 8) (v := .ref (g 3)) (C := RX8) (T := TX8) (N := 12) hx hb hts iX8 hown hK hP 0 rfl rfl 1 (by decide) (hts _ q435) (fun _ h9 => h9) rfl dX8_desk_18 ?_
  refine lv_astore_n (lv' := [(1, .ref (g 3)), (0, .ref (g 0))]) hx hb dX8_desk_21 rfl hl (by decide) rfl (fun ls hl => ?_)
  refine lv_aload_n hx hb dX8_desk_22 rfl (lv_at hl 1 rfl) ?_
  refine lv_aload_n hx hb dX8_desk_23 rfl (lv_at hl 1 rfl) ?_
  refine va_get (D := D) (ci := 8) (v := .ref (g 8)) (C := RX8) (T := TX8) (N := 12) hx hb hts iX8 hown hK hP 0 rfl rfl 2 (by decide) (hts _ q436) (fun _ h9 => h9) rfl dX8_desk_24 ?_
  refine va_put (D := D) (ci := 8) (v := .ref (g 8)) (ty := .object "LipsAndSlides$Desk") (C := RX8) (T := TX8) (N := 12) hx hb hts iX8 tyX8 tyX8_ok nmX8 hown hK hP hD hS 0 rfl rfl 1 (by decide) (hts _ q435) (fun _ h9 => h9) rfl (by decide +kernel) rfl rfl (Nat.le_of_ble_eq_true rfl) dX8_desk_27 (fun H locs hP hD hS => ?_)
  have hP : va_P D clz [(g 0, .inr (8, [.ref (g 1), .ref (g 8), .ref (g 8), .ref (g 9), .ref (g 25), .ref (g 26), .ref (g 35), .ref (g 36), .ref (g 37), .ref (g 38), .ref (g 39), .ref (g 44)])), (g 3, .inr (0, [.int 0, .int 0, .int 0, .int 0, .int 0, .int 0, .ref (g 4), .ref (g 5), .ref (g 6), .ref (g 7)])), (g 1, .inr (4, [.ref (g 2), .int 0, .int 0, .int (-1), .int 0, .int 0, .int 0, .int 0])), (g 8, .inr (0, [.int 0, .int 0, .int 0, .int 0, .int 0, .int 0, .ref (g 40), .ref (g 41), .ref (g 42), .ref (g 43)]))] H := hP
  have hD : va_D A [(g 0, .inr (8, [.ref (g 1), .ref (g 8), .ref (g 8), .ref (g 9), .ref (g 25), .ref (g 26), .ref (g 35), .ref (g 36), .ref (g 37), .ref (g 38), .ref (g 39), .ref (g 44)])), (g 3, .inr (0, [.int 0, .int 0, .int 0, .int 0, .int 0, .int 0, .ref (g 4), .ref (g 5), .ref (g 6), .ref (g 7)])), (g 1, .inr (4, [.ref (g 2), .int 0, .int 0, .int (-1), .int 0, .int 0, .int 0, .int 0])), (g 8, .inr (0, [.int 0, .int 0, .int 0, .int 0, .int 0, .int 0, .ref (g 40), .ref (g 41), .ref (g 42), .ref (g 43)]))] := hD
  refine lv_aload_n hx hb dX8_desk_30 rfl (lv_at hl 1 rfl) ?_
  refine lv_aload_n hx hb dX8_desk_31 rfl (lv_at hl 0 rfl) ?_
  refine va_put (D := D) (ci := 8) (v := .ref (g 3)) (ty := .object "LipsAndSlides$Desk") (C := RX8) (T := TX8) (N := 12) hx hb hts iX8 tyX8 tyX8_ok nmX8 hown hK hP hD hS 0 rfl rfl 2 (by decide) (hts _ q436) (fun _ h9 => h9) rfl (by decide +kernel) rfl rfl (Nat.le_of_ble_eq_true rfl) dX8_desk_32 (fun H locs hP hD hS => ?_)
  have hP : va_P D clz [(g 0, .inr (8, [.ref (g 1), .ref (g 8), .ref (g 3), .ref (g 9), .ref (g 25), .ref (g 26), .ref (g 35), .ref (g 36), .ref (g 37), .ref (g 38), .ref (g 39), .ref (g 44)])), (g 3, .inr (0, [.int 0, .int 0, .int 0, .int 0, .int 0, .int 0, .ref (g 4), .ref (g 5), .ref (g 6), .ref (g 7)])), (g 1, .inr (4, [.ref (g 2), .int 0, .int 0, .int (-1), .int 0, .int 0, .int 0, .int 0])), (g 8, .inr (0, [.int 0, .int 0, .int 0, .int 0, .int 0, .int 0, .ref (g 40), .ref (g 41), .ref (g 42), .ref (g 43)]))] H := hP
  have hD : va_D A [(g 0, .inr (8, [.ref (g 1), .ref (g 8), .ref (g 3), .ref (g 9), .ref (g 25), .ref (g 26), .ref (g 35), .ref (g 36), .ref (g 37), .ref (g 38), .ref (g 39), .ref (g 44)])), (g 3, .inr (0, [.int 0, .int 0, .int 0, .int 0, .int 0, .int 0, .ref (g 4), .ref (g 5), .ref (g 6), .ref (g 7)])), (g 1, .inr (4, [.ref (g 2), .int 0, .int 0, .int (-1), .int 0, .int 0, .int 0, .int 0])), (g 8, .inr (0, [.int 0, .int 0, .int 0, .int 0, .int 0, .int 0, .ref (g 40), .ref (g 41), .ref (g 42), .ref (g 43)]))] := hD
  refine lv_aload_n hx hb dX8_desk_35 rfl (lv_at hl 1 rfl) ?_
  refine va_get (D := D) (ci := 8) (v := .ref (g 1)) (C := RX8) (T := TX8) (N := 12) hx hb hts iX8 hown hK hP 0 rfl rfl 0 (by decide) (hts _ q434) (fun _ h9 => h9) rfl dX8_desk_36 ?_
  refine lv_iconst (v := 0) hx hb dX8_desk_39 (by decide) ?_
  refine va_put (D := D) (ci := 4) (v := .int 0) (ty := .int) (C := RX4) (T := TX4) (N := 8) hx hb hts iX4 tyX4 tyX4_ok nmX4 hown hK hP hD hS 2 rfl rfl 1 (by decide) (hts _ q159) (fun _ h9 => h9) rfl (by decide +kernel) rfl rfl (Nat.le_of_ble_eq_true rfl) dX8_desk_40 (fun H locs hP hD hS => ?_)
  have hP : va_P D clz [(g 0, .inr (8, [.ref (g 1), .ref (g 8), .ref (g 3), .ref (g 9), .ref (g 25), .ref (g 26), .ref (g 35), .ref (g 36), .ref (g 37), .ref (g 38), .ref (g 39), .ref (g 44)])), (g 3, .inr (0, [.int 0, .int 0, .int 0, .int 0, .int 0, .int 0, .ref (g 4), .ref (g 5), .ref (g 6), .ref (g 7)])), (g 1, .inr (4, [.ref (g 2), .int 0, .int 0, .int (-1), .int 0, .int 0, .int 0, .int 0])), (g 8, .inr (0, [.int 0, .int 0, .int 0, .int 0, .int 0, .int 0, .ref (g 40), .ref (g 41), .ref (g 42), .ref (g 43)]))] H := hP
  have hD : va_D A [(g 0, .inr (8, [.ref (g 1), .ref (g 8), .ref (g 3), .ref (g 9), .ref (g 25), .ref (g 26), .ref (g 35), .ref (g 36), .ref (g 37), .ref (g 38), .ref (g 39), .ref (g 44)])), (g 3, .inr (0, [.int 0, .int 0, .int 0, .int 0, .int 0, .int 0, .ref (g 4), .ref (g 5), .ref (g 6), .ref (g 7)])), (g 1, .inr (4, [.ref (g 2), .int 0, .int 0, .int (-1), .int 0, .int 0, .int 0, .int 0])), (g 8, .inr (0, [.int 0, .int 0, .int 0, .int 0, .int 0, .int 0, .ref (g 40), .ref (g 41), .ref (g 42), .ref (g 43)]))] := hD
  refine lv_aload_n hx hb dX8_desk_43 rfl (lv_at hl 1 rfl) ?_
  refine va_get (D := D) (ci := 8) (v := .ref (g 8)) (C := RX8) (T := TX8) (N := 12) hx hb hts iX8 hown hK hP 0 rfl rfl 1 (by decide) (hts _ q435) (fun _ h9 => h9) rfl dX8_desk_44 ?_
  refine va_get (D := D) (ci := 0) (v := .int 0) (C := RX0) (T := TX0) (N := 10) hx hb hts iX0 hown hK hP 3 rfl rfl 2 (by decide) (hts _ q200) (fun _ h9 => h9) rfl dX8_desk_47 ?_
  have hP9 := hP.sub (ws' := []) [] rfl
  have hD9 := hD.sub (ws' := []) [] (by decide) rfl
  exact W.iret (v := 0) hx hb hr (fun tS ht hW => ⟨⟨0, (), rfl, rfl, by rw [ht]; exact hP9, va_K.moved hW.alike hK, hD9⟩, hS.F ht⟩) hS.2.2 dX8_desk_50

theorem q693 : Cond.code yX8_count cX8_count 2 (some .int) ∈ lw_g := lw_gm (List.mem_of_getElem? (i := 693) (by decide +kernel)) rfl
theorem q194 : Cond.fieldLink RX8 104 "LipsAndSlides$Desk" "cents" "I" ∈ lw_g := lw_gm (List.mem_of_getElem? (i := 194) (by decide +kernel)) rfl
theorem q198 : Cond.fieldLink RX8 107 "LipsAndSlides$Desk" "highest" "I" ∈ lw_g := lw_gm (List.mem_of_getElem? (i := 198) (by decide +kernel)) rfl
theorem q204 : Cond.fieldLink RX8 110 "LipsAndSlides$Desk" "brasses" "I" ∈ lw_g := lw_gm (List.mem_of_getElem? (i := 204) (by decide +kernel)) rfl
theorem q211 : Cond.fieldLink RX8 116 "LipsAndSlides$Desk" "parts" "I" ∈ lw_g := lw_gm (List.mem_of_getElem? (i := 211) (by decide +kernel)) rfl
theorem q694 : Cond.methodLink RX8 119 yX8_rowsThere ∈ lw_g := lw_gm (List.mem_of_getElem? (i := 694) (by decide +kernel)) rfl
theorem q696 : Cond.instanceMethod yX8_rowsThere ∈ lw_g := lw_gm (List.mem_of_getElem? (i := 696) (by decide +kernel)) rfl
theorem q13 : Cond.selects RX8 yX8_rowsThere yX8_rowsThere ∈ lw_g := lw_gm (List.mem_of_getElem? (i := 13) (by decide +kernel)) rfl
theorem dX8_count_0 : decode cX8_count 0 = .ok (.iload_n 1, 1) := by decide +kernel
theorem dX8_count_1 : decode cX8_count 1 = .ok (.tableswitch 108 0 7 #[47, 55, 63, 71, 79, 87, 95, 103], 47) := by decide +kernel
theorem dX8_count_48 : decode cX8_count 48 = .ok (.aload_n 0, 1) := by decide +kernel
theorem dX8_count_49 : decode cX8_count 49 = .ok (.getfield 19, 3) := by decide +kernel
theorem dX8_count_52 : decode cX8_count 52 = .ok (.getfield 104, 3) := by decide +kernel
theorem dX8_count_55 : decode cX8_count 55 = .ok (.ireturn, 1) := by decide +kernel
theorem dX8_count_56 : decode cX8_count 56 = .ok (.aload_n 0, 1) := by decide +kernel
theorem dX8_count_57 : decode cX8_count 57 = .ok (.getfield 19, 3) := by decide +kernel
theorem dX8_count_60 : decode cX8_count 60 = .ok (.getfield 107, 3) := by decide +kernel
theorem dX8_count_63 : decode cX8_count 63 = .ok (.ireturn, 1) := by decide +kernel
theorem dX8_count_64 : decode cX8_count 64 = .ok (.aload_n 0, 1) := by decide +kernel
theorem dX8_count_65 : decode cX8_count 65 = .ok (.getfield 19, 3) := by decide +kernel
theorem dX8_count_68 : decode cX8_count 68 = .ok (.getfield 110, 3) := by decide +kernel
theorem dX8_count_71 : decode cX8_count 71 = .ok (.ireturn, 1) := by decide +kernel
theorem dX8_count_72 : decode cX8_count 72 = .ok (.aload_n 0, 1) := by decide +kernel
theorem dX8_count_73 : decode cX8_count 73 = .ok (.getfield 19, 3) := by decide +kernel
theorem dX8_count_76 : decode cX8_count 76 = .ok (.getfield 113, 3) := by decide +kernel
theorem dX8_count_79 : decode cX8_count 79 = .ok (.ireturn, 1) := by decide +kernel
theorem dX8_count_80 : decode cX8_count 80 = .ok (.aload_n 0, 1) := by decide +kernel
theorem dX8_count_81 : decode cX8_count 81 = .ok (.getfield 19, 3) := by decide +kernel
theorem dX8_count_84 : decode cX8_count 84 = .ok (.getfield 116, 3) := by decide +kernel
theorem dX8_count_87 : decode cX8_count 87 = .ok (.ireturn, 1) := by decide +kernel
theorem dX8_count_88 : decode cX8_count 88 = .ok (.aload_n 0, 1) := by decide +kernel
theorem dX8_count_89 : decode cX8_count 89 = .ok (.getfield 19, 3) := by decide +kernel
theorem dX8_count_92 : decode cX8_count 92 = .ok (.getfield 95, 3) := by decide +kernel
theorem dX8_count_95 : decode cX8_count 95 = .ok (.ireturn, 1) := by decide +kernel
theorem dX8_count_96 : decode cX8_count 96 = .ok (.aload_n 0, 1) := by decide +kernel
theorem dX8_count_97 : decode cX8_count 97 = .ok (.getfield 10, 3) := by decide +kernel
theorem dX8_count_100 : decode cX8_count 100 = .ok (.getfield 87, 3) := by decide +kernel
theorem dX8_count_103 : decode cX8_count 103 = .ok (.ireturn, 1) := by decide +kernel
theorem dX8_count_104 : decode cX8_count 104 = .ok (.aload_n 0, 1) := by decide +kernel
theorem dX8_count_105 : decode cX8_count 105 = .ok (.invokevirtual 119, 3) := by decide +kernel
theorem dX8_count_108 : decode cX8_count 108 = .ok (.ireturn, 1) := by decide +kernel
theorem dX8_count_109 : decode cX8_count 109 = .ok (.iconst (-1), 1) := by decide +kernel
theorem dX8_count_110 : decode cX8_count 110 = .ok (.ireturn, 1) := by decide +kernel
set_option maxHeartbeats 4000000 in
set_option maxRecDepth 100000 in
theorem c_X8_count (l : Launch) (D : va_G) (cy : Nat → ClassId) (g : Nat → Nat) (p1 : Int32) (sz : Nat) : Met l yX8_count (ww yX8_count cX8_count 2 (some .int)) ({ frames := 2, cells := 0, slots := 0, locals := 128 }) (va_Pc [.ref (g 0), .int p1] (pre D cy [(g 0, .inr (8, xF g)), (g 1, .inr (4, [.ref (g 2), .int 0, .int 0, .int (-1), .int 0, .int 0, .int 0, .int 0])), (g 3, .inr (0, [.int 0, .int 0, .int 0, .int 0, .int 0, .int 0, .ref (g 4), .ref (g 5), .ref (g 6), .ref (g 7)])), (g 26, .inl (cy 5, 4, .inr (.inr (.inr (.inr (va_up (va_up (va_up (va_up (fun _ => none) 0 (some (g 27))) 1 (some (g 29))) 2 (some (g 31))) 3 (some (g 33)))))))), (g 27, .inr (5, [.int 0, .int 0, .int 0, .ref (g 28)])), (g 29, .inr (5, [.int 0, .int 0, .int 0, .ref (g 30)])), (g 31, .inr (5, [.int 0, .int 0, .int 0, .ref (g 32)])), (g 33, .inr (5, [.int 0, .int 0, .int 0, .ref (g 34)]))] sz)) (qi D cy (va_A [(g 0, .inr (8, xF g)), (g 1, .inr (4, [.ref (g 2), .int 0, .int 0, .int (-1), .int 0, .int 0, .int 0, .int 0])), (g 3, .inr (0, [.int 0, .int 0, .int 0, .int 0, .int 0, .int 0, .ref (g 4), .ref (g 5), .ref (g 6), .ref (g 7)])), (g 26, .inl (cy 5, 4, .inr (.inr (.inr (.inr (va_up (va_up (va_up (va_up (fun _ => none) 0 (some (g 27))) 1 (some (g 29))) 2 (some (g 31))) 3 (some (g 33)))))))), (g 27, .inr (5, [.int 0, .int 0, .int 0, .ref (g 28)])), (g 29, .inr (5, [.int 0, .int 0, .int 0, .ref (g 30)])), (g 31, .inr (5, [.int 0, .int 0, .int 0, .ref (g 32)])), (g 33, .inr (5, [.int 0, .int 0, .int 0, .ref (g 34)]))] sz) (fun (r : Int32) (_ : Unit) => r = sp_count p1) (fun (_ : Unit) => [(g 0, .inr (8, xF g)), (g 1, .inr (4, [.ref (g 2), .int 0, .int 0, .int (-1), .int 0, .int 0, .int 0, .int 0])), (g 3, .inr (0, [.int 0, .int 0, .int 0, .int 0, .int 0, .int 0, .ref (g 4), .ref (g 5), .ref (g 6), .ref (g 7)])), (g 26, .inl (cy 5, 4, .inr (.inr (.inr (.inr (va_up (va_up (va_up (va_up (fun _ => none) 0 (some (g 27))) 1 (some (g 29))) 2 (some (g 31))) 3 (some (g 33)))))))), (g 27, .inr (5, [.int 0, .int 0, .int 0, .ref (g 28)])), (g 29, .inr (5, [.int 0, .int 0, .int 0, .ref (g 30)])), (g 31, .inr (5, [.int 0, .int 0, .int 0, .ref (g 32)])), (g 33, .inr (5, [.int 0, .int 0, .int 0, .ref (g 34)]))])) 0 0 (va_A [(g 0, .inr (8, xF g)), (g 1, .inr (4, [.ref (g 2), .int 0, .int 0, .int (-1), .int 0, .int 0, .int 0, .int 0])), (g 3, .inr (0, [.int 0, .int 0, .int 0, .int 0, .int 0, .int 0, .ref (g 4), .ref (g 5), .ref (g 6), .ref (g 7)])), (g 26, .inl (cy 5, 4, .inr (.inr (.inr (.inr (va_up (va_up (va_up (va_up (fun _ => none) 0 (some (g 27))) 1 (some (g 29))) 2 (some (g 31))) 3 (some (g 33)))))))), (g 27, .inr (5, [.int 0, .int 0, .int 0, .ref (g 28)])), (g 29, .inr (5, [.int 0, .int 0, .int 0, .ref (g 30)])), (g 31, .inr (5, [.int 0, .int 0, .int 0, .ref (g 32)])), (g 33, .inr (5, [.int 0, .int 0, .int 0, .ref (g 34)]))] sz) := by
  refine Met.ofW (cc := cX8_count) (maxL := 2) (ret := (some .int)) (by decide) rfl ?_
  intro p e s m args below meth c s₁ B hml hv
  obtain ⟨rfl, hsz, hP, hK, hD0⟩ := hv
  have hx := B.exec
  have hb := B.bytes
  have hr := B.returns
  have hts := hts_g (atoms_spec (ws := ww yX8_count cX8_count 2 (some .int)) B.pre)
  have hown : s.vm.findClass RX8 = some m.cls := findClass_of_methodNamed B.named
  have hlocks := B.notSynchronized
  subst hsz
  have hD := hD0.self (sz := s.heap.size)
  generalize hAe : va_A [(g 0, .inr (8, xF g)), (g 1, .inr (4, [.ref (g 2), .int 0, .int 0, .int (-1), .int 0, .int 0, .int 0, .int 0])), (g 3, .inr (0, [.int 0, .int 0, .int 0, .int 0, .int 0, .int 0, .ref (g 4), .ref (g 5), .ref (g 6), .ref (g 7)])), (g 26, .inl (cy 5, 4, .inr (.inr (.inr (.inr (va_up (va_up (va_up (va_up (fun _ => none) 0 (some (g 27))) 1 (some (g 29))) 2 (some (g 31))) 3 (some (g 33)))))))), (g 27, .inr (5, [.int 0, .int 0, .int 0, .ref (g 28)])), (g 29, .inr (5, [.int 0, .int 0, .int 0, .ref (g 30)])), (g 31, .inr (5, [.int 0, .int 0, .int 0, .ref (g 32)])), (g 33, .inr (5, [.int 0, .int 0, .int 0, .ref (g 34)]))] s.heap.size = A at hD ⊢
  have hA : ∀ q : Nat, s.heap.size ≤ q → A q := fun q h => by rw [← hAe]; exact Or.inr h
  have hS : va_S A s.heap s.heap [] := va_S.rf
  have hl := lv_entry ([.ref (g 0), .int p1]) (n := 2) (Nat.le_of_ble_eq_true rfl)
  rw [lg_entry_eq]
  generalize (lg_sl ([.ref (g 0), .int p1]) ++ List.replicate (2 - (lg_sl ([.ref (g 0), .int p1])).length) Slot.unset).toArray = ls at hl ⊢
  have hl : lv_has ls 2 [(0, .ref (g 0)), (1, .int p1)] := hl
  rcases sp8 p1 with rfl | rfl | rfl | rfl | rfl | rfl | rfl | rfl | hs_1
  ·
    refine lv_iload_n hx hb dX8_count_0 rfl (lv_at hl 1 rfl) ?_
    refine lv_tableIn (off := 47) (tgt := 48) hx hb dX8_count_1 (by decide) (by decide) (by decide) (by decide) ?_
    refine lv_aload_n hx hb dX8_count_48 rfl (lv_at hl 0 rfl) ?_
    refine va_get (D := D) (ci := 8) (v := .ref (g 3)) (C := RX8) (T := TX8) (N := 12) hx hb hts iX8 hown hK hP 0 rfl rfl 1 (by decide) (hts _ q435) (fun _ h9 => h9) rfl dX8_count_49 ?_
    refine va_get (D := D) (ci := 0) (v := .int 0) (C := RX0) (T := TX0) (N := 10) hx hb hts iX0 hown hK hP 2 rfl rfl 0 (by decide) (hts _ q194) (fun _ h9 => h9) rfl dX8_count_52 ?_
    have hP9 := hP.sub (ws' := [(g 0, .inr (8, xF g)), (g 1, .inr (4, [.ref (g 2), .int 0, .int 0, .int (-1), .int 0, .int 0, .int 0, .int 0])), (g 3, .inr (0, [.int 0, .int 0, .int 0, .int 0, .int 0, .int 0, .ref (g 4), .ref (g 5), .ref (g 6), .ref (g 7)])), (g 26, .inl (cy 5, 4, .inr (.inr (.inr (.inr (va_up (va_up (va_up (va_up (fun _ => none) 0 (some (g 27))) 1 (some (g 29))) 2 (some (g 31))) 3 (some (g 33)))))))), (g 27, .inr (5, [.int 0, .int 0, .int 0, .ref (g 28)])), (g 29, .inr (5, [.int 0, .int 0, .int 0, .ref (g 30)])), (g 31, .inr (5, [.int 0, .int 0, .int 0, .ref (g 32)])), (g 33, .inr (5, [.int 0, .int 0, .int 0, .ref (g 34)]))]) [0, 1, 2, 3, 4, 5, 6, 7] rfl
    have hD9 := hD.sub (ws' := [(g 0, .inr (8, xF g)), (g 1, .inr (4, [.ref (g 2), .int 0, .int 0, .int (-1), .int 0, .int 0, .int 0, .int 0])), (g 3, .inr (0, [.int 0, .int 0, .int 0, .int 0, .int 0, .int 0, .ref (g 4), .ref (g 5), .ref (g 6), .ref (g 7)])), (g 26, .inl (cy 5, 4, .inr (.inr (.inr (.inr (va_up (va_up (va_up (va_up (fun _ => none) 0 (some (g 27))) 1 (some (g 29))) 2 (some (g 31))) 3 (some (g 33)))))))), (g 27, .inr (5, [.int 0, .int 0, .int 0, .ref (g 28)])), (g 29, .inr (5, [.int 0, .int 0, .int 0, .ref (g 30)])), (g 31, .inr (5, [.int 0, .int 0, .int 0, .ref (g 32)])), (g 33, .inr (5, [.int 0, .int 0, .int 0, .ref (g 34)]))]) [0, 1, 2, 3, 4, 5, 6, 7] (by decide) rfl
    exact W.iret (v := 0) hx hb hr (fun tS ht hW => ⟨⟨0, (), rfl, (by have z320 : (0 : Int32).toInt = 0 := (by decide); unfold sp_count; (repeat' split) <;> first | rfl | (exfalso; omega)), by rw [ht]; exact hP9, va_K.moved hW.alike hK, hD9⟩, hS.F ht⟩) hS.2.2 dX8_count_55
  ·
    refine lv_iload_n hx hb dX8_count_0 rfl (lv_at hl 1 rfl) ?_
    refine lv_tableIn (off := 55) (tgt := 56) hx hb dX8_count_1 (by decide) (by decide) (by decide) (by decide) ?_
    refine lv_aload_n hx hb dX8_count_56 rfl (lv_at hl 0 rfl) ?_
    refine va_get (D := D) (ci := 8) (v := .ref (g 3)) (C := RX8) (T := TX8) (N := 12) hx hb hts iX8 hown hK hP 0 rfl rfl 1 (by decide) (hts _ q435) (fun _ h9 => h9) rfl dX8_count_57 ?_
    refine va_get (D := D) (ci := 0) (v := .int 0) (C := RX0) (T := TX0) (N := 10) hx hb hts iX0 hown hK hP 2 rfl rfl 1 (by decide) (hts _ q198) (fun _ h9 => h9) rfl dX8_count_60 ?_
    have hP9 := hP.sub (ws' := [(g 0, .inr (8, xF g)), (g 1, .inr (4, [.ref (g 2), .int 0, .int 0, .int (-1), .int 0, .int 0, .int 0, .int 0])), (g 3, .inr (0, [.int 0, .int 0, .int 0, .int 0, .int 0, .int 0, .ref (g 4), .ref (g 5), .ref (g 6), .ref (g 7)])), (g 26, .inl (cy 5, 4, .inr (.inr (.inr (.inr (va_up (va_up (va_up (va_up (fun _ => none) 0 (some (g 27))) 1 (some (g 29))) 2 (some (g 31))) 3 (some (g 33)))))))), (g 27, .inr (5, [.int 0, .int 0, .int 0, .ref (g 28)])), (g 29, .inr (5, [.int 0, .int 0, .int 0, .ref (g 30)])), (g 31, .inr (5, [.int 0, .int 0, .int 0, .ref (g 32)])), (g 33, .inr (5, [.int 0, .int 0, .int 0, .ref (g 34)]))]) [0, 1, 2, 3, 4, 5, 6, 7] rfl
    have hD9 := hD.sub (ws' := [(g 0, .inr (8, xF g)), (g 1, .inr (4, [.ref (g 2), .int 0, .int 0, .int (-1), .int 0, .int 0, .int 0, .int 0])), (g 3, .inr (0, [.int 0, .int 0, .int 0, .int 0, .int 0, .int 0, .ref (g 4), .ref (g 5), .ref (g 6), .ref (g 7)])), (g 26, .inl (cy 5, 4, .inr (.inr (.inr (.inr (va_up (va_up (va_up (va_up (fun _ => none) 0 (some (g 27))) 1 (some (g 29))) 2 (some (g 31))) 3 (some (g 33)))))))), (g 27, .inr (5, [.int 0, .int 0, .int 0, .ref (g 28)])), (g 29, .inr (5, [.int 0, .int 0, .int 0, .ref (g 30)])), (g 31, .inr (5, [.int 0, .int 0, .int 0, .ref (g 32)])), (g 33, .inr (5, [.int 0, .int 0, .int 0, .ref (g 34)]))]) [0, 1, 2, 3, 4, 5, 6, 7] (by decide) rfl
    exact W.iret (v := 0) hx hb hr (fun tS ht hW => ⟨⟨0, (), rfl, (by have z321 : (1 : Int32).toInt = 1 := (by decide); unfold sp_count; (repeat' split) <;> first | rfl | (exfalso; omega)), by rw [ht]; exact hP9, va_K.moved hW.alike hK, hD9⟩, hS.F ht⟩) hS.2.2 dX8_count_63
  ·
    refine lv_iload_n hx hb dX8_count_0 rfl (lv_at hl 1 rfl) ?_
    refine lv_tableIn (off := 63) (tgt := 64) hx hb dX8_count_1 (by decide) (by decide) (by decide) (by decide) ?_
    refine lv_aload_n hx hb dX8_count_64 rfl (lv_at hl 0 rfl) ?_
    refine va_get (D := D) (ci := 8) (v := .ref (g 3)) (C := RX8) (T := TX8) (N := 12) hx hb hts iX8 hown hK hP 0 rfl rfl 1 (by decide) (hts _ q435) (fun _ h9 => h9) rfl dX8_count_65 ?_
    refine va_get (D := D) (ci := 0) (v := .int 0) (C := RX0) (T := TX0) (N := 10) hx hb hts iX0 hown hK hP 2 rfl rfl 3 (by decide) (hts _ q204) (fun _ h9 => h9) rfl dX8_count_68 ?_
    have hP9 := hP.sub (ws' := [(g 0, .inr (8, xF g)), (g 1, .inr (4, [.ref (g 2), .int 0, .int 0, .int (-1), .int 0, .int 0, .int 0, .int 0])), (g 3, .inr (0, [.int 0, .int 0, .int 0, .int 0, .int 0, .int 0, .ref (g 4), .ref (g 5), .ref (g 6), .ref (g 7)])), (g 26, .inl (cy 5, 4, .inr (.inr (.inr (.inr (va_up (va_up (va_up (va_up (fun _ => none) 0 (some (g 27))) 1 (some (g 29))) 2 (some (g 31))) 3 (some (g 33)))))))), (g 27, .inr (5, [.int 0, .int 0, .int 0, .ref (g 28)])), (g 29, .inr (5, [.int 0, .int 0, .int 0, .ref (g 30)])), (g 31, .inr (5, [.int 0, .int 0, .int 0, .ref (g 32)])), (g 33, .inr (5, [.int 0, .int 0, .int 0, .ref (g 34)]))]) [0, 1, 2, 3, 4, 5, 6, 7] rfl
    have hD9 := hD.sub (ws' := [(g 0, .inr (8, xF g)), (g 1, .inr (4, [.ref (g 2), .int 0, .int 0, .int (-1), .int 0, .int 0, .int 0, .int 0])), (g 3, .inr (0, [.int 0, .int 0, .int 0, .int 0, .int 0, .int 0, .ref (g 4), .ref (g 5), .ref (g 6), .ref (g 7)])), (g 26, .inl (cy 5, 4, .inr (.inr (.inr (.inr (va_up (va_up (va_up (va_up (fun _ => none) 0 (some (g 27))) 1 (some (g 29))) 2 (some (g 31))) 3 (some (g 33)))))))), (g 27, .inr (5, [.int 0, .int 0, .int 0, .ref (g 28)])), (g 29, .inr (5, [.int 0, .int 0, .int 0, .ref (g 30)])), (g 31, .inr (5, [.int 0, .int 0, .int 0, .ref (g 32)])), (g 33, .inr (5, [.int 0, .int 0, .int 0, .ref (g 34)]))]) [0, 1, 2, 3, 4, 5, 6, 7] (by decide) rfl
    exact W.iret (v := 0) hx hb hr (fun tS ht hW => ⟨⟨0, (), rfl, (by have z322 : (2 : Int32).toInt = 2 := (by decide); unfold sp_count; (repeat' split) <;> first | rfl | (exfalso; omega)), by rw [ht]; exact hP9, va_K.moved hW.alike hK, hD9⟩, hS.F ht⟩) hS.2.2 dX8_count_71
  ·
    refine lv_iload_n hx hb dX8_count_0 rfl (lv_at hl 1 rfl) ?_
    refine lv_tableIn (off := 71) (tgt := 72) hx hb dX8_count_1 (by decide) (by decide) (by decide) (by decide) ?_
    refine lv_aload_n hx hb dX8_count_72 rfl (lv_at hl 0 rfl) ?_
    refine va_get (D := D) (ci := 8) (v := .ref (g 3)) (C := RX8) (T := TX8) (N := 12) hx hb hts iX8 hown hK hP 0 rfl rfl 1 (by decide) (hts _ q435) (fun _ h9 => h9) rfl dX8_count_73 ?_
    refine va_get (D := D) (ci := 0) (v := .int 0) (C := RX0) (T := TX0) (N := 10) hx hb hts iX0 hown hK hP 2 rfl rfl 4 (by decide) (hts _ q207) (fun _ h9 => h9) rfl dX8_count_76 ?_
    have hP9 := hP.sub (ws' := [(g 0, .inr (8, xF g)), (g 1, .inr (4, [.ref (g 2), .int 0, .int 0, .int (-1), .int 0, .int 0, .int 0, .int 0])), (g 3, .inr (0, [.int 0, .int 0, .int 0, .int 0, .int 0, .int 0, .ref (g 4), .ref (g 5), .ref (g 6), .ref (g 7)])), (g 26, .inl (cy 5, 4, .inr (.inr (.inr (.inr (va_up (va_up (va_up (va_up (fun _ => none) 0 (some (g 27))) 1 (some (g 29))) 2 (some (g 31))) 3 (some (g 33)))))))), (g 27, .inr (5, [.int 0, .int 0, .int 0, .ref (g 28)])), (g 29, .inr (5, [.int 0, .int 0, .int 0, .ref (g 30)])), (g 31, .inr (5, [.int 0, .int 0, .int 0, .ref (g 32)])), (g 33, .inr (5, [.int 0, .int 0, .int 0, .ref (g 34)]))]) [0, 1, 2, 3, 4, 5, 6, 7] rfl
    have hD9 := hD.sub (ws' := [(g 0, .inr (8, xF g)), (g 1, .inr (4, [.ref (g 2), .int 0, .int 0, .int (-1), .int 0, .int 0, .int 0, .int 0])), (g 3, .inr (0, [.int 0, .int 0, .int 0, .int 0, .int 0, .int 0, .ref (g 4), .ref (g 5), .ref (g 6), .ref (g 7)])), (g 26, .inl (cy 5, 4, .inr (.inr (.inr (.inr (va_up (va_up (va_up (va_up (fun _ => none) 0 (some (g 27))) 1 (some (g 29))) 2 (some (g 31))) 3 (some (g 33)))))))), (g 27, .inr (5, [.int 0, .int 0, .int 0, .ref (g 28)])), (g 29, .inr (5, [.int 0, .int 0, .int 0, .ref (g 30)])), (g 31, .inr (5, [.int 0, .int 0, .int 0, .ref (g 32)])), (g 33, .inr (5, [.int 0, .int 0, .int 0, .ref (g 34)]))]) [0, 1, 2, 3, 4, 5, 6, 7] (by decide) rfl
    exact W.iret (v := 0) hx hb hr (fun tS ht hW => ⟨⟨0, (), rfl, (by have z323 : (3 : Int32).toInt = 3 := (by decide); unfold sp_count; (repeat' split) <;> first | rfl | (exfalso; omega)), by rw [ht]; exact hP9, va_K.moved hW.alike hK, hD9⟩, hS.F ht⟩) hS.2.2 dX8_count_79
  ·
    refine lv_iload_n hx hb dX8_count_0 rfl (lv_at hl 1 rfl) ?_
    refine lv_tableIn (off := 79) (tgt := 80) hx hb dX8_count_1 (by decide) (by decide) (by decide) (by decide) ?_
    refine lv_aload_n hx hb dX8_count_80 rfl (lv_at hl 0 rfl) ?_
    refine va_get (D := D) (ci := 8) (v := .ref (g 3)) (C := RX8) (T := TX8) (N := 12) hx hb hts iX8 hown hK hP 0 rfl rfl 1 (by decide) (hts _ q435) (fun _ h9 => h9) rfl dX8_count_81 ?_
    refine va_get (D := D) (ci := 0) (v := .int 0) (C := RX0) (T := TX0) (N := 10) hx hb hts iX0 hown hK hP 2 rfl rfl 5 (by decide) (hts _ q211) (fun _ h9 => h9) rfl dX8_count_84 ?_
    have hP9 := hP.sub (ws' := [(g 0, .inr (8, xF g)), (g 1, .inr (4, [.ref (g 2), .int 0, .int 0, .int (-1), .int 0, .int 0, .int 0, .int 0])), (g 3, .inr (0, [.int 0, .int 0, .int 0, .int 0, .int 0, .int 0, .ref (g 4), .ref (g 5), .ref (g 6), .ref (g 7)])), (g 26, .inl (cy 5, 4, .inr (.inr (.inr (.inr (va_up (va_up (va_up (va_up (fun _ => none) 0 (some (g 27))) 1 (some (g 29))) 2 (some (g 31))) 3 (some (g 33)))))))), (g 27, .inr (5, [.int 0, .int 0, .int 0, .ref (g 28)])), (g 29, .inr (5, [.int 0, .int 0, .int 0, .ref (g 30)])), (g 31, .inr (5, [.int 0, .int 0, .int 0, .ref (g 32)])), (g 33, .inr (5, [.int 0, .int 0, .int 0, .ref (g 34)]))]) [0, 1, 2, 3, 4, 5, 6, 7] rfl
    have hD9 := hD.sub (ws' := [(g 0, .inr (8, xF g)), (g 1, .inr (4, [.ref (g 2), .int 0, .int 0, .int (-1), .int 0, .int 0, .int 0, .int 0])), (g 3, .inr (0, [.int 0, .int 0, .int 0, .int 0, .int 0, .int 0, .ref (g 4), .ref (g 5), .ref (g 6), .ref (g 7)])), (g 26, .inl (cy 5, 4, .inr (.inr (.inr (.inr (va_up (va_up (va_up (va_up (fun _ => none) 0 (some (g 27))) 1 (some (g 29))) 2 (some (g 31))) 3 (some (g 33)))))))), (g 27, .inr (5, [.int 0, .int 0, .int 0, .ref (g 28)])), (g 29, .inr (5, [.int 0, .int 0, .int 0, .ref (g 30)])), (g 31, .inr (5, [.int 0, .int 0, .int 0, .ref (g 32)])), (g 33, .inr (5, [.int 0, .int 0, .int 0, .ref (g 34)]))]) [0, 1, 2, 3, 4, 5, 6, 7] (by decide) rfl
    exact W.iret (v := 0) hx hb hr (fun tS ht hW => ⟨⟨0, (), rfl, (by have z324 : (4 : Int32).toInt = 4 := (by decide); unfold sp_count; (repeat' split) <;> first | rfl | (exfalso; omega)), by rw [ht]; exact hP9, va_K.moved hW.alike hK, hD9⟩, hS.F ht⟩) hS.2.2 dX8_count_87
  ·
    refine lv_iload_n hx hb dX8_count_0 rfl (lv_at hl 1 rfl) ?_
    refine lv_tableIn (off := 87) (tgt := 88) hx hb dX8_count_1 (by decide) (by decide) (by decide) (by decide) ?_
    refine lv_aload_n hx hb dX8_count_88 rfl (lv_at hl 0 rfl) ?_
    refine va_get (D := D) (ci := 8) (v := .ref (g 3)) (C := RX8) (T := TX8) (N := 12) hx hb hts iX8 hown hK hP 0 rfl rfl 1 (by decide) (hts _ q435) (fun _ h9 => h9) rfl dX8_count_89 ?_
    refine va_get (D := D) (ci := 0) (v := .int 0) (C := RX0) (T := TX0) (N := 10) hx hb hts iX0 hown hK hP 2 rfl rfl 2 (by decide) (hts _ q200) (fun _ h9 => h9) rfl dX8_count_92 ?_
    have hP9 := hP.sub (ws' := [(g 0, .inr (8, xF g)), (g 1, .inr (4, [.ref (g 2), .int 0, .int 0, .int (-1), .int 0, .int 0, .int 0, .int 0])), (g 3, .inr (0, [.int 0, .int 0, .int 0, .int 0, .int 0, .int 0, .ref (g 4), .ref (g 5), .ref (g 6), .ref (g 7)])), (g 26, .inl (cy 5, 4, .inr (.inr (.inr (.inr (va_up (va_up (va_up (va_up (fun _ => none) 0 (some (g 27))) 1 (some (g 29))) 2 (some (g 31))) 3 (some (g 33)))))))), (g 27, .inr (5, [.int 0, .int 0, .int 0, .ref (g 28)])), (g 29, .inr (5, [.int 0, .int 0, .int 0, .ref (g 30)])), (g 31, .inr (5, [.int 0, .int 0, .int 0, .ref (g 32)])), (g 33, .inr (5, [.int 0, .int 0, .int 0, .ref (g 34)]))]) [0, 1, 2, 3, 4, 5, 6, 7] rfl
    have hD9 := hD.sub (ws' := [(g 0, .inr (8, xF g)), (g 1, .inr (4, [.ref (g 2), .int 0, .int 0, .int (-1), .int 0, .int 0, .int 0, .int 0])), (g 3, .inr (0, [.int 0, .int 0, .int 0, .int 0, .int 0, .int 0, .ref (g 4), .ref (g 5), .ref (g 6), .ref (g 7)])), (g 26, .inl (cy 5, 4, .inr (.inr (.inr (.inr (va_up (va_up (va_up (va_up (fun _ => none) 0 (some (g 27))) 1 (some (g 29))) 2 (some (g 31))) 3 (some (g 33)))))))), (g 27, .inr (5, [.int 0, .int 0, .int 0, .ref (g 28)])), (g 29, .inr (5, [.int 0, .int 0, .int 0, .ref (g 30)])), (g 31, .inr (5, [.int 0, .int 0, .int 0, .ref (g 32)])), (g 33, .inr (5, [.int 0, .int 0, .int 0, .ref (g 34)]))]) [0, 1, 2, 3, 4, 5, 6, 7] (by decide) rfl
    exact W.iret (v := 0) hx hb hr (fun tS ht hW => ⟨⟨0, (), rfl, (by have z325 : (5 : Int32).toInt = 5 := (by decide); unfold sp_count; (repeat' split) <;> first | rfl | (exfalso; omega)), by rw [ht]; exact hP9, va_K.moved hW.alike hK, hD9⟩, hS.F ht⟩) hS.2.2 dX8_count_95
  ·
    refine lv_iload_n hx hb dX8_count_0 rfl (lv_at hl 1 rfl) ?_
    refine lv_tableIn (off := 95) (tgt := 96) hx hb dX8_count_1 (by decide) (by decide) (by decide) (by decide) ?_
    refine lv_aload_n hx hb dX8_count_96 rfl (lv_at hl 0 rfl) ?_
    refine va_get (D := D) (ci := 8) (v := .ref (g 1)) (C := RX8) (T := TX8) (N := 12) hx hb hts iX8 hown hK hP 0 rfl rfl 0 (by decide) (hts _ q434) (fun _ h9 => h9) rfl dX8_count_97 ?_
    refine va_get (D := D) (ci := 4) (v := .int 0) (C := RX4) (T := TX4) (N := 8) hx hb hts iX4 hown hK hP 1 rfl rfl 1 (by decide) (hts _ q159) (fun _ h9 => h9) rfl dX8_count_100 ?_
    have hP9 := hP.sub (ws' := [(g 0, .inr (8, xF g)), (g 1, .inr (4, [.ref (g 2), .int 0, .int 0, .int (-1), .int 0, .int 0, .int 0, .int 0])), (g 3, .inr (0, [.int 0, .int 0, .int 0, .int 0, .int 0, .int 0, .ref (g 4), .ref (g 5), .ref (g 6), .ref (g 7)])), (g 26, .inl (cy 5, 4, .inr (.inr (.inr (.inr (va_up (va_up (va_up (va_up (fun _ => none) 0 (some (g 27))) 1 (some (g 29))) 2 (some (g 31))) 3 (some (g 33)))))))), (g 27, .inr (5, [.int 0, .int 0, .int 0, .ref (g 28)])), (g 29, .inr (5, [.int 0, .int 0, .int 0, .ref (g 30)])), (g 31, .inr (5, [.int 0, .int 0, .int 0, .ref (g 32)])), (g 33, .inr (5, [.int 0, .int 0, .int 0, .ref (g 34)]))]) [0, 1, 2, 3, 4, 5, 6, 7] rfl
    have hD9 := hD.sub (ws' := [(g 0, .inr (8, xF g)), (g 1, .inr (4, [.ref (g 2), .int 0, .int 0, .int (-1), .int 0, .int 0, .int 0, .int 0])), (g 3, .inr (0, [.int 0, .int 0, .int 0, .int 0, .int 0, .int 0, .ref (g 4), .ref (g 5), .ref (g 6), .ref (g 7)])), (g 26, .inl (cy 5, 4, .inr (.inr (.inr (.inr (va_up (va_up (va_up (va_up (fun _ => none) 0 (some (g 27))) 1 (some (g 29))) 2 (some (g 31))) 3 (some (g 33)))))))), (g 27, .inr (5, [.int 0, .int 0, .int 0, .ref (g 28)])), (g 29, .inr (5, [.int 0, .int 0, .int 0, .ref (g 30)])), (g 31, .inr (5, [.int 0, .int 0, .int 0, .ref (g 32)])), (g 33, .inr (5, [.int 0, .int 0, .int 0, .ref (g 34)]))]) [0, 1, 2, 3, 4, 5, 6, 7] (by decide) rfl
    exact W.iret (v := 0) hx hb hr (fun tS ht hW => ⟨⟨0, (), rfl, (by have z326 : (6 : Int32).toInt = 6 := (by decide); unfold sp_count; (repeat' split) <;> first | rfl | (exfalso; omega)), by rw [ht]; exact hP9, va_K.moved hW.alike hK, hD9⟩, hS.F ht⟩) hS.2.2 dX8_count_103
  ·
    refine lv_iload_n hx hb dX8_count_0 rfl (lv_at hl 1 rfl) ?_
    refine lv_tableIn (off := 103) (tgt := 104) hx hb dX8_count_1 (by decide) (by decide) (by decide) (by decide) ?_
    refine lv_aload_n hx hb dX8_count_104 rfl (lv_at hl 0 rfl) ?_
    have hPc := hP.sub (ws' := [(g 0, .inr (8, xF g)), (g 26, .inl (cy 5, 4, .inr (.inr (.inr (.inr (va_up (va_up (va_up (va_up (fun _ => none) 0 (some (g 27))) 1 (some (g 29))) 2 (some (g 31))) 3 (some (g 33)))))))), (g 27, .inr (5, [.int 0, .int 0, .int 0, .ref (g 28)])), (g 29, .inr (5, [.int 0, .int 0, .int 0, .ref (g 30)])), (g 31, .inr (5, [.int 0, .int 0, .int 0, .ref (g 32)])), (g 33, .inr (5, [.int 0, .int 0, .int 0, .ref (g 34)]))]) [0, 3, 4, 5, 6, 7] rfl
    have hDc := hD.sub (ws' := [(g 0, .inr (8, xF g)), (g 26, .inl (cy 5, 4, .inr (.inr (.inr (.inr (va_up (va_up (va_up (va_up (fun _ => none) 0 (some (g 27))) 1 (some (g 29))) 2 (some (g 31))) 3 (some (g 33)))))))), (g 27, .inr (5, [.int 0, .int 0, .int 0, .ref (g 28)])), (g 29, .inr (5, [.int 0, .int 0, .int 0, .ref (g 30)])), (g 31, .inr (5, [.int 0, .int 0, .int 0, .ref (g 32)])), (g 33, .inr (5, [.int 0, .int 0, .int 0, .ref (g 34)]))]) [0, 3, 4, 5, 6, 7] (by decide) rfl
    have hFc := va_free (wc := [(g 0, .inr (8, xF g)), (g 26, .inl (cy 5, 4, .inr (.inr (.inr (.inr (va_up (va_up (va_up (va_up (fun _ => none) 0 (some (g 27))) 1 (some (g 29))) 2 (some (g 31))) 3 (some (g 33)))))))), (g 27, .inr (5, [.int 0, .int 0, .int 0, .ref (g 28)])), (g 29, .inr (5, [.int 0, .int 0, .int 0, .ref (g 30)])), (g 31, .inr (5, [.int 0, .int 0, .int 0, .ref (g 32)])), (g 33, .inr (5, [.int 0, .int 0, .int 0, .ref (g 34)]))]) hD hS hA [0, 3, 4, 5, 6, 7] rfl
    refine va_calli (va_runV (As := []) (rest := []) ⟨hx, hb, hml, hown, hts⟩ (c_X8_rowsThere l D cy g s.heap.size) (cwV 0 hts (gd_V q694 q696 q13 q125 q697) rfl rfl rfl (by decide +kernel) ⟨Nat.le_of_ble_eq_true rfl, Nat.le_of_ble_eq_true rfl⟩) (pr_V hPc hK hDc (va_recv hK hPc (ci := 8) (q0 := 0) rfl rfl)) rfl rfl hl.1 rfl (lv_room (Nat.le_of_ble_eq_true rfl)) dX8_count_105 ⟨Nat.le_of_ble_eq_true rfl, Nat.le_of_ble_eq_true rfl⟩) hS (fun q _ h => hFc q h) hFc (fun r_2 u tS H1 locs ht hvm hw hB hz1 hk1 hS => ?_)
    obtain ⟨hP1, hK1, hD1⟩ := hB
    rw [ht] at hP1
    try dsimp only at hw
    obtain ⟨hP, hD⟩ := va_join (wr := [(g 1, .inr (4, [.ref (g 2), .int 0, .int 0, .int (-1), .int 0, .int 0, .int 0, .int 0])), (g 3, .inr (0, [.int 0, .int 0, .int 0, .int 0, .int 0, .int 0, .ref (g 4), .ref (g 5), .ref (g 6), .ref (g 7)]))]) (w1 := [(g 0, .inr (8, xF g)), (g 26, .inl (cy 5, 4, .inr (.inr (.inr (.inr (va_up (va_up (va_up (va_up (fun _ => none) 0 (some (g 27))) 1 (some (g 29))) 2 (some (g 31))) 3 (some (g 33)))))))), (g 27, .inr (5, [.int 0, .int 0, .int 0, .ref (g 28)])), (g 29, .inr (5, [.int 0, .int 0, .int 0, .ref (g 30)])), (g 31, .inr (5, [.int 0, .int 0, .int 0, .ref (g 32)])), (g 33, .inr (5, [.int 0, .int 0, .int 0, .ref (g 34)]))]) hP hD [0, 3, 4, 5, 6, 7] [1, 2] rfl rfl (by decide) (by decide) hk1 hFc hP1 hD1
    generalize H1 = H at hP hS ⊢
    have hP : va_P D clz [(g 1, .inr (4, [.ref (g 2), .int 0, .int 0, .int (-1), .int 0, .int 0, .int 0, .int 0])), (g 3, .inr (0, [.int 0, .int 0, .int 0, .int 0, .int 0, .int 0, .ref (g 4), .ref (g 5), .ref (g 6), .ref (g 7)])), (g 0, .inr (8, xF g)), (g 26, .inl (cy 5, 4, .inr (.inr (.inr (.inr (va_up (va_up (va_up (va_up (fun _ => none) 0 (some (g 27))) 1 (some (g 29))) 2 (some (g 31))) 3 (some (g 33)))))))), (g 27, .inr (5, [.int 0, .int 0, .int 0, .ref (g 28)])), (g 29, .inr (5, [.int 0, .int 0, .int 0, .ref (g 30)])), (g 31, .inr (5, [.int 0, .int 0, .int 0, .ref (g 32)])), (g 33, .inr (5, [.int 0, .int 0, .int 0, .ref (g 34)]))] H := hP
    have hD : va_D A [(g 1, .inr (4, [.ref (g 2), .int 0, .int 0, .int (-1), .int 0, .int 0, .int 0, .int 0])), (g 3, .inr (0, [.int 0, .int 0, .int 0, .int 0, .int 0, .int 0, .ref (g 4), .ref (g 5), .ref (g 6), .ref (g 7)])), (g 0, .inr (8, xF g)), (g 26, .inl (cy 5, 4, .inr (.inr (.inr (.inr (va_up (va_up (va_up (va_up (fun _ => none) 0 (some (g 27))) 1 (some (g 29))) 2 (some (g 31))) 3 (some (g 33)))))))), (g 27, .inr (5, [.int 0, .int 0, .int 0, .ref (g 28)])), (g 29, .inr (5, [.int 0, .int 0, .int 0, .ref (g 30)])), (g 31, .inr (5, [.int 0, .int 0, .int 0, .ref (g 32)])), (g 33, .inr (5, [.int 0, .int 0, .int 0, .ref (g 34)]))] := hD
    subst hw
    have hP9 := hP.sub (ws' := [(g 0, .inr (8, xF g)), (g 1, .inr (4, [.ref (g 2), .int 0, .int 0, .int (-1), .int 0, .int 0, .int 0, .int 0])), (g 3, .inr (0, [.int 0, .int 0, .int 0, .int 0, .int 0, .int 0, .ref (g 4), .ref (g 5), .ref (g 6), .ref (g 7)])), (g 26, .inl (cy 5, 4, .inr (.inr (.inr (.inr (va_up (va_up (va_up (va_up (fun _ => none) 0 (some (g 27))) 1 (some (g 29))) 2 (some (g 31))) 3 (some (g 33)))))))), (g 27, .inr (5, [.int 0, .int 0, .int 0, .ref (g 28)])), (g 29, .inr (5, [.int 0, .int 0, .int 0, .ref (g 30)])), (g 31, .inr (5, [.int 0, .int 0, .int 0, .ref (g 32)])), (g 33, .inr (5, [.int 0, .int 0, .int 0, .ref (g 34)]))]) [2, 0, 1, 3, 4, 5, 6, 7] rfl
    have hD9 := hD.sub (ws' := [(g 0, .inr (8, xF g)), (g 1, .inr (4, [.ref (g 2), .int 0, .int 0, .int (-1), .int 0, .int 0, .int 0, .int 0])), (g 3, .inr (0, [.int 0, .int 0, .int 0, .int 0, .int 0, .int 0, .ref (g 4), .ref (g 5), .ref (g 6), .ref (g 7)])), (g 26, .inl (cy 5, 4, .inr (.inr (.inr (.inr (va_up (va_up (va_up (va_up (fun _ => none) 0 (some (g 27))) 1 (some (g 29))) 2 (some (g 31))) 3 (some (g 33)))))))), (g 27, .inr (5, [.int 0, .int 0, .int 0, .ref (g 28)])), (g 29, .inr (5, [.int 0, .int 0, .int 0, .ref (g 30)])), (g 31, .inr (5, [.int 0, .int 0, .int 0, .ref (g 32)])), (g 33, .inr (5, [.int 0, .int 0, .int 0, .ref (g 34)]))]) [2, 0, 1, 3, 4, 5, 6, 7] (by decide) rfl
    exact W.iret (v := 0) hx hb hr (fun tS ht hW => ⟨⟨0, (), rfl, (by have z327 : (7 : Int32).toInt = 7 := (by decide); unfold sp_count; (repeat' split) <;> first | rfl | (exfalso; omega)), by rw [ht]; exact hP9, va_K.moved hW.alike hK, hD9⟩, hS.F ht⟩) hS.2.2 dX8_count_108
  ·
    refine lv_iload_n hx hb dX8_count_0 rfl (lv_at hl 1 rfl) ?_
    refine lv_tableOut (tgt := 109) hx hb dX8_count_1 (by have f0 := hs_1; omega) (by decide) ?_
    refine lv_iconst (v := (-1)) hx hb dX8_count_109 (by decide) ?_
    have hP9 := hP.sub (ws' := [(g 0, .inr (8, xF g)), (g 1, .inr (4, [.ref (g 2), .int 0, .int 0, .int (-1), .int 0, .int 0, .int 0, .int 0])), (g 3, .inr (0, [.int 0, .int 0, .int 0, .int 0, .int 0, .int 0, .ref (g 4), .ref (g 5), .ref (g 6), .ref (g 7)])), (g 26, .inl (cy 5, 4, .inr (.inr (.inr (.inr (va_up (va_up (va_up (va_up (fun _ => none) 0 (some (g 27))) 1 (some (g 29))) 2 (some (g 31))) 3 (some (g 33)))))))), (g 27, .inr (5, [.int 0, .int 0, .int 0, .ref (g 28)])), (g 29, .inr (5, [.int 0, .int 0, .int 0, .ref (g 30)])), (g 31, .inr (5, [.int 0, .int 0, .int 0, .ref (g 32)])), (g 33, .inr (5, [.int 0, .int 0, .int 0, .ref (g 34)]))]) [0, 1, 2, 3, 4, 5, 6, 7] rfl
    have hD9 := hD.sub (ws' := [(g 0, .inr (8, xF g)), (g 1, .inr (4, [.ref (g 2), .int 0, .int 0, .int (-1), .int 0, .int 0, .int 0, .int 0])), (g 3, .inr (0, [.int 0, .int 0, .int 0, .int 0, .int 0, .int 0, .ref (g 4), .ref (g 5), .ref (g 6), .ref (g 7)])), (g 26, .inl (cy 5, 4, .inr (.inr (.inr (.inr (va_up (va_up (va_up (va_up (fun _ => none) 0 (some (g 27))) 1 (some (g 29))) 2 (some (g 31))) 3 (some (g 33)))))))), (g 27, .inr (5, [.int 0, .int 0, .int 0, .ref (g 28)])), (g 29, .inr (5, [.int 0, .int 0, .int 0, .ref (g 30)])), (g 31, .inr (5, [.int 0, .int 0, .int 0, .ref (g 32)])), (g 33, .inr (5, [.int 0, .int 0, .int 0, .ref (g 34)]))]) [0, 1, 2, 3, 4, 5, 6, 7] (by decide) rfl
    exact W.iret (v := (-1)) hx hb hr (fun tS ht hW => ⟨⟨(-1), (), rfl, (by have f0 := hs_1; unfold sp_count; (repeat' split) <;> first | rfl | (exfalso; omega)), by rw [ht]; exact hP9, va_K.moved hW.alike hK, hD9⟩, hS.F ht⟩) hS.2.2 dX8_count_110

