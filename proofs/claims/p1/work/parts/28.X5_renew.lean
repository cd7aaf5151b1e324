theorem q1335 : Cond.code yX5_renew cX5_renew 4 none ∈ lw_g := lw_gm (List.mem_of_getElem? (i := 1335) (by decide +kernel)) rfl
theorem q416 : Cond.fieldLink RX5 15 "LipsAndSlides$Row" "there" "Z" ∈ lw_g := lw_gm (List.mem_of_getElem? (i := 416) (by decide +kernel)) rfl
theorem q418 : Cond.fieldLink RX5 19 "LipsAndSlides$Row" "width" "I" ∈ lw_g := lw_gm (List.mem_of_getElem? (i := 418) (by decide +kernel)) rfl
theorem q420 : Cond.fieldLink RX5 23 "LipsAndSlides$Row" "length" "I" ∈ lw_g := lw_gm (List.mem_of_getElem? (i := 420) (by decide +kernel)) rfl
theorem dX5_renew_0 : decode cX5_renew 0 = .ok (.aload_n 0, 1) := by decide +kernel
theorem dX5_renew_1 : decode cX5_renew 1 = .ok (.iconst 1, 1) := by decide +kernel
theorem dX5_renew_2 : decode cX5_renew 2 = .ok (.putfield 15, 3) := by decide +kernel
theorem dX5_renew_5 : decode cX5_renew 5 = .ok (.aload_n 0, 1) := by decide +kernel
theorem dX5_renew_6 : decode cX5_renew 6 = .ok (.iload_n 1, 1) := by decide +kernel
theorem dX5_renew_7 : decode cX5_renew 7 = .ok (.putfield 19, 3) := by decide +kernel
theorem dX5_renew_10 : decode cX5_renew 10 = .ok (.aload_n 0, 1) := by decide +kernel
theorem dX5_renew_11 : decode cX5_renew 11 = .ok (.iload_n 2, 1) := by decide +kernel
theorem dX5_renew_12 : decode cX5_renew 12 = .ok (.putfield 23, 3) := by decide +kernel
theorem dX5_renew_15 : decode cX5_renew 15 = .ok (.iconst 0, 1) := by decide +kernel
theorem dX5_renew_16 : decode cX5_renew 16 = .ok (.istore_n 3, 1) := by decide +kernel
theorem dX5_renew_17 : decode cX5_renew 17 = .ok (.iload_n 3, 1) := by decide +kernel
theorem dX5_renew_18 : decode cX5_renew 18 = .ok (.bipush 60, 2) := by decide +kernel
theorem dX5_renew_20 : decode cX5_renew 20 = .ok (.if_icmp .ge 16, 3) := by decide +kernel
theorem dX5_renew_23 : decode cX5_renew 23 = .ok (.aload_n 0, 1) := by decide +kernel
theorem dX5_renew_24 : decode cX5_renew 24 = .ok (.getfield 9, 3) := by decide +kernel
theorem dX5_renew_27 : decode cX5_renew 27 = .ok (.iload_n 3, 1) := by decide +kernel
theorem dX5_renew_28 : decode cX5_renew 28 = .ok (.lconst 0, 1) := by decide +kernel
theorem dX5_renew_29 : decode cX5_renew 29 = .ok (.lastore, 1) := by decide +kernel
theorem dX5_renew_30 : decode cX5_renew 30 = .ok (.iinc 3 1, 3) := by decide +kernel
theorem dX5_renew_33 : decode cX5_renew 33 = .ok (.goto (-16), 3) := by decide +kernel
theorem dX5_renew_36 : decode cX5_renew 36 = .ok (.return_, 1) := by decide +kernel
set_option maxHeartbeats 4000000 in
set_option maxRecDepth 100000 in
theorem c_X5_renew (l : Launch) (D : va_G) (cy : Nat → ClassId) (h : Nat) (t : Nat) (p1 : Int32) (p2 : Int32) (sz : Nat) : Met l yX5_renew (ww yX5_renew cX5_renew 4 none) ({ frames := 1, cells := 0, slots := 0, locals := 64 }) (va_Pc [.ref h, .int p1, .int p2] (pre D cy [(h, .inr (5, [.int 0, .int 0, .int 0, .ref t])), (t, .inl (cy 2, 60, .inr (.inl (fun _ => 0))))] sz)) (qv D cy (va_A [(h, .inr (5, [.int 0, .int 0, .int 0, .ref t])), (t, .inl (cy 2, 60, .inr (.inl (fun _ => 0))))] sz) (fun (_ : Unit) => True) (fun (_ : Unit) => [])) 0 0 (va_A [(h, .inr (5, [.int 0, .int 0, .int 0, .ref t])), (t, .inl (cy 2, 60, .inr (.inl (fun _ => 0))))] sz) := by
  refine Met.ofW (cc := cX5_renew) (maxL := 4) (ret := none) (by decide) rfl ?_
  intro p e s m args below meth c s₁ B hml hv
  obtain ⟨rfl, hsz, hP, hK, hD0⟩ := hv
  have hx := B.exec
  have hb := B.bytes
  have hr := B.returns
  have hts := hts_g (atoms_spec (ws := ww yX5_renew cX5_renew 4 none) B.pre)
  have hown : s.vm.findClass RX5 = some m.cls := findClass_of_methodNamed B.named
  have hlocks := B.notSynchronized
  subst hsz
  have hD := hD0.self (sz := s.heap.size)
  generalize hAe : va_A [(h, .inr (5, [.int 0, .int 0, .int 0, .ref t])), (t, .inl (cy 2, 60, .inr (.inl (fun _ => 0))))] s.heap.size = A at hD ⊢
  have hA : ∀ q : Nat, s.heap.size ≤ q → A q := fun q h => by rw [← hAe]; exact Or.inr h
  have hS : va_S A s.heap s.heap [] := va_S.rf
  have hl := lv_entry ([.ref h, .int p1, .int p2]) (n := 4) (Nat.le_of_ble_eq_true rfl)
  rw [lg_entry_eq]
  generalize (lg_sl ([.ref h, .int p1, .int p2]) ++ List.replicate (4 - (lg_sl ([.ref h, .int p1, .int p2])).length) Slot.unset).toArray = ls at hl ⊢
  have hl : lv_has ls 4 [(0, .ref h), (1, .int p1), (2, .int p2)] := hl
  refine lv_aload_n hx hb dX5_renew_0 rfl (lv_at hl 0 rfl) ?_
  refine lv_iconst (v := 1) hx hb dX5_renew_1 (by decide) ?_
  refine va_put (D := D) (ci := 5) (v := .int 1) (ty := .boolean) (C := RX5) (T := TX5) (N := 4) hx hb hts iX5 tyX5 tyX5_ok nmX5 hown hK hP hD hS 0 rfl rfl 0 (by decide) (hts _ q416) (fun _ h9 => h9) rfl (by decide +kernel) rfl rfl (Nat.le_of_ble_eq_true rfl) dX5_renew_2 (fun H locs hP hD hS => ?_)
  have hP : va_P D clz [(h, .inr (5, [.int 1, .int 0, .int 0, .ref t])), (t, .inl (cy 2, 60, .inr (.inl (fun _ => 0))))] H := hP
  have hD : va_D A [(h, .inr (5, [.int 1, .int 0, .int 0, .ref t])), (t, .inl (cy 2, 60, .inr (.inl (fun _ => 0))))] := hD
  refine lv_aload_n hx hb dX5_renew_5 rfl (lv_at hl 0 rfl) ?_
  refine lv_iload_n hx hb dX5_renew_6 rfl (lv_at hl 1 rfl) ?_
  refine va_put (D := D) (ci := 5) (v := .int p1) (ty := .int) (C := RX5) (T := TX5) (N := 4) hx hb hts iX5 tyX5 tyX5_ok nmX5 hown hK hP hD hS 0 rfl rfl 1 (by decide) (hts _ q418) (fun _ h9 => h9) rfl (by decide +kernel) rfl rfl (Nat.le_of_ble_eq_true rfl) dX5_renew_7 (fun H locs hP hD hS => ?_)
  have hP : va_P D clz [(h, .inr (5, [.int 1, .int p1, .int 0, .ref t])), (t, .inl (cy 2, 60, .inr (.inl (fun _ => 0))))] H := hP
  have hD : va_D A [(h, .inr (5, [.int 1, .int p1, .int 0, .ref t])), (t, .inl (cy 2, 60, .inr (.inl (fun _ => 0))))] := hD
  refine lv_aload_n hx hb dX5_renew_10 rfl (lv_at hl 0 rfl) ?_
  refine lv_iload_n hx hb dX5_renew_11 rfl (lv_at hl 2 rfl) ?_
  refine va_put (D := D) (ci := 5) (v := .int p2) (ty := .int) (C := RX5) (T := TX5) (N := 4) hx hb hts iX5 tyX5 tyX5_ok nmX5 hown hK hP hD hS 0 rfl rfl 2 (by decide) (hts _ q420) (fun _ h9 => h9) rfl (by decide +kernel) rfl rfl (Nat.le_of_ble_eq_true rfl) dX5_renew_12 (fun H locs hP hD hS => ?_)
  have hP : va_P D clz [(h, .inr (5, [.int 1, .int p1, .int p2, .ref t])), (t, .inl (cy 2, 60, .inr (.inl (fun _ => 0))))] H := hP
  have hD : va_D A [(h, .inr (5, [.int 1, .int p1, .int p2, .ref t])), (t, .inl (cy 2, 60, .inr (.inl (fun _ => 0))))] := hD
  refine lv_iconst (v := 0) hx hb dX5_renew_15 (by decide) ?_
  refine lv_istore_n (lv' := [(3, .int 0), (0, .ref h), (1, .int p1), (2, .int p2)]) hx hb dX5_renew_16 rfl hl (by decide) rfl (fun ls hl => ?_)
  refine loopW (pc := 17) (fun i => [(3, .int (nI i)), (0, .ref h), (1, .int p1), (2, .int p2)]) 60 ?_ 60 0 rfl _ _ _ hP hS hl
  intro i hi next H locs ls hP hS hl
  have hl : lv_has ls 4 [(3, .int (nI i)), (0, .ref h), (1, .int p1), (2, .int p2)] := hl
  refine lv_iload_n hx hb dX5_renew_17 rfl (lv_at hl 0 rfl) ?_
  refine lv_bipush (v := 60) hx hb dX5_renew_18 (by decide) ?_
  refine lv_icmp_ge (tgt := 36) hx hb dX5_renew_20 (by decide) (fun c9 => ?_) (fun c9 => ?_)
  ·
    have hP9 := hP.sub (ws' := []) [] rfl
    have hD9 := hD.sub (ws' := []) [] (by decide) rfl
    exact W.vret hx hb hr (fun tS ht hW => ⟨⟨(), rfl, trivial, by rw [ht]; exact hP9, va_K.moved hW.alike hK, hD9⟩, hS.F ht⟩) hS.2.2 dX5_renew_36
  ·
    have hlt : i < 60 := lt_nle c9 (by omega)
    refine lv_aload_n hx hb dX5_renew_23 rfl (lv_at hl 1 rfl) ?_
    refine va_get (D := D) (ci := 5) (v := .ref t) (C := RX5) (T := TX5) (N := 4) hx hb hts iX5 hown hK hP 0 rfl rfl 3 (by decide) (hts _ q422) (fun _ h9 => h9) rfl dX5_renew_24 ?_
    refine lv_iload_n hx hb dX5_renew_27 rfl (lv_at hl 0 rfl) ?_
    refine lv_lconst (v := 0) hx hb dX5_renew_28 (by decide) ?_
    refine va_last hx hb hK hP hD hS 1 2 rfl rfl (vp_in_nI hlt (by decide)) dX5_renew_29 (fun H locs hP hD hS => ?_)
    rw [updL_z] at hP hD
    have hP : va_P D clz [(h, .inr (5, [.int 1, .int p1, .int p2, .ref t])), (t, .inl (cy 2, 60, .inr (.inl (fun _ => 0))))] H := hP
    have hD : va_D A [(h, .inr (5, [.int 1, .int p1, .int p2, .ref t])), (t, .inl (cy 2, 60, .inr (.inl (fun _ => 0))))] := hD
    refine lv_iinc (v := nI (i + 1)) (lv' := [(3, .int (nI (i + 1))), (0, .ref h), (1, .int p1), (2, .int p2)]) hx hb dX5_renew_30 hl (k := 0) rfl (nI_1 i) (by decide) rfl (fun ls hl => ?_)
    refine lv_goto (tgt := 17) hx hb dX5_renew_33 (by decide) ?_
    exact next _ _ _ hP hS (lv_sub hl [0, 1, 2, 3] rfl) hlt

theorem q1331 : Cond.code yX8_row cX8_row 4 (some .int) ∈ lw_g := lw_gm (List.mem_of_getElem? (i := 1331) (by decide +kernel)) rfl
theorem q1332 : Cond.methodLink RX8 409 yX5_renew ∈ lw_g := lw_gm (List.mem_of_getElem? (i := 1332) (by decide +kernel)) rfl
theorem q1333 : Cond.instanceMethod yX5_renew ∈ lw_g := lw_gm (List.mem_of_getElem? (i := 1333) (by decide +kernel)) rfl
theorem q1334 : Cond.selects RX5 yX5_renew yX5_renew ∈ lw_g := lw_gm (List.mem_of_getElem? (i := 1334) (by decide +kernel)) rfl
theorem dX8_row_0 : decode cX8_row 0 = .ok (.iload_n 1, 1) := by decide +kernel
theorem dX8_row_1 : decode cX8_row 1 = .ok (.invokestatic 360, 3) := by decide +kernel
theorem dX8_row_4 : decode cX8_row 4 = .ok (.ifCond .eq 18, 3) := by decide +kernel
theorem dX8_row_7 : decode cX8_row 7 = .ok (.iload_n 2, 1) := by decide +kernel
theorem dX8_row_8 : decode cX8_row 8 = .ok (.ifCond .lt 14, 3) := by decide +kernel
theorem dX8_row_11 : decode cX8_row 11 = .ok (.iload_n 2, 1) := by decide +kernel
theorem dX8_row_12 : decode cX8_row 12 = .ok (.iconst 3, 1) := by decide +kernel
theorem dX8_row_13 : decode cX8_row 13 = .ok (.if_icmp .gt 9, 3) := by decide +kernel
theorem dX8_row_16 : decode cX8_row 16 = .ok (.iload_n 3, 1) := by decide +kernel
theorem dX8_row_17 : decode cX8_row 17 = .ok (.bipush 60, 2) := by decide +kernel
theorem dX8_row_19 : decode cX8_row 19 = .ok (.if_icmp .le 6, 3) := by decide +kernel
theorem dX8_row_22 : decode cX8_row 22 = .ok (.bipush (-2), 2) := by decide +kernel
theorem dX8_row_24 : decode cX8_row 24 = .ok (.ireturn, 1) := by decide +kernel
theorem dX8_row_25 : decode cX8_row 25 = .ok (.iload_n 3, 1) := by decide +kernel
theorem dX8_row_26 : decode cX8_row 26 = .ok (.ifCond .ge 6, 3) := by decide +kernel
theorem dX8_row_29 : decode cX8_row 29 = .ok (.bipush (-3), 2) := by decide +kernel
theorem dX8_row_31 : decode cX8_row 31 = .ok (.ireturn, 1) := by decide +kernel
theorem dX8_row_32 : decode cX8_row 32 = .ok (.aload_n 0, 1) := by decide +kernel
theorem dX8_row_33 : decode cX8_row 33 = .ok (.getfield 36, 3) := by decide +kernel
theorem dX8_row_36 : decode cX8_row 36 = .ok (.iload_n 1, 1) := by decide +kernel
theorem dX8_row_37 : decode cX8_row 37 = .ok (.aaload, 1) := by decide +kernel
theorem dX8_row_38 : decode cX8_row 38 = .ok (.iload_n 2, 1) := by decide +kernel
theorem dX8_row_39 : decode cX8_row 39 = .ok (.iload_n 3, 1) := by decide +kernel
theorem dX8_row_40 : decode cX8_row 40 = .ok (.invokevirtual 409, 3) := by decide +kernel
theorem dX8_row_43 : decode cX8_row 43 = .ok (.iconst 0, 1) := by decide +kernel
theorem dX8_row_44 : decode cX8_row 44 = .ok (.ireturn, 1) := by decide +kernel
set_option maxHeartbeats 4000000 in
set_option maxRecDepth 100000 in
theorem c_X8_row (l : Launch) (D : va_G) (cy : Nat → ClassId) (g : Nat → Nat) (p1 : Int32) (p2 : Int32) (p3 : Int32) (sz : Nat) : Met l yX8_row (ww yX8_row cX8_row 4 (some .int)) ({ frames := 2, cells := 0, slots := 0, locals := 128 }) (va_Pc [.ref (g 0), .int p1, .int p2, .int p3] (pre D cy [(g 0, .inr (8, xF g)), (g 26, .inl (cy 5, 4, .inr (.inr (.inr (.inr (va_up (va_up (va_up (va_up (fun _ => none) 0 (some (g 27))) 1 (some (g 29))) 2 (some (g 31))) 3 (some (g 33)))))))), (g 27, .inr (5, [.int 0, .int 0, .int 0, .ref (g 28)])), (g 28, .inl (cy 2, 60, .inr (.inl (fun _ => 0)))), (g 29, .inr (5, [.int 0, .int 0, .int 0, .ref (g 30)])), (g 30, .inl (cy 2, 60, .inr (.inl (fun _ => 0)))), (g 31, .inr (5, [.int 0, .int 0, .int 0, .ref (g 32)])), (g 32, .inl (cy 2, 60, .inr (.inl (fun _ => 0)))), (g 33, .inr (5, [.int 0, .int 0, .int 0, .ref (g 34)])), (g 34, .inl (cy 2, 60, .inr (.inl (fun _ => 0))))] sz)) (qi D cy (va_A [(g 0, .inr (8, xF g)), (g 26, .inl (cy 5, 4, .inr (.inr (.inr (.inr (va_up (va_up (va_up (va_up (fun _ => none) 0 (some (g 27))) 1 (some (g 29))) 2 (some (g 31))) 3 (some (g 33)))))))), (g 27, .inr (5, [.int 0, .int 0, .int 0, .ref (g 28)])), (g 28, .inl (cy 2, 60, .inr (.inl (fun _ => 0)))), (g 29, .inr (5, [.int 0, .int 0, .int 0, .ref (g 30)])), (g 30, .inl (cy 2, 60, .inr (.inl (fun _ => 0)))), (g 31, .inr (5, [.int 0, .int 0, .int 0, .ref (g 32)])), (g 32, .inl (cy 2, 60, .inr (.inl (fun _ => 0)))), (g 33, .inr (5, [.int 0, .int 0, .int 0, .ref (g 34)])), (g 34, .inl (cy 2, 60, .inr (.inl (fun _ => 0))))] sz) (fun (r : Int32) (_ : Unit) => r = sp_row p1 p2 p3) (fun (_ : Unit) => [])) 0 0 (va_A [(g 0, .inr (8, xF g)), (g 26, .inl (cy 5, 4, .inr (.inr (.inr (.inr (va_up (va_up (va_up (va_up (fun _ => none) 0 (some (g 27))) 1 (some (g 29))) 2 (some (g 31))) 3 (some (g 33)))))))), (g 27, .inr (5, [.int 0, .int 0, .int 0, .ref (g 28)])), (g 28, .inl (cy 2, 60, .inr (.inl (fun _ => 0)))), (g 29, .inr (5, [.int 0, .int 0, .int 0, .ref (g 30)])), (g 30, .inl (cy 2, 60, .inr (.inl (fun _ => 0)))), (g 31, .inr (5, [.int 0, .int 0, .int 0, .ref (g 32)])), (g 32, .inl (cy 2, 60, .inr (.inl (fun _ => 0)))), (g 33, .inr (5, [.int 0, .int 0, .int 0, .ref (g 34)])), (g 34, .inl (cy 2, 60, .inr (.inl (fun _ => 0))))] sz) := by
  refine Met.ofW (cc := cX8_row) (maxL := 4) (ret := (some .int)) (by decide) rfl ?_
  intro p e s m args below meth c s₁ B hml hv
  obtain ⟨rfl, hsz, hP, hK, hD0⟩ := hv
  have hx := B.exec
  have hb := B.bytes
  have hr := B.returns
  have hts := hts_g (atoms_spec (ws := ww yX8_row cX8_row 4 (some .int)) B.pre)
  have hown : s.vm.findClass RX8 = some m.cls := findClass_of_methodNamed B.named
  have hlocks := B.notSynchronized
  subst hsz
  have hD := hD0.self (sz := s.heap.size)
  generalize hAe : va_A [(g 0, .inr (8, xF g)), (g 26, .inl (cy 5, 4, .inr (.inr (.inr (.inr (va_up (va_up (va_up (va_up (fun _ => none) 0 (some (g 27))) 1 (some (g 29))) 2 (some (g 31))) 3 (some (g 33)))))))), (g 27, .inr (5, [.int 0, .int 0, .int 0, .ref (g 28)])), (g 28, .inl (cy 2, 60, .inr (.inl (fun _ => 0)))), (g 29, .inr (5, [.int 0, .int 0, .int 0, .ref (g 30)])), (g 30, .inl (cy 2, 60, .inr (.inl (fun _ => 0)))), (g 31, .inr (5, [.int 0, .int 0, .int 0, .ref (g 32)])), (g 32, .inl (cy 2, 60, .inr (.inl (fun _ => 0)))), (g 33, .inr (5, [.int 0, .int 0, .int 0, .ref (g 34)])), (g 34, .inl (cy 2, 60, .inr (.inl (fun _ => 0))))] s.heap.size = A at hD ⊢
  have hA : ∀ q : Nat, s.heap.size ≤ q → A q := fun q h => by rw [← hAe]; exact Or.inr h
  have hS : va_S A s.heap s.heap [] := va_S.rf
  have hl := lv_entry ([.ref (g 0), .int p1, .int p2, .int p3]) (n := 4) (Nat.le_of_ble_eq_true rfl)
  rw [lg_entry_eq]
  generalize (lg_sl ([.ref (g 0), .int p1, .int p2, .int p3]) ++ List.replicate (4 - (lg_sl ([.ref (g 0), .int p1, .int p2, .int p3])).length) Slot.unset).toArray = ls at hl ⊢
  have hl : lv_has ls 4 [(0, .ref (g 0)), (1, .int p1), (2, .int p2), (3, .int p3)] := hl
  rcases sp4 p1 with rfl | rfl | rfl | rfl | hs_1
  ·
    refine lv_iload_n hx hb dX8_row_0 rfl (lv_at hl 1 rfl) ?_
    have hPc := hP.sub (ws' := []) [] rfl
    have hDc := hD.sub (ws' := []) [] (by decide) rfl
    have hFc := va_free (wc := []) hD hS hA [] rfl
    refine va_calli (va_runS (As := [.int 0]) (rest := []) ⟨hx, hb, hml, hown, hts⟩ (c_X8_isSlot l D cy 0 s.heap.size) (va_cwS 1 hts (gd_S q1267 q1268 q125 q1269) rfl rfl rfl (by decide +kernel) ⟨Nat.le_of_ble_eq_true rfl, Nat.le_of_ble_eq_true rfl⟩) (pr_S hPc hK hDc) rfl rfl hl.1 rfl (lv_room (Nat.le_of_ble_eq_true rfl)) dX8_row_1 ⟨Nat.le_of_ble_eq_true rfl, Nat.le_of_ble_eq_true rfl⟩) hS (fun q _ h => hFc q h) hFc (fun r_2 u tS H1 locs ht hvm hw hB hz1 hk1 hS => ?_)
    obtain ⟨hP1, hK1, hD1⟩ := hB
    rw [ht] at hP1
    try dsimp only at hw
    obtain ⟨hP, hD⟩ := va_join (wr := [(g 0, .inr (8, xF g)), (g 26, .inl (cy 5, 4, .inr (.inr (.inr (.inr (va_up (va_up (va_up (va_up (fun _ => none) 0 (some (g 27))) 1 (some (g 29))) 2 (some (g 31))) 3 (some (g 33)))))))), (g 27, .inr (5, [.int 0, .int 0, .int 0, .ref (g 28)])), (g 28, .inl (cy 2, 60, .inr (.inl (fun _ => 0)))), (g 29, .inr (5, [.int 0, .int 0, .int 0, .ref (g 30)])), (g 30, .inl (cy 2, 60, .inr (.inl (fun _ => 0)))), (g 31, .inr (5, [.int 0, .int 0, .int 0, .ref (g 32)])), (g 32, .inl (cy 2, 60, .inr (.inl (fun _ => 0)))), (g 33, .inr (5, [.int 0, .int 0, .int 0, .ref (g 34)])), (g 34, .inl (cy 2, 60, .inr (.inl (fun _ => 0))))]) (w1 := []) hP hD [] [0, 1, 2, 3, 4, 5, 6, 7, 8, 9] rfl rfl (by decide) (by decide) hk1 hFc hP1 hD1
    generalize H1 = H at hP hS ⊢
    have hP : va_P D clz [(g 0, .inr (8, xF g)), (g 26, .inl (cy 5, 4, .inr (.inr (.inr (.inr (va_up (va_up (va_up (va_up (fun _ => none) 0 (some (g 27))) 1 (some (g 29))) 2 (some (g 31))) 3 (some (g 33)))))))), (g 27, .inr (5, [.int 0, .int 0, .int 0, .ref (g 28)])), (g 28, .inl (cy 2, 60, .inr (.inl (fun _ => 0)))), (g 29, .inr (5, [.int 0, .int 0, .int 0, .ref (g 30)])), (g 30, .inl (cy 2, 60, .inr (.inl (fun _ => 0)))), (g 31, .inr (5, [.int 0, .int 0, .int 0, .ref (g 32)])), (g 32, .inl (cy 2, 60, .inr (.inl (fun _ => 0)))), (g 33, .inr (5, [.int 0, .int 0, .int 0, .ref (g 34)])), (g 34, .inl (cy 2, 60, .inr (.inl (fun _ => 0))))] H := hP
    have hD : va_D A [(g 0, .inr (8, xF g)), (g 26, .inl (cy 5, 4, .inr (.inr (.inr (.inr (va_up (va_up (va_up (va_up (fun _ => none) 0 (some (g 27))) 1 (some (g 29))) 2 (some (g 31))) 3 (some (g 33)))))))), (g 27, .inr (5, [.int 0, .int 0, .int 0, .ref (g 28)])), (g 28, .inl (cy 2, 60, .inr (.inl (fun _ => 0)))), (g 29, .inr (5, [.int 0, .int 0, .int 0, .ref (g 30)])), (g 30, .inl (cy 2, 60, .inr (.inl (fun _ => 0)))), (g 31, .inr (5, [.int 0, .int 0, .int 0, .ref (g 32)])), (g 32, .inl (cy 2, 60, .inr (.inl (fun _ => 0)))), (g 33, .inr (5, [.int 0, .int 0, .int 0, .ref (g 34)])), (g 34, .inl (cy 2, 60, .inr (.inl (fun _ => 0))))] := hD
    by_cases hc_3 : ((0 : Int32) ≤ (0 : Int32) ∧ (0 : Int32) ≤ (3 : Int32))
    ·
      rw [if_pos hc_3] at hw
      subst hw
      refine lv_if_eq (tgt := 22) hx hb dX8_row_4 (by decide) (fun c9 => absurd c9 (by decide)) (fun _ => ?_)
      refine lv_iload_n hx hb dX8_row_7 rfl (lv_at hl 2 rfl) ?_
      refine lv_if_lt (tgt := 22) hx hb dX8_row_8 (by decide) (fun c_4 => ?_) (fun c_4 => ?_)
      ·
        refine lv_bipush (v := (-2)) hx hb dX8_row_22 (by decide) ?_
        have hP9 := hP.sub (ws' := []) [] rfl
        have hD9 := hD.sub (ws' := []) [] (by decide) rfl
        exact W.iret (v := (-2)) hx hb hr (fun tS ht hW => ⟨⟨(-2), (), rfl, (by have f0 := bp32 hc_3; have f1 := plt32 c_4; have z320 : (0 : Int32).toInt = 0 := (by decide); have z323 : (3 : Int32).toInt = 3 := (by decide); unfold sp_row; (repeat' split) <;> first | rfl | (exfalso; omega)), by rw [ht]; exact hP9, va_K.moved hW.alike hK, hD9⟩, hS.F ht⟩) hS.2.2 dX8_row_24
      ·
        refine lv_iload_n hx hb dX8_row_11 rfl (lv_at hl 2 rfl) ?_
        refine lv_iconst (v := 3) hx hb dX8_row_12 (by decide) ?_
        refine lv_icmp_gt (tgt := 22) hx hb dX8_row_13 (by decide) (fun c_5 => ?_) (fun c_5 => ?_)
        ·
          refine lv_bipush (v := (-2)) hx hb dX8_row_22 (by decide) ?_
          have hP9 := hP.sub (ws' := []) [] rfl
          have hD9 := hD.sub (ws' := []) [] (by decide) rfl
          exact W.iret (v := (-2)) hx hb hr (fun tS ht hW => ⟨⟨(-2), (), rfl, (by have f0 := bp32 hc_3; have f1 := nlt32 c_4; have f2 := plt32 c_5; have z320 : (0 : Int32).toInt = 0 := (by decide); have z323 : (3 : Int32).toInt = 3 := (by decide); unfold sp_row; (repeat' split) <;> first | rfl | (exfalso; omega)), by rw [ht]; exact hP9, va_K.moved hW.alike hK, hD9⟩, hS.F ht⟩) hS.2.2 dX8_row_24
        ·
          refine lv_iload_n hx hb dX8_row_16 rfl (lv_at hl 3 rfl) ?_
          refine lv_bipush (v := 60) hx hb dX8_row_17 (by decide) ?_
          refine lv_icmp_le (tgt := 25) hx hb dX8_row_19 (by decide) (fun c_6 => ?_) (fun c_6 => ?_)
          ·
            refine lv_iload_n hx hb dX8_row_25 rfl (lv_at hl 3 rfl) ?_
            refine lv_if_ge (tgt := 32) hx hb dX8_row_26 (by decide) (fun c_7 => ?_) (fun c_7 => ?_)
            ·
              refine lv_aload_n hx hb dX8_row_32 rfl (lv_at hl 0 rfl) ?_
              refine va_get (D := D) (ci := 8) (v := .ref (g 26)) (C := RX8) (T := TX8) (N := 12) hx hb hts iX8 hown hK hP 0 rfl rfl 5 (by decide) (hts _ q439) (fun _ h9 => h9) rfl dX8_row_33 ?_
              refine lv_iload_n hx hb dX8_row_36 rfl (lv_at hl 1 rfl) ?_
              refine va_aldq hx hb hK hP 1 5 rfl rfl (vpi (by decide)) dX8_row_37 ?_
              refine W.eq (g2 := F0 m 38 ls [.ref (g 27)]) rfl ?_
              refine lv_iload_n hx hb dX8_row_38 rfl (lv_at hl 2 rfl) ?_
              refine lv_iload_n hx hb dX8_row_39 rfl (lv_at hl 3 rfl) ?_
              have hPc := hP.sub (ws' := [(g 27, .inr (5, [.int 0, .int 0, .int 0, .ref (g 28)])), (g 28, .inl (cy 2, 60, .inr (.inl (fun _ => 0))))]) [2, 3] rfl
              have hDc := hD.sub (ws' := [(g 27, .inr (5, [.int 0, .int 0, .int 0, .ref (g 28)])), (g 28, .inl (cy 2, 60, .inr (.inl (fun _ => 0))))]) [2, 3] (by decide) rfl
              have hFc := va_free (wc := [(g 27, .inr (5, [.int 0, .int 0, .int 0, .ref (g 28)])), (g 28, .inl (cy 2, 60, .inr (.inl (fun _ => 0))))]) hD hS hA [2, 3] rfl
              refine va_callv (va_runV (As := [.int p2, .int p3]) (rest := []) ⟨hx, hb, hml, hown, hts⟩ (c_X5_renew l D cy (g 27) (g 28) p2 p3 H.size) (cwV 2 hts (gd_V q1332 q1333 q1334 q133 q1335) rfl rfl rfl (by decide +kernel) ⟨Nat.le_of_ble_eq_true rfl, Nat.le_of_ble_eq_true rfl⟩) (pr_V hPc hK hDc (va_recv hK hPc (ci := 5) (q0 := 0) rfl rfl)) rfl rfl hl.1 rfl (lv_room (Nat.le_of_ble_eq_true rfl)) dX8_row_40 ⟨Nat.le_of_ble_eq_true rfl, Nat.le_of_ble_eq_true rfl⟩) hS (fun q _ h => hFc q h) hFc (fun u tS H1 locs ht hvm hw hB hz1 hk1 hS => ?_)
              obtain ⟨hP1, hK1, hD1⟩ := hB
              rw [ht] at hP1
              try dsimp only at hw
              obtain ⟨hP, hD⟩ := va_join (wr := [(g 0, .inr (8, xF g)), (g 26, .inl (cy 5, 4, .inr (.inr (.inr (.inr (va_up (va_up (va_up (va_up (fun _ => none) 0 (some (g 27))) 1 (some (g 29))) 2 (some (g 31))) 3 (some (g 33)))))))), (g 29, .inr (5, [.int 0, .int 0, .int 0, .ref (g 30)])), (g 30, .inl (cy 2, 60, .inr (.inl (fun _ => 0)))), (g 31, .inr (5, [.int 0, .int 0, .int 0, .ref (g 32)])), (g 32, .inl (cy 2, 60, .inr (.inl (fun _ => 0)))), (g 33, .inr (5, [.int 0, .int 0, .int 0, .ref (g 34)])), (g 34, .inl (cy 2, 60, .inr (.inl (fun _ => 0))))]) (w1 := []) hP hD [2, 3] [0, 1, 4, 5, 6, 7, 8, 9] rfl rfl (by decide) (by decide) hk1 hFc hP1 hD1
              generalize H1 = H at hP hS ⊢
              have hP : va_P D clz [(g 0, .inr (8, xF g)), (g 26, .inl (cy 5, 4, .inr (.inr (.inr (.inr (va_up (va_up (va_up (va_up (fun _ => none) 0 (some (g 27))) 1 (some (g 29))) 2 (some (g 31))) 3 (some (g 33)))))))), (g 29, .inr (5, [.int 0, .int 0, .int 0, .ref (g 30)])), (g 30, .inl (cy 2, 60, .inr (.inl (fun _ => 0)))), (g 31, .inr (5, [.int 0, .int 0, .int 0, .ref (g 32)])), (g 32, .inl (cy 2, 60, .inr (.inl (fun _ => 0)))), (g 33, .inr (5, [.int 0, .int 0, .int 0, .ref (g 34)])), (g 34, .inl (cy 2, 60, .inr (.inl (fun _ => 0))))] H := hP
              have hD : va_D A [(g 0, .inr (8, xF g)), (g 26, .inl (cy 5, 4, .inr (.inr (.inr (.inr (va_up (va_up (va_up (va_up (fun _ => none) 0 (some (g 27))) 1 (some (g 29))) 2 (some (g 31))) 3 (some (g 33)))))))), (g 29, .inr (5, [.int 0, .int 0, .int 0, .ref (g 30)])), (g 30, .inl (cy 2, 60, .inr (.inl (fun _ => 0)))), (g 31, .inr (5, [.int 0, .int 0, .int 0, .ref (g 32)])), (g 32, .inl (cy 2, 60, .inr (.inl (fun _ => 0)))), (g 33, .inr (5, [.int 0, .int 0, .int 0, .ref (g 34)])), (g 34, .inl (cy 2, 60, .inr (.inl (fun _ => 0))))] := hD
              refine lv_iconst (v := 0) hx hb dX8_row_43 (by decide) ?_
              have hP9 := hP.sub (ws' := []) [] rfl
              have hD9 := hD.sub (ws' := []) [] (by decide) rfl
              exact W.iret (v := 0) hx hb hr (fun tS ht hW => ⟨⟨0, (), rfl, (by have f0 := bp32 hc_3; have f1 := nlt32 c_4; have f2 := nlt32 c_5; have f3 := ple32 c_6; have f4 := ple32 c_7; have z320 : (0 : Int32).toInt = 0 := (by decide); have z323 : (3 : Int32).toInt = 3 := (by decide); have z3260 : (60 : Int32).toInt = 60 := (by decide); unfold sp_row; (repeat' split) <;> first | rfl | (exfalso; omega)), by rw [ht]; exact hP9, va_K.moved hW.alike hK, hD9⟩, hS.F ht⟩) hS.2.2 dX8_row_44
            ·
              refine lv_bipush (v := (-3)) hx hb dX8_row_29 (by decide) ?_
              have hP9 := hP.sub (ws' := []) [] rfl
              have hD9 := hD.sub (ws' := []) [] (by decide) rfl
              exact W.iret (v := (-3)) hx hb hr (fun tS ht hW => ⟨⟨(-3), (), rfl, (by have f0 := bp32 hc_3; have f1 := nlt32 c_4; have f2 := nlt32 c_5; have f3 := ple32 c_6; have f4 := nle32 c_7; have z320 : (0 : Int32).toInt = 0 := (by decide); have z323 : (3 : Int32).toInt = 3 := (by decide); have z3260 : (60 : Int32).toInt = 60 := (by decide); unfold sp_row; (repeat' split) <;> first | rfl | (exfalso; omega)), by rw [ht]; exact hP9, va_K.moved hW.alike hK, hD9⟩, hS.F ht⟩) hS.2.2 dX8_row_31
          ·
            refine lv_bipush (v := (-2)) hx hb dX8_row_22 (by decide) ?_
            have hP9 := hP.sub (ws' := []) [] rfl
            have hD9 := hD.sub (ws' := []) [] (by decide) rfl
            exact W.iret (v := (-2)) hx hb hr (fun tS ht hW => ⟨⟨(-2), (), rfl, (by have f0 := bp32 hc_3; have f1 := nlt32 c_4; have f2 := nlt32 c_5; have f3 := nle32 c_6; have z320 : (0 : Int32).toInt = 0 := (by decide); have z323 : (3 : Int32).toInt = 3 := (by decide); have z3260 : (60 : Int32).toInt = 60 := (by decide); unfold sp_row; (repeat' split) <;> first | rfl | (exfalso; omega)), by rw [ht]; exact hP9, va_K.moved hW.alike hK, hD9⟩, hS.F ht⟩) hS.2.2 dX8_row_24
    ·
      rw [if_neg hc_3] at hw
      subst hw
      exact False.elim (by have f0 := bn32 hc_3; have z320 : (0 : Int32).toInt = 0 := (by decide); have z323 : (3 : Int32).toInt = 3 := (by decide); omega)
  ·
    refine lv_iload_n hx hb dX8_row_0 rfl (lv_at hl 1 rfl) ?_
    have hPc := hP.sub (ws' := []) [] rfl
    have hDc := hD.sub (ws' := []) [] (by decide) rfl
    have hFc := va_free (wc := []) hD hS hA [] rfl
    refine va_calli (va_runS (As := [.int 1]) (rest := []) ⟨hx, hb, hml, hown, hts⟩ (c_X8_isSlot l D cy 1 s.heap.size) (va_cwS 1 hts (gd_S q1267 q1268 q125 q1269) rfl rfl rfl (by decide +kernel) ⟨Nat.le_of_ble_eq_true rfl, Nat.le_of_ble_eq_true rfl⟩) (pr_S hPc hK hDc) rfl rfl hl.1 rfl (lv_room (Nat.le_of_ble_eq_true rfl)) dX8_row_1 ⟨Nat.le_of_ble_eq_true rfl, Nat.le_of_ble_eq_true rfl⟩) hS (fun q _ h => hFc q h) hFc (fun r_9 u tS H1 locs ht hvm hw hB hz1 hk1 hS => ?_)
    obtain ⟨hP1, hK1, hD1⟩ := hB
    rw [ht] at hP1
    try dsimp only at hw
    obtain ⟨hP, hD⟩ := va_join (wr := [(g 0, .inr (8, xF g)), (g 26, .inl (cy 5, 4, .inr (.inr (.inr (.inr (va_up (va_up (va_up (va_up (fun _ => none) 0 (some (g 27))) 1 (some (g 29))) 2 (some (g 31))) 3 (some (g 33)))))))), (g 27, .inr (5, [.int 0, .int 0, .int 0, .ref (g 28)])), (g 28, .inl (cy 2, 60, .inr (.inl (fun _ => 0)))), (g 29, .inr (5, [.int 0, .int 0, .int 0, .ref (g 30)])), (g 30, .inl (cy 2, 60, .inr (.inl (fun _ => 0)))), (g 31, .inr (5, [.int 0, .int 0, .int 0, .ref (g 32)])), (g 32, .inl (cy 2, 60, .inr (.inl (fun _ => 0)))), (g 33, .inr (5, [.int 0, .int 0, .int 0, .ref (g 34)])), (g 34, .inl (cy 2, 60, .inr (.inl (fun _ => 0))))]) (w1 := []) hP hD [] [0, 1, 2, 3, 4, 5, 6, 7, 8, 9] rfl rfl (by decide) (by decide) hk1 hFc hP1 hD1
    generalize H1 = H at hP hS ⊢
    have hP : va_P D clz [(g 0, .inr (8, xF g)), (g 26, .inl (cy 5, 4, .inr (.inr (.inr (.inr (va_up (va_up (va_up (va_up (fun _ => none) 0 (some (g 27))) 1 (some (g 29))) 2 (some (g 31))) 3 (some (g 33)))))))), (g 27, .inr (5, [.int 0, .int 0, .int 0, .ref (g 28)])), (g 28, .inl (cy 2, 60, .inr (.inl (fun _ => 0)))), (g 29, .inr (5, [.int 0, .int 0, .int 0, .ref (g 30)])), (g 30, .inl (cy 2, 60, .inr (.inl (fun _ => 0)))), (g 31, .inr (5, [.int 0, .int 0, .int 0, .ref (g 32)])), (g 32, .inl (cy 2, 60, .inr (.inl (fun _ => 0)))), (g 33, .inr (5, [.int 0, .int 0, .int 0, .ref (g 34)])), (g 34, .inl (cy 2, 60, .inr (.inl (fun _ => 0))))] H := hP
    have hD : va_D A [(g 0, .inr (8, xF g)), (g 26, .inl (cy 5, 4, .inr (.inr (.inr (.inr (va_up (va_up (va_up (va_up (fun _ => none) 0 (some (g 27))) 1 (some (g 29))) 2 (some (g 31))) 3 (some (g 33)))))))), (g 27, .inr (5, [.int 0, .int 0, .int 0, .ref (g 28)])), (g 28, .inl (cy 2, 60, .inr (.inl (fun _ => 0)))), (g 29, .inr (5, [.int 0, .int 0, .int 0, .ref (g 30)])), (g 30, .inl (cy 2, 60, .inr (.inl (fun _ => 0)))), (g 31, .inr (5, [.int 0, .int 0, .int 0, .ref (g 32)])), (g 32, .inl (cy 2, 60, .inr (.inl (fun _ => 0)))), (g 33, .inr (5, [.int 0, .int 0, .int 0, .ref (g 34)])), (g 34, .inl (cy 2, 60, .inr (.inl (fun _ => 0))))] := hD
    by_cases hc_10 : ((0 : Int32) ≤ (1 : Int32) ∧ (1 : Int32) ≤ (3 : Int32))
    ·
      rw [if_pos hc_10] at hw
      subst hw
      refine lv_if_eq (tgt := 22) hx hb dX8_row_4 (by decide) (fun c9 => absurd c9 (by decide)) (fun _ => ?_)
      refine lv_iload_n hx hb dX8_row_7 rfl (lv_at hl 2 rfl) ?_
      refine lv_if_lt (tgt := 22) hx hb dX8_row_8 (by decide) (fun c_11 => ?_) (fun c_11 => ?_)
      ·
        refine lv_bipush (v := (-2)) hx hb dX8_row_22 (by decide) ?_
        have hP9 := hP.sub (ws' := []) [] rfl
        have hD9 := hD.sub (ws' := []) [] (by decide) rfl
        exact W.iret (v := (-2)) hx hb hr (fun tS ht hW => ⟨⟨(-2), (), rfl, (by have f0 := bp32 hc_10; have f1 := plt32 c_11; have z320 : (0 : Int32).toInt = 0 := (by decide); have z321 : (1 : Int32).toInt = 1 := (by decide); have z323 : (3 : Int32).toInt = 3 := (by decide); unfold sp_row; (repeat' split) <;> first | rfl | (exfalso; omega)), by rw [ht]; exact hP9, va_K.moved hW.alike hK, hD9⟩, hS.F ht⟩) hS.2.2 dX8_row_24
      ·
        refine lv_iload_n hx hb dX8_row_11 rfl (lv_at hl 2 rfl) ?_
        refine lv_iconst (v := 3) hx hb dX8_row_12 (by decide) ?_
        refine lv_icmp_gt (tgt := 22) hx hb dX8_row_13 (by decide) (fun c_12 => ?_) (fun c_12 => ?_)
        ·
          refine lv_bipush (v := (-2)) hx hb dX8_row_22 (by decide) ?_
          have hP9 := hP.sub (ws' := []) [] rfl
          have hD9 := hD.sub (ws' := []) [] (by decide) rfl
          exact W.iret (v := (-2)) hx hb hr (fun tS ht hW => ⟨⟨(-2), (), rfl, (by have f0 := bp32 hc_10; have f1 := nlt32 c_11; have f2 := plt32 c_12; have z320 : (0 : Int32).toInt = 0 := (by decide); have z321 : (1 : Int32).toInt = 1 := (by decide); have z323 : (3 : Int32).toInt = 3 := (by decide); unfold sp_row; (repeat' split) <;> first | rfl | (exfalso; omega)), by rw [ht]; exact hP9, va_K.moved hW.alike hK, hD9⟩, hS.F ht⟩) hS.2.2 dX8_row_24
        ·
          refine lv_iload_n hx hb dX8_row_16 rfl (lv_at hl 3 rfl) ?_
          refine lv_bipush (v := 60) hx hb dX8_row_17 (by decide) ?_
          refine lv_icmp_le (tgt := 25) hx hb dX8_row_19 (by decide) (fun c_13 => ?_) (fun c_13 => ?_)
          ·
            refine lv_iload_n hx hb dX8_row_25 rfl (lv_at hl 3 rfl) ?_
            refine lv_if_ge (tgt := 32) hx hb dX8_row_26 (by decide) (fun c_14 => ?_) (fun c_14 => ?_)
            ·
              refine lv_aload_n hx hb dX8_row_32 rfl (lv_at hl 0 rfl) ?_
              refine va_get (D := D) (ci := 8) (v := .ref (g 26)) (C := RX8) (T := TX8) (N := 12) hx hb hts iX8 hown hK hP 0 rfl rfl 5 (by decide) (hts _ q439) (fun _ h9 => h9) rfl dX8_row_33 ?_
              refine lv_iload_n hx hb dX8_row_36 rfl (lv_at hl 1 rfl) ?_
              refine va_aldq hx hb hK hP 1 5 rfl rfl (vpi (by decide)) dX8_row_37 ?_
              refine W.eq (g2 := F0 m 38 ls [.ref (g 29)]) rfl ?_
              refine lv_iload_n hx hb dX8_row_38 rfl (lv_at hl 2 rfl) ?_
              refine lv_iload_n hx hb dX8_row_39 rfl (lv_at hl 3 rfl) ?_
              have hPc := hP.sub (ws' := [(g 29, .inr (5, [.int 0, .int 0, .int 0, .ref (g 30)])), (g 30, .inl (cy 2, 60, .inr (.inl (fun _ => 0))))]) [4, 5] rfl
              have hDc := hD.sub (ws' := [(g 29, .inr (5, [.int 0, .int 0, .int 0, .ref (g 30)])), (g 30, .inl (cy 2, 60, .inr (.inl (fun _ => 0))))]) [4, 5] (by decide) rfl
              have hFc := va_free (wc := [(g 29, .inr (5, [.int 0, .int 0, .int 0, .ref (g 30)])), (g 30, .inl (cy 2, 60, .inr (.inl (fun _ => 0))))]) hD hS hA [4, 5] rfl
              refine va_callv (va_runV (As := [.int p2, .int p3]) (rest := []) ⟨hx, hb, hml, hown, hts⟩ (c_X5_renew l D cy (g 29) (g 30) p2 p3 H.size) (cwV 2 hts (gd_V q1332 q1333 q1334 q133 q1335) rfl rfl rfl (by decide +kernel) ⟨Nat.le_of_ble_eq_true rfl, Nat.le_of_ble_eq_true rfl⟩) (pr_V hPc hK hDc (va_recv hK hPc (ci := 5) (q0 := 0) rfl rfl)) rfl rfl hl.1 rfl (lv_room (Nat.le_of_ble_eq_true rfl)) dX8_row_40 ⟨Nat.le_of_ble_eq_true rfl, Nat.le_of_ble_eq_true rfl⟩) hS (fun q _ h => hFc q h) hFc (fun u tS H1 locs ht hvm hw hB hz1 hk1 hS => ?_)
              obtain ⟨hP1, hK1, hD1⟩ := hB
              rw [ht] at hP1
              try dsimp only at hw
              obtain ⟨hP, hD⟩ := va_join (wr := [(g 0, .inr (8, xF g)), (g 26, .inl (cy 5, 4, .inr (.inr (.inr (.inr (va_up (va_up (va_up (va_up (fun _ => none) 0 (some (g 27))) 1 (some (g 29))) 2 (some (g 31))) 3 (some (g 33)))))))), (g 27, .inr (5, [.int 0, .int 0, .int 0, .ref (g 28)])), (g 28, .inl (cy 2, 60, .inr (.inl (fun _ => 0)))), (g 31, .inr (5, [.int 0, .int 0, .int 0, .ref (g 32)])), (g 32, .inl (cy 2, 60, .inr (.inl (fun _ => 0)))), (g 33, .inr (5, [.int 0, .int 0, .int 0, .ref (g 34)])), (g 34, .inl (cy 2, 60, .inr (.inl (fun _ => 0))))]) (w1 := []) hP hD [4, 5] [0, 1, 2, 3, 6, 7, 8, 9] rfl rfl (by decide) (by decide) hk1 hFc hP1 hD1
              generalize H1 = H at hP hS ⊢
              have hP : va_P D clz [(g 0, .inr (8, xF g)), (g 26, .inl (cy 5, 4, .inr (.inr (.inr (.inr (va_up (va_up (va_up (va_up (fun _ => none) 0 (some (g 27))) 1 (some (g 29))) 2 (some (g 31))) 3 (some (g 33)))))))), (g 27, .inr (5, [.int 0, .int 0, .int 0, .ref (g 28)])), (g 28, .inl (cy 2, 60, .inr (.inl (fun _ => 0)))), (g 31, .inr (5, [.int 0, .int 0, .int 0, .ref (g 32)])), (g 32, .inl (cy 2, 60, .inr (.inl (fun _ => 0)))), (g 33, .inr (5, [.int 0, .int 0, .int 0, .ref (g 34)])), (g 34, .inl (cy 2, 60, .inr (.inl (fun _ => 0))))] H := hP
              have hD : va_D A [(g 0, .inr (8, xF g)), (g 26, .inl (cy 5, 4, .inr (.inr (.inr (.inr (va_up (va_up (va_up (va_up (fun _ => none) 0 (some (g 27))) 1 (some (g 29))) 2 (some (g 31))) 3 (some (g 33)))))))), (g 27, .inr (5, [.int 0, .int 0, .int 0, .ref (g 28)])), (g 28, .inl (cy 2, 60, .inr (.inl (fun _ => 0)))), (g 31, .inr (5, [.int 0, .int 0, .int 0, .ref (g 32)])), (g 32, .inl (cy 2, 60, .inr (.inl (fun _ => 0)))), (g 33, .inr (5, [.int 0, .int 0, .int 0, .ref (g 34)])), (g 34, .inl (cy 2, 60, .inr (.inl (fun _ => 0))))] := hD
              refine lv_iconst (v := 0) hx hb dX8_row_43 (by decide) ?_
              have hP9 := hP.sub (ws' := []) [] rfl
              have hD9 := hD.sub (ws' := []) [] (by decide) rfl
              exact W.iret (v := 0) hx hb hr (fun tS ht hW => ⟨⟨0, (), rfl, (by have f0 := bp32 hc_10; have f1 := nlt32 c_11; have f2 := nlt32 c_12; have f3 := ple32 c_13; have f4 := ple32 c_14; have z320 : (0 : Int32).toInt = 0 := (by decide); have z321 : (1 : Int32).toInt = 1 := (by decide); have z323 : (3 : Int32).toInt = 3 := (by decide); have z3260 : (60 : Int32).toInt = 60 := (by decide); unfold sp_row; (repeat' split) <;> first | rfl | (exfalso; omega)), by rw [ht]; exact hP9, va_K.moved hW.alike hK, hD9⟩, hS.F ht⟩) hS.2.2 dX8_row_44
            ·
              refine lv_bipush (v := (-3)) hx hb dX8_row_29 (by decide) ?_
              have hP9 := hP.sub (ws' := []) [] rfl
              have hD9 := hD.sub (ws' := []) [] (by decide) rfl
              exact W.iret (v := (-3)) hx hb hr (fun tS ht hW => ⟨⟨(-3), (), rfl, (by have f0 := bp32 hc_10; have f1 := nlt32 c_11; have f2 := nlt32 c_12; have f3 := ple32 c_13; have f4 := nle32 c_14; have z320 : (0 : Int32).toInt = 0 := (by decide); have z321 : (1 : Int32).toInt = 1 := (by decide); have z323 : (3 : Int32).toInt = 3 := (by decide); have z3260 : (60 : Int32).toInt = 60 := (by decide); unfold sp_row; (repeat' split) <;> first | rfl | (exfalso; omega)), by rw [ht]; exact hP9, va_K.moved hW.alike hK, hD9⟩, hS.F ht⟩) hS.2.2 dX8_row_31
          ·
            refine lv_bipush (v := (-2)) hx hb dX8_row_22 (by decide) ?_
            have hP9 := hP.sub (ws' := []) [] rfl
            have hD9 := hD.sub (ws' := []) [] (by decide) rfl
            exact W.iret (v := (-2)) hx hb hr (fun tS ht hW => ⟨⟨(-2), (), rfl, (by have f0 := bp32 hc_10; have f1 := nlt32 c_11; have f2 := nlt32 c_12; have f3 := nle32 c_13; have z320 : (0 : Int32).toInt = 0 := (by decide); have z321 : (1 : Int32).toInt = 1 := (by decide); have z323 : (3 : Int32).toInt = 3 := (by decide); have z3260 : (60 : Int32).toInt = 60 := (by decide); unfold sp_row; (repeat' split) <;> first | rfl | (exfalso; omega)), by rw [ht]; exact hP9, va_K.moved hW.alike hK, hD9⟩, hS.F ht⟩) hS.2.2 dX8_row_24
    ·
      rw [if_neg hc_10] at hw
      subst hw
      exact False.elim (by have f0 := bn32 hc_10; have z320 : (0 : Int32).toInt = 0 := (by decide); have z321 : (1 : Int32).toInt = 1 := (by decide); have z323 : (3 : Int32).toInt = 3 := (by decide); omega)
  ·
    refine lv_iload_n hx hb dX8_row_0 rfl (lv_at hl 1 rfl) ?_
    have hPc := hP.sub (ws' := []) [] rfl
    have hDc := hD.sub (ws' := []) [] (by decide) rfl
    have hFc := va_free (wc := []) hD hS hA [] rfl
    refine va_calli (va_runS (As := [.int 2]) (rest := []) ⟨hx, hb, hml, hown, hts⟩ (c_X8_isSlot l D cy 2 s.heap.size) (va_cwS 1 hts (gd_S q1267 q1268 q125 q1269) rfl rfl rfl (by decide +kernel) ⟨Nat.le_of_ble_eq_true rfl, Nat.le_of_ble_eq_true rfl⟩) (pr_S hPc hK hDc) rfl rfl hl.1 rfl (lv_room (Nat.le_of_ble_eq_true rfl)) dX8_row_1 ⟨Nat.le_of_ble_eq_true rfl, Nat.le_of_ble_eq_true rfl⟩) hS (fun q _ h => hFc q h) hFc (fun r_16 u tS H1 locs ht hvm hw hB hz1 hk1 hS => ?_)
    obtain ⟨hP1, hK1, hD1⟩ := hB
    rw [ht] at hP1
    try dsimp only at hw
    obtain ⟨hP, hD⟩ := va_join (wr := [(g 0, .inr (8, xF g)), (g 26, .inl (cy 5, 4, .inr (.inr (.inr (.inr (va_up (va_up (va_up (va_up (fun _ => none) 0 (some (g 27))) 1 (some (g 29))) 2 (some (g 31))) 3 (some (g 33)))))))), (g 27, .inr (5, [.int 0, .int 0, .int 0, .ref (g 28)])), (g 28, .inl (cy 2, 60, .inr (.inl (fun _ => 0)))), (g 29, .inr (5, [.int 0, .int 0, .int 0, .ref (g 30)])), (g 30, .inl (cy 2, 60, .inr (.inl (fun _ => 0)))), (g 31, .inr (5, [.int 0, .int 0, .int 0, .ref (g 32)])), (g 32, .inl (cy 2, 60, .inr (.inl (fun _ => 0)))), (g 33, .inr (5, [.int 0, .int 0, .int 0, .ref (g 34)])), (g 34, .inl (cy 2, 60, .inr (.inl (fun _ => 0))))]) (w1 := []) hP hD [] [0, 1, 2, 3, 4, 5, 6, 7, 8, 9] rfl rfl (by decide) (by decide) hk1 hFc hP1 hD1
    generalize H1 = H at hP hS ⊢
    have hP : va_P D clz [(g 0, .inr (8, xF g)), (g 26, .inl (cy 5, 4, .inr (.inr (.inr (.inr (va_up (va_up (va_up (va_up (fun _ => none) 0 (some (g 27))) 1 (some (g 29))) 2 (some (g 31))) 3 (some (g 33)))))))), (g 27, .inr (5, [.int 0, .int 0, .int 0, .ref (g 28)])), (g 28, .inl (cy 2, 60, .inr (.inl (fun _ => 0)))), (g 29, .inr (5, [.int 0, .int 0, .int 0, .ref (g 30)])), (g 30, .inl (cy 2, 60, .inr (.inl (fun _ => 0)))), (g 31, .inr (5, [.int 0, .int 0, .int 0, .ref (g 32)])), (g 32, .inl (cy 2, 60, .inr (.inl (fun _ => 0)))), (g 33, .inr (5, [.int 0, .int 0, .int 0, .ref (g 34)])), (g 34, .inl (cy 2, 60, .inr (.inl (fun _ => 0))))] H := hP
    have hD : va_D A [(g 0, .inr (8, xF g)), (g 26, .inl (cy 5, 4, .inr (.inr (.inr (.inr (va_up (va_up (va_up (va_up (fun _ => none) 0 (some (g 27))) 1 (some (g 29))) 2 (some (g 31))) 3 (some (g 33)))))))), (g 27, .inr (5, [.int 0, .int 0, .int 0, .ref (g 28)])), (g 28, .inl (cy 2, 60, .inr (.inl (fun _ => 0)))), (g 29, .inr (5, [.int 0, .int 0, .int 0, .ref (g 30)])), (g 30, .inl (cy 2, 60, .inr (.inl (fun _ => 0)))), (g 31, .inr (5, [.int 0, .int 0, .int 0, .ref (g 32)])), (g 32, .inl (cy 2, 60, .inr (.inl (fun _ => 0)))), (g 33, .inr (5, [.int 0, .int 0, .int 0, .ref (g 34)])), (g 34, .inl (cy 2, 60, .inr (.inl (fun _ => 0))))] := hD
    by_cases hc_17 : ((0 : Int32) ≤ (2 : Int32) ∧ (2 : Int32) ≤ (3 : Int32))
    ·
      rw [if_pos hc_17] at hw
      subst hw
      refine lv_if_eq (tgt := 22) hx hb dX8_row_4 (by decide) (fun c9 => absurd c9 (by decide)) (fun _ => ?_)
      refine lv_iload_n hx hb dX8_row_7 rfl (lv_at hl 2 rfl) ?_
      refine lv_if_lt (tgt := 22) hx hb dX8_row_8 (by decide) (fun c_18 => ?_) (fun c_18 => ?_)
      ·
        refine lv_bipush (v := (-2)) hx hb dX8_row_22 (by decide) ?_
        have hP9 := hP.sub (ws' := []) [] rfl
        have hD9 := hD.sub (ws' := []) [] (by decide) rfl
        exact W.iret (v := (-2)) hx hb hr (fun tS ht hW => ⟨⟨(-2), (), rfl, (by have f0 := bp32 hc_17; have f1 := plt32 c_18; have z320 : (0 : Int32).toInt = 0 := (by decide); have z322 : (2 : Int32).toInt = 2 := (by decide); have z323 : (3 : Int32).toInt = 3 := (by decide); unfold sp_row; (repeat' split) <;> first | rfl | (exfalso; omega)), by rw [ht]; exact hP9, va_K.moved hW.alike hK, hD9⟩, hS.F ht⟩) hS.2.2 dX8_row_24
      ·
        refine lv_iload_n hx hb dX8_row_11 rfl (lv_at hl 2 rfl) ?_
        refine lv_iconst (v := 3) hx hb dX8_row_12 (by decide) ?_
        refine lv_icmp_gt (tgt := 22) hx hb dX8_row_13 (by decide) (fun c_19 => ?_) (fun c_19 => ?_)
        ·
          refine lv_bipush (v := (-2)) hx hb dX8_row_22 (by decide) ?_
          have hP9 := hP.sub (ws' := []) [] rfl
          have hD9 := hD.sub (ws' := []) [] (by decide) rfl
          exact W.iret (v := (-2)) hx hb hr (fun tS ht hW => ⟨⟨(-2), (), rfl, (by have f0 := bp32 hc_17; have f1 := nlt32 c_18; have f2 := plt32 c_19; have z320 : (0 : Int32).toInt = 0 := (by decide); have z322 : (2 : Int32).toInt = 2 := (by decide); have z323 : (3 : Int32).toInt = 3 := (by decide); unfold sp_row; (repeat' split) <;> first | rfl | (exfalso; omega)), by rw [ht]; exact hP9, va_K.moved hW.alike hK, hD9⟩, hS.F ht⟩) hS.2.2 dX8_row_24
        ·
          refine lv_iload_n hx hb dX8_row_16 rfl (lv_at hl 3 rfl) ?_
          refine lv_bipush (v := 60) hx hb dX8_row_17 (by decide) ?_
          refine lv_icmp_le (tgt := 25) hx hb dX8_row_19 (by decide) (fun c_20 => ?_) (fun c_20 => ?_)
          ·
            refine lv_iload_n hx hb dX8_row_25 rfl (lv_at hl 3 rfl) ?_
            refine lv_if_ge (tgt := 32) hx hb dX8_row_26 (by decide) (fun c_21 => ?_) (fun c_21 => ?_)
            ·
              refine lv_aload_n hx hb dX8_row_32 rfl (lv_at hl 0 rfl) ?_
              refine va_get (D := D) (ci := 8) (v := .ref (g 26)) (C := RX8) (T := TX8) (N := 12) hx hb hts iX8 hown hK hP 0 rfl rfl 5 (by decide) (hts _ q439) (fun _ h9 => h9) rfl dX8_row_33 ?_
              refine lv_iload_n hx hb dX8_row_36 rfl (lv_at hl 1 rfl) ?_
              refine va_aldq hx hb hK hP 1 5 rfl rfl (vpi (by decide)) dX8_row_37 ?_
              refine W.eq (g2 := F0 m 38 ls [.ref (g 31)]) rfl ?_
              refine lv_iload_n hx hb dX8_row_38 rfl (lv_at hl 2 rfl) ?_
              refine lv_iload_n hx hb dX8_row_39 rfl (lv_at hl 3 rfl) ?_
              have hPc := hP.sub (ws' := [(g 31, .inr (5, [.int 0, .int 0, .int 0, .ref (g 32)])), (g 32, .inl (cy 2, 60, .inr (.inl (fun _ => 0))))]) [6, 7] rfl
              have hDc := hD.sub (ws' := [(g 31, .inr (5, [.int 0, .int 0, .int 0, .ref (g 32)])), (g 32, .inl (cy 2, 60, .inr (.inl (fun _ => 0))))]) [6, 7] (by decide) rfl
              have hFc := va_free (wc := [(g 31, .inr (5, [.int 0, .int 0, .int 0, .ref (g 32)])), (g 32, .inl (cy 2, 60, .inr (.inl (fun _ => 0))))]) hD hS hA [6, 7] rfl
              refine va_callv (va_runV (As := [.int p2, .int p3]) (rest := []) ⟨hx, hb, hml, hown, hts⟩ (c_X5_renew l D cy (g 31) (g 32) p2 p3 H.size) (cwV 2 hts (gd_V q1332 q1333 q1334 q133 q1335) rfl rfl rfl (by decide +kernel) ⟨Nat.le_of_ble_eq_true rfl, Nat.le_of_ble_eq_true rfl⟩) (pr_V hPc hK hDc (va_recv hK hPc (ci := 5) (q0 := 0) rfl rfl)) rfl rfl hl.1 rfl (lv_room (Nat.le_of_ble_eq_true rfl)) dX8_row_40 ⟨Nat.le_of_ble_eq_true rfl, Nat.le_of_ble_eq_true rfl⟩) hS (fun q _ h => hFc q h) hFc (fun u tS H1 locs ht hvm hw hB hz1 hk1 hS => ?_)
              obtain ⟨hP1, hK1, hD1⟩ := hB
              rw [ht] at hP1
              try dsimp only at hw
              obtain ⟨hP, hD⟩ := va_join (wr := [(g 0, .inr (8, xF g)), (g 26, .inl (cy 5, 4, .inr (.inr (.inr (.inr (va_up (va_up (va_up (va_up (fun _ => none) 0 (some (g 27))) 1 (some (g 29))) 2 (some (g 31))) 3 (some (g 33)))))))), (g 27, .inr (5, [.int 0, .int 0, .int 0, .ref (g 28)])), (g 28, .inl (cy 2, 60, .inr (.inl (fun _ => 0)))), (g 29, .inr (5, [.int 0, .int 0, .int 0, .ref (g 30)])), (g 30, .inl (cy 2, 60, .inr (.inl (fun _ => 0)))), (g 33, .inr (5, [.int 0, .int 0, .int 0, .ref (g 34)])), (g 34, .inl (cy 2, 60, .inr (.inl (fun _ => 0))))]) (w1 := []) hP hD [6, 7] [0, 1, 2, 3, 4, 5, 8, 9] rfl rfl (by decide) (by decide) hk1 hFc hP1 hD1
              generalize H1 = H at hP hS ⊢
              have hP : va_P D clz [(g 0, .inr (8, xF g)), (g 26, .inl (cy 5, 4, .inr (.inr (.inr (.inr (va_up (va_up (va_up (va_up (fun _ => none) 0 (some (g 27))) 1 (some (g 29))) 2 (some (g 31))) 3 (some (g 33)))))))), (g 27, .inr (5, [.int 0, .int 0, .int 0, .ref (g 28)])), (g 28, .inl (cy 2, 60, .inr (.inl (fun _ => 0)))), (g 29, .inr (5, [.int 0, .int 0, .int 0, .ref (g 30)])), (g 30, .inl (cy 2, 60, .inr (.inl (fun _ => 0)))), (g 33, .inr (5, [.int 0, .int 0, .int 0, .ref (g 34)])), (g 34, .inl (cy 2, 60, .inr (.inl (fun _ => 0))))] H := hP
              have hD : va_D A [(g 0, .inr (8, xF g)), (g 26, .inl (cy 5, 4, .inr (.inr (.inr (.inr (va_up (va_up (va_up (va_up (fun _ => none) 0 (some (g 27))) 1 (some (g 29))) 2 (some (g 31))) 3 (some (g 33)))))))), (g 27, .inr (5, [.int 0, .int 0, .int 0, .ref (g 28)])), (g 28, .inl (cy 2, 60, .inr (.inl (fun _ => 0)))), (g 29, .inr (5, [.int 0, .int 0, .int 0, .ref (g 30)])), (g 30, .inl (cy 2, 60, .inr (.inl (fun _ => 0)))), (g 33, .inr (5, [.int 0, .int 0, .int 0, .ref (g 34)])), (g 34, .inl (cy 2, 60, .inr (.inl (fun _ => 0))))] := hD
              refine lv_iconst (v := 0) hx hb dX8_row_43 (by decide) ?_
              have hP9 := hP.sub (ws' := []) [] rfl
              have hD9 := hD.sub (ws' := []) [] (by decide) rfl
              exact W.iret (v := 0) hx hb hr (fun tS ht hW => ⟨⟨0, (), rfl, (by have f0 := bp32 hc_17; have f1 := nlt32 c_18; have f2 := nlt32 c_19; have f3 := ple32 c_20; have f4 := ple32 c_21; have z320 : (0 : Int32).toInt = 0 := (by decide); have z322 : (2 : Int32).toInt = 2 := (by decide); have z323 : (3 : Int32).toInt = 3 := (by decide); have z3260 : (60 : Int32).toInt = 60 := (by decide); unfold sp_row; (repeat' split) <;> first | rfl | (exfalso; omega)), by rw [ht]; exact hP9, va_K.moved hW.alike hK, hD9⟩, hS.F ht⟩) hS.2.2 dX8_row_44
            ·
              refine lv_bipush (v := (-3)) hx hb dX8_row_29 (by decide) ?_
              have hP9 := hP.sub (ws' := []) [] rfl
              have hD9 := hD.sub (ws' := []) [] (by decide) rfl
              exact W.iret (v := (-3)) hx hb hr (fun tS ht hW => ⟨⟨(-3), (), rfl, (by have f0 := bp32 hc_17; have f1 := nlt32 c_18; have f2 := nlt32 c_19; have f3 := ple32 c_20; have f4 := nle32 c_21; have z320 : (0 : Int32).toInt = 0 := (by decide); have z322 : (2 : Int32).toInt = 2 := (by decide); have z323 : (3 : Int32).toInt = 3 := (by decide); have z3260 : (60 : Int32).toInt = 60 := (by decide); unfold sp_row; (repeat' split) <;> first | rfl | (exfalso; omega)), by rw [ht]; exact hP9, va_K.moved hW.alike hK, hD9⟩, hS.F ht⟩) hS.2.2 dX8_row_31
          ·
            refine lv_bipush (v := (-2)) hx hb dX8_row_22 (by decide) ?_
            have hP9 := hP.sub (ws' := []) [] rfl
            have hD9 := hD.sub (ws' := []) [] (by decide) rfl
            exact W.iret (v := (-2)) hx hb hr (fun tS ht hW => ⟨⟨(-2), (), rfl, (by have f0 := bp32 hc_17; have f1 := nlt32 c_18; have f2 := nlt32 c_19; have f3 := nle32 c_20; have z320 : (0 : Int32).toInt = 0 := (by decide); have z322 : (2 : Int32).toInt = 2 := (by decide); have z323 : (3 : Int32).toInt = 3 := (by decide); have z3260 : (60 : Int32).toInt = 60 := (by decide); unfold sp_row; (repeat' split) <;> first | rfl | (exfalso; omega)), by rw [ht]; exact hP9, va_K.moved hW.alike hK, hD9⟩, hS.F ht⟩) hS.2.2 dX8_row_24
    ·
      rw [if_neg hc_17] at hw
      subst hw
      exact False.elim (by have f0 := bn32 hc_17; have z320 : (0 : Int32).toInt = 0 := (by decide); have z322 : (2 : Int32).toInt = 2 := (by decide); have z323 : (3 : Int32).toInt = 3 := (by decide); omega)
  ·
    refine lv_iload_n hx hb dX8_row_0 rfl (lv_at hl 1 rfl) ?_
    have hPc := hP.sub (ws' := []) [] rfl
    have hDc := hD.sub (ws' := []) [] (by decide) rfl
    have hFc := va_free (wc := []) hD hS hA [] rfl
    refine va_calli (va_runS (As := [.int 3]) (rest := []) ⟨hx, hb, hml, hown, hts⟩ (c_X8_isSlot l D cy 3 s.heap.size) (va_cwS 1 hts (gd_S q1267 q1268 q125 q1269) rfl rfl rfl (by decide +kernel) ⟨Nat.le_of_ble_eq_true rfl, Nat.le_of_ble_eq_true rfl⟩) (pr_S hPc hK hDc) rfl rfl hl.1 rfl (lv_room (Nat.le_of_ble_eq_true rfl)) dX8_row_1 ⟨Nat.le_of_ble_eq_true rfl, Nat.le_of_ble_eq_true rfl⟩) hS (fun q _ h => hFc q h) hFc (fun r_23 u tS H1 locs ht hvm hw hB hz1 hk1 hS => ?_)
    obtain ⟨hP1, hK1, hD1⟩ := hB
    rw [ht] at hP1
    try dsimp only at hw
    obtain ⟨hP, hD⟩ := va_join (wr := [(g 0, .inr (8, xF g)), (g 26, .inl (cy 5, 4, .inr (.inr (.inr (.inr (va_up (va_up (va_up (va_up (fun _ => none) 0 (some (g 27))) 1 (some (g 29))) 2 (some (g 31))) 3 (some (g 33)))))))), (g 27, .inr (5, [.int 0, .int 0, .int 0, .ref (g 28)])), (g 28, .inl (cy 2, 60, .inr (.inl (fun _ => 0)))), (g 29, .inr (5, [.int 0, .int 0, .int 0, .ref (g 30)])), (g 30, .inl (cy 2, 60, .inr (.inl (fun _ => 0)))), (g 31, .inr (5, [.int 0, .int 0, .int 0, .ref (g 32)])), (g 32, .inl (cy 2, 60, .inr (.inl (fun _ => 0)))), (g 33, .inr (5, [.int 0, .int 0, .int 0, .ref (g 34)])), (g 34, .inl (cy 2, 60, .inr (.inl (fun _ => 0))))]) (w1 := []) hP hD [] [0, 1, 2, 3, 4, 5, 6, 7, 8, 9] rfl rfl (by decide) (by decide) hk1 hFc hP1 hD1
    generalize H1 = H at hP hS ⊢
    have hP : va_P D clz [(g 0, .inr (8, xF g)), (g 26, .inl (cy 5, 4, .inr (.inr (.inr (.inr (va_up (va_up (va_up (va_up (fun _ => none) 0 (some (g 27))) 1 (some (g 29))) 2 (some (g 31))) 3 (some (g 33)))))))), (g 27, .inr (5, [.int 0, .int 0, .int 0, .ref (g 28)])), (g 28, .inl (cy 2, 60, .inr (.inl (fun _ => 0)))), (g 29, .inr (5, [.int 0, .int 0, .int 0, .ref (g 30)])), (g 30, .inl (cy 2, 60, .inr (.inl (fun _ => 0)))), (g 31, .inr (5, [.int 0, .int 0, .int 0, .ref (g 32)])), (g 32, .inl (cy 2, 60, .inr (.inl (fun _ => 0)))), (g 33, .inr (5, [.int 0, .int 0, .int 0, .ref (g 34)])), (g 34, .inl (cy 2, 60, .inr (.inl (fun _ => 0))))] H := hP
    have hD : va_D A [(g 0, .inr (8, xF g)), (g 26, .inl (cy 5, 4, .inr (.inr (.inr (.inr (va_up (va_up (va_up (va_up (fun _ => none) 0 (some (g 27))) 1 (some (g 29))) 2 (some (g 31))) 3 (some (g 33)))))))), (g 27, .inr (5, [.int 0, .int 0, .int 0, .ref (g 28)])), (g 28, .inl (cy 2, 60, .inr (.inl (fun _ => 0)))), (g 29, .inr (5, [.int 0, .int 0, .int 0, .ref (g 30)])), (g 30, .inl (cy 2, 60, .inr (.inl (fun _ => 0)))), (g 31, .inr (5, [.int 0, .int 0, .int 0, .ref (g 32)])), (g 32, .inl (cy 2, 60, .inr (.inl (fun _ => 0)))), (g 33, .inr (5, [.int 0, .int 0, .int 0, .ref (g 34)])), (g 34, .inl (cy 2, 60, .inr (.inl (fun _ => 0))))] := hD
    by_cases hc_24 : ((0 : Int32) ≤ (3 : Int32) ∧ (3 : Int32) ≤ (3 : Int32))
    ·
      rw [if_pos hc_24] at hw
      subst hw
      refine lv_if_eq (tgt := 22) hx hb dX8_row_4 (by decide) (fun c9 => absurd c9 (by decide)) (fun _ => ?_)
      refine lv_iload_n hx hb dX8_row_7 rfl (lv_at hl 2 rfl) ?_
      refine lv_if_lt (tgt := 22) hx hb dX8_row_8 (by decide) (fun c_25 => ?_) (fun c_25 => ?_)
      ·
        refine lv_bipush (v := (-2)) hx hb dX8_row_22 (by decide) ?_
        have hP9 := hP.sub (ws' := []) [] rfl
        have hD9 := hD.sub (ws' := []) [] (by decide) rfl
        exact W.iret (v := (-2)) hx hb hr (fun tS ht hW => ⟨⟨(-2), (), rfl, (by have f0 := bp32 hc_24; have f1 := plt32 c_25; have z320 : (0 : Int32).toInt = 0 := (by decide); have z323 : (3 : Int32).toInt = 3 := (by decide); unfold sp_row; (repeat' split) <;> first | rfl | (exfalso; omega)), by rw [ht]; exact hP9, va_K.moved hW.alike hK, hD9⟩, hS.F ht⟩) hS.2.2 dX8_row_24
      ·
        refine lv_iload_n hx hb dX8_row_11 rfl (lv_at hl 2 rfl) ?_
        refine lv_iconst (v := 3) hx hb dX8_row_12 (by decide) ?_
        refine lv_icmp_gt (tgt := 22) hx hb dX8_row_13 (by decide) (fun c_26 => ?_) (fun c_26 => ?_)
        ·
          refine lv_bipush (v := (-2)) hx hb dX8_row_22 (by decide) ?_
          have hP9 := hP.sub (ws' := []) [] rfl
          have hD9 := hD.sub (ws' := []) [] (by decide) rfl
          exact W.iret (v := (-2)) hx hb hr (fun tS ht hW => ⟨⟨(-2), (), rfl, (by have f0 := bp32 hc_24; have f1 := nlt32 c_25; have f2 := plt32 c_26; have z320 : (0 : Int32).toInt = 0 := (by decide); have z323 : (3 : Int32).toInt = 3 := (by decide); unfold sp_row; (repeat' split) <;> first | rfl | (exfalso; omega)), by rw [ht]; exact hP9, va_K.moved hW.alike hK, hD9⟩, hS.F ht⟩) hS.2.2 dX8_row_24
        ·
          refine lv_iload_n hx hb dX8_row_16 rfl (lv_at hl 3 rfl) ?_
          refine lv_bipush (v := 60) hx hb dX8_row_17 (by decide) ?_
          refine lv_icmp_le (tgt := 25) hx hb dX8_row_19 (by decide) (fun c_27 => ?_) (fun c_27 => ?_)
          ·
            refine lv_iload_n hx hb dX8_row_25 rfl (lv_at hl 3 rfl) ?_
            refine lv_if_ge (tgt := 32) hx hb dX8_row_26 (by decide) (fun c_28 => ?_) (fun c_28 => ?_)
            ·
              refine lv_aload_n hx hb dX8_row_32 rfl (lv_at hl 0 rfl) ?_
              refine va_get (D := D) (ci := 8) (v := .ref (g 26)) (C := RX8) (T := TX8) (N := 12) hx hb hts iX8 hown hK hP 0 rfl rfl 5 (by decide) (hts _ q439) (fun _ h9 => h9) rfl dX8_row_33 ?_
              refine lv_iload_n hx hb dX8_row_36 rfl (lv_at hl 1 rfl) ?_
              refine va_aldq hx hb hK hP 1 5 rfl rfl (vpi (by decide)) dX8_row_37 ?_
              refine W.eq (g2 := F0 m 38 ls [.ref (g 33)]) rfl ?_
              refine lv_iload_n hx hb dX8_row_38 rfl (lv_at hl 2 rfl) ?_
              refine lv_iload_n hx hb dX8_row_39 rfl (lv_at hl 3 rfl) ?_
              have hPc := hP.sub (ws' := [(g 33, .inr (5, [.int 0, .int 0, .int 0, .ref (g 34)])), (g 34, .inl (cy 2, 60, .inr (.inl (fun _ => 0))))]) [8, 9] rfl
              have hDc := hD.sub (ws' := [(g 33, .inr (5, [.int 0, .int 0, .int 0, .ref (g 34)])), (g 34, .inl (cy 2, 60, .inr (.inl (fun _ => 0))))]) [8, 9] (by decide) rfl
              have hFc := va_free (wc := [(g 33, .inr (5, [.int 0, .int 0, .int 0, .ref (g 34)])), (g 34, .inl (cy 2, 60, .inr (.inl (fun _ => 0))))]) hD hS hA [8, 9] rfl
              refine va_callv (va_runV (As := [.int p2, .int p3]) (rest := []) ⟨hx, hb, hml, hown, hts⟩ (c_X5_renew l D cy (g 33) (g 34) p2 p3 H.size) (cwV 2 hts (gd_V q1332 q1333 q1334 q133 q1335) rfl rfl rfl (by decide +kernel) ⟨Nat.le_of_ble_eq_true rfl, Nat.le_of_ble_eq_true rfl⟩) (pr_V hPc hK hDc (va_recv hK hPc (ci := 5) (q0 := 0) rfl rfl)) rfl rfl hl.1 rfl (lv_room (Nat.le_of_ble_eq_true rfl)) dX8_row_40 ⟨Nat.le_of_ble_eq_true rfl, Nat.le_of_ble_eq_true rfl⟩) hS (fun q _ h => hFc q h) hFc (fun u tS H1 locs ht hvm hw hB hz1 hk1 hS => ?_)
              obtain ⟨hP1, hK1, hD1⟩ := hB
              rw [ht] at hP1
              try dsimp only at hw
              obtain ⟨hP, hD⟩ := va_join (wr := [(g 0, .inr (8, xF g)), (g 26, .inl (cy 5, 4, .inr (.inr (.inr (.inr (va_up (va_up (va_up (va_up (fun _ => none) 0 (some (g 27))) 1 (some (g 29))) 2 (some (g 31))) 3 (some (g 33)))))))), (g 27, .inr (5, [.int 0, .int 0, .int 0, .ref (g 28)])), (g 28, .inl (cy 2, 60, .inr (.inl (fun _ => 0)))), (g 29, .inr (5, [.int 0, .int 0, .int 0, .ref (g 30)])), (g 30, .inl (cy 2, 60, .inr (.inl (fun _ => 0)))), (g 31, .inr (5, [.int 0, .int 0, .int 0, .ref (g 32)])), (g 32, .inl (cy 2, 60, .inr (.inl (fun _ => 0))))]) (w1 := []) hP hD [8, 9] [0, 1, 2, 3, 4, 5, 6, 7] rfl rfl (by decide) (by decide) hk1 hFc hP1 hD1
              generalize H1 = H at hP hS ⊢
              have hP : va_P D clz [(g 0, .inr (8, xF g)), (g 26, .inl (cy 5, 4, .inr (.inr (.inr (.inr (va_up (va_up (va_up (va_up (fun _ => none) 0 (some (g 27))) 1 (some (g 29))) 2 (some (g 31))) 3 (some (g 33)))))))), (g 27, .inr (5, [.int 0, .int 0, .int 0, .ref (g 28)])), (g 28, .inl (cy 2, 60, .inr (.inl (fun _ => 0)))), (g 29, .inr (5, [.int 0, .int 0, .int 0, .ref (g 30)])), (g 30, .inl (cy 2, 60, .inr (.inl (fun _ => 0)))), (g 31, .inr (5, [.int 0, .int 0, .int 0, .ref (g 32)])), (g 32, .inl (cy 2, 60, .inr (.inl (fun _ => 0))))] H := hP
              have hD : va_D A [(g 0, .inr (8, xF g)), (g 26, .inl (cy 5, 4, .inr (.inr (.inr (.inr (va_up (va_up (va_up (va_up (fun _ => none) 0 (some (g 27))) 1 (some (g 29))) 2 (some (g 31))) 3 (some (g 33)))))))), (g 27, .inr (5, [.int 0, .int 0, .int 0, .ref (g 28)])), (g 28, .inl (cy 2, 60, .inr (.inl (fun _ => 0)))), (g 29, .inr (5, [.int 0, .int 0, .int 0, .ref (g 30)])), (g 30, .inl (cy 2, 60, .inr (.inl (fun _ => 0)))), (g 31, .inr (5, [.int 0, .int 0, .int 0, .ref (g 32)])), (g 32, .inl (cy 2, 60, .inr (.inl (fun _ => 0))))] := hD
              refine lv_iconst (v := 0) hx hb dX8_row_43 (by decide) ?_
              have hP9 := hP.sub (ws' := []) [] rfl
              have hD9 := hD.sub (ws' := []) [] (by decide) rfl
              exact W.iret (v := 0) hx hb hr (fun tS ht hW => ⟨⟨0, (), rfl, (by have f0 := bp32 hc_24; have f1 := nlt32 c_25; have f2 := nlt32 c_26; have f3 := ple32 c_27; have f4 := ple32 c_28; have z320 : (0 : Int32).toInt = 0 := (by decide); have z323 : (3 : Int32).toInt = 3 := (by decide); have z3260 : (60 : Int32).toInt = 60 := (by decide); unfold sp_row; (repeat' split) <;> first | rfl | (exfalso; omega)), by rw [ht]; exact hP9, va_K.moved hW.alike hK, hD9⟩, hS.F ht⟩) hS.2.2 dX8_row_44
            ·
              refine lv_bipush (v := (-3)) hx hb dX8_row_29 (by decide) ?_
              have hP9 := hP.sub (ws' := []) [] rfl
              have hD9 := hD.sub (ws' := []) [] (by decide) rfl
              exact W.iret (v := (-3)) hx hb hr (fun tS ht hW => ⟨⟨(-3), (), rfl, (by have f0 := bp32 hc_24; have f1 := nlt32 c_25; have f2 := nlt32 c_26; have f3 := ple32 c_27; have f4 := nle32 c_28; have z320 : (0 : Int32).toInt = 0 := (by decide); have z323 : (3 : Int32).toInt = 3 := (by decide); have z3260 : (60 : Int32).toInt = 60 := (by decide); unfold sp_row; (repeat' split) <;> first | rfl | (exfalso; omega)), by rw [ht]; exact hP9, va_K.moved hW.alike hK, hD9⟩, hS.F ht⟩) hS.2.2 dX8_row_31
          ·
            refine lv_bipush (v := (-2)) hx hb dX8_row_22 (by decide) ?_
            have hP9 := hP.sub (ws' := []) [] rfl
            have hD9 := hD.sub (ws' := []) [] (by decide) rfl
            exact W.iret (v := (-2)) hx hb hr (fun tS ht hW => ⟨⟨(-2), (), rfl, (by have f0 := bp32 hc_24; have f1 := nlt32 c_25; have f2 := nlt32 c_26; have f3 := nle32 c_27; have z320 : (0 : Int32).toInt = 0 := (by decide); have z323 : (3 : Int32).toInt = 3 := (by decide); have z3260 : (60 : Int32).toInt = 60 := (by decide); unfold sp_row; (repeat' split) <;> first | rfl | (exfalso; omega)), by rw [ht]; exact hP9, va_K.moved hW.alike hK, hD9⟩, hS.F ht⟩) hS.2.2 dX8_row_24
    ·
      rw [if_neg hc_24] at hw
      subst hw
      exact False.elim (by have f0 := bn32 hc_24; have z320 : (0 : Int32).toInt = 0 := (by decide); have z323 : (3 : Int32).toInt = 3 := (by decide); omega)
  ·
    refine lv_iload_n hx hb dX8_row_0 rfl (lv_at hl 1 rfl) ?_
    have hPc := hP.sub (ws' := []) [] rfl
    have hDc := hD.sub (ws' := []) [] (by decide) rfl
    have hFc := va_free (wc := []) hD hS hA [] rfl
    refine va_calli (va_runS (As := [.int p1]) (rest := []) ⟨hx, hb, hml, hown, hts⟩ (c_X8_isSlot l D cy p1 s.heap.size) (va_cwS 1 hts (gd_S q1267 q1268 q125 q1269) rfl rfl rfl (by decide +kernel) ⟨Nat.le_of_ble_eq_true rfl, Nat.le_of_ble_eq_true rfl⟩) (pr_S hPc hK hDc) rfl rfl hl.1 rfl (lv_room (Nat.le_of_ble_eq_true rfl)) dX8_row_1 ⟨Nat.le_of_ble_eq_true rfl, Nat.le_of_ble_eq_true rfl⟩) hS (fun q _ h => hFc q h) hFc (fun r_30 u tS H1 locs ht hvm hw hB hz1 hk1 hS => ?_)
    obtain ⟨hP1, hK1, hD1⟩ := hB
    rw [ht] at hP1
    try dsimp only at hw
    obtain ⟨hP, hD⟩ := va_join (wr := [(g 0, .inr (8, xF g)), (g 26, .inl (cy 5, 4, .inr (.inr (.inr (.inr (va_up (va_up (va_up (va_up (fun _ => none) 0 (some (g 27))) 1 (some (g 29))) 2 (some (g 31))) 3 (some (g 33)))))))), (g 27, .inr (5, [.int 0, .int 0, .int 0, .ref (g 28)])), (g 28, .inl (cy 2, 60, .inr (.inl (fun _ => 0)))), (g 29, .inr (5, [.int 0, .int 0, .int 0, .ref (g 30)])), (g 30, .inl (cy 2, 60, .inr (.inl (fun _ => 0)))), (g 31, .inr (5, [.int 0, .int 0, .int 0, .ref (g 32)])), (g 32, .inl (cy 2, 60, .inr (.inl (fun _ => 0)))), (g 33, .inr (5, [.int 0, .int 0, .int 0, .ref (g 34)])), (g 34, .inl (cy 2, 60, .inr (.inl (fun _ => 0))))]) (w1 := []) hP hD [] [0, 1, 2, 3, 4, 5, 6, 7, 8, 9] rfl rfl (by decide) (by decide) hk1 hFc hP1 hD1
    generalize H1 = H at hP hS ⊢
    have hP : va_P D clz [(g 0, .inr (8, xF g)), (g 26, .inl (cy 5, 4, .inr (.inr (.inr (.inr (va_up (va_up (va_up (va_up (fun _ => none) 0 (some (g 27))) 1 (some (g 29))) 2 (some (g 31))) 3 (some (g 33)))))))), (g 27, .inr (5, [.int 0, .int 0, .int 0, .ref (g 28)])), (g 28, .inl (cy 2, 60, .inr (.inl (fun _ => 0)))), (g 29, .inr (5, [.int 0, .int 0, .int 0, .ref (g 30)])), (g 30, .inl (cy 2, 60, .inr (.inl (fun _ => 0)))), (g 31, .inr (5, [.int 0, .int 0, .int 0, .ref (g 32)])), (g 32, .inl (cy 2, 60, .inr (.inl (fun _ => 0)))), (g 33, .inr (5, [.int 0, .int 0, .int 0, .ref (g 34)])), (g 34, .inl (cy 2, 60, .inr (.inl (fun _ => 0))))] H := hP
    have hD : va_D A [(g 0, .inr (8, xF g)), (g 26, .inl (cy 5, 4, .inr (.inr (.inr (.inr (va_up (va_up (va_up (va_up (fun _ => none) 0 (some (g 27))) 1 (some (g 29))) 2 (some (g 31))) 3 (some (g 33)))))))), (g 27, .inr (5, [.int 0, .int 0, .int 0, .ref (g 28)])), (g 28, .inl (cy 2, 60, .inr (.inl (fun _ => 0)))), (g 29, .inr (5, [.int 0, .int 0, .int 0, .ref (g 30)])), (g 30, .inl (cy 2, 60, .inr (.inl (fun _ => 0)))), (g 31, .inr (5, [.int 0, .int 0, .int 0, .ref (g 32)])), (g 32, .inl (cy 2, 60, .inr (.inl (fun _ => 0)))), (g 33, .inr (5, [.int 0, .int 0, .int 0, .ref (g 34)])), (g 34, .inl (cy 2, 60, .inr (.inl (fun _ => 0))))] := hD
    by_cases hc_31 : ((0 : Int32) ≤ p1 ∧ p1 ≤ (3 : Int32))
    ·
      rw [if_pos hc_31] at hw
      subst hw
      exact False.elim (by have f0 := hs_1; have f1 := bp32 hc_31; have z320 : (0 : Int32).toInt = 0 := (by decide); have z323 : (3 : Int32).toInt = 3 := (by decide); omega)
    ·
      rw [if_neg hc_31] at hw
      subst hw
      refine lv_if_eq (tgt := 22) hx hb dX8_row_4 (by decide) (fun _ => ?_) (fun c9 => absurd c9 (by decide))
      refine lv_bipush (v := (-2)) hx hb dX8_row_22 (by decide) ?_
      have hP9 := hP.sub (ws' := []) [] rfl
      have hD9 := hD.sub (ws' := []) [] (by decide) rfl
      exact W.iret (v := (-2)) hx hb hr (fun tS ht hW => ⟨⟨(-2), (), rfl, (by have f0 := hs_1; have f1 := bn32 hc_31; have z320 : (0 : Int32).toInt = 0 := (by decide); have z323 : (3 : Int32).toInt = 3 := (by decide); unfold sp_row; (repeat' split) <;> first | rfl | (exfalso; omega)), by rw [ht]; exact hP9, va_K.moved hW.alike hK, hD9⟩, hS.F ht⟩) hS.2.2 dX8_row_24

theorem q1545 : Cond.code yX9_row cX9_row 5 (some .int) ∈ lw_g := lw_gm (List.mem_of_getElem? (i := 1545) (by decide +kernel)) rfl
theorem dX9_row_0 : decode cX9_row 0 = .ok (.aload_n 0, 1) := by decide +kernel
theorem dX9_row_1 : decode cX9_row 1 = .ok (.iconst 0, 1) := by decide +kernel
theorem dX9_row_2 : decode cX9_row 2 = .ok (.putfield 129, 3) := by decide +kernel
theorem dX9_row_5 : decode cX9_row 5 = .ok (.iload_n 1, 1) := by decide +kernel
theorem dX9_row_6 : decode cX9_row 6 = .ok (.invokestatic 138, 3) := by decide +kernel
theorem dX9_row_9 : decode cX9_row 9 = .ok (.ifCond .eq 21, 3) := by decide +kernel
theorem dX9_row_12 : decode cX9_row 12 = .ok (.iload_n 2, 1) := by decide +kernel
theorem dX9_row_13 : decode cX9_row 13 = .ok (.i2l, 1) := by decide +kernel
theorem dX9_row_14 : decode cX9_row 14 = .ok (.lconst 0, 1) := by decide +kernel
theorem dX9_row_15 : decode cX9_row 15 = .ok (.ldc2_w 132, 3) := by decide +kernel
theorem dX9_row_18 : decode cX9_row 18 = .ok (.invokestatic 134, 3) := by decide +kernel
theorem dX9_row_21 : decode cX9_row 21 = .ok (.ifCond .eq 9, 3) := by decide +kernel
theorem dX9_row_24 : decode cX9_row 24 = .ok (.iload_n 3, 1) := by decide +kernel
theorem dX9_row_25 : decode cX9_row 25 = .ok (.bipush 60, 2) := by decide +kernel
theorem dX9_row_27 : decode cX9_row 27 = .ok (.if_icmp .le 6, 3) := by decide +kernel
theorem dX9_row_30 : decode cX9_row 30 = .ok (.bipush (-2), 2) := by decide +kernel
theorem dX9_row_32 : decode cX9_row 32 = .ok (.ireturn, 1) := by decide +kernel
theorem dX9_row_33 : decode cX9_row 33 = .ok (.iload_n 3, 1) := by decide +kernel
theorem dX9_row_34 : decode cX9_row 34 = .ok (.ifCond .ge 6, 3) := by decide +kernel
theorem dX9_row_37 : decode cX9_row 37 = .ok (.bipush (-3), 2) := by decide +kernel
theorem dX9_row_39 : decode cX9_row 39 = .ok (.ireturn, 1) := by decide +kernel
theorem dX9_row_40 : decode cX9_row 40 = .ok (.aload_n 0, 1) := by decide +kernel
theorem dX9_row_41 : decode cX9_row 41 = .ok (.getfield 7, 3) := by decide +kernel
theorem dX9_row_44 : decode cX9_row 44 = .ok (.iload_n 1, 1) := by decide +kernel
theorem dX9_row_45 : decode cX9_row 45 = .ok (.iload_n 2, 1) := by decide +kernel
theorem dX9_row_46 : decode cX9_row 46 = .ok (.iastore, 1) := by decide +kernel
theorem dX9_row_47 : decode cX9_row 47 = .ok (.aload_n 0, 1) := by decide +kernel
theorem dX9_row_48 : decode cX9_row 48 = .ok (.getfield 13, 3) := by decide +kernel
theorem dX9_row_51 : decode cX9_row 51 = .ok (.iload_n 1, 1) := by decide +kernel
theorem dX9_row_52 : decode cX9_row 52 = .ok (.iload_n 3, 1) := by decide +kernel
theorem dX9_row_53 : decode cX9_row 53 = .ok (.iastore, 1) := by decide +kernel
theorem dX9_row_54 : decode cX9_row 54 = .ok (.iconst 0, 1) := by decide +kernel
theorem dX9_row_55 : decode cX9_row 55 = .ok (.istore 4, 2) := by decide +kernel
theorem dX9_row_57 : decode cX9_row 57 = .ok (.iload 4, 2) := by decide +kernel
theorem dX9_row_59 : decode cX9_row 59 = .ok (.iload_n 3, 1) := by decide +kernel
theorem dX9_row_60 : decode cX9_row 60 = .ok (.if_icmp .ge 22, 3) := by decide +kernel
theorem dX9_row_63 : decode cX9_row 63 = .ok (.aload_n 0, 1) := by decide +kernel
theorem dX9_row_64 : decode cX9_row 64 = .ok (.getfield 16, 3) := by decide +kernel
theorem dX9_row_67 : decode cX9_row 67 = .ok (.bipush 60, 2) := by decide +kernel
theorem dX9_row_69 : decode cX9_row 69 = .ok (.iload_n 1, 1) := by decide +kernel
theorem dX9_row_70 : decode cX9_row 70 = .ok (.imul, 1) := by decide +kernel
theorem dX9_row_71 : decode cX9_row 71 = .ok (.iload 4, 2) := by decide +kernel
theorem dX9_row_73 : decode cX9_row 73 = .ok (.iadd, 1) := by decide +kernel
theorem dX9_row_74 : decode cX9_row 74 = .ok (.lconst 0, 1) := by decide +kernel
theorem dX9_row_75 : decode cX9_row 75 = .ok (.lastore, 1) := by decide +kernel
theorem dX9_row_76 : decode cX9_row 76 = .ok (.iinc 4 1, 3) := by decide +kernel
theorem dX9_row_79 : decode cX9_row 79 = .ok (.goto (-22), 3) := by decide +kernel
theorem dX9_row_82 : decode cX9_row 82 = .ok (.iconst 0, 1) := by decide +kernel
theorem dX9_row_83 : decode cX9_row 83 = .ok (.ireturn, 1) := by decide +kernel
set_option maxHeartbeats 4000000 in
set_option maxRecDepth 100000 in
theorem c_X9_row (l : Launch) (D : va_G) (cy : Nat → ClassId) (g : Nat → Nat) (p1 : Int32) (p2 : Int32) (p3 : Int32) (sz : Nat) : Met l yX9_row (ww yX9_row cX9_row 5 (some .int)) ({ frames := 3, cells := 0, slots := 0, locals := 192 }) (va_Pc [.ref (g 60), .int p1, .int p2, .int p3] (pre D cy [(g 60, .inr (9, mF g)), (g 1, .inl (cy 0, 4, .inl (upd (upd (upd (upd (fun _ => 0) 0 (-1)) 1 (-1)) 2 (-1)) 3 (-1)))), (g 2, .inl (cy 0, 4, .inl (fun _ => 0))), (g 3, .inl (cy 2, 240, .inr (.inl (fun _ => 0))))] sz)) (qi D cy (va_A [(g 60, .inr (9, mF g)), (g 1, .inl (cy 0, 4, .inl (upd (upd (upd (upd (fun _ => 0) 0 (-1)) 1 (-1)) 2 (-1)) 3 (-1)))), (g 2, .inl (cy 0, 4, .inl (fun _ => 0))), (g 3, .inl (cy 2, 240, .inr (.inl (fun _ => 0))))] sz) (fun (r : Int32) (_ : Unit) => r = sp_row p1 p2 p3) (fun (_ : Unit) => [])) 0 0 (va_A [(g 60, .inr (9, mF g)), (g 1, .inl (cy 0, 4, .inl (upd (upd (upd (upd (fun _ => 0) 0 (-1)) 1 (-1)) 2 (-1)) 3 (-1)))), (g 2, .inl (cy 0, 4, .inl (fun _ => 0))), (g 3, .inl (cy 2, 240, .inr (.inl (fun _ => 0))))] sz) := by
  refine Met.ofW (cc := cX9_row) (maxL := 5) (ret := (some .int)) (by decide) rfl ?_
  intro p e s m args below meth c s₁ B hml hv
  obtain ⟨rfl, hsz, hP, hK, hD0⟩ := hv
  have hx := B.exec
  have hb := B.bytes
  have hr := B.returns
  have hts := hts_g (atoms_spec (ws := ww yX9_row cX9_row 5 (some .int)) B.pre)
  have hown : s.vm.findClass RX9 = some m.cls := findClass_of_methodNamed B.named
  have hlocks := B.notSynchronized
  subst hsz
  have hD := hD0.self (sz := s.heap.size)
  generalize hAe : va_A [(g 60, .inr (9, mF g)), (g 1, .inl (cy 0, 4, .inl (upd (upd (upd (upd (fun _ => 0) 0 (-1)) 1 (-1)) 2 (-1)) 3 (-1)))), (g 2, .inl (cy 0, 4, .inl (fun _ => 0))), (g 3, .inl (cy 2, 240, .inr (.inl (fun _ => 0))))] s.heap.size = A at hD ⊢
  have hA : ∀ q : Nat, s.heap.size ≤ q → A q := fun q h => by rw [← hAe]; exact Or.inr h
  have hS : va_S A s.heap s.heap [] := va_S.rf
  have hl := lv_entry ([.ref (g 60), .int p1, .int p2, .int p3]) (n := 5) (Nat.le_of_ble_eq_true rfl)
  rw [lg_entry_eq]
  generalize (lg_sl ([.ref (g 60), .int p1, .int p2, .int p3]) ++ List.replicate (5 - (lg_sl ([.ref (g 60), .int p1, .int p2, .int p3])).length) Slot.unset).toArray = ls at hl ⊢
  have hl : lv_has ls 5 [(0, .ref (g 60)), (1, .int p1), (2, .int p2), (3, .int p3)] := hl
  rcases sp4 p1 with rfl | rfl | rfl | rfl | hs_1
  ·
    refine lv_aload_n hx hb dX9_row_0 rfl (lv_at hl 0 rfl) ?_
    refine lv_iconst (v := 0) hx hb dX9_row_1 (by decide) ?_
    refine va_put (D := D) (ci := 9) (v := .int 0) (ty := .int) (C := RX9) (T := TX9) (N := 60) hx hb hts iX9 tyX9 tyX9_ok nmX9 hown hK hP hD hS 0 rfl rfl 0 (by decide) (hts _ q1360) (fun _ h9 => h9) rfl (by decide +kernel) rfl rfl (Nat.le_of_ble_eq_true rfl) dX9_row_2 (fun H locs hP hD hS => ?_)
    have hP : va_P D clz [(g 60, .inr (9, mF g)), (g 1, .inl (cy 0, 4, .inl (upd (upd (upd (upd (fun _ => 0) 0 (-1)) 1 (-1)) 2 (-1)) 3 (-1)))), (g 2, .inl (cy 0, 4, .inl (fun _ => 0))), (g 3, .inl (cy 2, 240, .inr (.inl (fun _ => 0))))] H := hP
    have hD : va_D A [(g 60, .inr (9, mF g)), (g 1, .inl (cy 0, 4, .inl (upd (upd (upd (upd (fun _ => 0) 0 (-1)) 1 (-1)) 2 (-1)) 3 (-1)))), (g 2, .inl (cy 0, 4, .inl (fun _ => 0))), (g 3, .inl (cy 2, 240, .inr (.inl (fun _ => 0))))] := hD
    refine lv_iload_n hx hb dX9_row_5 rfl (lv_at hl 1 rfl) ?_
    have hPc := hP.sub (ws' := []) [] rfl
    have hDc := hD.sub (ws' := []) [] (by decide) rfl
    have hFc := va_free (wc := []) hD hS hA [] rfl
    refine va_calli (va_runS (As := [.int 0]) (rest := []) ⟨hx, hb, hml, hown, hts⟩ (c_X9_isSlot l D cy 0 H.size) (va_cwS 1 hts (gd_S q1546 q1547 q134 q1548) rfl rfl rfl (by decide +kernel) ⟨Nat.le_of_ble_eq_true rfl, Nat.le_of_ble_eq_true rfl⟩) (pr_S hPc hK hDc) rfl rfl hl.1 rfl (lv_room (Nat.le_of_ble_eq_true rfl)) dX9_row_6 ⟨Nat.le_of_ble_eq_true rfl, Nat.le_of_ble_eq_true rfl⟩) hS (fun q _ h => hFc q h) hFc (fun r_2 u tS H1 locs ht hvm hw hB hz1 hk1 hS => ?_)
    obtain ⟨hP1, hK1, hD1⟩ := hB
    rw [ht] at hP1
    try dsimp only at hw
    obtain ⟨hP, hD⟩ := va_join (wr := [(g 60, .inr (9, mF g)), (g 1, .inl (cy 0, 4, .inl (upd (upd (upd (upd (fun _ => 0) 0 (-1)) 1 (-1)) 2 (-1)) 3 (-1)))), (g 2, .inl (cy 0, 4, .inl (fun _ => 0))), (g 3, .inl (cy 2, 240, .inr (.inl (fun _ => 0))))]) (w1 := []) hP hD [] [0, 1, 2, 3] rfl rfl (by decide) (by decide) hk1 hFc hP1 hD1
    generalize H1 = H at hP hS ⊢
    have hP : va_P D clz [(g 60, .inr (9, mF g)), (g 1, .inl (cy 0, 4, .inl (upd (upd (upd (upd (fun _ => 0) 0 (-1)) 1 (-1)) 2 (-1)) 3 (-1)))), (g 2, .inl (cy 0, 4, .inl (fun _ => 0))), (g 3, .inl (cy 2, 240, .inr (.inl (fun _ => 0))))] H := hP
    have hD : va_D A [(g 60, .inr (9, mF g)), (g 1, .inl (cy 0, 4, .inl (upd (upd (upd (upd (fun _ => 0) 0 (-1)) 1 (-1)) 2 (-1)) 3 (-1)))), (g 2, .inl (cy 0, 4, .inl (fun _ => 0))), (g 3, .inl (cy 2, 240, .inr (.inl (fun _ => 0))))] := hD
    by_cases hc_3 : ((0 : Int32) ≤ (0 : Int32) ∧ (0 : Int32) ≤ (3 : Int32))
    ·
      rw [if_pos hc_3] at hw
      subst hw
      refine lv_if_eq (tgt := 30) hx hb dX9_row_9 (by decide) (fun c9 => absurd c9 (by decide)) (fun _ => ?_)
      refine lv_iload_n hx hb dX9_row_12 rfl (lv_at hl 2 rfl) ?_
      refine lv_i2l (v := p2.toInt64) hx hb dX9_row_13 rfl ?_
      refine lv_lconst (v := 0) hx hb dX9_row_14 (by decide) ?_
      refine lv_ldc2 (v := 3) hx hb hown (hts _ q1549) dX9_row_15 ?_
      have hPc := hP.sub (ws' := []) [] rfl
      have hDc := hD.sub (ws' := []) [] (by decide) rfl
      have hFc := va_free (wc := []) hD hS hA [] rfl
      refine va_calli (va_runS (As := [.long p2.toInt64, .long 0, .long 3]) (rest := []) ⟨hx, hb, hml, hown, hts⟩ (c_X9_in l D cy p2.toInt64 0 3 H.size) (va_cwS 3 hts (gd_S q1550 q1551 q134 q1552) rfl rfl rfl (by decide +kernel) ⟨Nat.le_of_ble_eq_true rfl, Nat.le_of_ble_eq_true rfl⟩) (pr_S hPc hK hDc) rfl rfl hl.1 rfl (lv_room (Nat.le_of_ble_eq_true rfl)) dX9_row_18 ⟨Nat.le_of_ble_eq_true rfl, Nat.le_of_ble_eq_true rfl⟩) hS (fun q _ h => hFc q h) hFc (fun r_4 u tS H1 locs ht hvm hw hB hz1 hk1 hS => ?_)
      obtain ⟨hP1, hK1, hD1⟩ := hB
      rw [ht] at hP1
      try dsimp only at hw
      obtain ⟨hP, hD⟩ := va_join (wr := [(g 60, .inr (9, mF g)), (g 1, .inl (cy 0, 4, .inl (upd (upd (upd (upd (fun _ => 0) 0 (-1)) 1 (-1)) 2 (-1)) 3 (-1)))), (g 2, .inl (cy 0, 4, .inl (fun _ => 0))), (g 3, .inl (cy 2, 240, .inr (.inl (fun _ => 0))))]) (w1 := []) hP hD [] [0, 1, 2, 3] rfl rfl (by decide) (by decide) hk1 hFc hP1 hD1
      generalize H1 = H at hP hS ⊢
      have hP : va_P D clz [(g 60, .inr (9, mF g)), (g 1, .inl (cy 0, 4, .inl (upd (upd (upd (upd (fun _ => 0) 0 (-1)) 1 (-1)) 2 (-1)) 3 (-1)))), (g 2, .inl (cy 0, 4, .inl (fun _ => 0))), (g 3, .inl (cy 2, 240, .inr (.inl (fun _ => 0))))] H := hP
      have hD : va_D A [(g 60, .inr (9, mF g)), (g 1, .inl (cy 0, 4, .inl (upd (upd (upd (upd (fun _ => 0) 0 (-1)) 1 (-1)) 2 (-1)) 3 (-1)))), (g 2, .inl (cy 0, 4, .inl (fun _ => 0))), (g 3, .inl (cy 2, 240, .inr (.inl (fun _ => 0))))] := hD
      by_cases hc_5 : ((0 : Int64) ≤ p2.toInt64 ∧ p2.toInt64 ≤ (3 : Int64))
      ·
        rw [if_pos hc_5] at hw
        subst hw
        refine lv_if_eq (tgt := 30) hx hb dX9_row_21 (by decide) (fun c9 => absurd c9 (by decide)) (fun _ => ?_)
        refine lv_iload_n hx hb dX9_row_24 rfl (lv_at hl 3 rfl) ?_
        refine lv_bipush (v := 60) hx hb dX9_row_25 (by decide) ?_
        refine lv_icmp_le (tgt := 33) hx hb dX9_row_27 (by decide) (fun c_6 => ?_) (fun c_6 => ?_)
        ·
          refine lv_iload_n hx hb dX9_row_33 rfl (lv_at hl 3 rfl) ?_
          refine lv_if_ge (tgt := 40) hx hb dX9_row_34 (by decide) (fun c_7 => ?_) (fun c_7 => ?_)
          ·
            refine lv_aload_n hx hb dX9_row_40 rfl (lv_at hl 0 rfl) ?_
            refine va_get (D := D) (ci := 9) (v := .ref (g 1)) (C := RX9) (T := TX9) (N := 60) hx hb hts iX9 hown hK hP 0 rfl rfl 1 (by decide) (hts _ q1361) (fun _ h9 => h9) rfl dX9_row_41 ?_
            refine lv_iload_n hx hb dX9_row_44 rfl (lv_at hl 1 rfl) ?_
            refine lv_iload_n hx hb dX9_row_45 rfl (lv_at hl 2 rfl) ?_
            refine va_iast hx hb hK hP hD hS 1 0 rfl rfl (vpi (by decide)) dX9_row_46 (fun H locs hP hD hS => ?_)
            have hP : va_P D clz [(g 60, .inr (9, mF g)), (g 1, .inl (cy 0, 4, .inl (upd (upd (upd (upd (upd (fun _ => 0) 0 (-1)) 1 (-1)) 2 (-1)) 3 (-1)) 0 p2))), (g 2, .inl (cy 0, 4, .inl (fun _ => 0))), (g 3, .inl (cy 2, 240, .inr (.inl (fun _ => 0))))] H := hP
            have hD : va_D A [(g 60, .inr (9, mF g)), (g 1, .inl (cy 0, 4, .inl (upd (upd (upd (upd (upd (fun _ => 0) 0 (-1)) 1 (-1)) 2 (-1)) 3 (-1)) 0 p2))), (g 2, .inl (cy 0, 4, .inl (fun _ => 0))), (g 3, .inl (cy 2, 240, .inr (.inl (fun _ => 0))))] := hD
            refine lv_aload_n hx hb dX9_row_47 rfl (lv_at hl 0 rfl) ?_
            refine va_get (D := D) (ci := 9) (v := .ref (g 2)) (C := RX9) (T := TX9) (N := 60) hx hb hts iX9 hown hK hP 0 rfl rfl 2 (by decide) (hts _ q1362) (fun _ h9 => h9) rfl dX9_row_48 ?_
            refine lv_iload_n hx hb dX9_row_51 rfl (lv_at hl 1 rfl) ?_
            refine lv_iload_n hx hb dX9_row_52 rfl (lv_at hl 3 rfl) ?_
            refine va_iast hx hb hK hP hD hS 2 0 rfl rfl (vpi (by decide)) dX9_row_53 (fun H locs hP hD hS => ?_)
            have hP : va_P D clz [(g 60, .inr (9, mF g)), (g 1, .inl (cy 0, 4, .inl (upd (upd (upd (upd (upd (fun _ => 0) 0 (-1)) 1 (-1)) 2 (-1)) 3 (-1)) 0 p2))), (g 2, .inl (cy 0, 4, .inl (upd (fun _ => 0) 0 p3))), (g 3, .inl (cy 2, 240, .inr (.inl (fun _ => 0))))] H := hP
            have hD : va_D A [(g 60, .inr (9, mF g)), (g 1, .inl (cy 0, 4, .inl (upd (upd (upd (upd (upd (fun _ => 0) 0 (-1)) 1 (-1)) 2 (-1)) 3 (-1)) 0 p2))), (g 2, .inl (cy 0, 4, .inl (upd (fun _ => 0) 0 p3))), (g 3, .inl (cy 2, 240, .inr (.inl (fun _ => 0))))] := hD
            refine lv_iconst (v := 0) hx hb dX9_row_54 (by decide) ?_
            refine lv_istore (lv' := [(4, .int 0), (0, .ref (g 60)), (1, .int 0), (2, .int p2), (3, .int p3)]) hx hb dX9_row_55 hl (by decide) rfl (fun ls hl => ?_)
            obtain ⟨n_8, hn_8, en_8⟩ : ∃ n : Nat, n ≤ 60 ∧ p3 = nI n := by have f0 := bp32 hc_3; have f1 := bp64 hc_5; have f2 := ple32 c_6; have f3 := ple32 c_7; have z320 : (0 : Int32).toInt = 0 := (by decide); have z323 : (3 : Int32).toInt = 3 := (by decide); have z3260 : (60 : Int32).toInt = 60 := (by decide); have z640 : (0 : Int64).toInt = 0 := (by decide); have z643 : (3 : Int64).toInt = 3 := (by decide); have wp2 : p2.toInt64.toInt = p2.toInt := Int32.toInt_toInt64 p2; have wp3 : p3.toInt64.toInt = p3.toInt := Int32.toInt_toInt64 p3; exact to_nI (by omega) (by omega)
            refine loopW (pc := 57) (fun i => [(4, .int (nI i)), (0, .ref (g 60)), (1, .int 0), (2, .int p2), (3, .int p3)]) n_8 ?_ n_8 0 (Nat.zero_add _) _ _ _ hP hS hl
            intro i hi next H locs ls hP hS hl
            have hl : lv_has ls 5 [(4, .int (nI i)), (0, .ref (g 60)), (1, .int 0), (2, .int p2), (3, .int p3)] := hl
            refine lv_iload hx hb dX9_row_57 (lv_at hl 0 rfl) ?_
            refine lv_iload_n hx hb dX9_row_59 rfl (lv_at hl 4 rfl) ?_
            refine lv_icmp_ge (tgt := 82) hx hb dX9_row_60 (by decide) (fun c9 => ?_) (fun c9 => ?_)
            ·
              refine lv_iconst (v := 0) hx hb dX9_row_82 (by decide) ?_
              have hP9 := hP.sub (ws' := []) [] rfl
              have hD9 := hD.sub (ws' := []) [] (by decide) rfl
              exact W.iret (v := 0) hx hb hr (fun tS ht hW => ⟨⟨0, (), rfl, (by have f0 := bp32 hc_3; have f1 := bp64 hc_5; have f2 := ple32 c_6; have f3 := ple32 c_7; have z320 : (0 : Int32).toInt = 0 := (by decide); have z323 : (3 : Int32).toInt = 3 := (by decide); have z3260 : (60 : Int32).toInt = 60 := (by decide); have z640 : (0 : Int64).toInt = 0 := (by decide); have z643 : (3 : Int64).toInt = 3 := (by decide); have wp2 : p2.toInt64.toInt = p2.toInt := Int32.toInt_toInt64 p2; have wp3 : p3.toInt64.toInt = p3.toInt := Int32.toInt_toInt64 p3; unfold sp_row; (repeat' split) <;> first | rfl | (exfalso; omega)), by rw [ht]; exact hP9, va_K.moved hW.alike hK, hD9⟩, hS.F ht⟩) hS.2.2 dX9_row_83
            ·
              have hlt : i < n_8 := lt_nle (by rw [← en_8]; exact c9) (by omega)
              refine lv_aload_n hx hb dX9_row_63 rfl (lv_at hl 1 rfl) ?_
              refine va_get (D := D) (ci := 9) (v := .ref (g 3)) (C := RX9) (T := TX9) (N := 60) hx hb hts iX9 hown hK hP 0 rfl rfl 3 (by decide) (hts _ q1363) (fun _ h9 => h9) rfl dX9_row_64 ?_
              refine lv_bipush (v := 60) hx hb dX9_row_67 (by decide) ?_
              refine lv_iload_n hx hb dX9_row_69 rfl (lv_at hl 2 rfl) ?_
              refine lv_imul hx hb dX9_row_70 ?_
              refine lv_topi (fun x_9 ex_9 => ?_)
              obtain rfl : x_9 = 0 := ex_9.trans (by decide)
              refine lv_iload hx hb dX9_row_71 (lv_at hl 0 rfl) ?_
              refine lv_iadd hx hb dX9_row_73 ?_
              refine lv_topi (fun x_10 ex_10 => ?_)
              refine lv_lconst (v := 0) hx hb dX9_row_74 (by decide) ?_
              refine va_last hx hb hK hP hD hS 3 2 rfl rfl (ix_add (a := 0) ex_10 rfl rfl (by omega) (by decide)) dX9_row_75 (fun H locs hP hD hS => ?_)
              rw [updL_z] at hP hD
              have hP : va_P D clz [(g 60, .inr (9, mF g)), (g 1, .inl (cy 0, 4, .inl (upd (upd (upd (upd (upd (fun _ => 0) 0 (-1)) 1 (-1)) 2 (-1)) 3 (-1)) 0 p2))), (g 2, .inl (cy 0, 4, .inl (upd (fun _ => 0) 0 p3))), (g 3, .inl (cy 2, 240, .inr (.inl (fun _ => 0))))] H := hP
              have hD : va_D A [(g 60, .inr (9, mF g)), (g 1, .inl (cy 0, 4, .inl (upd (upd (upd (upd (upd (fun _ => 0) 0 (-1)) 1 (-1)) 2 (-1)) 3 (-1)) 0 p2))), (g 2, .inl (cy 0, 4, .inl (upd (fun _ => 0) 0 p3))), (g 3, .inl (cy 2, 240, .inr (.inl (fun _ => 0))))] := hD
              refine lv_iinc (v := nI (i + 1)) (lv' := [(4, .int (nI (i + 1))), (0, .ref (g 60)), (1, .int 0), (2, .int p2), (3, .int p3)]) hx hb dX9_row_76 hl (k := 0) rfl (nI_1 i) (by decide) rfl (fun ls hl => ?_)
              refine lv_goto (tgt := 57) hx hb dX9_row_79 (by decide) ?_
              exact next _ _ _ hP hS (lv_sub hl [0, 1, 2, 3, 4] rfl) hlt
          ·
            refine lv_bipush (v := (-3)) hx hb dX9_row_37 (by decide) ?_
            have hP9 := hP.sub (ws' := []) [] rfl
            have hD9 := hD.sub (ws' := []) [] (by decide) rfl
            exact W.iret (v := (-3)) hx hb hr (fun tS ht hW => ⟨⟨(-3), (), rfl, (by have f0 := bp32 hc_3; have f1 := bp64 hc_5; have f2 := ple32 c_6; have f3 := nle32 c_7; have z320 : (0 : Int32).toInt = 0 := (by decide); have z323 : (3 : Int32).toInt = 3 := (by decide); have z3260 : (60 : Int32).toInt = 60 := (by decide); have z640 : (0 : Int64).toInt = 0 := (by decide); have z643 : (3 : Int64).toInt = 3 := (by decide); have wp2 : p2.toInt64.toInt = p2.toInt := Int32.toInt_toInt64 p2; have wp3 : p3.toInt64.toInt = p3.toInt := Int32.toInt_toInt64 p3; unfold sp_row; (repeat' split) <;> first | rfl | (exfalso; omega)), by rw [ht]; exact hP9, va_K.moved hW.alike hK, hD9⟩, hS.F ht⟩) hS.2.2 dX9_row_39
        ·
          refine lv_bipush (v := (-2)) hx hb dX9_row_30 (by decide) ?_
          have hP9 := hP.sub (ws' := []) [] rfl
          have hD9 := hD.sub (ws' := []) [] (by decide) rfl
          exact W.iret (v := (-2)) hx hb hr (fun tS ht hW => ⟨⟨(-2), (), rfl, (by have f0 := bp32 hc_3; have f1 := bp64 hc_5; have f2 := nle32 c_6; have z320 : (0 : Int32).toInt = 0 := (by decide); have z323 : (3 : Int32).toInt = 3 := (by decide); have z3260 : (60 : Int32).toInt = 60 := (by decide); have z640 : (0 : Int64).toInt = 0 := (by decide); have z643 : (3 : Int64).toInt = 3 := (by decide); have wp2 : p2.toInt64.toInt = p2.toInt := Int32.toInt_toInt64 p2; have wp3 : p3.toInt64.toInt = p3.toInt := Int32.toInt_toInt64 p3; unfold sp_row; (repeat' split) <;> first | rfl | (exfalso; omega)), by rw [ht]; exact hP9, va_K.moved hW.alike hK, hD9⟩, hS.F ht⟩) hS.2.2 dX9_row_32
      ·
        rw [if_neg hc_5] at hw
        subst hw
        refine lv_if_eq (tgt := 30) hx hb dX9_row_21 (by decide) (fun _ => ?_) (fun c9 => absurd c9 (by decide))
        refine lv_bipush (v := (-2)) hx hb dX9_row_30 (by decide) ?_
        have hP9 := hP.sub (ws' := []) [] rfl
        have hD9 := hD.sub (ws' := []) [] (by decide) rfl
        exact W.iret (v := (-2)) hx hb hr (fun tS ht hW => ⟨⟨(-2), (), rfl, (by have f0 := bp32 hc_3; have f1 := bn64 hc_5; have z320 : (0 : Int32).toInt = 0 := (by decide); have z323 : (3 : Int32).toInt = 3 := (by decide); have z640 : (0 : Int64).toInt = 0 := (by decide); have z643 : (3 : Int64).toInt = 3 := (by decide); have wp2 : p2.toInt64.toInt = p2.toInt := Int32.toInt_toInt64 p2; have wp3 : p3.toInt64.toInt = p3.toInt := Int32.toInt_toInt64 p3; unfold sp_row; (repeat' split) <;> first | rfl | (exfalso; omega)), by rw [ht]; exact hP9, va_K.moved hW.alike hK, hD9⟩, hS.F ht⟩) hS.2.2 dX9_row_32
    ·
      rw [if_neg hc_3] at hw
      subst hw
      exact False.elim (by have f0 := bn32 hc_3; have z320 : (0 : Int32).toInt = 0 := (by decide); have z323 : (3 : Int32).toInt = 3 := (by decide); omega)
  ·
    refine lv_aload_n hx hb dX9_row_0 rfl (lv_at hl 0 rfl) ?_
    refine lv_iconst (v := 0) hx hb dX9_row_1 (by decide) ?_
    refine va_put (D := D) (ci := 9) (v := .int 0) (ty := .int) (C := RX9) (T := TX9) (N := 60) hx hb hts iX9 tyX9 tyX9_ok nmX9 hown hK hP hD hS 0 rfl rfl 0 (by decide) (hts _ q1360) (fun _ h9 => h9) rfl (by decide +kernel) rfl rfl (Nat.le_of_ble_eq_true rfl) dX9_row_2 (fun H locs hP hD hS => ?_)
    have hP : va_P D clz [(g 60, .inr (9, mF g)), (g 1, .inl (cy 0, 4, .inl (upd (upd (upd (upd (fun _ => 0) 0 (-1)) 1 (-1)) 2 (-1)) 3 (-1)))), (g 2, .inl (cy 0, 4, .inl (fun _ => 0))), (g 3, .inl (cy 2, 240, .inr (.inl (fun _ => 0))))] H := hP
    have hD : va_D A [(g 60, .inr (9, mF g)), (g 1, .inl (cy 0, 4, .inl (upd (upd (upd (upd (fun _ => 0) 0 (-1)) 1 (-1)) 2 (-1)) 3 (-1)))), (g 2, .inl (cy 0, 4, .inl (fun _ => 0))), (g 3, .inl (cy 2, 240, .inr (.inl (fun _ => 0))))] := hD
    refine lv_iload_n hx hb dX9_row_5 rfl (lv_at hl 1 rfl) ?_
    have hPc := hP.sub (ws' := []) [] rfl
    have hDc := hD.sub (ws' := []) [] (by decide) rfl
    have hFc := va_free (wc := []) hD hS hA [] rfl
    refine va_calli (va_runS (As := [.int 1]) (rest := []) ⟨hx, hb, hml, hown, hts⟩ (c_X9_isSlot l D cy 1 H.size) (va_cwS 1 hts (gd_S q1546 q1547 q134 q1548) rfl rfl rfl (by decide +kernel) ⟨Nat.le_of_ble_eq_true rfl, Nat.le_of_ble_eq_true rfl⟩) (pr_S hPc hK hDc) rfl rfl hl.1 rfl (lv_room (Nat.le_of_ble_eq_true rfl)) dX9_row_6 ⟨Nat.le_of_ble_eq_true rfl, Nat.le_of_ble_eq_true rfl⟩) hS (fun q _ h => hFc q h) hFc (fun r_11 u tS H1 locs ht hvm hw hB hz1 hk1 hS => ?_)
    obtain ⟨hP1, hK1, hD1⟩ := hB
    rw [ht] at hP1
    try dsimp only at hw
    obtain ⟨hP, hD⟩ := va_join (wr := [(g 60, .inr (9, mF g)), (g 1, .inl (cy 0, 4, .inl (upd (upd (upd (upd (fun _ => 0) 0 (-1)) 1 (-1)) 2 (-1)) 3 (-1)))), (g 2, .inl (cy 0, 4, .inl (fun _ => 0))), (g 3, .inl (cy 2, 240, .inr (.inl (fun _ => 0))))]) (w1 := []) hP hD [] [0, 1, 2, 3] rfl rfl (by decide) (by decide) hk1 hFc hP1 hD1
    generalize H1 = H at hP hS ⊢
    have hP : va_P D clz [(g 60, .inr (9, mF g)), (g 1, .inl (cy 0, 4, .inl (upd (upd (upd (upd (fun _ => 0) 0 (-1)) 1 (-1)) 2 (-1)) 3 (-1)))), (g 2, .inl (cy 0, 4, .inl (fun _ => 0))), (g 3, .inl (cy 2, 240, .inr (.inl (fun _ => 0))))] H := hP
    have hD : va_D A [(g 60, .inr (9, mF g)), (g 1, .inl (cy 0, 4, .inl (upd (upd (upd (upd (fun _ => 0) 0 (-1)) 1 (-1)) 2 (-1)) 3 (-1)))), (g 2, .inl (cy 0, 4, .inl (fun _ => 0))), (g 3, .inl (cy 2, 240, .inr (.inl (fun _ => 0))))] := hD
    by_cases hc_12 : ((0 : Int32) ≤ (1 : Int32) ∧ (1 : Int32) ≤ (3 : Int32))
    ·
      rw [if_pos hc_12] at hw
      subst hw
      refine lv_if_eq (tgt := 30) hx hb dX9_row_9 (by decide) (fun c9 => absurd c9 (by decide)) (fun _ => ?_)
      refine lv_iload_n hx hb dX9_row_12 rfl (lv_at hl 2 rfl) ?_
      refine lv_i2l (v := p2.toInt64) hx hb dX9_row_13 rfl ?_
      refine lv_lconst (v := 0) hx hb dX9_row_14 (by decide) ?_
      refine lv_ldc2 (v := 3) hx hb hown (hts _ q1549) dX9_row_15 ?_
      have hPc := hP.sub (ws' := []) [] rfl
      have hDc := hD.sub (ws' := []) [] (by decide) rfl
      have hFc := va_free (wc := []) hD hS hA [] rfl
      refine va_calli (va_runS (As := [.long p2.toInt64, .long 0, .long 3]) (rest := []) ⟨hx, hb, hml, hown, hts⟩ (c_X9_in l D cy p2.toInt64 0 3 H.size) (va_cwS 3 hts (gd_S q1550 q1551 q134 q1552) rfl rfl rfl (by decide +kernel) ⟨Nat.le_of_ble_eq_true rfl, Nat.le_of_ble_eq_true rfl⟩) (pr_S hPc hK hDc) rfl rfl hl.1 rfl (lv_room (Nat.le_of_ble_eq_true rfl)) dX9_row_18 ⟨Nat.le_of_ble_eq_true rfl, Nat.le_of_ble_eq_true rfl⟩) hS (fun q _ h => hFc q h) hFc (fun r_13 u tS H1 locs ht hvm hw hB hz1 hk1 hS => ?_)
      obtain ⟨hP1, hK1, hD1⟩ := hB
      rw [ht] at hP1
      try dsimp only at hw
      obtain ⟨hP, hD⟩ := va_join (wr := [(g 60, .inr (9, mF g)), (g 1, .inl (cy 0, 4, .inl (upd (upd (upd (upd (fun _ => 0) 0 (-1)) 1 (-1)) 2 (-1)) 3 (-1)))), (g 2, .inl (cy 0, 4, .inl (fun _ => 0))), (g 3, .inl (cy 2, 240, .inr (.inl (fun _ => 0))))]) (w1 := []) hP hD [] [0, 1, 2, 3] rfl rfl (by decide) (by decide) hk1 hFc hP1 hD1
      generalize H1 = H at hP hS ⊢
      have hP : va_P D clz [(g 60, .inr (9, mF g)), (g 1, .inl (cy 0, 4, .inl (upd (upd (upd (upd (fun _ => 0) 0 (-1)) 1 (-1)) 2 (-1)) 3 (-1)))), (g 2, .inl (cy 0, 4, .inl (fun _ => 0))), (g 3, .inl (cy 2, 240, .inr (.inl (fun _ => 0))))] H := hP
      have hD : va_D A [(g 60, .inr (9, mF g)), (g 1, .inl (cy 0, 4, .inl (upd (upd (upd (upd (fun _ => 0) 0 (-1)) 1 (-1)) 2 (-1)) 3 (-1)))), (g 2, .inl (cy 0, 4, .inl (fun _ => 0))), (g 3, .inl (cy 2, 240, .inr (.inl (fun _ => 0))))] := hD
      by_cases hc_14 : ((0 : Int64) ≤ p2.toInt64 ∧ p2.toInt64 ≤ (3 : Int64))
      ·
        rw [if_pos hc_14] at hw
        subst hw
        refine lv_if_eq (tgt := 30) hx hb dX9_row_21 (by decide) (fun c9 => absurd c9 (by decide)) (fun _ => ?_)
        refine lv_iload_n hx hb dX9_row_24 rfl (lv_at hl 3 rfl) ?_
        refine lv_bipush (v := 60) hx hb dX9_row_25 (by decide) ?_
        refine lv_icmp_le (tgt := 33) hx hb dX9_row_27 (by decide) (fun c_15 => ?_) (fun c_15 => ?_)
        ·
          refine lv_iload_n hx hb dX9_row_33 rfl (lv_at hl 3 rfl) ?_
          refine lv_if_ge (tgt := 40) hx hb dX9_row_34 (by decide) (fun c_16 => ?_) (fun c_16 => ?_)
          ·
            refine lv_aload_n hx hb dX9_row_40 rfl (lv_at hl 0 rfl) ?_
            refine va_get (D := D) (ci := 9) (v := .ref (g 1)) (C := RX9) (T := TX9) (N := 60) hx hb hts iX9 hown hK hP 0 rfl rfl 1 (by decide) (hts _ q1361) (fun _ h9 => h9) rfl dX9_row_41 ?_
            refine lv_iload_n hx hb dX9_row_44 rfl (lv_at hl 1 rfl) ?_
            refine lv_iload_n hx hb dX9_row_45 rfl (lv_at hl 2 rfl) ?_
            refine va_iast hx hb hK hP hD hS 1 0 rfl rfl (vpi (by decide)) dX9_row_46 (fun H locs hP hD hS => ?_)
            have hP : va_P D clz [(g 60, .inr (9, mF g)), (g 1, .inl (cy 0, 4, .inl (upd (upd (upd (upd (upd (fun _ => 0) 0 (-1)) 1 (-1)) 2 (-1)) 3 (-1)) 1 p2))), (g 2, .inl (cy 0, 4, .inl (fun _ => 0))), (g 3, .inl (cy 2, 240, .inr (.inl (fun _ => 0))))] H := hP
            have hD : va_D A [(g 60, .inr (9, mF g)), (g 1, .inl (cy 0, 4, .inl (upd (upd (upd (upd (upd (fun _ => 0) 0 (-1)) 1 (-1)) 2 (-1)) 3 (-1)) 1 p2))), (g 2, .inl (cy 0, 4, .inl (fun _ => 0))), (g 3, .inl (cy 2, 240, .inr (.inl (fun _ => 0))))] := hD
            refine lv_aload_n hx hb dX9_row_47 rfl (lv_at hl 0 rfl) ?_
            refine va_get (D := D) (ci := 9) (v := .ref (g 2)) (C := RX9) (T := TX9) (N := 60) hx hb hts iX9 hown hK hP 0 rfl rfl 2 (by decide) (hts _ q1362) (fun _ h9 => h9) rfl dX9_row_48 ?_
            refine lv_iload_n hx hb dX9_row_51 rfl (lv_at hl 1 rfl) ?_
            refine lv_iload_n hx hb dX9_row_52 rfl (lv_at hl 3 rfl) ?_
            refine va_iast hx hb hK hP hD hS 2 0 rfl rfl (vpi (by decide)) dX9_row_53 (fun H locs hP hD hS => ?_)
            have hP : va_P D clz [(g 60, .inr (9, mF g)), (g 1, .inl (cy 0, 4, .inl (upd (upd (upd (upd (upd (fun _ => 0) 0 (-1)) 1 (-1)) 2 (-1)) 3 (-1)) 1 p2))), (g 2, .inl (cy 0, 4, .inl (upd (fun _ => 0) 1 p3))), (g 3, .inl (cy 2, 240, .inr (.inl (fun _ => 0))))] H := hP
            have hD : va_D A [(g 60, .inr (9, mF g)), (g 1, .inl (cy 0, 4, .inl (upd (upd (upd (upd (upd (fun _ => 0) 0 (-1)) 1 (-1)) 2 (-1)) 3 (-1)) 1 p2))), (g 2, .inl (cy 0, 4, .inl (upd (fun _ => 0) 1 p3))), (g 3, .inl (cy 2, 240, .inr (.inl (fun _ => 0))))] := hD
            refine lv_iconst (v := 0) hx hb dX9_row_54 (by decide) ?_
            refine lv_istore (lv' := [(4, .int 0), (0, .ref (g 60)), (1, .int 1), (2, .int p2), (3, .int p3)]) hx hb dX9_row_55 hl (by decide) rfl (fun ls hl => ?_)
            obtain ⟨n_17, hn_17, en_17⟩ : ∃ n : Nat, n ≤ 60 ∧ p3 = nI n := by have f0 := bp32 hc_12; have f1 := bp64 hc_14; have f2 := ple32 c_15; have f3 := ple32 c_16; have z320 : (0 : Int32).toInt = 0 := (by decide); have z321 : (1 : Int32).toInt = 1 := (by decide); have z323 : (3 : Int32).toInt = 3 := (by decide); have z3260 : (60 : Int32).toInt = 60 := (by decide); have z640 : (0 : Int64).toInt = 0 := (by decide); have z643 : (3 : Int64).toInt = 3 := (by decide); have wp2 : p2.toInt64.toInt = p2.toInt := Int32.toInt_toInt64 p2; have wp3 : p3.toInt64.toInt = p3.toInt := Int32.toInt_toInt64 p3; exact to_nI (by omega) (by omega)
            refine loopW (pc := 57) (fun i => [(4, .int (nI i)), (0, .ref (g 60)), (1, .int 1), (2, .int p2), (3, .int p3)]) n_17 ?_ n_17 0 (Nat.zero_add _) _ _ _ hP hS hl
            intro i hi next H locs ls hP hS hl
            have hl : lv_has ls 5 [(4, .int (nI i)), (0, .ref (g 60)), (1, .int 1), (2, .int p2), (3, .int p3)] := hl
            refine lv_iload hx hb dX9_row_57 (lv_at hl 0 rfl) ?_
            refine lv_iload_n hx hb dX9_row_59 rfl (lv_at hl 4 rfl) ?_
            refine lv_icmp_ge (tgt := 82) hx hb dX9_row_60 (by decide) (fun c9 => ?_) (fun c9 => ?_)
            ·
              refine lv_iconst (v := 0) hx hb dX9_row_82 (by decide) ?_
              have hP9 := hP.sub (ws' := []) [] rfl
              have hD9 := hD.sub (ws' := []) [] (by decide) rfl
              exact W.iret (v := 0) hx hb hr (fun tS ht hW => ⟨⟨0, (), rfl, (by have f0 := bp32 hc_12; have f1 := bp64 hc_14; have f2 := ple32 c_15; have f3 := ple32 c_16; have z320 : (0 : Int32).toInt = 0 := (by decide); have z321 : (1 : Int32).toInt = 1 := (by decide); have z323 : (3 : Int32).toInt = 3 := (by decide); have z3260 : (60 : Int32).toInt = 60 := (by decide); have z640 : (0 : Int64).toInt = 0 := (by decide); have z643 : (3 : Int64).toInt = 3 := (by decide); have wp2 : p2.toInt64.toInt = p2.toInt := Int32.toInt_toInt64 p2; have wp3 : p3.toInt64.toInt = p3.toInt := Int32.toInt_toInt64 p3; unfold sp_row; (repeat' split) <;> first | rfl | (exfalso; omega)), by rw [ht]; exact hP9, va_K.moved hW.alike hK, hD9⟩, hS.F ht⟩) hS.2.2 dX9_row_83
            ·
              have hlt : i < n_17 := lt_nle (by rw [← en_17]; exact c9) (by omega)
              refine lv_aload_n hx hb dX9_row_63 rfl (lv_at hl 1 rfl) ?_
              refine va_get (D := D) (ci := 9) (v := .ref (g 3)) (C := RX9) (T := TX9) (N := 60) hx hb hts iX9 hown hK hP 0 rfl rfl 3 (by decide) (hts _ q1363) (fun _ h9 => h9) rfl dX9_row_64 ?_
              refine lv_bipush (v := 60) hx hb dX9_row_67 (by decide) ?_
              refine lv_iload_n hx hb dX9_row_69 rfl (lv_at hl 2 rfl) ?_
              refine lv_imul hx hb dX9_row_70 ?_
              refine lv_topi (fun x_18 ex_18 => ?_)
              obtain rfl : x_18 = 60 := ex_18.trans (by decide)
              refine lv_iload hx hb dX9_row_71 (lv_at hl 0 rfl) ?_
              refine lv_iadd hx hb dX9_row_73 ?_
              refine lv_topi (fun x_19 ex_19 => ?_)
              refine lv_lconst (v := 0) hx hb dX9_row_74 (by decide) ?_
              refine va_last hx hb hK hP hD hS 3 2 rfl rfl (ix_add (a := 60) ex_19 rfl rfl (by omega) (by decide)) dX9_row_75 (fun H locs hP hD hS => ?_)
              rw [updL_z] at hP hD
              have hP : va_P D clz [(g 60, .inr (9, mF g)), (g 1, .inl (cy 0, 4, .inl (upd (upd (upd (upd (upd (fun _ => 0) 0 (-1)) 1 (-1)) 2 (-1)) 3 (-1)) 1 p2))), (g 2, .inl (cy 0, 4, .inl (upd (fun _ => 0) 1 p3))), (g 3, .inl (cy 2, 240, .inr (.inl (fun _ => 0))))] H := hP
              have hD : va_D A [(g 60, .inr (9, mF g)), (g 1, .inl (cy 0, 4, .inl (upd (upd (upd (upd (upd (fun _ => 0) 0 (-1)) 1 (-1)) 2 (-1)) 3 (-1)) 1 p2))), (g 2, .inl (cy 0, 4, .inl (upd (fun _ => 0) 1 p3))), (g 3, .inl (cy 2, 240, .inr (.inl (fun _ => 0))))] := hD
              refine lv_iinc (v := nI (i + 1)) (lv' := [(4, .int (nI (i + 1))), (0, .ref (g 60)), (1, .int 1), (2, .int p2), (3, .int p3)]) hx hb dX9_row_76 hl (k := 0) rfl (nI_1 i) (by decide) rfl (fun ls hl => ?_)
              refine lv_goto (tgt := 57) hx hb dX9_row_79 (by decide) ?_
              exact next _ _ _ hP hS (lv_sub hl [0, 1, 2, 3, 4] rfl) hlt
          ·
            refine lv_bipush (v := (-3)) hx hb dX9_row_37 (by decide) ?_
            have hP9 := hP.sub (ws' := []) [] rfl
            have hD9 := hD.sub (ws' := []) [] (by decide) rfl
            exact W.iret (v := (-3)) hx hb hr (fun tS ht hW => ⟨⟨(-3), (), rfl, (by have f0 := bp32 hc_12; have f1 := bp64 hc_14; have f2 := ple32 c_15; have f3 := nle32 c_16; have z320 : (0 : Int32).toInt = 0 := (by decide); have z321 : (1 : Int32).toInt = 1 := (by decide); have z323 : (3 : Int32).toInt = 3 := (by decide); have z3260 : (60 : Int32).toInt = 60 := (by decide); have z640 : (0 : Int64).toInt = 0 := (by decide); have z643 : (3 : Int64).toInt = 3 := (by decide); have wp2 : p2.toInt64.toInt = p2.toInt := Int32.toInt_toInt64 p2; have wp3 : p3.toInt64.toInt = p3.toInt := Int32.toInt_toInt64 p3; unfold sp_row; (repeat' split) <;> first | rfl | (exfalso; omega)), by rw [ht]; exact hP9, va_K.moved hW.alike hK, hD9⟩, hS.F ht⟩) hS.2.2 dX9_row_39
        ·
          refine lv_bipush (v := (-2)) hx hb dX9_row_30 (by decide) ?_
          have hP9 := hP.sub (ws' := []) [] rfl
          have hD9 := hD.sub (ws' := []) [] (by decide) rfl
          exact W.iret (v := (-2)) hx hb hr (fun tS ht hW => ⟨⟨(-2), (), rfl, (by have f0 := bp32 hc_12; have f1 := bp64 hc_14; have f2 := nle32 c_15; have z320 : (0 : Int32).toInt = 0 := (by decide); have z321 : (1 : Int32).toInt = 1 := (by decide); have z323 : (3 : Int32).toInt = 3 := (by decide); have z3260 : (60 : Int32).toInt = 60 := (by decide); have z640 : (0 : Int64).toInt = 0 := (by decide); have z643 : (3 : Int64).toInt = 3 := (by decide); have wp2 : p2.toInt64.toInt = p2.toInt := Int32.toInt_toInt64 p2; have wp3 : p3.toInt64.toInt = p3.toInt := Int32.toInt_toInt64 p3; unfold sp_row; (repeat' split) <;> first | rfl | (exfalso; omega)), by rw [ht]; exact hP9, va_K.moved hW.alike hK, hD9⟩, hS.F ht⟩) hS.2.2 dX9_row_32
      ·
        rw [if_neg hc_14] at hw
        subst hw
        refine lv_if_eq (tgt := 30) hx hb dX9_row_21 (by decide) (fun _ => ?_) (fun c9 => absurd c9 (by decide))
        refine lv_bipush (v := (-2)) hx hb dX9_row_30 (by decide) ?_
        have hP9 := hP.sub (ws' := []) [] rfl
        have hD9 := hD.sub (ws' := []) [] (by decide) rfl
        exact W.iret (v := (-2)) hx hb hr (fun tS ht hW => ⟨⟨(-2), (), rfl, (by have f0 := bp32 hc_12; have f1 := bn64 hc_14; have z320 : (0 : Int32).toInt = 0 := (by decide); have z321 : (1 : Int32).toInt = 1 := (by decide); have z323 : (3 : Int32).toInt = 3 := (by decide); have z640 : (0 : Int64).toInt = 0 := (by decide); have z643 : (3 : Int64).toInt = 3 := (by decide); have wp2 : p2.toInt64.toInt = p2.toInt := Int32.toInt_toInt64 p2; have wp3 : p3.toInt64.toInt = p3.toInt := Int32.toInt_toInt64 p3; unfold sp_row; (repeat' split) <;> first | rfl | (exfalso; omega)), by rw [ht]; exact hP9, va_K.moved hW.alike hK, hD9⟩, hS.F ht⟩) hS.2.2 dX9_row_32
    ·
      rw [if_neg hc_12] at hw
      subst hw
      exact False.elim (by have f0 := bn32 hc_12; have z320 : (0 : Int32).toInt = 0 := (by decide); have z321 : (1 : Int32).toInt = 1 := (by decide); have z323 : (3 : Int32).toInt = 3 := (by decide); omega)
  ·
    refine lv_aload_n hx hb dX9_row_0 rfl (lv_at hl 0 rfl) ?_
    refine lv_iconst (v := 0) hx hb dX9_row_1 (by decide) ?_
    refine va_put (D := D) (ci := 9) (v := .int 0) (ty := .int) (C := RX9) (T := TX9) (N := 60) hx hb hts iX9 tyX9 tyX9_ok nmX9 hown hK hP hD hS 0 rfl rfl 0 (by decide) (hts _ q1360) (fun _ h9 => h9) rfl (by decide +kernel) rfl rfl (Nat.le_of_ble_eq_true rfl) dX9_row_2 (fun H locs hP hD hS => ?_)
    have hP : va_P D clz [(g 60, .inr (9, mF g)), (g 1, .inl (cy 0, 4, .inl (upd (upd (upd (upd (fun _ => 0) 0 (-1)) 1 (-1)) 2 (-1)) 3 (-1)))), (g 2, .inl (cy 0, 4, .inl (fun _ => 0))), (g 3, .inl (cy 2, 240, .inr (.inl (fun _ => 0))))] H := hP
    have hD : va_D A [(g 60, .inr (9, mF g)), (g 1, .inl (cy 0, 4, .inl (upd (upd (upd (upd (fun _ => 0) 0 (-1)) 1 (-1)) 2 (-1)) 3 (-1)))), (g 2, .inl (cy 0, 4, .inl (fun _ => 0))), (g 3, .inl (cy 2, 240, .inr (.inl (fun _ => 0))))] := hD
    refine lv_iload_n hx hb dX9_row_5 rfl (lv_at hl 1 rfl) ?_
    have hPc := hP.sub (ws' := []) [] rfl
    have hDc := hD.sub (ws' := []) [] (by decide) rfl
    have hFc := va_free (wc := []) hD hS hA [] rfl
    refine va_calli (va_runS (As := [.int 2]) (rest := []) ⟨hx, hb, hml, hown, hts⟩ (c_X9_isSlot l D cy 2 H.size) (va_cwS 1 hts (gd_S q1546 q1547 q134 q1548) rfl rfl rfl (by decide +kernel) ⟨Nat.le_of_ble_eq_true rfl, Nat.le_of_ble_eq_true rfl⟩) (pr_S hPc hK hDc) rfl rfl hl.1 rfl (lv_room (Nat.le_of_ble_eq_true rfl)) dX9_row_6 ⟨Nat.le_of_ble_eq_true rfl, Nat.le_of_ble_eq_true rfl⟩) hS (fun q _ h => hFc q h) hFc (fun r_20 u tS H1 locs ht hvm hw hB hz1 hk1 hS => ?_)
    obtain ⟨hP1, hK1, hD1⟩ := hB
    rw [ht] at hP1
    try dsimp only at hw
    obtain ⟨hP, hD⟩ := va_join (wr := [(g 60, .inr (9, mF g)), (g 1, .inl (cy 0, 4, .inl (upd (upd (upd (upd (fun _ => 0) 0 (-1)) 1 (-1)) 2 (-1)) 3 (-1)))), (g 2, .inl (cy 0, 4, .inl (fun _ => 0))), (g 3, .inl (cy 2, 240, .inr (.inl (fun _ => 0))))]) (w1 := []) hP hD [] [0, 1, 2, 3] rfl rfl (by decide) (by decide) hk1 hFc hP1 hD1
    generalize H1 = H at hP hS ⊢
    have hP : va_P D clz [(g 60, .inr (9, mF g)), (g 1, .inl (cy 0, 4, .inl (upd (upd (upd (upd (fun _ => 0) 0 (-1)) 1 (-1)) 2 (-1)) 3 (-1)))), (g 2, .inl (cy 0, 4, .inl (fun _ => 0))), (g 3, .inl (cy 2, 240, .inr (.inl (fun _ => 0))))] H := hP
    have hD : va_D A [(g 60, .inr (9, mF g)), (g 1, .inl (cy 0, 4, .inl (upd (upd (upd (upd (fun _ => 0) 0 (-1)) 1 (-1)) 2 (-1)) 3 (-1)))), (g 2, .inl (cy 0, 4, .inl (fun _ => 0))), (g 3, .inl (cy 2, 240, .inr (.inl (fun _ => 0))))] := hD
    by_cases hc_21 : ((0 : Int32) ≤ (2 : Int32) ∧ (2 : Int32) ≤ (3 : Int32))
    ·
      rw [if_pos hc_21] at hw
      subst hw
      refine lv_if_eq (tgt := 30) hx hb dX9_row_9 (by decide) (fun c9 => absurd c9 (by decide)) (fun _ => ?_)
      refine lv_iload_n hx hb dX9_row_12 rfl (lv_at hl 2 rfl) ?_
      refine lv_i2l (v := p2.toInt64) hx hb dX9_row_13 rfl ?_
      refine lv_lconst (v := 0) hx hb dX9_row_14 (by decide) ?_
      refine lv_ldc2 (v := 3) hx hb hown (hts _ q1549) dX9_row_15 ?_
      have hPc := hP.sub (ws' := []) [] rfl
      have hDc := hD.sub (ws' := []) [] (by decide) rfl
      have hFc := va_free (wc := []) hD hS hA [] rfl
      refine va_calli (va_runS (As := [.long p2.toInt64, .long 0, .long 3]) (rest := []) ⟨hx, hb, hml, hown, hts⟩ (c_X9_in l D cy p2.toInt64 0 3 H.size) (va_cwS 3 hts (gd_S q1550 q1551 q134 q1552) rfl rfl rfl (by decide +kernel) ⟨Nat.le_of_ble_eq_true rfl, Nat.le_of_ble_eq_true rfl⟩) (pr_S hPc hK hDc) rfl rfl hl.1 rfl (lv_room (Nat.le_of_ble_eq_true rfl)) dX9_row_18 ⟨Nat.le_of_ble_eq_true rfl, Nat.le_of_ble_eq_true rfl⟩) hS (fun q _ h => hFc q h) hFc (fun r_22 u tS H1 locs ht hvm hw hB hz1 hk1 hS => ?_)
      obtain ⟨hP1, hK1, hD1⟩ := hB
      rw [ht] at hP1
      try dsimp only at hw
      obtain ⟨hP, hD⟩ := va_join (wr := [(g 60, .inr (9, mF g)), (g 1, .inl (cy 0, 4, .inl (upd (upd (upd (upd (fun _ => 0) 0 (-1)) 1 (-1)) 2 (-1)) 3 (-1)))), (g 2, .inl (cy 0, 4, .inl (fun _ => 0))), (g 3, .inl (cy 2, 240, .inr (.inl (fun _ => 0))))]) (w1 := []) hP hD [] [0, 1, 2, 3] rfl rfl (by decide) (by decide) hk1 hFc hP1 hD1
      generalize H1 = H at hP hS ⊢
      have hP : va_P D clz [(g 60, .inr (9, mF g)), (g 1, .inl (cy 0, 4, .inl (upd (upd (upd (upd (fun _ => 0) 0 (-1)) 1 (-1)) 2 (-1)) 3 (-1)))), (g 2, .inl (cy 0, 4, .inl (fun _ => 0))), (g 3, .inl (cy 2, 240, .inr (.inl (fun _ => 0))))] H := hP
      have hD : va_D A [(g 60, .inr (9, mF g)), (g 1, .inl (cy 0, 4, .inl (upd (upd (upd (upd (fun _ => 0) 0 (-1)) 1 (-1)) 2 (-1)) 3 (-1)))), (g 2, .inl (cy 0, 4, .inl (fun _ => 0))), (g 3, .inl (cy 2, 240, .inr (.inl (fun _ => 0))))] := hD
      by_cases hc_23 : ((0 : Int64) ≤ p2.toInt64 ∧ p2.toInt64 ≤ (3 : Int64))
      ·
        rw [if_pos hc_23] at hw
        subst hw
        refine lv_if_eq (tgt := 30) hx hb dX9_row_21 (by decide) (fun c9 => absurd c9 (by decide)) (fun _ => ?_)
        refine lv_iload_n hx hb dX9_row_24 rfl (lv_at hl 3 rfl) ?_
        refine lv_bipush (v := 60) hx hb dX9_row_25 (by decide) ?_
        refine lv_icmp_le (tgt := 33) hx hb dX9_row_27 (by decide) (fun c_24 => ?_) (fun c_24 => ?_)
        ·
          refine lv_iload_n hx hb dX9_row_33 rfl (lv_at hl 3 rfl) ?_
          refine lv_if_ge (tgt := 40) hx hb dX9_row_34 (by decide) (fun c_25 => ?_) (fun c_25 => ?_)
          ·
            refine lv_aload_n hx hb dX9_row_40 rfl (lv_at hl 0 rfl) ?_
            refine va_get (D := D) (ci := 9) (v := .ref (g 1)) (C := RX9) (T := TX9) (N := 60) hx hb hts iX9 hown hK hP 0 rfl rfl 1 (by decide) (hts _ q1361) (fun _ h9 => h9) rfl dX9_row_41 ?_
            refine lv_iload_n hx hb dX9_row_44 rfl (lv_at hl 1 rfl) ?_
            refine lv_iload_n hx hb dX9_row_45 rfl (lv_at hl 2 rfl) ?_
            refine va_iast hx hb hK hP hD hS 1 0 rfl rfl (vpi (by decide)) dX9_row_46 (fun H locs hP hD hS => ?_)
            have hP : va_P D clz [(g 60, .inr (9, mF g)), (g 1, .inl (cy 0, 4, .inl (upd (upd (upd (upd (upd (fun _ => 0) 0 (-1)) 1 (-1)) 2 (-1)) 3 (-1)) 2 p2))), (g 2, .inl (cy 0, 4, .inl (fun _ => 0))), (g 3, .inl (cy 2, 240, .inr (.inl (fun _ => 0))))] H := hP
            have hD : va_D A [(g 60, .inr (9, mF g)), (g 1, .inl (cy 0, 4, .inl (upd (upd (upd (upd (upd (fun _ => 0) 0 (-1)) 1 (-1)) 2 (-1)) 3 (-1)) 2 p2))), (g 2, .inl (cy 0, 4, .inl (fun _ => 0))), (g 3, .inl (cy 2, 240, .inr (.inl (fun _ => 0))))] := hD
            refine lv_aload_n hx hb dX9_row_47 rfl (lv_at hl 0 rfl) ?_
            refine va_get (D := D) (ci := 9) (v := .ref (g 2)) (C := RX9) (T := TX9) (N := 60) hx hb hts iX9 hown hK hP 0 rfl rfl 2 (by decide) (hts _ q1362) (fun _ h9 => h9) rfl dX9_row_48 ?_
            refine lv_iload_n hx hb dX9_row_51 rfl (lv_at hl 1 rfl) ?_
            refine lv_iload_n hx hb dX9_row_52 rfl (lv_at hl 3 rfl) ?_
            refine va_iast hx hb hK hP hD hS 2 0 rfl rfl (vpi (by decide)) dX9_row_53 (fun H locs hP hD hS => ?_)
            have hP : va_P D clz [(g 60, .inr (9, mF g)), (g 1, .inl (cy 0, 4, .inl (upd (upd (upd (upd (upd (fun _ => 0) 0 (-1)) 1 (-1)) 2 (-1)) 3 (-1)) 2 p2))), (g 2, .inl (cy 0, 4, .inl (upd (fun _ => 0) 2 p3))), (g 3, .inl (cy 2, 240, .inr (.inl (fun _ => 0))))] H := hP
            have hD : va_D A [(g 60, .inr (9, mF g)), (g 1, .inl (cy 0, 4, .inl (upd (upd (upd (upd (upd (fun _ => 0) 0 (-1)) 1 (-1)) 2 (-1)) 3 (-1)) 2 p2))), (g 2, .inl (cy 0, 4, .inl (upd (fun _ => 0) 2 p3))), (g 3, .inl (cy 2, 240, .inr (.inl (fun _ => 0))))] := hD
            refine lv_iconst (v := 0) hx hb dX9_row_54 (by decide) ?_
            refine lv_istore (lv' := [(4, .int 0), (0, .ref (g 60)), (1, .int 2), (2, .int p2), (3, .int p3)]) hx hb dX9_row_55 hl (by decide) rfl (fun ls hl => ?_)
            obtain ⟨n_26, hn_26, en_26⟩ : ∃ n : Nat, n ≤ 60 ∧ p3 = nI n := by have f0 := bp32 hc_21; have f1 := bp64 hc_23; have f2 := ple32 c_24; have f3 := ple32 c_25; have z320 : (0 : Int32).toInt = 0 := (by decide); have z322 : (2 : Int32).toInt = 2 := (by decide); have z323 : (3 : Int32).toInt = 3 := (by decide); have z3260 : (60 : Int32).toInt = 60 := (by decide); have z640 : (0 : Int64).toInt = 0 := (by decide); have z643 : (3 : Int64).toInt = 3 := (by decide); have wp2 : p2.toInt64.toInt = p2.toInt := Int32.toInt_toInt64 p2; have wp3 : p3.toInt64.toInt = p3.toInt := Int32.toInt_toInt64 p3; exact to_nI (by omega) (by omega)
            refine loopW (pc := 57) (fun i => [(4, .int (nI i)), (0, .ref (g 60)), (1, .int 2), (2, .int p2), (3, .int p3)]) n_26 ?_ n_26 0 (Nat.zero_add _) _ _ _ hP hS hl
            intro i hi next H locs ls hP hS hl
            have hl : lv_has ls 5 [(4, .int (nI i)), (0, .ref (g 60)), (1, .int 2), (2, .int p2), (3, .int p3)] := hl
            refine lv_iload hx hb dX9_row_57 (lv_at hl 0 rfl) ?_
            refine lv_iload_n hx hb dX9_row_59 rfl (lv_at hl 4 rfl) ?_
            refine lv_icmp_ge (tgt := 82) hx hb dX9_row_60 (by decide) (fun c9 => ?_) (fun c9 => ?_)
            ·
              refine lv_iconst (v := 0) hx hb dX9_row_82 (by decide) ?_
              have hP9 := hP.sub (ws' := []) [] rfl
              have hD9 := hD.sub (ws' := []) [] (by decide) rfl
              exact W.iret (v := 0) hx hb hr (fun tS ht hW => ⟨⟨0, (), rfl, (by have f0 := bp32 hc_21; have f1 := bp64 hc_23; have f2 := ple32 c_24; have f3 := ple32 c_25; have z320 : (0 : Int32).toInt = 0 := (by decide); have z322 : (2 : Int32).toInt = 2 := (by decide); have z323 : (3 : Int32).toInt = 3 := (by decide); have z3260 : (60 : Int32).toInt = 60 := (by decide); have z640 : (0 : Int64).toInt = 0 := (by decide); have z643 : (3 : Int64).toInt = 3 := (by decide); have wp2 : p2.toInt64.toInt = p2.toInt := Int32.toInt_toInt64 p2; have wp3 : p3.toInt64.toInt = p3.toInt := Int32.toInt_toInt64 p3; unfold sp_row; (repeat' split) <;> first | rfl | (exfalso; omega)), by rw [ht]; exact hP9, va_K.moved hW.alike hK, hD9⟩, hS.F ht⟩) hS.2.2 dX9_row_83
            ·
              have hlt : i < n_26 := lt_nle (by rw [← en_26]; exact c9) (by omega)
              refine lv_aload_n hx hb dX9_row_63 rfl (lv_at hl 1 rfl) ?_
              refine va_get (D := D) (ci := 9) (v := .ref (g 3)) (C := RX9) (T := TX9) (N := 60) hx hb hts iX9 hown hK hP 0 rfl rfl 3 (by decide) (hts _ q1363) (fun _ h9 => h9) rfl dX9_row_64 ?_
              refine lv_bipush (v := 60) hx hb dX9_row_67 (by decide) ?_
              refine lv_iload_n hx hb dX9_row_69 rfl (lv_at hl 2 rfl) ?_
              refine lv_imul hx hb dX9_row_70 ?_
              refine lv_topi (fun x_27 ex_27 => ?_)
              obtain rfl : x_27 = 120 := ex_27.trans (by decide)
              refine lv_iload hx hb dX9_row_71 (lv_at hl 0 rfl) ?_
              refine lv_iadd hx hb dX9_row_73 ?_
              refine lv_topi (fun x_28 ex_28 => ?_)
              refine lv_lconst (v := 0) hx hb dX9_row_74 (by decide) ?_
              refine va_last hx hb hK hP hD hS 3 2 rfl rfl (ix_add (a := 120) ex_28 rfl rfl (by omega) (by decide)) dX9_row_75 (fun H locs hP hD hS => ?_)
              rw [updL_z] at hP hD
              have hP : va_P D clz [(g 60, .inr (9, mF g)), (g 1, .inl (cy 0, 4, .inl (upd (upd (upd (upd (upd (fun _ => 0) 0 (-1)) 1 (-1)) 2 (-1)) 3 (-1)) 2 p2))), (g 2, .inl (cy 0, 4, .inl (upd (fun _ => 0) 2 p3))), (g 3, .inl (cy 2, 240, .inr (.inl (fun _ => 0))))] H := hP
              have hD : va_D A [(g 60, .inr (9, mF g)), (g 1, .inl (cy 0, 4, .inl (upd (upd (upd (upd (upd (fun _ => 0) 0 (-1)) 1 (-1)) 2 (-1)) 3 (-1)) 2 p2))), (g 2, .inl (cy 0, 4, .inl (upd (fun _ => 0) 2 p3))), (g 3, .inl (cy 2, 240, .inr (.inl (fun _ => 0))))] := hD
              refine lv_iinc (v := nI (i + 1)) (lv' := [(4, .int (nI (i + 1))), (0, .ref (g 60)), (1, .int 2), (2, .int p2), (3, .int p3)]) hx hb dX9_row_76 hl (k := 0) rfl (nI_1 i) (by decide) rfl (fun ls hl => ?_)
              refine lv_goto (tgt := 57) hx hb dX9_row_79 (by decide) ?_
              exact next _ _ _ hP hS (lv_sub hl [0, 1, 2, 3, 4] rfl) hlt
          ·
            refine lv_bipush (v := (-3)) hx hb dX9_row_37 (by decide) ?_
            have hP9 := hP.sub (ws' := []) [] rfl
            have hD9 := hD.sub (ws' := []) [] (by decide) rfl
            exact W.iret (v := (-3)) hx hb hr (fun tS ht hW => ⟨⟨(-3), (), rfl, (by have f0 := bp32 hc_21; have f1 := bp64 hc_23; have f2 := ple32 c_24; have f3 := nle32 c_25; have z320 : (0 : Int32).toInt = 0 := (by decide); have z322 : (2 : Int32).toInt = 2 := (by decide); have z323 : (3 : Int32).toInt = 3 := (by decide); have z3260 : (60 : Int32).toInt = 60 := (by decide); have z640 : (0 : Int64).toInt = 0 := (by decide); have z643 : (3 : Int64).toInt = 3 := (by decide); have wp2 : p2.toInt64.toInt = p2.toInt := Int32.toInt_toInt64 p2; have wp3 : p3.toInt64.toInt = p3.toInt := Int32.toInt_toInt64 p3; unfold sp_row; (repeat' split) <;> first | rfl | (exfalso; omega)), by rw [ht]; exact hP9, va_K.moved hW.alike hK, hD9⟩, hS.F ht⟩) hS.2.2 dX9_row_39
        ·
          refine lv_bipush (v := (-2)) hx hb dX9_row_30 (by decide) ?_
          have hP9 := hP.sub (ws' := []) [] rfl
          have hD9 := hD.sub (ws' := []) [] (by decide) rfl
          exact W.iret (v := (-2)) hx hb hr (fun tS ht hW => ⟨⟨(-2), (), rfl, (by have f0 := bp32 hc_21; have f1 := bp64 hc_23; have f2 := nle32 c_24; have z320 : (0 : Int32).toInt = 0 := (by decide); have z322 : (2 : Int32).toInt = 2 := (by decide); have z323 : (3 : Int32).toInt = 3 := (by decide); have z3260 : (60 : Int32).toInt = 60 := (by decide); have z640 : (0 : Int64).toInt = 0 := (by decide); have z643 : (3 : Int64).toInt = 3 := (by decide); have wp2 : p2.toInt64.toInt = p2.toInt := Int32.toInt_toInt64 p2; have wp3 : p3.toInt64.toInt = p3.toInt := Int32.toInt_toInt64 p3; unfold sp_row; (repeat' split) <;> first | rfl | (exfalso; omega)), by rw [ht]; exact hP9, va_K.moved hW.alike hK, hD9⟩, hS.F ht⟩) hS.2.2 dX9_row_32
      ·
        rw [if_neg hc_23] at hw
        subst hw
        refine lv_if_eq (tgt := 30) hx hb dX9_row_21 (by decide) (fun _ => ?_) (fun c9 => absurd c9 (by decide))
        refine lv_bipush (v := (-2)) hx hb dX9_row_30 (by decide) ?_
        have hP9 := hP.sub (ws' := []) [] rfl
        have hD9 := hD.sub (ws' := []) [] (by decide) rfl
        exact W.iret (v := (-2)) hx hb hr (fun tS ht hW => ⟨⟨(-2), (), rfl, (by have f0 := bp32 hc_21; have f1 := bn64 hc_23; have z320 : (0 : Int32).toInt = 0 := (by decide); have z322 : (2 : Int32).toInt = 2 := (by decide); have z323 : (3 : Int32).toInt = 3 := (by decide); have z640 : (0 : Int64).toInt = 0 := (by decide); have z643 : (3 : Int64).toInt = 3 := (by decide); have wp2 : p2.toInt64.toInt = p2.toInt := Int32.toInt_toInt64 p2; have wp3 : p3.toInt64.toInt = p3.toInt := Int32.toInt_toInt64 p3; unfold sp_row; (repeat' split) <;> first | rfl | (exfalso; omega)), by rw [ht]; exact hP9, va_K.moved hW.alike hK, hD9⟩, hS.F ht⟩) hS.2.2 dX9_row_32
    ·
      rw [if_neg hc_21] at hw
      subst hw
      exact False.elim (by have f0 := bn32 hc_21; have z320 : (0 : Int32).toInt = 0 := (by decide); have z322 : (2 : Int32).toInt = 2 := (by decide); have z323 : (3 : Int32).toInt = 3 := (by decide); omega)
  ·
    refine lv_aload_n hx hb dX9_row_0 rfl (lv_at hl 0 rfl) ?_
    refine lv_iconst (v := 0) hx hb dX9_row_1 (by decide) ?_
    refine va_put (D := D) (ci := 9) (v := .int 0) (ty := .int) (C := RX9) (T := TX9) (N := 60) hx hb hts iX9 tyX9 tyX9_ok nmX9 hown hK hP hD hS 0 rfl rfl 0 (by decide) (hts _ q1360) (fun _ h9 => h9) rfl (by decide +kernel) rfl rfl (Nat.le_of_ble_eq_true rfl) dX9_row_2 (fun H locs hP hD hS => ?_)
    have hP : va_P D clz [(g 60, .inr (9, mF g)), (g 1, .inl (cy 0, 4, .inl (upd (upd (upd (upd (fun _ => 0) 0 (-1)) 1 (-1)) 2 (-1)) 3 (-1)))), (g 2, .inl (cy 0, 4, .inl (fun _ => 0))), (g 3, .inl (cy 2, 240, .inr (.inl (fun _ => 0))))] H := hP
    have hD : va_D A [(g 60, .inr (9, mF g)), (g 1, .inl (cy 0, 4, .inl (upd (upd (upd (upd (fun _ => 0) 0 (-1)) 1 (-1)) 2 (-1)) 3 (-1)))), (g 2, .inl (cy 0, 4, .inl (fun _ => 0))), (g 3, .inl (cy 2, 240, .inr (.inl (fun _ => 0))))] := hD
    refine lv_iload_n hx hb dX9_row_5 rfl (lv_at hl 1 rfl) ?_
    have hPc := hP.sub (ws' := []) [] rfl
    have hDc := hD.sub (ws' := []) [] (by decide) rfl
    have hFc := va_free (wc := []) hD hS hA [] rfl
    refine va_calli (va_runS (As := [.int 3]) (rest := []) ⟨hx, hb, hml, hown, hts⟩ (c_X9_isSlot l D cy 3 H.size) (va_cwS 1 hts (gd_S q1546 q1547 q134 q1548) rfl rfl rfl (by decide +kernel) ⟨Nat.le_of_ble_eq_true rfl, Nat.le_of_ble_eq_true rfl⟩) (pr_S hPc hK hDc) rfl rfl hl.1 rfl (lv_room (Nat.le_of_ble_eq_true rfl)) dX9_row_6 ⟨Nat.le_of_ble_eq_true rfl, Nat.le_of_ble_eq_true rfl⟩) hS (fun q _ h => hFc q h) hFc (fun r_29 u tS H1 locs ht hvm hw hB hz1 hk1 hS => ?_)
    obtain ⟨hP1, hK1, hD1⟩ := hB
    rw [ht] at hP1
    try dsimp only at hw
    obtain ⟨hP, hD⟩ := va_join (wr := [(g 60, .inr (9, mF g)), (g 1, .inl (cy 0, 4, .inl (upd (upd (upd (upd (fun _ => 0) 0 (-1)) 1 (-1)) 2 (-1)) 3 (-1)))), (g 2, .inl (cy 0, 4, .inl (fun _ => 0))), (g 3, .inl (cy 2, 240, .inr (.inl (fun _ => 0))))]) (w1 := []) hP hD [] [0, 1, 2, 3] rfl rfl (by decide) (by decide) hk1 hFc hP1 hD1
    generalize H1 = H at hP hS ⊢
    have hP : va_P D clz [(g 60, .inr (9, mF g)), (g 1, .inl (cy 0, 4, .inl (upd (upd (upd (upd (fun _ => 0) 0 (-1)) 1 (-1)) 2 (-1)) 3 (-1)))), (g 2, .inl (cy 0, 4, .inl (fun _ => 0))), (g 3, .inl (cy 2, 240, .inr (.inl (fun _ => 0))))] H := hP
    have hD : va_D A [(g 60, .inr (9, mF g)), (g 1, .inl (cy 0, 4, .inl (upd (upd (upd (upd (fun _ => 0) 0 (-1)) 1 (-1)) 2 (-1)) 3 (-1)))), (g 2, .inl (cy 0, 4, .inl (fun _ => 0))), (g 3, .inl (cy 2, 240, .inr (.inl (fun _ => 0))))] := hD
    by_cases hc_30 : ((0 : Int32) ≤ (3 : Int32) ∧ (3 : Int32) ≤ (3 : Int32))
    ·
      rw [if_pos hc_30] at hw
      subst hw
      refine lv_if_eq (tgt := 30) hx hb dX9_row_9 (by decide) (fun c9 => absurd c9 (by decide)) (fun _ => ?_)
      refine lv_iload_n hx hb dX9_row_12 rfl (lv_at hl 2 rfl) ?_
      refine lv_i2l (v := p2.toInt64) hx hb dX9_row_13 rfl ?_
      refine lv_lconst (v := 0) hx hb dX9_row_14 (by decide) ?_
      refine lv_ldc2 (v := 3) hx hb hown (hts _ q1549) dX9_row_15 ?_
      have hPc := hP.sub (ws' := []) [] rfl
      have hDc := hD.sub (ws' := []) [] (by decide) rfl
      have hFc := va_free (wc := []) hD hS hA [] rfl
      refine va_calli (va_runS (As := [.long p2.toInt64, .long 0, .long 3]) (rest := []) ⟨hx, hb, hml, hown, hts⟩ (c_X9_in l D cy p2.toInt64 0 3 H.size) (va_cwS 3 hts (gd_S q1550 q1551 q134 q1552) rfl rfl rfl (by decide +kernel) ⟨Nat.le_of_ble_eq_true rfl, Nat.le_of_ble_eq_true rfl⟩) (pr_S hPc hK hDc) rfl rfl hl.1 rfl (lv_room (Nat.le_of_ble_eq_true rfl)) dX9_row_18 ⟨Nat.le_of_ble_eq_true rfl, Nat.le_of_ble_eq_true rfl⟩) hS (fun q _ h => hFc q h) hFc (fun r_31 u tS H1 locs ht hvm hw hB hz1 hk1 hS => ?_)
      obtain ⟨hP1, hK1, hD1⟩ := hB
      rw [ht] at hP1
      try dsimp only at hw
      obtain ⟨hP, hD⟩ := va_join (wr := [(g 60, .inr (9, mF g)), (g 1, .inl (cy 0, 4, .inl (upd (upd (upd (upd (fun _ => 0) 0 (-1)) 1 (-1)) 2 (-1)) 3 (-1)))), (g 2, .inl (cy 0, 4, .inl (fun _ => 0))), (g 3, .inl (cy 2, 240, .inr (.inl (fun _ => 0))))]) (w1 := []) hP hD [] [0, 1, 2, 3] rfl rfl (by decide) (by decide) hk1 hFc hP1 hD1
      generalize H1 = H at hP hS ⊢
      have hP : va_P D clz [(g 60, .inr (9, mF g)), (g 1, .inl (cy 0, 4, .inl (upd (upd (upd (upd (fun _ => 0) 0 (-1)) 1 (-1)) 2 (-1)) 3 (-1)))), (g 2, .inl (cy 0, 4, .inl (fun _ => 0))), (g 3, .inl (cy 2, 240, .inr (.inl (fun _ => 0))))] H := hP
      have hD : va_D A [(g 60, .inr (9, mF g)), (g 1, .inl (cy 0, 4, .inl (upd (upd (upd (upd (fun _ => 0) 0 (-1)) 1 (-1)) 2 (-1)) 3 (-1)))), (g 2, .inl (cy 0, 4, .inl (fun _ => 0))), (g 3, .inl (cy 2, 240, .inr (.inl (fun _ => 0))))] := hD
      by_cases hc_32 : ((0 : Int64) ≤ p2.toInt64 ∧ p2.toInt64 ≤ (3 : Int64))
      ·
        rw [if_pos hc_32] at hw
        subst hw
        refine lv_if_eq (tgt := 30) hx hb dX9_row_21 (by decide) (fun c9 => absurd c9 (by decide)) (fun _ => ?_)
        refine lv_iload_n hx hb dX9_row_24 rfl (lv_at hl 3 rfl) ?_
        refine lv_bipush (v := 60) hx hb dX9_row_25 (by decide) ?_
        refine lv_icmp_le (tgt := 33) hx hb dX9_row_27 (by decide) (fun c_33 => ?_) (fun c_33 => ?_)
        ·
          refine lv_iload_n hx hb dX9_row_33 rfl (lv_at hl 3 rfl) ?_
          refine lv_if_ge (tgt := 40) hx hb dX9_row_34 (by decide) (fun c_34 => ?_) (fun c_34 => ?_)
          ·
            refine lv_aload_n hx hb dX9_row_40 rfl (lv_at hl 0 rfl) ?_
            refine va_get (D := D) (ci := 9) (v := .ref (g 1)) (C := RX9) (T := TX9) (N := 60) hx hb hts iX9 hown hK hP 0 rfl rfl 1 (by decide) (hts _ q1361) (fun _ h9 => h9) rfl dX9_row_41 ?_
            refine lv_iload_n hx hb dX9_row_44 rfl (lv_at hl 1 rfl) ?_
            refine lv_iload_n hx hb dX9_row_45 rfl (lv_at hl 2 rfl) ?_
            refine va_iast hx hb hK hP hD hS 1 0 rfl rfl (vpi (by decide)) dX9_row_46 (fun H locs hP hD hS => ?_)
            have hP : va_P D clz [(g 60, .inr (9, mF g)), (g 1, .inl (cy 0, 4, .inl (upd (upd (upd (upd (upd (fun _ => 0) 0 (-1)) 1 (-1)) 2 (-1)) 3 (-1)) 3 p2))), (g 2, .inl (cy 0, 4, .inl (fun _ => 0))), (g 3, .inl (cy 2, 240, .inr (.inl (fun _ => 0))))] H := hP
            have hD : va_D A [(g 60, .inr (9, mF g)), (g 1, .inl (cy 0, 4, .inl (upd (upd (upd (upd (upd (fun _ => 0) 0 (-1)) 1 (-1)) 2 (-1)) 3 (-1)) 3 p2))), (g 2, .inl (cy 0, 4, .inl (fun _ => 0))), (g 3, .inl (cy 2, 240, .inr (.inl (fun _ => 0))))] := hD
            refine lv_aload_n hx hb dX9_row_47 rfl (lv_at hl 0 rfl) ?_
            refine va_get (D := D) (ci := 9) (v := .ref (g 2)) (C := RX9) (T := TX9) (N := 60) hx hb hts iX9 hown hK hP 0 rfl rfl 2 (by decide) (hts _ q1362) (fun _ h9 => h9) rfl dX9_row_48 ?_
            refine lv_iload_n hx hb dX9_row_51 rfl (lv_at hl 1 rfl) ?_
            refine lv_iload_n hx hb dX9_row_52 rfl (lv_at hl 3 rfl) ?_
            refine va_iast hx hb hK hP hD hS 2 0 rfl rfl (vpi (by decide)) dX9_row_53 (fun H locs hP hD hS => ?_)
            have hP : va_P D clz [(g 60, .inr (9, mF g)), (g 1, .inl (cy 0, 4, .inl (upd (upd (upd (upd (upd (fun _ => 0) 0 (-1)) 1 (-1)) 2 (-1)) 3 (-1)) 3 p2))), (g 2, .inl (cy 0, 4, .inl (upd (fun _ => 0) 3 p3))), (g 3, .inl (cy 2, 240, .inr (.inl (fun _ => 0))))] H := hP
            have hD : va_D A [(g 60, .inr (9, mF g)), (g 1, .inl (cy 0, 4, .inl (upd (upd (upd (upd (upd (fun _ => 0) 0 (-1)) 1 (-1)) 2 (-1)) 3 (-1)) 3 p2))), (g 2, .inl (cy 0, 4, .inl (upd (fun _ => 0) 3 p3))), (g 3, .inl (cy 2, 240, .inr (.inl (fun _ => 0))))] := hD
            refine lv_iconst (v := 0) hx hb dX9_row_54 (by decide) ?_
            refine lv_istore (lv' := [(4, .int 0), (0, .ref (g 60)), (1, .int 3), (2, .int p2), (3, .int p3)]) hx hb dX9_row_55 hl (by decide) rfl (fun ls hl => ?_)
            obtain ⟨n_35, hn_35, en_35⟩ : ∃ n : Nat, n ≤ 60 ∧ p3 = nI n := by have f0 := bp32 hc_30; have f1 := bp64 hc_32; have f2 := ple32 c_33; have f3 := ple32 c_34; have z320 : (0 : Int32).toInt = 0 := (by decide); have z323 : (3 : Int32).toInt = 3 := (by decide); have z3260 : (60 : Int32).toInt = 60 := (by decide); have z640 : (0 : Int64).toInt = 0 := (by decide); have z643 : (3 : Int64).toInt = 3 := (by decide); have wp2 : p2.toInt64.toInt = p2.toInt := Int32.toInt_toInt64 p2; have wp3 : p3.toInt64.toInt = p3.toInt := Int32.toInt_toInt64 p3; exact to_nI (by omega) (by omega)
            refine loopW (pc := 57) (fun i => [(4, .int (nI i)), (0, .ref (g 60)), (1, .int 3), (2, .int p2), (3, .int p3)]) n_35 ?_ n_35 0 (Nat.zero_add _) _ _ _ hP hS hl
            intro i hi next H locs ls hP hS hl
            have hl : lv_has ls 5 [(4, .int (nI i)), (0, .ref (g 60)), (1, .int 3), (2, .int p2), (3, .int p3)] := hl
            refine lv_iload hx hb dX9_row_57 (lv_at hl 0 rfl) ?_
            refine lv_iload_n hx hb dX9_row_59 rfl (lv_at hl 4 rfl) ?_
            refine lv_icmp_ge (tgt := 82) hx hb dX9_row_60 (by decide) (fun c9 => ?_) (fun c9 => ?_)
            ·
              refine lv_iconst (v := 0) hx hb dX9_row_82 (by decide) ?_
              have hP9 := hP.sub (ws' := []) [] rfl
              have hD9 := hD.sub (ws' := []) [] (by decide) rfl
              exact W.iret (v := 0) hx hb hr (fun tS ht hW => ⟨⟨0, (), rfl, (by have f0 := bp32 hc_30; have f1 := bp64 hc_32; have f2 := ple32 c_33; have f3 := ple32 c_34; have z320 : (0 : Int32).toInt = 0 := (by decide); have z323 : (3 : Int32).toInt = 3 := (by decide); have z3260 : (60 : Int32).toInt = 60 := (by decide); have z640 : (0 : Int64).toInt = 0 := (by decide); have z643 : (3 : Int64).toInt = 3 := (by decide); have wp2 : p2.toInt64.toInt = p2.toInt := Int32.toInt_toInt64 p2; have wp3 : p3.toInt64.toInt = p3.toInt := Int32.toInt_toInt64 p3; unfold sp_row; (repeat' split) <;> first | rfl | (exfalso; omega)), by rw [ht]; exact hP9, va_K.moved hW.alike hK, hD9⟩, hS.F ht⟩) hS.2.2 dX9_row_83
            ·
              have hlt : i < n_35 := lt_nle (by rw [← en_35]; exact c9) (by omega)
              refine lv_aload_n hx hb dX9_row_63 rfl (lv_at hl 1 rfl) ?_
              refine va_get (D := D) (ci := 9) (v := .ref (g 3)) (C := RX9) (T := TX9) (N := 60) hx hb hts iX9 hown hK hP 0 rfl rfl 3 (by decide) (hts _ q1363) (fun _ h9 => h9) rfl dX9_row_64 ?_
              refine lv_bipush (v := 60) hx hb dX9_row_67 (by decide) ?_
              refine lv_iload_n hx hb dX9_row_69 rfl (lv_at hl 2 rfl) ?_
              refine lv_imul hx hb dX9_row_70 ?_
              refine lv_topi (fun x_36 ex_36 => ?_)
              obtain rfl : x_36 = 180 := ex_36.trans (by decide)
              refine lv_iload hx hb dX9_row_71 (lv_at hl 0 rfl) ?_
              refine lv_iadd hx hb dX9_row_73 ?_
              refine lv_topi (fun x_37 ex_37 => ?_)
              refine lv_lconst (v := 0) hx hb dX9_row_74 (by decide) ?_
              refine va_last hx hb hK hP hD hS 3 2 rfl rfl (ix_add (a := 180) ex_37 rfl rfl (by omega) (by decide)) dX9_row_75 (fun H locs hP hD hS => ?_)
              rw [updL_z] at hP hD
              have hP : va_P D clz [(g 60, .inr (9, mF g)), (g 1, .inl (cy 0, 4, .inl (upd (upd (upd (upd (upd (fun _ => 0) 0 (-1)) 1 (-1)) 2 (-1)) 3 (-1)) 3 p2))), (g 2, .inl (cy 0, 4, .inl (upd (fun _ => 0) 3 p3))), (g 3, .inl (cy 2, 240, .inr (.inl (fun _ => 0))))] H := hP
              have hD : va_D A [(g 60, .inr (9, mF g)), (g 1, .inl (cy 0, 4, .inl (upd (upd (upd (upd (upd (fun _ => 0) 0 (-1)) 1 (-1)) 2 (-1)) 3 (-1)) 3 p2))), (g 2, .inl (cy 0, 4, .inl (upd (fun _ => 0) 3 p3))), (g 3, .inl (cy 2, 240, .inr (.inl (fun _ => 0))))] := hD
              refine lv_iinc (v := nI (i + 1)) (lv' := [(4, .int (nI (i + 1))), (0, .ref (g 60)), (1, .int 3), (2, .int p2), (3, .int p3)]) hx hb dX9_row_76 hl (k := 0) rfl (nI_1 i) (by decide) rfl (fun ls hl => ?_)
              refine lv_goto (tgt := 57) hx hb dX9_row_79 (by decide) ?_
              exact next _ _ _ hP hS (lv_sub hl [0, 1, 2, 3, 4] rfl) hlt
          ·
            refine lv_bipush (v := (-3)) hx hb dX9_row_37 (by decide) ?_
            have hP9 := hP.sub (ws' := []) [] rfl
            have hD9 := hD.sub (ws' := []) [] (by decide) rfl
            exact W.iret (v := (-3)) hx hb hr (fun tS ht hW => ⟨⟨(-3), (), rfl, (by have f0 := bp32 hc_30; have f1 := bp64 hc_32; have f2 := ple32 c_33; have f3 := nle32 c_34; have z320 : (0 : Int32).toInt = 0 := (by decide); have z323 : (3 : Int32).toInt = 3 := (by decide); have z3260 : (60 : Int32).toInt = 60 := (by decide); have z640 : (0 : Int64).toInt = 0 := (by decide); have z643 : (3 : Int64).toInt = 3 := (by decide); have wp2 : p2.toInt64.toInt = p2.toInt := Int32.toInt_toInt64 p2; have wp3 : p3.toInt64.toInt = p3.toInt := Int32.toInt_toInt64 p3; unfold sp_row; (repeat' split) <;> first | rfl | (exfalso; omega)), by rw [ht]; exact hP9, va_K.moved hW.alike hK, hD9⟩, hS.F ht⟩) hS.2.2 dX9_row_39
        ·
          refine lv_bipush (v := (-2)) hx hb dX9_row_30 (by decide) ?_
          have hP9 := hP.sub (ws' := []) [] rfl
          have hD9 := hD.sub (ws' := []) [] (by decide) rfl
          exact W.iret (v := (-2)) hx hb hr (fun tS ht hW => ⟨⟨(-2), (), rfl, (by have f0 := bp32 hc_30; have f1 := bp64 hc_32; have f2 := nle32 c_33; have z320 : (0 : Int32).toInt = 0 := (by decide); have z323 : (3 : Int32).toInt = 3 := (by decide); have z3260 : (60 : Int32).toInt = 60 := (by decide); have z640 : (0 : Int64).toInt = 0 := (by decide); have z643 : (3 : Int64).toInt = 3 := (by decide); have wp2 : p2.toInt64.toInt = p2.toInt := Int32.toInt_toInt64 p2; have wp3 : p3.toInt64.toInt = p3.toInt := Int32.toInt_toInt64 p3; unfold sp_row; (repeat' split) <;> first | rfl | (exfalso; omega)), by rw [ht]; exact hP9, va_K.moved hW.alike hK, hD9⟩, hS.F ht⟩) hS.2.2 dX9_row_32
      ·
        rw [if_neg hc_32] at hw
        subst hw
        refine lv_if_eq (tgt := 30) hx hb dX9_row_21 (by decide) (fun _ => ?_) (fun c9 => absurd c9 (by decide))
        refine lv_bipush (v := (-2)) hx hb dX9_row_30 (by decide) ?_
        have hP9 := hP.sub (ws' := []) [] rfl
        have hD9 := hD.sub (ws' := []) [] (by decide) rfl
        exact W.iret (v := (-2)) hx hb hr (fun tS ht hW => ⟨⟨(-2), (), rfl, (by have f0 := bp32 hc_30; have f1 := bn64 hc_32; have z320 : (0 : Int32).toInt = 0 := (by decide); have z323 : (3 : Int32).toInt = 3 := (by decide); have z640 : (0 : Int64).toInt = 0 := (by decide); have z643 : (3 : Int64).toInt = 3 := (by decide); have wp2 : p2.toInt64.toInt = p2.toInt := Int32.toInt_toInt64 p2; have wp3 : p3.toInt64.toInt = p3.toInt := Int32.toInt_toInt64 p3; unfold sp_row; (repeat' split) <;> first | rfl | (exfalso; omega)), by rw [ht]; exact hP9, va_K.moved hW.alike hK, hD9⟩, hS.F ht⟩) hS.2.2 dX9_row_32
    ·
      rw [if_neg hc_30] at hw
      subst hw
      exact False.elim (by have f0 := bn32 hc_30; have z320 : (0 : Int32).toInt = 0 := (by decide); have z323 : (3 : Int32).toInt = 3 := (by decide); omega)
  ·
    refine lv_aload_n hx hb dX9_row_0 rfl (lv_at hl 0 rfl) ?_
    refine lv_iconst (v := 0) hx hb dX9_row_1 (by decide) ?_
    refine va_put (D := D) (ci := 9) (v := .int 0) (ty := .int) (C := RX9) (T := TX9) (N := 60) hx hb hts iX9 tyX9 tyX9_ok nmX9 hown hK hP hD hS 0 rfl rfl 0 (by decide) (hts _ q1360) (fun _ h9 => h9) rfl (by decide +kernel) rfl rfl (Nat.le_of_ble_eq_true rfl) dX9_row_2 (fun H locs hP hD hS => ?_)
    have hP : va_P D clz [(g 60, .inr (9, mF g)), (g 1, .inl (cy 0, 4, .inl (upd (upd (upd (upd (fun _ => 0) 0 (-1)) 1 (-1)) 2 (-1)) 3 (-1)))), (g 2, .inl (cy 0, 4, .inl (fun _ => 0))), (g 3, .inl (cy 2, 240, .inr (.inl (fun _ => 0))))] H := hP
    have hD : va_D A [(g 60, .inr (9, mF g)), (g 1, .inl (cy 0, 4, .inl (upd (upd (upd (upd (fun _ => 0) 0 (-1)) 1 (-1)) 2 (-1)) 3 (-1)))), (g 2, .inl (cy 0, 4, .inl (fun _ => 0))), (g 3, .inl (cy 2, 240, .inr (.inl (fun _ => 0))))] := hD
    refine lv_iload_n hx hb dX9_row_5 rfl (lv_at hl 1 rfl) ?_
    have hPc := hP.sub (ws' := []) [] rfl
    have hDc := hD.sub (ws' := []) [] (by decide) rfl
    have hFc := va_free (wc := []) hD hS hA [] rfl
    refine va_calli (va_runS (As := [.int p1]) (rest := []) ⟨hx, hb, hml, hown, hts⟩ (c_X9_isSlot l D cy p1 H.size) (va_cwS 1 hts (gd_S q1546 q1547 q134 q1548) rfl rfl rfl (by decide +kernel) ⟨Nat.le_of_ble_eq_true rfl, Nat.le_of_ble_eq_true rfl⟩) (pr_S hPc hK hDc) rfl rfl hl.1 rfl (lv_room (Nat.le_of_ble_eq_true rfl)) dX9_row_6 ⟨Nat.le_of_ble_eq_true rfl, Nat.le_of_ble_eq_true rfl⟩) hS (fun q _ h => hFc q h) hFc (fun r_38 u tS H1 locs ht hvm hw hB hz1 hk1 hS => ?_)
    obtain ⟨hP1, hK1, hD1⟩ := hB
    rw [ht] at hP1
    try dsimp only at hw
    obtain ⟨hP, hD⟩ := va_join (wr := [(g 60, .inr (9, mF g)), (g 1, .inl (cy 0, 4, .inl (upd (upd (upd (upd (fun _ => 0) 0 (-1)) 1 (-1)) 2 (-1)) 3 (-1)))), (g 2, .inl (cy 0, 4, .inl (fun _ => 0))), (g 3, .inl (cy 2, 240, .inr (.inl (fun _ => 0))))]) (w1 := []) hP hD [] [0, 1, 2, 3] rfl rfl (by decide) (by decide) hk1 hFc hP1 hD1
    generalize H1 = H at hP hS ⊢
    have hP : va_P D clz [(g 60, .inr (9, mF g)), (g 1, .inl (cy 0, 4, .inl (upd (upd (upd (upd (fun _ => 0) 0 (-1)) 1 (-1)) 2 (-1)) 3 (-1)))), (g 2, .inl (cy 0, 4, .inl (fun _ => 0))), (g 3, .inl (cy 2, 240, .inr (.inl (fun _ => 0))))] H := hP
    have hD : va_D A [(g 60, .inr (9, mF g)), (g 1, .inl (cy 0, 4, .inl (upd (upd (upd (upd (fun _ => 0) 0 (-1)) 1 (-1)) 2 (-1)) 3 (-1)))), (g 2, .inl (cy 0, 4, .inl (fun _ => 0))), (g 3, .inl (cy 2, 240, .inr (.inl (fun _ => 0))))] := hD
    by_cases hc_39 : ((0 : Int32) ≤ p1 ∧ p1 ≤ (3 : Int32))
    ·
      rw [if_pos hc_39] at hw
      subst hw
      exact False.elim (by have f0 := hs_1; have f1 := bp32 hc_39; have z320 : (0 : Int32).toInt = 0 := (by decide); have z323 : (3 : Int32).toInt = 3 := (by decide); omega)
    ·
      rw [if_neg hc_39] at hw
      subst hw
      refine lv_if_eq (tgt := 30) hx hb dX9_row_9 (by decide) (fun _ => ?_) (fun c9 => absurd c9 (by decide))
      refine lv_bipush (v := (-2)) hx hb dX9_row_30 (by decide) ?_
      have hP9 := hP.sub (ws' := []) [] rfl
      have hD9 := hD.sub (ws' := []) [] (by decide) rfl
      exact W.iret (v := (-2)) hx hb hr (fun tS ht hW => ⟨⟨(-2), (), rfl, (by have f0 := hs_1; have f1 := bn32 hc_39; have z320 : (0 : Int32).toInt = 0 := (by decide); have z323 : (3 : Int32).toInt = 3 := (by decide); unfold sp_row; (repeat' split) <;> first | rfl | (exfalso; omega)), by rw [ht]; exact hP9, va_K.moved hW.alike hK, hD9⟩, hS.F ht⟩) hS.2.2 dX9_row_32

