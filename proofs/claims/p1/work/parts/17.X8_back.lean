theorem q712 : Cond.code yX8_back cX8_back 2 (some .int) ∈ lw_g := lw_gm (List.mem_of_getElem? (i := 712) (by decide +kernel)) rfl
theorem dX8_back_0 : decode cX8_back 0 = .ok (.iload_n 1, 1) := by decide +kernel
theorem dX8_back_1 : decode cX8_back 1 = .ok (.ifCond .lt 8, 3) := by decide +kernel
theorem dX8_back_4 : decode cX8_back 4 = .ok (.iload_n 1, 1) := by decide +kernel
theorem dX8_back_5 : decode cX8_back 5 = .ok (.iconst 3, 1) := by decide +kernel
theorem dX8_back_6 : decode cX8_back 6 = .ok (.if_icmp .lt 6, 3) := by decide +kernel
theorem dX8_back_9 : decode cX8_back 9 = .ok (.bipush (-2), 2) := by decide +kernel
theorem dX8_back_11 : decode cX8_back 11 = .ok (.ireturn, 1) := by decide +kernel
theorem dX8_back_12 : decode cX8_back 12 = .ok (.aload_n 0, 1) := by decide +kernel
theorem dX8_back_13 : decode cX8_back 13 = .ok (.getfield 30, 3) := by decide +kernel
theorem dX8_back_16 : decode cX8_back 16 = .ok (.iload_n 1, 1) := by decide +kernel
theorem dX8_back_17 : decode cX8_back 17 = .ok (.iaload, 1) := by decide +kernel
theorem dX8_back_18 : decode cX8_back 18 = .ok (.ifCond .ne 6, 3) := by decide +kernel
theorem dX8_back_21 : decode cX8_back 21 = .ok (.bipush (-6), 2) := by decide +kernel
theorem dX8_back_23 : decode cX8_back 23 = .ok (.ireturn, 1) := by decide +kernel
set_option maxHeartbeats 4000000 in
set_option maxRecDepth 100000 in
theorem c_X8_back (l : Launch) (D : va_G) (cy : Nat → ClassId) (g : Nat → Nat) (p1 : Int32) (sz : Nat) : Met l yX8_back (ww yX8_back cX8_back 2 (some .int)) ({ frames := 1, cells := 0, slots := 0, locals := 64 }) (va_Pc [.ref (g 0), .int p1] (pre D cy [(g 0, .inr (8, xF g)), (g 25, .inl (cy 0, 3, .inl (fun _ => 0)))] sz)) (qi D cy (va_A [(g 0, .inr (8, xF g)), (g 25, .inl (cy 0, 3, .inl (fun _ => 0)))] sz) (fun (r : Int32) (_ : Unit) => r = sp_back p1) (fun (_ : Unit) => [(g 0, .inr (8, xF g)), (g 25, .inl (cy 0, 3, .inl (fun _ => 0)))])) 0 0 (va_A [(g 0, .inr (8, xF g)), (g 25, .inl (cy 0, 3, .inl (fun _ => 0)))] sz) := by
  refine Met.ofW (cc := cX8_back) (maxL := 2) (ret := (some .int)) (by decide) rfl ?_
  intro p e s m args below meth c s₁ B hml hv
  obtain ⟨rfl, hsz, hP, hK, hD0⟩ := hv
  have hx := B.exec
  have hb := B.bytes
  have hr := B.returns
  have hts := hts_g (atoms_spec (ws := ww yX8_back cX8_back 2 (some .int)) B.pre)
  have hown : s.vm.findClass RX8 = some m.cls := findClass_of_methodNamed B.named
  have hlocks := B.notSynchronized
  subst hsz
  have hD := hD0.self (sz := s.heap.size)
  generalize hAe : va_A [(g 0, .inr (8, xF g)), (g 25, .inl (cy 0, 3, .inl (fun _ => 0)))] s.heap.size = A at hD ⊢
  have hA : ∀ q : Nat, s.heap.size ≤ q → A q := fun q h => by rw [← hAe]; exact Or.inr h
  have hS : va_S A s.heap s.heap [] := va_S.rf
  have hl := lv_entry ([.ref (g 0), .int p1]) (n := 2) (Nat.le_of_ble_eq_true rfl)
  rw [lg_entry_eq]
  generalize (lg_sl ([.ref (g 0), .int p1]) ++ List.replicate (2 - (lg_sl ([.ref (g 0), .int p1])).length) Slot.unset).toArray = ls at hl ⊢
  have hl : lv_has ls 2 [(0, .ref (g 0)), (1, .int p1)] := hl
  rcases sp3 p1 with rfl | rfl | rfl | hs_1
  ·
    refine lv_iload_n hx hb dX8_back_0 rfl (lv_at hl 1 rfl) ?_
    refine lv_if_lt (tgt := 9) hx hb dX8_back_1 (by decide) (fun c9 => absurd c9 (by decide)) (fun _ => ?_)
    refine lv_iload_n hx hb dX8_back_4 rfl (lv_at hl 1 rfl) ?_
    refine lv_iconst (v := 3) hx hb dX8_back_5 (by decide) ?_
    refine lv_icmp_lt (tgt := 12) hx hb dX8_back_6 (by decide) (fun _ => ?_) (fun c9 => absurd c9 (by decide))
    refine lv_aload_n hx hb dX8_back_12 rfl (lv_at hl 0 rfl) ?_
    refine va_get (D := D) (ci := 8) (v := .ref (g 25)) (C := RX8) (T := TX8) (N := 12) hx hb hts iX8 hown hK hP 0 rfl rfl 4 (by decide) (hts _ q438) (fun _ h9 => h9) rfl dX8_back_13 ?_
    refine lv_iload_n hx hb dX8_back_16 rfl (lv_at hl 1 rfl) ?_
    refine va_iald hx hb hK hP 1 0 rfl rfl (vpi (by decide)) dX8_back_17 ?_
    refine lv_topi (fun x_2 ex_2 => ?_)
    obtain rfl : x_2 = 0 := ex_2.trans (by decide)
    refine lv_if_ne (tgt := 24) hx hb dX8_back_18 (by decide) (fun c9 => absurd c9 (by decide)) (fun _ => ?_)
    refine lv_bipush (v := (-6)) hx hb dX8_back_21 (by decide) ?_
    have hP9 := hP.sub (ws' := [(g 0, .inr (8, xF g)), (g 25, .inl (cy 0, 3, .inl (fun _ => 0)))]) [0, 1] rfl
    have hD9 := hD.sub (ws' := [(g 0, .inr (8, xF g)), (g 25, .inl (cy 0, 3, .inl (fun _ => 0)))]) [0, 1] (by decide) rfl
    exact W.iret (v := (-6)) hx hb hr (fun tS ht hW => ⟨⟨(-6), (), rfl, (by have z320 : (0 : Int32).toInt = 0 := (by decide); unfold sp_back; (repeat' split) <;> first | rfl | (exfalso; omega)), by rw [ht]; exact hP9, va_K.moved hW.alike hK, hD9⟩, hS.F ht⟩) hS.2.2 dX8_back_23
  ·
    refine lv_iload_n hx hb dX8_back_0 rfl (lv_at hl 1 rfl) ?_
    refine lv_if_lt (tgt := 9) hx hb dX8_back_1 (by decide) (fun c9 => absurd c9 (by decide)) (fun _ => ?_)
    refine lv_iload_n hx hb dX8_back_4 rfl (lv_at hl 1 rfl) ?_
    refine lv_iconst (v := 3) hx hb dX8_back_5 (by decide) ?_
    refine lv_icmp_lt (tgt := 12) hx hb dX8_back_6 (by decide) (fun _ => ?_) (fun c9 => absurd c9 (by decide))
    refine lv_aload_n hx hb dX8_back_12 rfl (lv_at hl 0 rfl) ?_
    refine va_get (D := D) (ci := 8) (v := .ref (g 25)) (C := RX8) (T := TX8) (N := 12) hx hb hts iX8 hown hK hP 0 rfl rfl 4 (by decide) (hts _ q438) (fun _ h9 => h9) rfl dX8_back_13 ?_
    refine lv_iload_n hx hb dX8_back_16 rfl (lv_at hl 1 rfl) ?_
    refine va_iald hx hb hK hP 1 0 rfl rfl (vpi (by decide)) dX8_back_17 ?_
    refine lv_topi (fun x_3 ex_3 => ?_)
    obtain rfl : x_3 = 0 := ex_3.trans (by decide)
    refine lv_if_ne (tgt := 24) hx hb dX8_back_18 (by decide) (fun c9 => absurd c9 (by decide)) (fun _ => ?_)
    refine lv_bipush (v := (-6)) hx hb dX8_back_21 (by decide) ?_
    have hP9 := hP.sub (ws' := [(g 0, .inr (8, xF g)), (g 25, .inl (cy 0, 3, .inl (fun _ => 0)))]) [0, 1] rfl
    have hD9 := hD.sub (ws' := [(g 0, .inr (8, xF g)), (g 25, .inl (cy 0, 3, .inl (fun _ => 0)))]) [0, 1] (by decide) rfl
    exact W.iret (v := (-6)) hx hb hr (fun tS ht hW => ⟨⟨(-6), (), rfl, (by have z321 : (1 : Int32).toInt = 1 := (by decide); unfold sp_back; (repeat' split) <;> first | rfl | (exfalso; omega)), by rw [ht]; exact hP9, va_K.moved hW.alike hK, hD9⟩, hS.F ht⟩) hS.2.2 dX8_back_23
  ·
    refine lv_iload_n hx hb dX8_back_0 rfl (lv_at hl 1 rfl) ?_
    refine lv_if_lt (tgt := 9) hx hb dX8_back_1 (by decide) (fun c9 => absurd c9 (by decide)) (fun _ => ?_)
    refine lv_iload_n hx hb dX8_back_4 rfl (lv_at hl 1 rfl) ?_
    refine lv_iconst (v := 3) hx hb dX8_back_5 (by decide) ?_
    refine lv_icmp_lt (tgt := 12) hx hb dX8_back_6 (by decide) (fun _ => ?_) (fun c9 => absurd c9 (by decide))
    refine lv_aload_n hx hb dX8_back_12 rfl (lv_at hl 0 rfl) ?_
    refine va_get (D := D) (ci := 8) (v := .ref (g 25)) (C := RX8) (T := TX8) (N := 12) hx hb hts iX8 hown hK hP 0 rfl rfl 4 (by decide) (hts _ q438) (fun _ h9 => h9) rfl dX8_back_13 ?_
    refine lv_iload_n hx hb dX8_back_16 rfl (lv_at hl 1 rfl) ?_
    refine va_iald hx hb hK hP 1 0 rfl rfl (vpi (by decide)) dX8_back_17 ?_
    refine lv_topi (fun x_4 ex_4 => ?_)
    obtain rfl : x_4 = 0 := ex_4.trans (by decide)
    refine lv_if_ne (tgt := 24) hx hb dX8_back_18 (by decide) (fun c9 => absurd c9 (by decide)) (fun _ => ?_)
    refine lv_bipush (v := (-6)) hx hb dX8_back_21 (by decide) ?_
    have hP9 := hP.sub (ws' := [(g 0, .inr (8, xF g)), (g 25, .inl (cy 0, 3, .inl (fun _ => 0)))]) [0, 1] rfl
    have hD9 := hD.sub (ws' := [(g 0, .inr (8, xF g)), (g 25, .inl (cy 0, 3, .inl (fun _ => 0)))]) [0, 1] (by decide) rfl
    exact W.iret (v := (-6)) hx hb hr (fun tS ht hW => ⟨⟨(-6), (), rfl, (by have z322 : (2 : Int32).toInt = 2 := (by decide); unfold sp_back; (repeat' split) <;> first | rfl | (exfalso; omega)), by rw [ht]; exact hP9, va_K.moved hW.alike hK, hD9⟩, hS.F ht⟩) hS.2.2 dX8_back_23
  ·
    refine lv_iload_n hx hb dX8_back_0 rfl (lv_at hl 1 rfl) ?_
    refine lv_if_lt (tgt := 9) hx hb dX8_back_1 (by decide) (fun c_5 => ?_) (fun c_5 => ?_)
    ·
      refine lv_bipush (v := (-2)) hx hb dX8_back_9 (by decide) ?_
      have hP9 := hP.sub (ws' := [(g 0, .inr (8, xF g)), (g 25, .inl (cy 0, 3, .inl (fun _ => 0)))]) [0, 1] rfl
      have hD9 := hD.sub (ws' := [(g 0, .inr (8, xF g)), (g 25, .inl (cy 0, 3, .inl (fun _ => 0)))]) [0, 1] (by decide) rfl
      exact W.iret (v := (-2)) hx hb hr (fun tS ht hW => ⟨⟨(-2), (), rfl, (by have f0 := hs_1; have f1 := plt32 c_5; have z320 : (0 : Int32).toInt = 0 := (by decide); unfold sp_back; (repeat' split) <;> first | rfl | (exfalso; omega)), by rw [ht]; exact hP9, va_K.moved hW.alike hK, hD9⟩, hS.F ht⟩) hS.2.2 dX8_back_11
    ·
      refine lv_iload_n hx hb dX8_back_4 rfl (lv_at hl 1 rfl) ?_
      refine lv_iconst (v := 3) hx hb dX8_back_5 (by decide) ?_
      refine lv_icmp_lt (tgt := 12) hx hb dX8_back_6 (by decide) (fun c_6 => ?_) (fun c_6 => ?_)
      ·
        exact False.elim (by have f0 := hs_1; have f1 := nlt32 c_5; have f2 := plt32 c_6; have z320 : (0 : Int32).toInt = 0 := (by decide); have z323 : (3 : Int32).toInt = 3 := (by decide); omega)
      ·
        refine lv_bipush (v := (-2)) hx hb dX8_back_9 (by decide) ?_
        have hP9 := hP.sub (ws' := [(g 0, .inr (8, xF g)), (g 25, .inl (cy 0, 3, .inl (fun _ => 0)))]) [0, 1] rfl
        have hD9 := hD.sub (ws' := [(g 0, .inr (8, xF g)), (g 25, .inl (cy 0, 3, .inl (fun _ => 0)))]) [0, 1] (by decide) rfl
        exact W.iret (v := (-2)) hx hb hr (fun tS ht hW => ⟨⟨(-2), (), rfl, (by have f0 := hs_1; have f1 := nlt32 c_5; have f2 := nlt32 c_6; have z320 : (0 : Int32).toInt = 0 := (by decide); have z323 : (3 : Int32).toInt = 3 := (by decide); unfold sp_back; (repeat' split) <;> first | rfl | (exfalso; omega)), by rw [ht]; exact hP9, va_K.moved hW.alike hK, hD9⟩, hS.F ht⟩) hS.2.2 dX8_back_11

theorem q705 : Cond.code yX0_copyFrom cX0_copyFrom 2 none ∈ lw_g := lw_gm (List.mem_of_getElem? (i := 705) (by decide +kernel)) rfl
theorem q706 : Cond.methodLink RX0 43 arraycopyName ∈ lw_g := lw_gm (List.mem_of_getElem? (i := 706) (by decide +kernel)) rfl
theorem q708 : Cond.native arraycopyName ∈ lw_g := lw_gm (List.mem_of_getElem? (i := 708) (by decide +kernel)) rfl
theorem q707 : Cond.static arraycopyName ∈ lw_g := lw_gm (List.mem_of_getElem? (i := 707) (by decide +kernel)) rfl
theorem q141 : Cond.initialized "java/lang/System" ∈ lw_g := lw_gm (List.mem_of_getElem? (i := 141) (by decide +kernel)) rfl
theorem dX0_copyFrom_0 : decode cX0_copyFrom 0 = .ok (.aload_n 0, 1) := by decide +kernel
theorem dX0_copyFrom_1 : decode cX0_copyFrom 1 = .ok (.aload_n 1, 1) := by decide +kernel
theorem dX0_copyFrom_2 : decode cX0_copyFrom 2 = .ok (.getfield 24, 3) := by decide +kernel
theorem dX0_copyFrom_5 : decode cX0_copyFrom 5 = .ok (.putfield 24, 3) := by decide +kernel
theorem dX0_copyFrom_8 : decode cX0_copyFrom 8 = .ok (.aload_n 0, 1) := by decide +kernel
theorem dX0_copyFrom_9 : decode cX0_copyFrom 9 = .ok (.aload_n 1, 1) := by decide +kernel
theorem dX0_copyFrom_10 : decode cX0_copyFrom 10 = .ok (.getfield 28, 3) := by decide +kernel
theorem dX0_copyFrom_13 : decode cX0_copyFrom 13 = .ok (.putfield 28, 3) := by decide +kernel
theorem dX0_copyFrom_16 : decode cX0_copyFrom 16 = .ok (.aload_n 0, 1) := by decide +kernel
theorem dX0_copyFrom_17 : decode cX0_copyFrom 17 = .ok (.aload_n 1, 1) := by decide +kernel
theorem dX0_copyFrom_18 : decode cX0_copyFrom 18 = .ok (.getfield 31, 3) := by decide +kernel
theorem dX0_copyFrom_21 : decode cX0_copyFrom 21 = .ok (.putfield 31, 3) := by decide +kernel
theorem dX0_copyFrom_24 : decode cX0_copyFrom 24 = .ok (.aload_n 0, 1) := by decide +kernel
theorem dX0_copyFrom_25 : decode cX0_copyFrom 25 = .ok (.aload_n 1, 1) := by decide +kernel
theorem dX0_copyFrom_26 : decode cX0_copyFrom 26 = .ok (.getfield 34, 3) := by decide +kernel
theorem dX0_copyFrom_29 : decode cX0_copyFrom 29 = .ok (.putfield 34, 3) := by decide +kernel
theorem dX0_copyFrom_32 : decode cX0_copyFrom 32 = .ok (.aload_n 0, 1) := by decide +kernel
theorem dX0_copyFrom_33 : decode cX0_copyFrom 33 = .ok (.aload_n 1, 1) := by decide +kernel
theorem dX0_copyFrom_34 : decode cX0_copyFrom 34 = .ok (.getfield 37, 3) := by decide +kernel
theorem dX0_copyFrom_37 : decode cX0_copyFrom 37 = .ok (.putfield 37, 3) := by decide +kernel
theorem dX0_copyFrom_40 : decode cX0_copyFrom 40 = .ok (.aload_n 0, 1) := by decide +kernel
theorem dX0_copyFrom_41 : decode cX0_copyFrom 41 = .ok (.aload_n 1, 1) := by decide +kernel
theorem dX0_copyFrom_42 : decode cX0_copyFrom 42 = .ok (.getfield 40, 3) := by decide +kernel
theorem dX0_copyFrom_45 : decode cX0_copyFrom 45 = .ok (.putfield 40, 3) := by decide +kernel
theorem dX0_copyFrom_48 : decode cX0_copyFrom 48 = .ok (.aload_n 1, 1) := by decide +kernel
theorem dX0_copyFrom_49 : decode cX0_copyFrom 49 = .ok (.getfield 9, 3) := by decide +kernel
theorem dX0_copyFrom_52 : decode cX0_copyFrom 52 = .ok (.iconst 0, 1) := by decide +kernel
theorem dX0_copyFrom_53 : decode cX0_copyFrom 53 = .ok (.aload_n 0, 1) := by decide +kernel
theorem dX0_copyFrom_54 : decode cX0_copyFrom 54 = .ok (.getfield 9, 3) := by decide +kernel
theorem dX0_copyFrom_57 : decode cX0_copyFrom 57 = .ok (.iconst 0, 1) := by decide +kernel
theorem dX0_copyFrom_58 : decode cX0_copyFrom 58 = .ok (.aload_n 0, 1) := by decide +kernel
theorem dX0_copyFrom_59 : decode cX0_copyFrom 59 = .ok (.getfield 9, 3) := by decide +kernel
theorem dX0_copyFrom_62 : decode cX0_copyFrom 62 = .ok (.arraylength, 1) := by decide +kernel
theorem dX0_copyFrom_63 : decode cX0_copyFrom 63 = .ok (.invokestatic 43, 3) := by decide +kernel
theorem dX0_copyFrom_66 : decode cX0_copyFrom 66 = .ok (.aload_n 1, 1) := by decide +kernel
theorem dX0_copyFrom_67 : decode cX0_copyFrom 67 = .ok (.getfield 15, 3) := by decide +kernel
theorem dX0_copyFrom_70 : decode cX0_copyFrom 70 = .ok (.iconst 0, 1) := by decide +kernel
theorem dX0_copyFrom_71 : decode cX0_copyFrom 71 = .ok (.aload_n 0, 1) := by decide +kernel
theorem dX0_copyFrom_72 : decode cX0_copyFrom 72 = .ok (.getfield 15, 3) := by decide +kernel
theorem dX0_copyFrom_75 : decode cX0_copyFrom 75 = .ok (.iconst 0, 1) := by decide +kernel
theorem dX0_copyFrom_76 : decode cX0_copyFrom 76 = .ok (.aload_n 0, 1) := by decide +kernel
theorem dX0_copyFrom_77 : decode cX0_copyFrom 77 = .ok (.getfield 15, 3) := by decide +kernel
theorem dX0_copyFrom_80 : decode cX0_copyFrom 80 = .ok (.arraylength, 1) := by decide +kernel
theorem dX0_copyFrom_81 : decode cX0_copyFrom 81 = .ok (.invokestatic 43, 3) := by decide +kernel
theorem dX0_copyFrom_84 : decode cX0_copyFrom 84 = .ok (.aload_n 1, 1) := by decide +kernel
theorem dX0_copyFrom_85 : decode cX0_copyFrom 85 = .ok (.getfield 18, 3) := by decide +kernel
theorem dX0_copyFrom_88 : decode cX0_copyFrom 88 = .ok (.iconst 0, 1) := by decide +kernel
theorem dX0_copyFrom_89 : decode cX0_copyFrom 89 = .ok (.aload_n 0, 1) := by decide +kernel
theorem dX0_copyFrom_90 : decode cX0_copyFrom 90 = .ok (.getfield 18, 3) := by decide +kernel
theorem dX0_copyFrom_93 : decode cX0_copyFrom 93 = .ok (.iconst 0, 1) := by decide +kernel
theorem dX0_copyFrom_94 : decode cX0_copyFrom 94 = .ok (.aload_n 0, 1) := by decide +kernel
theorem dX0_copyFrom_95 : decode cX0_copyFrom 95 = .ok (.getfield 18, 3) := by decide +kernel
theorem dX0_copyFrom_98 : decode cX0_copyFrom 98 = .ok (.arraylength, 1) := by decide +kernel
theorem dX0_copyFrom_99 : decode cX0_copyFrom 99 = .ok (.invokestatic 43, 3) := by decide +kernel
theorem dX0_copyFrom_102 : decode cX0_copyFrom 102 = .ok (.aload_n 1, 1) := by decide +kernel
theorem dX0_copyFrom_103 : decode cX0_copyFrom 103 = .ok (.getfield 21, 3) := by decide +kernel
theorem dX0_copyFrom_106 : decode cX0_copyFrom 106 = .ok (.iconst 0, 1) := by decide +kernel
theorem dX0_copyFrom_107 : decode cX0_copyFrom 107 = .ok (.aload_n 0, 1) := by decide +kernel
theorem dX0_copyFrom_108 : decode cX0_copyFrom 108 = .ok (.getfield 21, 3) := by decide +kernel
theorem dX0_copyFrom_111 : decode cX0_copyFrom 111 = .ok (.iconst 0, 1) := by decide +kernel
theorem dX0_copyFrom_112 : decode cX0_copyFrom 112 = .ok (.aload_n 0, 1) := by decide +kernel
theorem dX0_copyFrom_113 : decode cX0_copyFrom 113 = .ok (.getfield 21, 3) := by decide +kernel
theorem dX0_copyFrom_116 : decode cX0_copyFrom 116 = .ok (.arraylength, 1) := by decide +kernel
theorem dX0_copyFrom_117 : decode cX0_copyFrom 117 = .ok (.invokestatic 43, 3) := by decide +kernel
theorem dX0_copyFrom_120 : decode cX0_copyFrom 120 = .ok (.return_, 1) := by decide +kernel
set_option maxHeartbeats 4000000 in
set_option maxRecDepth 100000 in
theorem c_X0_copyFrom (l : Launch) (D : va_G) (cy : Nat → ClassId) (h : Nat) (a : Nat) (b : Nat) (c1 : Nat) (d : Nat) (h2 : Nat) (a2 : Nat) (b2 : Nat) (c2 : Nat) (d2 : Nat) (sz : Nat) : Met l yX0_copyFrom (ww yX0_copyFrom cX0_copyFrom 2 none) ({ frames := 1, cells := 0, slots := 0, locals := 64 }) (va_Pc [.ref h, .ref h2] (pre D cy [(h, .inr (0, [.int 0, .int 0, .int 0, .int 0, .int 0, .int 0, .ref a, .ref b, .ref c1, .ref d])), (a, .inl (cy 0, 28, .inl (fun _ => 0))), (b, .inl (cy 0, 36, .inl (fun _ => 0))), (c1, .inl (cy 0, 240, .inl (fun _ => 0))), (d, .inl (cy 0, 3, .inl (fun _ => 0))), (h2, .inr (0, [.int 0, .int 0, .int 0, .int 0, .int 0, .int 0, .ref a2, .ref b2, .ref c2, .ref d2])), (a2, .inl (cy 0, 28, .inl (fun _ => 0))), (b2, .inl (cy 0, 36, .inl (fun _ => 0))), (c2, .inl (cy 0, 240, .inl (fun _ => 0))), (d2, .inl (cy 0, 3, .inl (fun _ => 0)))] sz)) (qv D cy (va_A [(h, .inr (0, [.int 0, .int 0, .int 0, .int 0, .int 0, .int 0, .ref a, .ref b, .ref c1, .ref d])), (a, .inl (cy 0, 28, .inl (fun _ => 0))), (b, .inl (cy 0, 36, .inl (fun _ => 0))), (c1, .inl (cy 0, 240, .inl (fun _ => 0))), (d, .inl (cy 0, 3, .inl (fun _ => 0))), (h2, .inr (0, [.int 0, .int 0, .int 0, .int 0, .int 0, .int 0, .ref a2, .ref b2, .ref c2, .ref d2])), (a2, .inl (cy 0, 28, .inl (fun _ => 0))), (b2, .inl (cy 0, 36, .inl (fun _ => 0))), (c2, .inl (cy 0, 240, .inl (fun _ => 0))), (d2, .inl (cy 0, 3, .inl (fun _ => 0)))] sz) (fun (_ : Unit) => True) (fun (_ : Unit) => [(h, .inr (0, [.int 0, .int 0, .int 0, .int 0, .int 0, .int 0, .ref a, .ref b, .ref c1, .ref d])), (a, .inl (cy 0, 28, .inl (fun _ => 0))), (b, .inl (cy 0, 36, .inl (fun _ => 0))), (c1, .inl (cy 0, 240, .inl (fun _ => 0))), (d, .inl (cy 0, 3, .inl (fun _ => 0))), (h2, .inr (0, [.int 0, .int 0, .int 0, .int 0, .int 0, .int 0, .ref a2, .ref b2, .ref c2, .ref d2])), (a2, .inl (cy 0, 28, .inl (fun _ => 0))), (b2, .inl (cy 0, 36, .inl (fun _ => 0))), (c2, .inl (cy 0, 240, .inl (fun _ => 0))), (d2, .inl (cy 0, 3, .inl (fun _ => 0)))])) 0 0 (va_A [(h, .inr (0, [.int 0, .int 0, .int 0, .int 0, .int 0, .int 0, .ref a, .ref b, .ref c1, .ref d])), (a, .inl (cy 0, 28, .inl (fun _ => 0))), (b, .inl (cy 0, 36, .inl (fun _ => 0))), (c1, .inl (cy 0, 240, .inl (fun _ => 0))), (d, .inl (cy 0, 3, .inl (fun _ => 0))), (h2, .inr (0, [.int 0, .int 0, .int 0, .int 0, .int 0, .int 0, .ref a2, .ref b2, .ref c2, .ref d2])), (a2, .inl (cy 0, 28, .inl (fun _ => 0))), (b2, .inl (cy 0, 36, .inl (fun _ => 0))), (c2, .inl (cy 0, 240, .inl (fun _ => 0))), (d2, .inl (cy 0, 3, .inl (fun _ => 0)))] sz) := by
  refine Met.ofW (cc := cX0_copyFrom) (maxL := 2) (ret := none) (by decide) rfl ?_
  intro p e s m args below meth c s₁ B hml hv
  obtain ⟨rfl, hsz, hP, hK, hD0⟩ := hv
  have hx := B.exec
  have hb := B.bytes
  have hr := B.returns
  have hts := hts_g (atoms_spec (ws := ww yX0_copyFrom cX0_copyFrom 2 none) B.pre)
  have hown : s.vm.findClass RX0 = some m.cls := findClass_of_methodNamed B.named
  have hlocks := B.notSynchronized
  subst hsz
  have hD := hD0.self (sz := s.heap.size)
  generalize hAe : va_A [(h, .inr (0, [.int 0, .int 0, .int 0, .int 0, .int 0, .int 0, .ref a, .ref b, .ref c1, .ref d])), (a, .inl (cy 0, 28, .inl (fun _ => 0))), (b, .inl (cy 0, 36, .inl (fun _ => 0))), (c1, .inl (cy 0, 240, .inl (fun _ => 0))), (d, .inl (cy 0, 3, .inl (fun _ => 0))), (h2, .inr (0, [.int 0, .int 0, .int 0, .int 0, .int 0, .int 0, .ref a2, .ref b2, .ref c2, .ref d2])), (a2, .inl (cy 0, 28, .inl (fun _ => 0))), (b2, .inl (cy 0, 36, .inl (fun _ => 0))), (c2, .inl (cy 0, 240, .inl (fun _ => 0))), (d2, .inl (cy 0, 3, .inl (fun _ => 0)))] s.heap.size = A at hD ⊢
  have hA : ∀ q : Nat, s.heap.size ≤ q → A q := fun q h => by rw [← hAe]; exact Or.inr h
  have hS : va_S A s.heap s.heap [] := va_S.rf
  have hl := lv_entry ([.ref h, .ref h2]) (n := 2) (Nat.le_of_ble_eq_true rfl)
  rw [lg_entry_eq]
  generalize (lg_sl ([.ref h, .ref h2]) ++ List.replicate (2 - (lg_sl ([.ref h, .ref h2])).length) Slot.unset).toArray = ls at hl ⊢
  have hl : lv_has ls 2 [(0, .ref h), (1, .ref h2)] := hl
  refine lv_aload_n hx hb dX0_copyFrom_0 rfl (lv_at hl 0 rfl) ?_
  refine lv_aload_n hx hb dX0_copyFrom_1 rfl (lv_at hl 1 rfl) ?_
  refine va_get (D := D) (ci := 0) (v := .int 0) (C := RX0) (T := TX0) (N := 10) hx hb hts iX0 hown hK hP 5 rfl rfl 0 (by decide) (hts _ q192) (fun _ h9 => h9) rfl dX0_copyFrom_2 ?_
  refine va_put (D := D) (ci := 0) (v := .int 0) (ty := .int) (C := RX0) (T := TX0) (N := 10) hx hb hts iX0 tyX0 tyX0_ok nmX0 hown hK hP hD hS 0 rfl rfl 0 (by decide) (hts _ q192) (fun _ h9 => h9) rfl (by decide +kernel) rfl rfl (Nat.le_of_ble_eq_true rfl) dX0_copyFrom_5 (fun H locs hP hD hS => ?_)
  have hP : va_P D clz [(h, .inr (0, [.int 0, .int 0, .int 0, .int 0, .int 0, .int 0, .ref a, .ref b, .ref c1, .ref d])), (a, .inl (cy 0, 28, .inl (fun _ => 0))), (b, .inl (cy 0, 36, .inl (fun _ => 0))), (c1, .inl (cy 0, 240, .inl (fun _ => 0))), (d, .inl (cy 0, 3, .inl (fun _ => 0))), (h2, .inr (0, [.int 0, .int 0, .int 0, .int 0, .int 0, .int 0, .ref a2, .ref b2, .ref c2, .ref d2])), (a2, .inl (cy 0, 28, .inl (fun _ => 0))), (b2, .inl (cy 0, 36, .inl (fun _ => 0))), (c2, .inl (cy 0, 240, .inl (fun _ => 0))), (d2, .inl (cy 0, 3, .inl (fun _ => 0)))] H := hP
  have hD : va_D A [(h, .inr (0, [.int 0, .int 0, .int 0, .int 0, .int 0, .int 0, .ref a, .ref b, .ref c1, .ref d])), (a, .inl (cy 0, 28, .inl (fun _ => 0))), (b, .inl (cy 0, 36, .inl (fun _ => 0))), (c1, .inl (cy 0, 240, .inl (fun _ => 0))), (d, .inl (cy 0, 3, .inl (fun _ => 0))), (h2, .inr (0, [.int 0, .int 0, .int 0, .int 0, .int 0, .int 0, .ref a2, .ref b2, .ref c2, .ref d2])), (a2, .inl (cy 0, 28, .inl (fun _ => 0))), (b2, .inl (cy 0, 36, .inl (fun _ => 0))), (c2, .inl (cy 0, 240, .inl (fun _ => 0))), (d2, .inl (cy 0, 3, .inl (fun _ => 0)))] := hD
  refine lv_aload_n hx hb dX0_copyFrom_8 rfl (lv_at hl 0 rfl) ?_
  refine lv_aload_n hx hb dX0_copyFrom_9 rfl (lv_at hl 1 rfl) ?_
  refine va_get (D := D) (ci := 0) (v := .int 0) (C := RX0) (T := TX0) (N := 10) hx hb hts iX0 hown hK hP 5 rfl rfl 1 (by decide) (hts _ q195) (fun _ h9 => h9) rfl dX0_copyFrom_10 ?_
  refine va_put (D := D) (ci := 0) (v := .int 0) (ty := .int) (C := RX0) (T := TX0) (N := 10) hx hb hts iX0 tyX0 tyX0_ok nmX0 hown hK hP hD hS 0 rfl rfl 1 (by decide) (hts _ q195) (fun _ h9 => h9) rfl (by decide +kernel) rfl rfl (Nat.le_of_ble_eq_true rfl) dX0_copyFrom_13 (fun H locs hP hD hS => ?_)
  have hP : va_P D clz [(h, .inr (0, [.int 0, .int 0, .int 0, .int 0, .int 0, .int 0, .ref a, .ref b, .ref c1, .ref d])), (a, .inl (cy 0, 28, .inl (fun _ => 0))), (b, .inl (cy 0, 36, .inl (fun _ => 0))), (c1, .inl (cy 0, 240, .inl (fun _ => 0))), (d, .inl (cy 0, 3, .inl (fun _ => 0))), (h2, .inr (0, [.int 0, .int 0, .int 0, .int 0, .int 0, .int 0, .ref a2, .ref b2, .ref c2, .ref d2])), (a2, .inl (cy 0, 28, .inl (fun _ => 0))), (b2, .inl (cy 0, 36, .inl (fun _ => 0))), (c2, .inl (cy 0, 240, .inl (fun _ => 0))), (d2, .inl (cy 0, 3, .inl (fun _ => 0)))] H := hP
  have hD : va_D A [(h, .inr (0, [.int 0, .int 0, .int 0, .int 0, .int 0, .int 0, .ref a, .ref b, .ref c1, .ref d])), (a, .inl (cy 0, 28, .inl (fun _ => 0))), (b, .inl (cy 0, 36, .inl (fun _ => 0))), (c1, .inl (cy 0, 240, .inl (fun _ => 0))), (d, .inl (cy 0, 3, .inl (fun _ => 0))), (h2, .inr (0, [.int 0, .int 0, .int 0, .int 0, .int 0, .int 0, .ref a2, .ref b2, .ref c2, .ref d2])), (a2, .inl (cy 0, 28, .inl (fun _ => 0))), (b2, .inl (cy 0, 36, .inl (fun _ => 0))), (c2, .inl (cy 0, 240, .inl (fun _ => 0))), (d2, .inl (cy 0, 3, .inl (fun _ => 0)))] := hD
  refine lv_aload_n hx hb dX0_copyFrom_16 rfl (lv_at hl 0 rfl) ?_
  refine lv_aload_n hx hb dX0_copyFrom_17 rfl (lv_at hl 1 rfl) ?_
  refine va_get (D := D) (ci := 0) (v := .int 0) (C := RX0) (T := TX0) (N := 10) hx hb hts iX0 hown hK hP 5 rfl rfl 2 (by decide) (hts _ q199) (fun _ h9 => h9) rfl dX0_copyFrom_18 ?_
  refine va_put (D := D) (ci := 0) (v := .int 0) (ty := .int) (C := RX0) (T := TX0) (N := 10) hx hb hts iX0 tyX0 tyX0_ok nmX0 hown hK hP hD hS 0 rfl rfl 2 (by decide) (hts _ q199) (fun _ h9 => h9) rfl (by decide +kernel) rfl rfl (Nat.le_of_ble_eq_true rfl) dX0_copyFrom_21 (fun H locs hP hD hS => ?_)
  have hP : va_P D clz [(h, .inr (0, [.int 0, .int 0, .int 0, .int 0, .int 0, .int 0, .ref a, .ref b, .ref c1, .ref d])), (a, .inl (cy 0, 28, .inl (fun _ => 0))), (b, .inl (cy 0, 36, .inl (fun _ => 0))), (c1, .inl (cy 0, 240, .inl (fun _ => 0))), (d, .inl (cy 0, 3, .inl (fun _ => 0))), (h2, .inr (0, [.int 0, .int 0, .int 0, .int 0, .int 0, .int 0, .ref a2, .ref b2, .ref c2, .ref d2])), (a2, .inl (cy 0, 28, .inl (fun _ => 0))), (b2, .inl (cy 0, 36, .inl (fun _ => 0))), (c2, .inl (cy 0, 240, .inl (fun _ => 0))), (d2, .inl (cy 0, 3, .inl (fun _ => 0)))] H := hP
  have hD : va_D A [(h, .inr (0, [.int 0, .int 0, .int 0, .int 0, .int 0, .int 0, .ref a, .ref b, .ref c1, .ref d])), (a, .inl (cy 0, 28, .inl (fun _ => 0))), (b, .inl (cy 0, 36, .inl (fun _ => 0))), (c1, .inl (cy 0, 240, .inl (fun _ => 0))), (d, .inl (cy 0, 3, .inl (fun _ => 0))), (h2, .inr (0, [.int 0, .int 0, .int 0, .int 0, .int 0, .int 0, .ref a2, .ref b2, .ref c2, .ref d2])), (a2, .inl (cy 0, 28, .inl (fun _ => 0))), (b2, .inl (cy 0, 36, .inl (fun _ => 0))), (c2, .inl (cy 0, 240, .inl (fun _ => 0))), (d2, .inl (cy 0, 3, .inl (fun _ => 0)))] := hD
  refine lv_aload_n hx hb dX0_copyFrom_24 rfl (lv_at hl 0 rfl) ?_
  refine lv_aload_n hx hb dX0_copyFrom_25 rfl (lv_at hl 1 rfl) ?_
  refine va_get (D := D) (ci := 0) (v := .int 0) (C := RX0) (T := TX0) (N := 10) hx hb hts iX0 hown hK hP 5 rfl rfl 3 (by decide) (hts _ q202) (fun _ h9 => h9) rfl dX0_copyFrom_26 ?_
  refine va_put (D := D) (ci := 0) (v := .int 0) (ty := .int) (C := RX0) (T := TX0) (N := 10) hx hb hts iX0 tyX0 tyX0_ok nmX0 hown hK hP hD hS 0 rfl rfl 3 (by decide) (hts _ q202) (fun _ h9 => h9) rfl (by decide +kernel) rfl rfl (Nat.le_of_ble_eq_true rfl) dX0_copyFrom_29 (fun H locs hP hD hS => ?_)
  have hP : va_P D clz [(h, .inr (0, [.int 0, .int 0, .int 0, .int 0, .int 0, .int 0, .ref a, .ref b, .ref c1, .ref d])), (a, .inl (cy 0, 28, .inl (fun _ => 0))), (b, .inl (cy 0, 36, .inl (fun _ => 0))), (c1, .inl (cy 0, 240, .inl (fun _ => 0))), (d, .inl (cy 0, 3, .inl (fun _ => 0))), (h2, .inr (0, [.int 0, .int 0, .int 0, .int 0, .int 0, .int 0, .ref a2, .ref b2, .ref c2, .ref d2])), (a2, .inl (cy 0, 28, .inl (fun _ => 0))), (b2, .inl (cy 0, 36, .inl (fun _ => 0))), (c2, .inl (cy 0, 240, .inl (fun _ => 0))), (d2, .inl (cy 0, 3, .inl (fun _ => 0)))] H := hP
  have hD : va_D A [(h, .inr (0, [.int 0, .int 0, .int 0, .int 0, .int 0, .int 0, .ref a, .ref b, .ref c1, .ref d])), (a, .inl (cy 0, 28, .inl (fun _ => 0))), (b, .inl (cy 0, 36, .inl (fun _ => 0))), (c1, .inl (cy 0, 240, .inl (fun _ => 0))), (d, .inl (cy 0, 3, .inl (fun _ => 0))), (h2, .inr (0, [.int 0, .int 0, .int 0, .int 0, .int 0, .int 0, .ref a2, .ref b2, .ref c2, .ref d2])), (a2, .inl (cy 0, 28, .inl (fun _ => 0))), (b2, .inl (cy 0, 36, .inl (fun _ => 0))), (c2, .inl (cy 0, 240, .inl (fun _ => 0))), (d2, .inl (cy 0, 3, .inl (fun _ => 0)))] := hD
  refine lv_aload_n hx hb dX0_copyFrom_32 rfl (lv_at hl 0 rfl) ?_
  refine lv_aload_n hx hb dX0_copyFrom_33 rfl (lv_at hl 1 rfl) ?_
  refine va_get (D := D) (ci := 0) (v := .int 0) (C := RX0) (T := TX0) (N := 10) hx hb hts iX0 hown hK hP 5 rfl rfl 4 (by decide) (hts _ q206) (fun _ h9 => h9) rfl dX0_copyFrom_34 ?_
  refine va_put (D := D) (ci := 0) (v := .int 0) (ty := .int) (C := RX0) (T := TX0) (N := 10) hx hb hts iX0 tyX0 tyX0_ok nmX0 hown hK hP hD hS 0 rfl rfl 4 (by decide) (hts _ q206) (fun _ h9 => h9) rfl (by decide +kernel) rfl rfl (Nat.le_of_ble_eq_true rfl) dX0_copyFrom_37 (fun H locs hP hD hS => ?_)
  have hP : va_P D clz [(h, .inr (0, [.int 0, .int 0, .int 0, .int 0, .int 0, .int 0, .ref a, .ref b, .ref c1, .ref d])), (a, .inl (cy 0, 28, .inl (fun _ => 0))), (b, .inl (cy 0, 36, .inl (fun _ => 0))), (c1, .inl (cy 0, 240, .inl (fun _ => 0))), (d, .inl (cy 0, 3, .inl (fun _ => 0))), (h2, .inr (0, [.int 0, .int 0, .int 0, .int 0, .int 0, .int 0, .ref a2, .ref b2, .ref c2, .ref d2])), (a2, .inl (cy 0, 28, .inl (fun _ => 0))), (b2, .inl (cy 0, 36, .inl (fun _ => 0))), (c2, .inl (cy 0, 240, .inl (fun _ => 0))), (d2, .inl (cy 0, 3, .inl (fun _ => 0)))] H := hP
  have hD : va_D A [(h, .inr (0, [.int 0, .int 0, .int 0, .int 0, .int 0, .int 0, .ref a, .ref b, .ref c1, .ref d])), (a, .inl (cy 0, 28, .inl (fun _ => 0))), (b, .inl (cy 0, 36, .inl (fun _ => 0))), (c1, .inl (cy 0, 240, .inl (fun _ => 0))), (d, .inl (cy 0, 3, .inl (fun _ => 0))), (h2, .inr (0, [.int 0, .int 0, .int 0, .int 0, .int 0, .int 0, .ref a2, .ref b2, .ref c2, .ref d2])), (a2, .inl (cy 0, 28, .inl (fun _ => 0))), (b2, .inl (cy 0, 36, .inl (fun _ => 0))), (c2, .inl (cy 0, 240, .inl (fun _ => 0))), (d2, .inl (cy 0, 3, .inl (fun _ => 0)))] := hD
  refine lv_aload_n hx hb dX0_copyFrom_40 rfl (lv_at hl 0 rfl) ?_
  refine lv_aload_n hx hb dX0_copyFrom_41 rfl (lv_at hl 1 rfl) ?_
  refine va_get (D := D) (ci := 0) (v := .int 0) (C := RX0) (T := TX0) (N := 10) hx hb hts iX0 hown hK hP 5 rfl rfl 5 (by decide) (hts _ q209) (fun _ h9 => h9) rfl dX0_copyFrom_42 ?_
  refine va_put (D := D) (ci := 0) (v := .int 0) (ty := .int) (C := RX0) (T := TX0) (N := 10) hx hb hts iX0 tyX0 tyX0_ok nmX0 hown hK hP hD hS 0 rfl rfl 5 (by decide) (hts _ q209) (fun _ h9 => h9) rfl (by decide +kernel) rfl rfl (Nat.le_of_ble_eq_true rfl) dX0_copyFrom_45 (fun H locs hP hD hS => ?_)
  have hP : va_P D clz [(h, .inr (0, [.int 0, .int 0, .int 0, .int 0, .int 0, .int 0, .ref a, .ref b, .ref c1, .ref d])), (a, .inl (cy 0, 28, .inl (fun _ => 0))), (b, .inl (cy 0, 36, .inl (fun _ => 0))), (c1, .inl (cy 0, 240, .inl (fun _ => 0))), (d, .inl (cy 0, 3, .inl (fun _ => 0))), (h2, .inr (0, [.int 0, .int 0, .int 0, .int 0, .int 0, .int 0, .ref a2, .ref b2, .ref c2, .ref d2])), (a2, .inl (cy 0, 28, .inl (fun _ => 0))), (b2, .inl (cy 0, 36, .inl (fun _ => 0))), (c2, .inl (cy 0, 240, .inl (fun _ => 0))), (d2, .inl (cy 0, 3, .inl (fun _ => 0)))] H := hP
  have hD : va_D A [(h, .inr (0, [.int 0, .int 0, .int 0, .int 0, .int 0, .int 0, .ref a, .ref b, .ref c1, .ref d])), (a, .inl (cy 0, 28, .inl (fun _ => 0))), (b, .inl (cy 0, 36, .inl (fun _ => 0))), (c1, .inl (cy 0, 240, .inl (fun _ => 0))), (d, .inl (cy 0, 3, .inl (fun _ => 0))), (h2, .inr (0, [.int 0, .int 0, .int 0, .int 0, .int 0, .int 0, .ref a2, .ref b2, .ref c2, .ref d2])), (a2, .inl (cy 0, 28, .inl (fun _ => 0))), (b2, .inl (cy 0, 36, .inl (fun _ => 0))), (c2, .inl (cy 0, 240, .inl (fun _ => 0))), (d2, .inl (cy 0, 3, .inl (fun _ => 0)))] := hD
  refine lv_aload_n hx hb dX0_copyFrom_48 rfl (lv_at hl 1 rfl) ?_
  refine va_get (D := D) (ci := 0) (v := .ref a2) (C := RX0) (T := TX0) (N := 10) hx hb hts iX0 hown hK hP 5 rfl rfl 6 (by decide) (hts _ q212) (fun _ h9 => h9) rfl dX0_copyFrom_49 ?_
  refine lv_iconst (v := 0) hx hb dX0_copyFrom_52 (by decide) ?_
  refine lv_aload_n hx hb dX0_copyFrom_53 rfl (lv_at hl 0 rfl) ?_
  refine va_get (D := D) (ci := 0) (v := .ref a) (C := RX0) (T := TX0) (N := 10) hx hb hts iX0 hown hK hP 0 rfl rfl 6 (by decide) (hts _ q212) (fun _ h9 => h9) rfl dX0_copyFrom_54 ?_
  refine lv_iconst (v := 0) hx hb dX0_copyFrom_57 (by decide) ?_
  refine lv_aload_n hx hb dX0_copyFrom_58 rfl (lv_at hl 0 rfl) ?_
  refine va_get (D := D) (ci := 0) (v := .ref a) (C := RX0) (T := TX0) (N := 10) hx hb hts iX0 hown hK hP 0 rfl rfl 6 (by decide) (hts _ q212) (fun _ h9 => h9) rfl dX0_copyFrom_59 ?_
  refine va_alen hx hb hK hP 1 0 rfl rfl (v := 28) (by decide) dX0_copyFrom_62 ?_
  refine va_copyi (ty := .int) hx hb (hml.trans hl.1.symm) hown (hts _ q706) (hts _ q708) (hts _ q707) (hts _ q141) hK hP hD hS 6 1 0 0 rfl rfl rfl rfl rfl (by decide) (by decide) (by decide) (by decide) (by decide) (fun _ _ => rfl) (Nat.le_of_ble_eq_true rfl) (Nat.le_of_ble_eq_true rfl) dX0_copyFrom_63 (fun H locs hP hD hS => ?_)
  rw [cpy_z] at hP hD
  have hP : va_P D clz [(h, .inr (0, [.int 0, .int 0, .int 0, .int 0, .int 0, .int 0, .ref a, .ref b, .ref c1, .ref d])), (a, .inl (cy 0, 28, .inl (fun _ => 0))), (b, .inl (cy 0, 36, .inl (fun _ => 0))), (c1, .inl (cy 0, 240, .inl (fun _ => 0))), (d, .inl (cy 0, 3, .inl (fun _ => 0))), (h2, .inr (0, [.int 0, .int 0, .int 0, .int 0, .int 0, .int 0, .ref a2, .ref b2, .ref c2, .ref d2])), (a2, .inl (cy 0, 28, .inl (fun _ => 0))), (b2, .inl (cy 0, 36, .inl (fun _ => 0))), (c2, .inl (cy 0, 240, .inl (fun _ => 0))), (d2, .inl (cy 0, 3, .inl (fun _ => 0)))] H := hP
  have hD : va_D A [(h, .inr (0, [.int 0, .int 0, .int 0, .int 0, .int 0, .int 0, .ref a, .ref b, .ref c1, .ref d])), (a, .inl (cy 0, 28, .inl (fun _ => 0))), (b, .inl (cy 0, 36, .inl (fun _ => 0))), (c1, .inl (cy 0, 240, .inl (fun _ => 0))), (d, .inl (cy 0, 3, .inl (fun _ => 0))), (h2, .inr (0, [.int 0, .int 0, .int 0, .int 0, .int 0, .int 0, .ref a2, .ref b2, .ref c2, .ref d2])), (a2, .inl (cy 0, 28, .inl (fun _ => 0))), (b2, .inl (cy 0, 36, .inl (fun _ => 0))), (c2, .inl (cy 0, 240, .inl (fun _ => 0))), (d2, .inl (cy 0, 3, .inl (fun _ => 0)))] := hD
  refine lv_aload_n hx hb dX0_copyFrom_66 rfl (lv_at hl 1 rfl) ?_
  refine va_get (D := D) (ci := 0) (v := .ref b2) (C := RX0) (T := TX0) (N := 10) hx hb hts iX0 hown hK hP 5 rfl rfl 7 (by decide) (hts _ q213) (fun _ h9 => h9) rfl dX0_copyFrom_67 ?_
  refine lv_iconst (v := 0) hx hb dX0_copyFrom_70 (by decide) ?_
  refine lv_aload_n hx hb dX0_copyFrom_71 rfl (lv_at hl 0 rfl) ?_
  refine va_get (D := D) (ci := 0) (v := .ref b) (C := RX0) (T := TX0) (N := 10) hx hb hts iX0 hown hK hP 0 rfl rfl 7 (by decide) (hts _ q213) (fun _ h9 => h9) rfl dX0_copyFrom_72 ?_
  refine lv_iconst (v := 0) hx hb dX0_copyFrom_75 (by decide) ?_
  refine lv_aload_n hx hb dX0_copyFrom_76 rfl (lv_at hl 0 rfl) ?_
  refine va_get (D := D) (ci := 0) (v := .ref b) (C := RX0) (T := TX0) (N := 10) hx hb hts iX0 hown hK hP 0 rfl rfl 7 (by decide) (hts _ q213) (fun _ h9 => h9) rfl dX0_copyFrom_77 ?_
  refine va_alen hx hb hK hP 2 0 rfl rfl (v := 36) (by decide) dX0_copyFrom_80 ?_
  refine va_copyi (ty := .int) hx hb (hml.trans hl.1.symm) hown (hts _ q706) (hts _ q708) (hts _ q707) (hts _ q141) hK hP hD hS 7 2 0 0 rfl rfl rfl rfl rfl (by decide) (by decide) (by decide) (by decide) (by decide) (fun _ _ => rfl) (Nat.le_of_ble_eq_true rfl) (Nat.le_of_ble_eq_true rfl) dX0_copyFrom_81 (fun H locs hP hD hS => ?_)
  rw [cpy_z] at hP hD
  have hP : va_P D clz [(h, .inr (0, [.int 0, .int 0, .int 0, .int 0, .int 0, .int 0, .ref a, .ref b, .ref c1, .ref d])), (a, .inl (cy 0, 28, .inl (fun _ => 0))), (b, .inl (cy 0, 36, .inl (fun _ => 0))), (c1, .inl (cy 0, 240, .inl (fun _ => 0))), (d, .inl (cy 0, 3, .inl (fun _ => 0))), (h2, .inr (0, [.int 0, .int 0, .int 0, .int 0, .int 0, .int 0, .ref a2, .ref b2, .ref c2, .ref d2])), (a2, .inl (cy 0, 28, .inl (fun _ => 0))), (b2, .inl (cy 0, 36, .inl (fun _ => 0))), (c2, .inl (cy 0, 240, .inl (fun _ => 0))), (d2, .inl (cy 0, 3, .inl (fun _ => 0)))] H := hP
  have hD : va_D A [(h, .inr (0, [.int 0, .int 0, .int 0, .int 0, .int 0, .int 0, .ref a, .ref b, .ref c1, .ref d])), (a, .inl (cy 0, 28, .inl (fun _ => 0))), (b, .inl (cy 0, 36, .inl (fun _ => 0))), (c1, .inl (cy 0, 240, .inl (fun _ => 0))), (d, .inl (cy 0, 3, .inl (fun _ => 0))), (h2, .inr (0, [.int 0, .int 0, .int 0, .int 0, .int 0, .int 0, .ref a2, .ref b2, .ref c2, .ref d2])), (a2, .inl (cy 0, 28, .inl (fun _ => 0))), (b2, .inl (cy 0, 36, .inl (fun _ => 0))), (c2, .inl (cy 0, 240, .inl (fun _ => 0))), (d2, .inl (cy 0, 3, .inl (fun _ => 0)))] := hD
  refine lv_aload_n hx hb dX0_copyFrom_84 rfl (lv_at hl 1 rfl) ?_
  refine va_get (D := D) (ci := 0) (v := .ref c2) (C := RX0) (T := TX0) (N := 10) hx hb hts iX0 hown hK hP 5 rfl rfl 8 (by decide) (hts _ q214) (fun _ h9 => h9) rfl dX0_copyFrom_85 ?_
  refine lv_iconst (v := 0) hx hb dX0_copyFrom_88 (by decide) ?_
  refine lv_aload_n hx hb dX0_copyFrom_89 rfl (lv_at hl 0 rfl) ?_
  refine va_get (D := D) (ci := 0) (v := .ref c1) (C := RX0) (T := TX0) (N := 10) hx hb hts iX0 hown hK hP 0 rfl rfl 8 (by decide) (hts _ q214) (fun _ h9 => h9) rfl dX0_copyFrom_90 ?_
  refine lv_iconst (v := 0) hx hb dX0_copyFrom_93 (by decide) ?_
  refine lv_aload_n hx hb dX0_copyFrom_94 rfl (lv_at hl 0 rfl) ?_
  refine va_get (D := D) (ci := 0) (v := .ref c1) (C := RX0) (T := TX0) (N := 10) hx hb hts iX0 hown hK hP 0 rfl rfl 8 (by decide) (hts _ q214) (fun _ h9 => h9) rfl dX0_copyFrom_95 ?_
  refine va_alen hx hb hK hP 3 0 rfl rfl (v := 240) (by decide) dX0_copyFrom_98 ?_
  refine va_copyi (ty := .int) hx hb (hml.trans hl.1.symm) hown (hts _ q706) (hts _ q708) (hts _ q707) (hts _ q141) hK hP hD hS 8 3 0 0 rfl rfl rfl rfl rfl (by decide) (by decide) (by decide) (by decide) (by decide) (fun _ _ => rfl) (Nat.le_of_ble_eq_true rfl) (Nat.le_of_ble_eq_true rfl) dX0_copyFrom_99 (fun H locs hP hD hS => ?_)
  rw [cpy_z] at hP hD
  have hP : va_P D clz [(h, .inr (0, [.int 0, .int 0, .int 0, .int 0, .int 0, .int 0, .ref a, .ref b, .ref c1, .ref d])), (a, .inl (cy 0, 28, .inl (fun _ => 0))), (b, .inl (cy 0, 36, .inl (fun _ => 0))), (c1, .inl (cy 0, 240, .inl (fun _ => 0))), (d, .inl (cy 0, 3, .inl (fun _ => 0))), (h2, .inr (0, [.int 0, .int 0, .int 0, .int 0, .int 0, .int 0, .ref a2, .ref b2, .ref c2, .ref d2])), (a2, .inl (cy 0, 28, .inl (fun _ => 0))), (b2, .inl (cy 0, 36, .inl (fun _ => 0))), (c2, .inl (cy 0, 240, .inl (fun _ => 0))), (d2, .inl (cy 0, 3, .inl (fun _ => 0)))] H := hP
  have hD : va_D A [(h, .inr (0, [.int 0, .int 0, .int 0, .int 0, .int 0, .int 0, .ref a, .ref b, .ref c1, .ref d])), (a, .inl (cy 0, 28, .inl (fun _ => 0))), (b, .inl (cy 0, 36, .inl (fun _ => 0))), (c1, .inl (cy 0, 240, .inl (fun _ => 0))), (d, .inl (cy 0, 3, .inl (fun _ => 0))), (h2, .inr (0, [.int 0, .int 0, .int 0, .int 0, .int 0, .int 0, .ref a2, .ref b2, .ref c2, .ref d2])), (a2, .inl (cy 0, 28, .inl (fun _ => 0))), (b2, .inl (cy 0, 36, .inl (fun _ => 0))), (c2, .inl (cy 0, 240, .inl (fun _ => 0))), (d2, .inl (cy 0, 3, .inl (fun _ => 0)))] := hD
  refine lv_aload_n hx hb dX0_copyFrom_102 rfl (lv_at hl 1 rfl) ?_
  refine va_get (D := D) (ci := 0) (v := .ref d2) (C := RX0) (T := TX0) (N := 10) hx hb hts iX0 hown hK hP 5 rfl rfl 9 (by decide) (hts _ q215) (fun _ h9 => h9) rfl dX0_copyFrom_103 ?_
  refine lv_iconst (v := 0) hx hb dX0_copyFrom_106 (by decide) ?_
  refine lv_aload_n hx hb dX0_copyFrom_107 rfl (lv_at hl 0 rfl) ?_
  refine va_get (D := D) (ci := 0) (v := .ref d) (C := RX0) (T := TX0) (N := 10) hx hb hts iX0 hown hK hP 0 rfl rfl 9 (by decide) (hts _ q215) (fun _ h9 => h9) rfl dX0_copyFrom_108 ?_
  refine lv_iconst (v := 0) hx hb dX0_copyFrom_111 (by decide) ?_
  refine lv_aload_n hx hb dX0_copyFrom_112 rfl (lv_at hl 0 rfl) ?_
  refine va_get (D := D) (ci := 0) (v := .ref d) (C := RX0) (T := TX0) (N := 10) hx hb hts iX0 hown hK hP 0 rfl rfl 9 (by decide) (hts _ q215) (fun _ h9 => h9) rfl dX0_copyFrom_113 ?_
  refine va_alen hx hb hK hP 4 0 rfl rfl (v := 3) (by decide) dX0_copyFrom_116 ?_
  refine va_copyi (ty := .int) hx hb (hml.trans hl.1.symm) hown (hts _ q706) (hts _ q708) (hts _ q707) (hts _ q141) hK hP hD hS 9 4 0 0 rfl rfl rfl rfl rfl (by decide) (by decide) (by decide) (by decide) (by decide) (fun _ _ => rfl) (Nat.le_of_ble_eq_true rfl) (Nat.le_of_ble_eq_true rfl) dX0_copyFrom_117 (fun H locs hP hD hS => ?_)
  rw [cpy_z] at hP hD
  have hP : va_P D clz [(h, .inr (0, [.int 0, .int 0, .int 0, .int 0, .int 0, .int 0, .ref a, .ref b, .ref c1, .ref d])), (a, .inl (cy 0, 28, .inl (fun _ => 0))), (b, .inl (cy 0, 36, .inl (fun _ => 0))), (c1, .inl (cy 0, 240, .inl (fun _ => 0))), (d, .inl (cy 0, 3, .inl (fun _ => 0))), (h2, .inr (0, [.int 0, .int 0, .int 0, .int 0, .int 0, .int 0, .ref a2, .ref b2, .ref c2, .ref d2])), (a2, .inl (cy 0, 28, .inl (fun _ => 0))), (b2, .inl (cy 0, 36, .inl (fun _ => 0))), (c2, .inl (cy 0, 240, .inl (fun _ => 0))), (d2, .inl (cy 0, 3, .inl (fun _ => 0)))] H := hP
  have hD : va_D A [(h, .inr (0, [.int 0, .int 0, .int 0, .int 0, .int 0, .int 0, .ref a, .ref b, .ref c1, .ref d])), (a, .inl (cy 0, 28, .inl (fun _ => 0))), (b, .inl (cy 0, 36, .inl (fun _ => 0))), (c1, .inl (cy 0, 240, .inl (fun _ => 0))), (d, .inl (cy 0, 3, .inl (fun _ => 0))), (h2, .inr (0, [.int 0, .int 0, .int 0, .int 0, .int 0, .int 0, .ref a2, .ref b2, .ref c2, .ref d2])), (a2, .inl (cy 0, 28, .inl (fun _ => 0))), (b2, .inl (cy 0, 36, .inl (fun _ => 0))), (c2, .inl (cy 0, 240, .inl (fun _ => 0))), (d2, .inl (cy 0, 3, .inl (fun _ => 0)))] := hD
  have hP9 := hP.sub (ws' := [(h, .inr (0, [.int 0, .int 0, .int 0, .int 0, .int 0, .int 0, .ref a, .ref b, .ref c1, .ref d])), (a, .inl (cy 0, 28, .inl (fun _ => 0))), (b, .inl (cy 0, 36, .inl (fun _ => 0))), (c1, .inl (cy 0, 240, .inl (fun _ => 0))), (d, .inl (cy 0, 3, .inl (fun _ => 0))), (h2, .inr (0, [.int 0, .int 0, .int 0, .int 0, .int 0, .int 0, .ref a2, .ref b2, .ref c2, .ref d2])), (a2, .inl (cy 0, 28, .inl (fun _ => 0))), (b2, .inl (cy 0, 36, .inl (fun _ => 0))), (c2, .inl (cy 0, 240, .inl (fun _ => 0))), (d2, .inl (cy 0, 3, .inl (fun _ => 0)))]) [0, 1, 2, 3, 4, 5, 6, 7, 8, 9] rfl
  have hD9 := hD.sub (ws' := [(h, .inr (0, [.int 0, .int 0, .int 0, .int 0, .int 0, .int 0, .ref a, .ref b, .ref c1, .ref d])), (a, .inl (cy 0, 28, .inl (fun _ => 0))), (b, .inl (cy 0, 36, .inl (fun _ => 0))), (c1, .inl (cy 0, 240, .inl (fun _ => 0))), (d, .inl (cy 0, 3, .inl (fun _ => 0))), (h2, .inr (0, [.int 0, .int 0, .int 0, .int 0, .int 0, .int 0, .ref a2, .ref b2, .ref c2, .ref d2])), (a2, .inl (cy 0, 28, .inl (fun _ => 0))), (b2, .inl (cy 0, 36, .inl (fun _ => 0))), (c2, .inl (cy 0, 240, .inl (fun _ => 0))), (d2, .inl (cy 0, 3, .inl (fun _ => 0)))]) [0, 1, 2, 3, 4, 5, 6, 7, 8, 9] (by decide) rfl
  exact W.vret hx hb hr (fun tS ht hW => ⟨⟨(), rfl, trivial, by rw [ht]; exact hP9, va_K.moved hW.alike hK, hD9⟩, hS.F ht⟩) hS.2.2 dX0_copyFrom_120

theorem q701 : Cond.code yX8_keep cX8_keep 2 (some .int) ∈ lw_g := lw_gm (List.mem_of_getElem? (i := 701) (by decide +kernel)) rfl
theorem q702 : Cond.methodLink RX8 127 yX0_copyFrom ∈ lw_g := lw_gm (List.mem_of_getElem? (i := 702) (by decide +kernel)) rfl
theorem q703 : Cond.instanceMethod yX0_copyFrom ∈ lw_g := lw_gm (List.mem_of_getElem? (i := 703) (by decide +kernel)) rfl
theorem q704 : Cond.selects RX0 yX0_copyFrom yX0_copyFrom ∈ lw_g := lw_gm (List.mem_of_getElem? (i := 704) (by decide +kernel)) rfl
theorem dX8_keep_0 : decode cX8_keep 0 = .ok (.iload_n 1, 1) := by decide +kernel
theorem dX8_keep_1 : decode cX8_keep 1 = .ok (.ifCond .lt 8, 3) := by decide +kernel
theorem dX8_keep_4 : decode cX8_keep 4 = .ok (.iload_n 1, 1) := by decide +kernel
theorem dX8_keep_5 : decode cX8_keep 5 = .ok (.iconst 3, 1) := by decide +kernel
theorem dX8_keep_6 : decode cX8_keep 6 = .ok (.if_icmp .lt 6, 3) := by decide +kernel
theorem dX8_keep_9 : decode cX8_keep 9 = .ok (.bipush (-2), 2) := by decide +kernel
theorem dX8_keep_11 : decode cX8_keep 11 = .ok (.ireturn, 1) := by decide +kernel
theorem dX8_keep_12 : decode cX8_keep 12 = .ok (.aload_n 0, 1) := by decide +kernel
theorem dX8_keep_13 : decode cX8_keep 13 = .ok (.getfield 26, 3) := by decide +kernel
theorem dX8_keep_16 : decode cX8_keep 16 = .ok (.iload_n 1, 1) := by decide +kernel
theorem dX8_keep_17 : decode cX8_keep 17 = .ok (.aaload, 1) := by decide +kernel
theorem dX8_keep_18 : decode cX8_keep 18 = .ok (.aload_n 0, 1) := by decide +kernel
theorem dX8_keep_19 : decode cX8_keep 19 = .ok (.getfield 19, 3) := by decide +kernel
theorem dX8_keep_22 : decode cX8_keep 22 = .ok (.invokevirtual 127, 3) := by decide +kernel
theorem dX8_keep_25 : decode cX8_keep 25 = .ok (.aload_n 0, 1) := by decide +kernel
theorem dX8_keep_26 : decode cX8_keep 26 = .ok (.getfield 30, 3) := by decide +kernel
theorem dX8_keep_29 : decode cX8_keep 29 = .ok (.iload_n 1, 1) := by decide +kernel
theorem dX8_keep_30 : decode cX8_keep 30 = .ok (.iconst 1, 1) := by decide +kernel
theorem dX8_keep_31 : decode cX8_keep 31 = .ok (.iastore, 1) := by decide +kernel
theorem dX8_keep_32 : decode cX8_keep 32 = .ok (.iconst 0, 1) := by decide +kernel
theorem dX8_keep_33 : decode cX8_keep 33 = .ok (.ireturn, 1) := by decide +kernel
set_option maxHeartbeats 4000000 in
set_option maxRecDepth 100000 in
theorem c_X8_keep (l : Launch) (D : va_G) (cy : Nat → ClassId) (g : Nat → Nat) (p1 : Int32) (sz : Nat) : Met l yX8_keep (ww yX8_keep cX8_keep 2 (some .int)) ({ frames := 2, cells := 0, slots := 0, locals := 128 }) (va_Pc [.ref (g 0), .int p1] (pre D cy [(g 0, .inr (8, xF g)), (g 3, .inr (0, [.int 0, .int 0, .int 0, .int 0, .int 0, .int 0, .ref (g 4), .ref (g 5), .ref (g 6), .ref (g 7)])), (g 4, .inl (cy 0, 28, .inl (fun _ => 0))), (g 5, .inl (cy 0, 36, .inl (fun _ => 0))), (g 6, .inl (cy 0, 240, .inl (fun _ => 0))), (g 7, .inl (cy 0, 3, .inl (fun _ => 0))), (g 9, .inl (cy 4, 3, .inr (.inr (.inr (.inr (va_up (va_up (va_up (fun _ => none) 0 (some (g 10))) 1 (some (g 15))) 2 (some (g 20)))))))), (g 10, .inr (0, [.int 0, .int 0, .int 0, .int 0, .int 0, .int 0, .ref (g 11), .ref (g 12), .ref (g 13), .ref (g 14)])), (g 11, .inl (cy 0, 28, .inl (fun _ => 0))), (g 12, .inl (cy 0, 36, .inl (fun _ => 0))), (g 13, .inl (cy 0, 240, .inl (fun _ => 0))), (g 14, .inl (cy 0, 3, .inl (fun _ => 0))), (g 15, .inr (0, [.int 0, .int 0, .int 0, .int 0, .int 0, .int 0, .ref (g 16), .ref (g 17), .ref (g 18), .ref (g 19)])), (g 16, .inl (cy 0, 28, .inl (fun _ => 0))), (g 17, .inl (cy 0, 36, .inl (fun _ => 0))), (g 18, .inl (cy 0, 240, .inl (fun _ => 0))), (g 19, .inl (cy 0, 3, .inl (fun _ => 0))), (g 20, .inr (0, [.int 0, .int 0, .int 0, .int 0, .int 0, .int 0, .ref (g 21), .ref (g 22), .ref (g 23), .ref (g 24)])), (g 21, .inl (cy 0, 28, .inl (fun _ => 0))), (g 22, .inl (cy 0, 36, .inl (fun _ => 0))), (g 23, .inl (cy 0, 240, .inl (fun _ => 0))), (g 24, .inl (cy 0, 3, .inl (fun _ => 0))), (g 25, .inl (cy 0, 3, .inl (fun _ => 0)))] sz)) (qi D cy (va_A [(g 0, .inr (8, xF g)), (g 3, .inr (0, [.int 0, .int 0, .int 0, .int 0, .int 0, .int 0, .ref (g 4), .ref (g 5), .ref (g 6), .ref (g 7)])), (g 4, .inl (cy 0, 28, .inl (fun _ => 0))), (g 5, .inl (cy 0, 36, .inl (fun _ => 0))), (g 6, .inl (cy 0, 240, .inl (fun _ => 0))), (g 7, .inl (cy 0, 3, .inl (fun _ => 0))), (g 9, .inl (cy 4, 3, .inr (.inr (.inr (.inr (va_up (va_up (va_up (fun _ => none) 0 (some (g 10))) 1 (some (g 15))) 2 (some (g 20)))))))), (g 10, .inr (0, [.int 0, .int 0, .int 0, .int 0, .int 0, .int 0, .ref (g 11), .ref (g 12), .ref (g 13), .ref (g 14)])), (g 11, .inl (cy 0, 28, .inl (fun _ => 0))), (g 12, .inl (cy 0, 36, .inl (fun _ => 0))), (g 13, .inl (cy 0, 240, .inl (fun _ => 0))), (g 14, .inl (cy 0, 3, .inl (fun _ => 0))), (g 15, .inr (0, [.int 0, .int 0, .int 0, .int 0, .int 0, .int 0, .ref (g 16), .ref (g 17), .ref (g 18), .ref (g 19)])), (g 16, .inl (cy 0, 28, .inl (fun _ => 0))), (g 17, .inl (cy 0, 36, .inl (fun _ => 0))), (g 18, .inl (cy 0, 240, .inl (fun _ => 0))), (g 19, .inl (cy 0, 3, .inl (fun _ => 0))), (g 20, .inr (0, [.int 0, .int 0, .int 0, .int 0, .int 0, .int 0, .ref (g 21), .ref (g 22), .ref (g 23), .ref (g 24)])), (g 21, .inl (cy 0, 28, .inl (fun _ => 0))), (g 22, .inl (cy 0, 36, .inl (fun _ => 0))), (g 23, .inl (cy 0, 240, .inl (fun _ => 0))), (g 24, .inl (cy 0, 3, .inl (fun _ => 0))), (g 25, .inl (cy 0, 3, .inl (fun _ => 0)))] sz) (fun (r : Int32) (_ : Unit) => r = sp_keep p1) (fun (_ : Unit) => [])) 0 0 (va_A [(g 0, .inr (8, xF g)), (g 3, .inr (0, [.int 0, .int 0, .int 0, .int 0, .int 0, .int 0, .ref (g 4), .ref (g 5), .ref (g 6), .ref (g 7)])), (g 4, .inl (cy 0, 28, .inl (fun _ => 0))), (g 5, .inl (cy 0, 36, .inl (fun _ => 0))), (g 6, .inl (cy 0, 240, .inl (fun _ => 0))), (g 7, .inl (cy 0, 3, .inl (fun _ => 0))), (g 9, .inl (cy 4, 3, .inr (.inr (.inr (.inr (va_up (va_up (va_up (fun _ => none) 0 (some (g 10))) 1 (some (g 15))) 2 (some (g 20)))))))), (g 10, .inr (0, [.int 0, .int 0, .int 0, .int 0, .int 0, .int 0, .ref (g 11), .ref (g 12), .ref (g 13), .ref (g 14)])), (g 11, .inl (cy 0, 28, .inl (fun _ => 0))), (g 12, .inl (cy 0, 36, .inl (fun _ => 0))), (g 13, .inl (cy 0, 240, .inl (fun _ => 0))), (g 14, .inl (cy 0, 3, .inl (fun _ => 0))), (g 15, .inr (0, [.int 0, .int 0, .int 0, .int 0, .int 0, .int 0, .ref (g 16), .ref (g 17), .ref (g 18), .ref (g 19)])), (g 16, .inl (cy 0, 28, .inl (fun _ => 0))), (g 17, .inl (cy 0, 36, .inl (fun _ => 0))), (g 18, .inl (cy 0, 240, .inl (fun _ => 0))), (g 19, .inl (cy 0, 3, .inl (fun _ => 0))), (g 20, .inr (0, [.int 0, .int 0, .int 0, .int 0, .int 0, .int 0, .ref (g 21), .ref (g 22), .ref (g 23), .ref (g 24)])), (g 21, .inl (cy 0, 28, .inl (fun _ => 0))), (g 22, .inl (cy 0, 36, .inl (fun _ => 0))), (g 23, .inl (cy 0, 240, .inl (fun _ => 0))), (g 24, .inl (cy 0, 3, .inl (fun _ => 0))), (g 25, .inl (cy 0, 3, .inl (fun _ => 0)))] sz) := by
  refine Met.ofW (cc := cX8_keep) (maxL := 2) (ret := (some .int)) (by decide) rfl ?_
  intro p e s m args below meth c s₁ B hml hv
  obtain ⟨rfl, hsz, hP, hK, hD0⟩ := hv
  have hx := B.exec
  have hb := B.bytes
  have hr := B.returns
  have hts := hts_g (atoms_spec (ws := ww yX8_keep cX8_keep 2 (some .int)) B.pre)
  have hown : s.vm.findClass RX8 = some m.cls := findClass_of_methodNamed B.named
  have hlocks := B.notSynchronized
  subst hsz
  have hD := hD0.self (sz := s.heap.size)
  generalize hAe : va_A [(g 0, .inr (8, xF g)), (g 3, .inr (0, [.int 0, .int 0, .int 0, .int 0, .int 0, .int 0, .ref (g 4), .ref (g 5), .ref (g 6), .ref (g 7)])), (g 4, .inl (cy 0, 28, .inl (fun _ => 0))), (g 5, .inl (cy 0, 36, .inl (fun _ => 0))), (g 6, .inl (cy 0, 240, .inl (fun _ => 0))), (g 7, .inl (cy 0, 3, .inl (fun _ => 0))), (g 9, .inl (cy 4, 3, .inr (.inr (.inr (.inr (va_up (va_up (va_up (fun _ => none) 0 (some (g 10))) 1 (some (g 15))) 2 (some (g 20)))))))), (g 10, .inr (0, [.int 0, .int 0, .int 0, .int 0, .int 0, .int 0, .ref (g 11), .ref (g 12), .ref (g 13), .ref (g 14)])), (g 11, .inl (cy 0, 28, .inl (fun _ => 0))), (g 12, .inl (cy 0, 36, .inl (fun _ => 0))), (g 13, .inl (cy 0, 240, .inl (fun _ => 0))), (g 14, .inl (cy 0, 3, .inl (fun _ => 0))), (g 15, .inr (0, [.int 0, .int 0, .int 0, .int 0, .int 0, .int 0, .ref (g 16), .ref (g 17), .ref (g 18), .ref (g 19)])), (g 16, .inl (cy 0, 28, .inl (fun _ => 0))), (g 17, .inl (cy 0, 36, .inl (fun _ => 0))), (g 18, .inl (cy 0, 240, .inl (fun _ => 0))), (g 19, .inl (cy 0, 3, .inl (fun _ => 0))), (g 20, .inr (0, [.int 0, .int 0, .int 0, .int 0, .int 0, .int 0, .ref (g 21), .ref (g 22), .ref (g 23), .ref (g 24)])), (g 21, .inl (cy 0, 28, .inl (fun _ => 0))), (g 22, .inl (cy 0, 36, .inl (fun _ => 0))), (g 23, .inl (cy 0, 240, .inl (fun _ => 0))), (g 24, .inl (cy 0, 3, .inl (fun _ => 0))), (g 25, .inl (cy 0, 3, .inl (fun _ => 0)))] s.heap.size = A at hD ⊢
  have hA : ∀ q : Nat, s.heap.size ≤ q → A q := fun q h => by rw [← hAe]; exact Or.inr h
  have hS : va_S A s.heap s.heap [] := va_S.rf
  have hl := lv_entry ([.ref (g 0), .int p1]) (n := 2) (Nat.le_of_ble_eq_true rfl)
  rw [lg_entry_eq]
  generalize (lg_sl ([.ref (g 0), .int p1]) ++ List.replicate (2 - (lg_sl ([.ref (g 0), .int p1])).length) Slot.unset).toArray = ls at hl ⊢
  have hl : lv_has ls 2 [(0, .ref (g 0)), (1, .int p1)] := hl
  rcases sp3 p1 with rfl | rfl | rfl | hs_1
  ·
    refine lv_iload_n hx hb dX8_keep_0 rfl (lv_at hl 1 rfl) ?_
    refine lv_if_lt (tgt := 9) hx hb dX8_keep_1 (by decide) (fun c9 => absurd c9 (by decide)) (fun _ => ?_)
    refine lv_iload_n hx hb dX8_keep_4 rfl (lv_at hl 1 rfl) ?_
    refine lv_iconst (v := 3) hx hb dX8_keep_5 (by decide) ?_
    refine lv_icmp_lt (tgt := 12) hx hb dX8_keep_6 (by decide) (fun _ => ?_) (fun c9 => absurd c9 (by decide))
    refine lv_aload_n hx hb dX8_keep_12 rfl (lv_at hl 0 rfl) ?_
    refine va_get (D := D) (ci := 8) (v := .ref (g 9)) (C := RX8) (T := TX8) (N := 12) hx hb hts iX8 hown hK hP 0 rfl rfl 3 (by decide) (hts _ q437) (fun _ h9 => h9) rfl dX8_keep_13 ?_
    refine lv_iload_n hx hb dX8_keep_16 rfl (lv_at hl 1 rfl) ?_
    refine va_aldq hx hb hK hP 6 4 rfl rfl (vpi (by decide)) dX8_keep_17 ?_
    refine W.eq (g2 := F0 m 18 ls [.ref (g 10)]) rfl ?_
    refine lv_aload_n hx hb dX8_keep_18 rfl (lv_at hl 0 rfl) ?_
    refine va_get (D := D) (ci := 8) (v := .ref (g 3)) (C := RX8) (T := TX8) (N := 12) hx hb hts iX8 hown hK hP 0 rfl rfl 1 (by decide) (hts _ q435) (fun _ h9 => h9) rfl dX8_keep_19 ?_
    have hPc := hP.sub (ws' := [(g 10, .inr (0, [.int 0, .int 0, .int 0, .int 0, .int 0, .int 0, .ref (g 11), .ref (g 12), .ref (g 13), .ref (g 14)])), (g 11, .inl (cy 0, 28, .inl (fun _ => 0))), (g 12, .inl (cy 0, 36, .inl (fun _ => 0))), (g 13, .inl (cy 0, 240, .inl (fun _ => 0))), (g 14, .inl (cy 0, 3, .inl (fun _ => 0))), (g 3, .inr (0, [.int 0, .int 0, .int 0, .int 0, .int 0, .int 0, .ref (g 4), .ref (g 5), .ref (g 6), .ref (g 7)])), (g 4, .inl (cy 0, 28, .inl (fun _ => 0))), (g 5, .inl (cy 0, 36, .inl (fun _ => 0))), (g 6, .inl (cy 0, 240, .inl (fun _ => 0))), (g 7, .inl (cy 0, 3, .inl (fun _ => 0)))]) [7, 8, 9, 10, 11, 1, 2, 3, 4, 5] rfl
    have hDc := hD.sub (ws' := [(g 10, .inr (0, [.int 0, .int 0, .int 0, .int 0, .int 0, .int 0, .ref (g 11), .ref (g 12), .ref (g 13), .ref (g 14)])), (g 11, .inl (cy 0, 28, .inl (fun _ => 0))), (g 12, .inl (cy 0, 36, .inl (fun _ => 0))), (g 13, .inl (cy 0, 240, .inl (fun _ => 0))), (g 14, .inl (cy 0, 3, .inl (fun _ => 0))), (g 3, .inr (0, [.int 0, .int 0, .int 0, .int 0, .int 0, .int 0, .ref (g 4), .ref (g 5), .ref (g 6), .ref (g 7)])), (g 4, .inl (cy 0, 28, .inl (fun _ => 0))), (g 5, .inl (cy 0, 36, .inl (fun _ => 0))), (g 6, .inl (cy 0, 240, .inl (fun _ => 0))), (g 7, .inl (cy 0, 3, .inl (fun _ => 0)))]) [7, 8, 9, 10, 11, 1, 2, 3, 4, 5] (by decide) rfl
    have hFc := va_free (wc := [(g 10, .inr (0, [.int 0, .int 0, .int 0, .int 0, .int 0, .int 0, .ref (g 11), .ref (g 12), .ref (g 13), .ref (g 14)])), (g 11, .inl (cy 0, 28, .inl (fun _ => 0))), (g 12, .inl (cy 0, 36, .inl (fun _ => 0))), (g 13, .inl (cy 0, 240, .inl (fun _ => 0))), (g 14, .inl (cy 0, 3, .inl (fun _ => 0))), (g 3, .inr (0, [.int 0, .int 0, .int 0, .int 0, .int 0, .int 0, .ref (g 4), .ref (g 5), .ref (g 6), .ref (g 7)])), (g 4, .inl (cy 0, 28, .inl (fun _ => 0))), (g 5, .inl (cy 0, 36, .inl (fun _ => 0))), (g 6, .inl (cy 0, 240, .inl (fun _ => 0))), (g 7, .inl (cy 0, 3, .inl (fun _ => 0)))]) hD hS hA [7, 8, 9, 10, 11, 1, 2, 3, 4, 5] rfl
    refine va_callv (va_runV (As := [.ref (g 3)]) (rest := []) ⟨hx, hb, hml, hown, hts⟩ (c_X0_copyFrom l D cy (g 10) (g 11) (g 12) (g 13) (g 14) (g 3) (g 4) (g 5) (g 6) (g 7) s.heap.size) (cwV 1 hts (gd_V q702 q703 q704 q127 q705) rfl rfl rfl (by decide +kernel) ⟨Nat.le_of_ble_eq_true rfl, Nat.le_of_ble_eq_true rfl⟩) (pr_V hPc hK hDc (va_recv hK hPc (ci := 0) (q0 := 0) rfl rfl)) rfl rfl hl.1 rfl (lv_room (Nat.le_of_ble_eq_true rfl)) dX8_keep_22 ⟨Nat.le_of_ble_eq_true rfl, Nat.le_of_ble_eq_true rfl⟩) hS (fun q _ h => hFc q h) hFc (fun u tS H1 locs ht hvm hw hB hz1 hk1 hS => ?_)
    obtain ⟨hP1, hK1, hD1⟩ := hB
    rw [ht] at hP1
    try dsimp only at hw
    obtain ⟨hP, hD⟩ := va_join (wr := [(g 0, .inr (8, xF g)), (g 9, .inl (cy 4, 3, .inr (.inr (.inr (.inr (va_up (va_up (va_up (fun _ => none) 0 (some (g 10))) 1 (some (g 15))) 2 (some (g 20)))))))), (g 15, .inr (0, [.int 0, .int 0, .int 0, .int 0, .int 0, .int 0, .ref (g 16), .ref (g 17), .ref (g 18), .ref (g 19)])), (g 16, .inl (cy 0, 28, .inl (fun _ => 0))), (g 17, .inl (cy 0, 36, .inl (fun _ => 0))), (g 18, .inl (cy 0, 240, .inl (fun _ => 0))), (g 19, .inl (cy 0, 3, .inl (fun _ => 0))), (g 20, .inr (0, [.int 0, .int 0, .int 0, .int 0, .int 0, .int 0, .ref (g 21), .ref (g 22), .ref (g 23), .ref (g 24)])), (g 21, .inl (cy 0, 28, .inl (fun _ => 0))), (g 22, .inl (cy 0, 36, .inl (fun _ => 0))), (g 23, .inl (cy 0, 240, .inl (fun _ => 0))), (g 24, .inl (cy 0, 3, .inl (fun _ => 0))), (g 25, .inl (cy 0, 3, .inl (fun _ => 0)))]) (w1 := [(g 10, .inr (0, [.int 0, .int 0, .int 0, .int 0, .int 0, .int 0, .ref (g 11), .ref (g 12), .ref (g 13), .ref (g 14)])), (g 11, .inl (cy 0, 28, .inl (fun _ => 0))), (g 12, .inl (cy 0, 36, .inl (fun _ => 0))), (g 13, .inl (cy 0, 240, .inl (fun _ => 0))), (g 14, .inl (cy 0, 3, .inl (fun _ => 0))), (g 3, .inr (0, [.int 0, .int 0, .int 0, .int 0, .int 0, .int 0, .ref (g 4), .ref (g 5), .ref (g 6), .ref (g 7)])), (g 4, .inl (cy 0, 28, .inl (fun _ => 0))), (g 5, .inl (cy 0, 36, .inl (fun _ => 0))), (g 6, .inl (cy 0, 240, .inl (fun _ => 0))), (g 7, .inl (cy 0, 3, .inl (fun _ => 0)))]) hP hD [7, 8, 9, 10, 11, 1, 2, 3, 4, 5] [0, 6, 12, 13, 14, 15, 16, 17, 18, 19, 20, 21, 22] rfl rfl (by decide) (by decide) hk1 hFc hP1 hD1
    generalize H1 = H at hP hS ⊢
    have hP : va_P D clz [(g 0, .inr (8, xF g)), (g 9, .inl (cy 4, 3, .inr (.inr (.inr (.inr (va_up (va_up (va_up (fun _ => none) 0 (some (g 10))) 1 (some (g 15))) 2 (some (g 20)))))))), (g 15, .inr (0, [.int 0, .int 0, .int 0, .int 0, .int 0, .int 0, .ref (g 16), .ref (g 17), .ref (g 18), .ref (g 19)])), (g 16, .inl (cy 0, 28, .inl (fun _ => 0))), (g 17, .inl (cy 0, 36, .inl (fun _ => 0))), (g 18, .inl (cy 0, 240, .inl (fun _ => 0))), (g 19, .inl (cy 0, 3, .inl (fun _ => 0))), (g 20, .inr (0, [.int 0, .int 0, .int 0, .int 0, .int 0, .int 0, .ref (g 21), .ref (g 22), .ref (g 23), .ref (g 24)])), (g 21, .inl (cy 0, 28, .inl (fun _ => 0))), (g 22, .inl (cy 0, 36, .inl (fun _ => 0))), (g 23, .inl (cy 0, 240, .inl (fun _ => 0))), (g 24, .inl (cy 0, 3, .inl (fun _ => 0))), (g 25, .inl (cy 0, 3, .inl (fun _ => 0))), (g 10, .inr (0, [.int 0, .int 0, .int 0, .int 0, .int 0, .int 0, .ref (g 11), .ref (g 12), .ref (g 13), .ref (g 14)])), (g 11, .inl (cy 0, 28, .inl (fun _ => 0))), (g 12, .inl (cy 0, 36, .inl (fun _ => 0))), (g 13, .inl (cy 0, 240, .inl (fun _ => 0))), (g 14, .inl (cy 0, 3, .inl (fun _ => 0))), (g 3, .inr (0, [.int 0, .int 0, .int 0, .int 0, .int 0, .int 0, .ref (g 4), .ref (g 5), .ref (g 6), .ref (g 7)])), (g 4, .inl (cy 0, 28, .inl (fun _ => 0))), (g 5, .inl (cy 0, 36, .inl (fun _ => 0))), (g 6, .inl (cy 0, 240, .inl (fun _ => 0))), (g 7, .inl (cy 0, 3, .inl (fun _ => 0)))] H := hP
    have hD : va_D A [(g 0, .inr (8, xF g)), (g 9, .inl (cy 4, 3, .inr (.inr (.inr (.inr (va_up (va_up (va_up (fun _ => none) 0 (some (g 10))) 1 (some (g 15))) 2 (some (g 20)))))))), (g 15, .inr (0, [.int 0, .int 0, .int 0, .int 0, .int 0, .int 0, .ref (g 16), .ref (g 17), .ref (g 18), .ref (g 19)])), (g 16, .inl (cy 0, 28, .inl (fun _ => 0))), (g 17, .inl (cy 0, 36, .inl (fun _ => 0))), (g 18, .inl (cy 0, 240, .inl (fun _ => 0))), (g 19, .inl (cy 0, 3, .inl (fun _ => 0))), (g 20, .inr (0, [.int 0, .int 0, .int 0, .int 0, .int 0, .int 0, .ref (g 21), .ref (g 22), .ref (g 23), .ref (g 24)])), (g 21, .inl (cy 0, 28, .inl (fun _ => 0))), (g 22, .inl (cy 0, 36, .inl (fun _ => 0))), (g 23, .inl (cy 0, 240, .inl (fun _ => 0))), (g 24, .inl (cy 0, 3, .inl (fun _ => 0))), (g 25, .inl (cy 0, 3, .inl (fun _ => 0))), (g 10, .inr (0, [.int 0, .int 0, .int 0, .int 0, .int 0, .int 0, .ref (g 11), .ref (g 12), .ref (g 13), .ref (g 14)])), (g 11, .inl (cy 0, 28, .inl (fun _ => 0))), (g 12, .inl (cy 0, 36, .inl (fun _ => 0))), (g 13, .inl (cy 0, 240, .inl (fun _ => 0))), (g 14, .inl (cy 0, 3, .inl (fun _ => 0))), (g 3, .inr (0, [.int 0, .int 0, .int 0, .int 0, .int 0, .int 0, .ref (g 4), .ref (g 5), .ref (g 6), .ref (g 7)])), (g 4, .inl (cy 0, 28, .inl (fun _ => 0))), (g 5, .inl (cy 0, 36, .inl (fun _ => 0))), (g 6, .inl (cy 0, 240, .inl (fun _ => 0))), (g 7, .inl (cy 0, 3, .inl (fun _ => 0)))] := hD
    refine lv_aload_n hx hb dX8_keep_25 rfl (lv_at hl 0 rfl) ?_
    refine va_get (D := D) (ci := 8) (v := .ref (g 25)) (C := RX8) (T := TX8) (N := 12) hx hb hts iX8 hown hK hP 0 rfl rfl 4 (by decide) (hts _ q438) (fun _ h9 => h9) rfl dX8_keep_26 ?_
    refine lv_iload_n hx hb dX8_keep_29 rfl (lv_at hl 1 rfl) ?_
    refine lv_iconst (v := 1) hx hb dX8_keep_30 (by decide) ?_
    refine va_iast hx hb hK hP hD hS 12 0 rfl rfl (vpi (by decide)) dX8_keep_31 (fun H locs hP hD hS => ?_)
    have hP : va_P D clz [(g 0, .inr (8, xF g)), (g 9, .inl (cy 4, 3, .inr (.inr (.inr (.inr (va_up (va_up (va_up (fun _ => none) 0 (some (g 10))) 1 (some (g 15))) 2 (some (g 20)))))))), (g 15, .inr (0, [.int 0, .int 0, .int 0, .int 0, .int 0, .int 0, .ref (g 16), .ref (g 17), .ref (g 18), .ref (g 19)])), (g 16, .inl (cy 0, 28, .inl (fun _ => 0))), (g 17, .inl (cy 0, 36, .inl (fun _ => 0))), (g 18, .inl (cy 0, 240, .inl (fun _ => 0))), (g 19, .inl (cy 0, 3, .inl (fun _ => 0))), (g 20, .inr (0, [.int 0, .int 0, .int 0, .int 0, .int 0, .int 0, .ref (g 21), .ref (g 22), .ref (g 23), .ref (g 24)])), (g 21, .inl (cy 0, 28, .inl (fun _ => 0))), (g 22, .inl (cy 0, 36, .inl (fun _ => 0))), (g 23, .inl (cy 0, 240, .inl (fun _ => 0))), (g 24, .inl (cy 0, 3, .inl (fun _ => 0))), (g 25, .inl (cy 0, 3, .inl (upd (fun _ => 0) 0 1))), (g 10, .inr (0, [.int 0, .int 0, .int 0, .int 0, .int 0, .int 0, .ref (g 11), .ref (g 12), .ref (g 13), .ref (g 14)])), (g 11, .inl (cy 0, 28, .inl (fun _ => 0))), (g 12, .inl (cy 0, 36, .inl (fun _ => 0))), (g 13, .inl (cy 0, 240, .inl (fun _ => 0))), (g 14, .inl (cy 0, 3, .inl (fun _ => 0))), (g 3, .inr (0, [.int 0, .int 0, .int 0, .int 0, .int 0, .int 0, .ref (g 4), .ref (g 5), .ref (g 6), .ref (g 7)])), (g 4, .inl (cy 0, 28, .inl (fun _ => 0))), (g 5, .inl (cy 0, 36, .inl (fun _ => 0))), (g 6, .inl (cy 0, 240, .inl (fun _ => 0))), (g 7, .inl (cy 0, 3, .inl (fun _ => 0)))] H := hP
    have hD : va_D A [(g 0, .inr (8, xF g)), (g 9, .inl (cy 4, 3, .inr (.inr (.inr (.inr (va_up (va_up (va_up (fun _ => none) 0 (some (g 10))) 1 (some (g 15))) 2 (some (g 20)))))))), (g 15, .inr (0, [.int 0, .int 0, .int 0, .int 0, .int 0, .int 0, .ref (g 16), .ref (g 17), .ref (g 18), .ref (g 19)])), (g 16, .inl (cy 0, 28, .inl (fun _ => 0))), (g 17, .inl (cy 0, 36, .inl (fun _ => 0))), (g 18, .inl (cy 0, 240, .inl (fun _ => 0))), (g 19, .inl (cy 0, 3, .inl (fun _ => 0))), (g 20, .inr (0, [.int 0, .int 0, .int 0, .int 0, .int 0, .int 0, .ref (g 21), .ref (g 22), .ref (g 23), .ref (g 24)])), (g 21, .inl (cy 0, 28, .inl (fun _ => 0))), (g 22, .inl (cy 0, 36, .inl (fun _ => 0))), (g 23, .inl (cy 0, 240, .inl (fun _ => 0))), (g 24, .inl (cy 0, 3, .inl (fun _ => 0))), (g 25, .inl (cy 0, 3, .inl (upd (fun _ => 0) 0 1))), (g 10, .inr (0, [.int 0, .int 0, .int 0, .int 0, .int 0, .int 0, .ref (g 11), .ref (g 12), .ref (g 13), .ref (g 14)])), (g 11, .inl (cy 0, 28, .inl (fun _ => 0))), (g 12, .inl (cy 0, 36, .inl (fun _ => 0))), (g 13, .inl (cy 0, 240, .inl (fun _ => 0))), (g 14, .inl (cy 0, 3, .inl (fun _ => 0))), (g 3, .inr (0, [.int 0, .int 0, .int 0, .int 0, .int 0, .int 0, .ref (g 4), .ref (g 5), .ref (g 6), .ref (g 7)])), (g 4, .inl (cy 0, 28, .inl (fun _ => 0))), (g 5, .inl (cy 0, 36, .inl (fun _ => 0))), (g 6, .inl (cy 0, 240, .inl (fun _ => 0))), (g 7, .inl (cy 0, 3, .inl (fun _ => 0)))] := hD
    refine lv_iconst (v := 0) hx hb dX8_keep_32 (by decide) ?_
    have hP9 := hP.sub (ws' := []) [] rfl
    have hD9 := hD.sub (ws' := []) [] (by decide) rfl
    exact W.iret (v := 0) hx hb hr (fun tS ht hW => ⟨⟨0, (), rfl, (by have z320 : (0 : Int32).toInt = 0 := (by decide); unfold sp_keep; (repeat' split) <;> first | rfl | (exfalso; omega)), by rw [ht]; exact hP9, va_K.moved hW.alike hK, hD9⟩, hS.F ht⟩) hS.2.2 dX8_keep_33
  ·
    refine lv_iload_n hx hb dX8_keep_0 rfl (lv_at hl 1 rfl) ?_
    refine lv_if_lt (tgt := 9) hx hb dX8_keep_1 (by decide) (fun c9 => absurd c9 (by decide)) (fun _ => ?_)
    refine lv_iload_n hx hb dX8_keep_4 rfl (lv_at hl 1 rfl) ?_
    refine lv_iconst (v := 3) hx hb dX8_keep_5 (by decide) ?_
    refine lv_icmp_lt (tgt := 12) hx hb dX8_keep_6 (by decide) (fun _ => ?_) (fun c9 => absurd c9 (by decide))
    refine lv_aload_n hx hb dX8_keep_12 rfl (lv_at hl 0 rfl) ?_
    refine va_get (D := D) (ci := 8) (v := .ref (g 9)) (C := RX8) (T := TX8) (N := 12) hx hb hts iX8 hown hK hP 0 rfl rfl 3 (by decide) (hts _ q437) (fun _ h9 => h9) rfl dX8_keep_13 ?_
    refine lv_iload_n hx hb dX8_keep_16 rfl (lv_at hl 1 rfl) ?_
    refine va_aldq hx hb hK hP 6 4 rfl rfl (vpi (by decide)) dX8_keep_17 ?_
    refine W.eq (g2 := F0 m 18 ls [.ref (g 15)]) rfl ?_
    refine lv_aload_n hx hb dX8_keep_18 rfl (lv_at hl 0 rfl) ?_
    refine va_get (D := D) (ci := 8) (v := .ref (g 3)) (C := RX8) (T := TX8) (N := 12) hx hb hts iX8 hown hK hP 0 rfl rfl 1 (by decide) (hts _ q435) (fun _ h9 => h9) rfl dX8_keep_19 ?_
    have hPc := hP.sub (ws' := [(g 15, .inr (0, [.int 0, .int 0, .int 0, .int 0, .int 0, .int 0, .ref (g 16), .ref (g 17), .ref (g 18), .ref (g 19)])), (g 16, .inl (cy 0, 28, .inl (fun _ => 0))), (g 17, .inl (cy 0, 36, .inl (fun _ => 0))), (g 18, .inl (cy 0, 240, .inl (fun _ => 0))), (g 19, .inl (cy 0, 3, .inl (fun _ => 0))), (g 3, .inr (0, [.int 0, .int 0, .int 0, .int 0, .int 0, .int 0, .ref (g 4), .ref (g 5), .ref (g 6), .ref (g 7)])), (g 4, .inl (cy 0, 28, .inl (fun _ => 0))), (g 5, .inl (cy 0, 36, .inl (fun _ => 0))), (g 6, .inl (cy 0, 240, .inl (fun _ => 0))), (g 7, .inl (cy 0, 3, .inl (fun _ => 0)))]) [12, 13, 14, 15, 16, 1, 2, 3, 4, 5] rfl
    have hDc := hD.sub (ws' := [(g 15, .inr (0, [.int 0, .int 0, .int 0, .int 0, .int 0, .int 0, .ref (g 16), .ref (g 17), .ref (g 18), .ref (g 19)])), (g 16, .inl (cy 0, 28, .inl (fun _ => 0))), (g 17, .inl (cy 0, 36, .inl (fun _ => 0))), (g 18, .inl (cy 0, 240, .inl (fun _ => 0))), (g 19, .inl (cy 0, 3, .inl (fun _ => 0))), (g 3, .inr (0, [.int 0, .int 0, .int 0, .int 0, .int 0, .int 0, .ref (g 4), .ref (g 5), .ref (g 6), .ref (g 7)])), (g 4, .inl (cy 0, 28, .inl (fun _ => 0))), (g 5, .inl (cy 0, 36, .inl (fun _ => 0))), (g 6, .inl (cy 0, 240, .inl (fun _ => 0))), (g 7, .inl (cy 0, 3, .inl (fun _ => 0)))]) [12, 13, 14, 15, 16, 1, 2, 3, 4, 5] (by decide) rfl
    have hFc := va_free (wc := [(g 15, .inr (0, [.int 0, .int 0, .int 0, .int 0, .int 0, .int 0, .ref (g 16), .ref (g 17), .ref (g 18), .ref (g 19)])), (g 16, .inl (cy 0, 28, .inl (fun _ => 0))), (g 17, .inl (cy 0, 36, .inl (fun _ => 0))), (g 18, .inl (cy 0, 240, .inl (fun _ => 0))), (g 19, .inl (cy 0, 3, .inl (fun _ => 0))), (g 3, .inr (0, [.int 0, .int 0, .int 0, .int 0, .int 0, .int 0, .ref (g 4), .ref (g 5), .ref (g 6), .ref (g 7)])), (g 4, .inl (cy 0, 28, .inl (fun _ => 0))), (g 5, .inl (cy 0, 36, .inl (fun _ => 0))), (g 6, .inl (cy 0, 240, .inl (fun _ => 0))), (g 7, .inl (cy 0, 3, .inl (fun _ => 0)))]) hD hS hA [12, 13, 14, 15, 16, 1, 2, 3, 4, 5] rfl
    refine va_callv (va_runV (As := [.ref (g 3)]) (rest := []) ⟨hx, hb, hml, hown, hts⟩ (c_X0_copyFrom l D cy (g 15) (g 16) (g 17) (g 18) (g 19) (g 3) (g 4) (g 5) (g 6) (g 7) s.heap.size) (cwV 1 hts (gd_V q702 q703 q704 q127 q705) rfl rfl rfl (by decide +kernel) ⟨Nat.le_of_ble_eq_true rfl, Nat.le_of_ble_eq_true rfl⟩) (pr_V hPc hK hDc (va_recv hK hPc (ci := 0) (q0 := 0) rfl rfl)) rfl rfl hl.1 rfl (lv_room (Nat.le_of_ble_eq_true rfl)) dX8_keep_22 ⟨Nat.le_of_ble_eq_true rfl, Nat.le_of_ble_eq_true rfl⟩) hS (fun q _ h => hFc q h) hFc (fun u tS H1 locs ht hvm hw hB hz1 hk1 hS => ?_)
    obtain ⟨hP1, hK1, hD1⟩ := hB
    rw [ht] at hP1
    try dsimp only at hw
    obtain ⟨hP, hD⟩ := va_join (wr := [(g 0, .inr (8, xF g)), (g 9, .inl (cy 4, 3, .inr (.inr (.inr (.inr (va_up (va_up (va_up (fun _ => none) 0 (some (g 10))) 1 (some (g 15))) 2 (some (g 20)))))))), (g 10, .inr (0, [.int 0, .int 0, .int 0, .int 0, .int 0, .int 0, .ref (g 11), .ref (g 12), .ref (g 13), .ref (g 14)])), (g 11, .inl (cy 0, 28, .inl (fun _ => 0))), (g 12, .inl (cy 0, 36, .inl (fun _ => 0))), (g 13, .inl (cy 0, 240, .inl (fun _ => 0))), (g 14, .inl (cy 0, 3, .inl (fun _ => 0))), (g 20, .inr (0, [.int 0, .int 0, .int 0, .int 0, .int 0, .int 0, .ref (g 21), .ref (g 22), .ref (g 23), .ref (g 24)])), (g 21, .inl (cy 0, 28, .inl (fun _ => 0))), (g 22, .inl (cy 0, 36, .inl (fun _ => 0))), (g 23, .inl (cy 0, 240, .inl (fun _ => 0))), (g 24, .inl (cy 0, 3, .inl (fun _ => 0))), (g 25, .inl (cy 0, 3, .inl (fun _ => 0)))]) (w1 := [(g 15, .inr (0, [.int 0, .int 0, .int 0, .int 0, .int 0, .int 0, .ref (g 16), .ref (g 17), .ref (g 18), .ref (g 19)])), (g 16, .inl (cy 0, 28, .inl (fun _ => 0))), (g 17, .inl (cy 0, 36, .inl (fun _ => 0))), (g 18, .inl (cy 0, 240, .inl (fun _ => 0))), (g 19, .inl (cy 0, 3, .inl (fun _ => 0))), (g 3, .inr (0, [.int 0, .int 0, .int 0, .int 0, .int 0, .int 0, .ref (g 4), .ref (g 5), .ref (g 6), .ref (g 7)])), (g 4, .inl (cy 0, 28, .inl (fun _ => 0))), (g 5, .inl (cy 0, 36, .inl (fun _ => 0))), (g 6, .inl (cy 0, 240, .inl (fun _ => 0))), (g 7, .inl (cy 0, 3, .inl (fun _ => 0)))]) hP hD [12, 13, 14, 15, 16, 1, 2, 3, 4, 5] [0, 6, 7, 8, 9, 10, 11, 17, 18, 19, 20, 21, 22] rfl rfl (by decide) (by decide) hk1 hFc hP1 hD1
    generalize H1 = H at hP hS ⊢
    have hP : va_P D clz [(g 0, .inr (8, xF g)), (g 9, .inl (cy 4, 3, .inr (.inr (.inr (.inr (va_up (va_up (va_up (fun _ => none) 0 (some (g 10))) 1 (some (g 15))) 2 (some (g 20)))))))), (g 10, .inr (0, [.int 0, .int 0, .int 0, .int 0, .int 0, .int 0, .ref (g 11), .ref (g 12), .ref (g 13), .ref (g 14)])), (g 11, .inl (cy 0, 28, .inl (fun _ => 0))), (g 12, .inl (cy 0, 36, .inl (fun _ => 0))), (g 13, .inl (cy 0, 240, .inl (fun _ => 0))), (g 14, .inl (cy 0, 3, .inl (fun _ => 0))), (g 20, .inr (0, [.int 0, .int 0, .int 0, .int 0, .int 0, .int 0, .ref (g 21), .ref (g 22), .ref (g 23), .ref (g 24)])), (g 21, .inl (cy 0, 28, .inl (fun _ => 0))), (g 22, .inl (cy 0, 36, .inl (fun _ => 0))), (g 23, .inl (cy 0, 240, .inl (fun _ => 0))), (g 24, .inl (cy 0, 3, .inl (fun _ => 0))), (g 25, .inl (cy 0, 3, .inl (fun _ => 0))), (g 15, .inr (0, [.int 0, .int 0, .int 0, .int 0, .int 0, .int 0, .ref (g 16), .ref (g 17), .ref (g 18), .ref (g 19)])), (g 16, .inl (cy 0, 28, .inl (fun _ => 0))), (g 17, .inl (cy 0, 36, .inl (fun _ => 0))), (g 18, .inl (cy 0, 240, .inl (fun _ => 0))), (g 19, .inl (cy 0, 3, .inl (fun _ => 0))), (g 3, .inr (0, [.int 0, .int 0, .int 0, .int 0, .int 0, .int 0, .ref (g 4), .ref (g 5), .ref (g 6), .ref (g 7)])), (g 4, .inl (cy 0, 28, .inl (fun _ => 0))), (g 5, .inl (cy 0, 36, .inl (fun _ => 0))), (g 6, .inl (cy 0, 240, .inl (fun _ => 0))), (g 7, .inl (cy 0, 3, .inl (fun _ => 0)))] H := hP
    have hD : va_D A [(g 0, .inr (8, xF g)), (g 9, .inl (cy 4, 3, .inr (.inr (.inr (.inr (va_up (va_up (va_up (fun _ => none) 0 (some (g 10))) 1 (some (g 15))) 2 (some (g 20)))))))), (g 10, .inr (0, [.int 0, .int 0, .int 0, .int 0, .int 0, .int 0, .ref (g 11), .ref (g 12), .ref (g 13), .ref (g 14)])), (g 11, .inl (cy 0, 28, .inl (fun _ => 0))), (g 12, .inl (cy 0, 36, .inl (fun _ => 0))), (g 13, .inl (cy 0, 240, .inl (fun _ => 0))), (g 14, .inl (cy 0, 3, .inl (fun _ => 0))), (g 20, .inr (0, [.int 0, .int 0, .int 0, .int 0, .int 0, .int 0, .ref (g 21), .ref (g 22), .ref (g 23), .ref (g 24)])), (g 21, .inl (cy 0, 28, .inl (fun _ => 0))), (g 22, .inl (cy 0, 36, .inl (fun _ => 0))), (g 23, .inl (cy 0, 240, .inl (fun _ => 0))), (g 24, .inl (cy 0, 3, .inl (fun _ => 0))), (g 25, .inl (cy 0, 3, .inl (fun _ => 0))), (g 15, .inr (0, [.int 0, .int 0, .int 0, .int 0, .int 0, .int 0, .ref (g 16), .ref (g 17), .ref (g 18), .ref (g 19)])), (g 16, .inl (cy 0, 28, .inl (fun _ => 0))), (g 17, .inl (cy 0, 36, .inl (fun _ => 0))), (g 18, .inl (cy 0, 240, .inl (fun _ => 0))), (g 19, .inl (cy 0, 3, .inl (fun _ => 0))), (g 3, .inr (0, [.int 0, .int 0, .int 0, .int 0, .int 0, .int 0, .ref (g 4), .ref (g 5), .ref (g 6), .ref (g 7)])), (g 4, .inl (cy 0, 28, .inl (fun _ => 0))), (g 5, .inl (cy 0, 36, .inl (fun _ => 0))), (g 6, .inl (cy 0, 240, .inl (fun _ => 0))), (g 7, .inl (cy 0, 3, .inl (fun _ => 0)))] := hD
    refine lv_aload_n hx hb dX8_keep_25 rfl (lv_at hl 0 rfl) ?_
    refine va_get (D := D) (ci := 8) (v := .ref (g 25)) (C := RX8) (T := TX8) (N := 12) hx hb hts iX8 hown hK hP 0 rfl rfl 4 (by decide) (hts _ q438) (fun _ h9 => h9) rfl dX8_keep_26 ?_
    refine lv_iload_n hx hb dX8_keep_29 rfl (lv_at hl 1 rfl) ?_
    refine lv_iconst (v := 1) hx hb dX8_keep_30 (by decide) ?_
    refine va_iast hx hb hK hP hD hS 12 0 rfl rfl (vpi (by decide)) dX8_keep_31 (fun H locs hP hD hS => ?_)
    have hP : va_P D clz [(g 0, .inr (8, xF g)), (g 9, .inl (cy 4, 3, .inr (.inr (.inr (.inr (va_up (va_up (va_up (fun _ => none) 0 (some (g 10))) 1 (some (g 15))) 2 (some (g 20)))))))), (g 10, .inr (0, [.int 0, .int 0, .int 0, .int 0, .int 0, .int 0, .ref (g 11), .ref (g 12), .ref (g 13), .ref (g 14)])), (g 11, .inl (cy 0, 28, .inl (fun _ => 0))), (g 12, .inl (cy 0, 36, .inl (fun _ => 0))), (g 13, .inl (cy 0, 240, .inl (fun _ => 0))), (g 14, .inl (cy 0, 3, .inl (fun _ => 0))), (g 20, .inr (0, [.int 0, .int 0, .int 0, .int 0, .int 0, .int 0, .ref (g 21), .ref (g 22), .ref (g 23), .ref (g 24)])), (g 21, .inl (cy 0, 28, .inl (fun _ => 0))), (g 22, .inl (cy 0, 36, .inl (fun _ => 0))), (g 23, .inl (cy 0, 240, .inl (fun _ => 0))), (g 24, .inl (cy 0, 3, .inl (fun _ => 0))), (g 25, .inl (cy 0, 3, .inl (upd (fun _ => 0) 1 1))), (g 15, .inr (0, [.int 0, .int 0, .int 0, .int 0, .int 0, .int 0, .ref (g 16), .ref (g 17), .ref (g 18), .ref (g 19)])), (g 16, .inl (cy 0, 28, .inl (fun _ => 0))), (g 17, .inl (cy 0, 36, .inl (fun _ => 0))), (g 18, .inl (cy 0, 240, .inl (fun _ => 0))), (g 19, .inl (cy 0, 3, .inl (fun _ => 0))), (g 3, .inr (0, [.int 0, .int 0, .int 0, .int 0, .int 0, .int 0, .ref (g 4), .ref (g 5), .ref (g 6), .ref (g 7)])), (g 4, .inl (cy 0, 28, .inl (fun _ => 0))), (g 5, .inl (cy 0, 36, .inl (fun _ => 0))), (g 6, .inl (cy 0, 240, .inl (fun _ => 0))), (g 7, .inl (cy 0, 3, .inl (fun _ => 0)))] H := hP
    have hD : va_D A [(g 0, .inr (8, xF g)), (g 9, .inl (cy 4, 3, .inr (.inr (.inr (.inr (va_up (va_up (va_up (fun _ => none) 0 (some (g 10))) 1 (some (g 15))) 2 (some (g 20)))))))), (g 10, .inr (0, [.int 0, .int 0, .int 0, .int 0, .int 0, .int 0, .ref (g 11), .ref (g 12), .ref (g 13), .ref (g 14)])), (g 11, .inl (cy 0, 28, .inl (fun _ => 0))), (g 12, .inl (cy 0, 36, .inl (fun _ => 0))), (g 13, .inl (cy 0, 240, .inl (fun _ => 0))), (g 14, .inl (cy 0, 3, .inl (fun _ => 0))), (g 20, .inr (0, [.int 0, .int 0, .int 0, .int 0, .int 0, .int 0, .ref (g 21), .ref (g 22), .ref (g 23), .ref (g 24)])), (g 21, .inl (cy 0, 28, .inl (fun _ => 0))), (g 22, .inl (cy 0, 36, .inl (fun _ => 0))), (g 23, .inl (cy 0, 240, .inl (fun _ => 0))), (g 24, .inl (cy 0, 3, .inl (fun _ => 0))), (g 25, .inl (cy 0, 3, .inl (upd (fun _ => 0) 1 1))), (g 15, .inr (0, [.int 0, .int 0, .int 0, .int 0, .int 0, .int 0, .ref (g 16), .ref (g 17), .ref (g 18), .ref (g 19)])), (g 16, .inl (cy 0, 28, .inl (fun _ => 0))), (g 17, .inl (cy 0, 36, .inl (fun _ => 0))), (g 18, .inl (cy 0, 240, .inl (fun _ => 0))), (g 19, .inl (cy 0, 3, .inl (fun _ => 0))), (g 3, .inr (0, [.int 0, .int 0, .int 0, .int 0, .int 0, .int 0, .ref (g 4), .ref (g 5), .ref (g 6), .ref (g 7)])), (g 4, .inl (cy 0, 28, .inl (fun _ => 0))), (g 5, .inl (cy 0, 36, .inl (fun _ => 0))), (g 6, .inl (cy 0, 240, .inl (fun _ => 0))), (g 7, .inl (cy 0, 3, .inl (fun _ => 0)))] := hD
    refine lv_iconst (v := 0) hx hb dX8_keep_32 (by decide) ?_
    have hP9 := hP.sub (ws' := []) [] rfl
    have hD9 := hD.sub (ws' := []) [] (by decide) rfl
    exact W.iret (v := 0) hx hb hr (fun tS ht hW => ⟨⟨0, (), rfl, (by have z321 : (1 : Int32).toInt = 1 := (by decide); unfold sp_keep; (repeat' split) <;> first | rfl | (exfalso; omega)), by rw [ht]; exact hP9, va_K.moved hW.alike hK, hD9⟩, hS.F ht⟩) hS.2.2 dX8_keep_33
  ·
    refine lv_iload_n hx hb dX8_keep_0 rfl (lv_at hl 1 rfl) ?_
    refine lv_if_lt (tgt := 9) hx hb dX8_keep_1 (by decide) (fun c9 => absurd c9 (by decide)) (fun _ => ?_)
    refine lv_iload_n hx hb dX8_keep_4 rfl (lv_at hl 1 rfl) ?_
    refine lv_iconst (v := 3) hx hb dX8_keep_5 (by decide) ?_
    refine lv_icmp_lt (tgt := 12) hx hb dX8_keep_6 (by decide) (fun _ => ?_) (fun c9 => absurd c9 (by decide))
    refine lv_aload_n hx hb dX8_keep_12 rfl (lv_at hl 0 rfl) ?_
    refine va_get (D := D) (ci := 8) (v := .ref (g 9)) (C := RX8) (T := TX8) (N := 12) hx hb hts iX8 hown hK hP 0 rfl rfl 3 (by decide) (hts _ q437) (fun _ h9 => h9) rfl dX8_keep_13 ?_
    refine lv_iload_n hx hb dX8_keep_16 rfl (lv_at hl 1 rfl) ?_
    refine va_aldq hx hb hK hP 6 4 rfl rfl (vpi (by decide)) dX8_keep_17 ?_
    refine W.eq (g2 := F0 m 18 ls [.ref (g 20)]) rfl ?_
    refine lv_aload_n hx hb dX8_keep_18 rfl (lv_at hl 0 rfl) ?_
    refine va_get (D := D) (ci := 8) (v := .ref (g 3)) (C := RX8) (T := TX8) (N := 12) hx hb hts iX8 hown hK hP 0 rfl rfl 1 (by decide) (hts _ q435) (fun _ h9 => h9) rfl dX8_keep_19 ?_
    have hPc := hP.sub (ws' := [(g 20, .inr (0, [.int 0, .int 0, .int 0, .int 0, .int 0, .int 0, .ref (g 21), .ref (g 22), .ref (g 23), .ref (g 24)])), (g 21, .inl (cy 0, 28, .inl (fun _ => 0))), (g 22, .inl (cy 0, 36, .inl (fun _ => 0))), (g 23, .inl (cy 0, 240, .inl (fun _ => 0))), (g 24, .inl (cy 0, 3, .inl (fun _ => 0))), (g 3, .inr (0, [.int 0, .int 0, .int 0, .int 0, .int 0, .int 0, .ref (g 4), .ref (g 5), .ref (g 6), .ref (g 7)])), (g 4, .inl (cy 0, 28, .inl (fun _ => 0))), (g 5, .inl (cy 0, 36, .inl (fun _ => 0))), (g 6, .inl (cy 0, 240, .inl (fun _ => 0))), (g 7, .inl (cy 0, 3, .inl (fun _ => 0)))]) [17, 18, 19, 20, 21, 1, 2, 3, 4, 5] rfl
    have hDc := hD.sub (ws' := [(g 20, .inr (0, [.int 0, .int 0, .int 0, .int 0, .int 0, .int 0, .ref (g 21), .ref (g 22), .ref (g 23), .ref (g 24)])), (g 21, .inl (cy 0, 28, .inl (fun _ => 0))), (g 22, .inl (cy 0, 36, .inl (fun _ => 0))), (g 23, .inl (cy 0, 240, .inl (fun _ => 0))), (g 24, .inl (cy 0, 3, .inl (fun _ => 0))), (g 3, .inr (0, [.int 0, .int 0, .int 0, .int 0, .int 0, .int 0, .ref (g 4), .ref (g 5), .ref (g 6), .ref (g 7)])), (g 4, .inl (cy 0, 28, .inl (fun _ => 0))), (g 5, .inl (cy 0, 36, .inl (fun _ => 0))), (g 6, .inl (cy 0, 240, .inl (fun _ => 0))), (g 7, .inl (cy 0, 3, .inl (fun _ => 0)))]) [17, 18, 19, 20, 21, 1, 2, 3, 4, 5] (by decide) rfl
    have hFc := va_free (wc := [(g 20, .inr (0, [.int 0, .int 0, .int 0, .int 0, .int 0, .int 0, .ref (g 21), .ref (g 22), .ref (g 23), .ref (g 24)])), (g 21, .inl (cy 0, 28, .inl (fun _ => 0))), (g 22, .inl (cy 0, 36, .inl (fun _ => 0))), (g 23, .inl (cy 0, 240, .inl (fun _ => 0))), (g 24, .inl (cy 0, 3, .inl (fun _ => 0))), (g 3, .inr (0, [.int 0, .int 0, .int 0, .int 0, .int 0, .int 0, .ref (g 4), .ref (g 5), .ref (g 6), .ref (g 7)])), (g 4, .inl (cy 0, 28, .inl (fun _ => 0))), (g 5, .inl (cy 0, 36, .inl (fun _ => 0))), (g 6, .inl (cy 0, 240, .inl (fun _ => 0))), (g 7, .inl (cy 0, 3, .inl (fun _ => 0)))]) hD hS hA [17, 18, 19, 20, 21, 1, 2, 3, 4, 5] rfl
    refine va_callv (va_runV (As := [.ref (g 3)]) (rest := []) ⟨hx, hb, hml, hown, hts⟩ (c_X0_copyFrom l D cy (g 20) (g 21) (g 22) (g 23) (g 24) (g 3) (g 4) (g 5) (g 6) (g 7) s.heap.size) (cwV 1 hts (gd_V q702 q703 q704 q127 q705) rfl rfl rfl (by decide +kernel) ⟨Nat.le_of_ble_eq_true rfl, Nat.le_of_ble_eq_true rfl⟩) (pr_V hPc hK hDc (va_recv hK hPc (ci := 0) (q0 := 0) rfl rfl)) rfl rfl hl.1 rfl (lv_room (Nat.le_of_ble_eq_true rfl)) dX8_keep_22 ⟨Nat.le_of_ble_eq_true rfl, Nat.le_of_ble_eq_true rfl⟩) hS (fun q _ h => hFc q h) hFc (fun u tS H1 locs ht hvm hw hB hz1 hk1 hS => ?_)
    obtain ⟨hP1, hK1, hD1⟩ := hB
    rw [ht] at hP1
    try dsimp only at hw
    obtain ⟨hP, hD⟩ := va_join (wr := [(g 0, .inr (8, xF g)), (g 9, .inl (cy 4, 3, .inr (.inr (.inr (.inr (va_up (va_up (va_up (fun _ => none) 0 (some (g 10))) 1 (some (g 15))) 2 (some (g 20)))))))), (g 10, .inr (0, [.int 0, .int 0, .int 0, .int 0, .int 0, .int 0, .ref (g 11), .ref (g 12), .ref (g 13), .ref (g 14)])), (g 11, .inl (cy 0, 28, .inl (fun _ => 0))), (g 12, .inl (cy 0, 36, .inl (fun _ => 0))), (g 13, .inl (cy 0, 240, .inl (fun _ => 0))), (g 14, .inl (cy 0, 3, .inl (fun _ => 0))), (g 15, .inr (0, [.int 0, .int 0, .int 0, .int 0, .int 0, .int 0, .ref (g 16), .ref (g 17), .ref (g 18), .ref (g 19)])), (g 16, .inl (cy 0, 28, .inl (fun _ => 0))), (g 17, .inl (cy 0, 36, .inl (fun _ => 0))), (g 18, .inl (cy 0, 240, .inl (fun _ => 0))), (g 19, .inl (cy 0, 3, .inl (fun _ => 0))), (g 25, .inl (cy 0, 3, .inl (fun _ => 0)))]) (w1 := [(g 20, .inr (0, [.int 0, .int 0, .int 0, .int 0, .int 0, .int 0, .ref (g 21), .ref (g 22), .ref (g 23), .ref (g 24)])), (g 21, .inl (cy 0, 28, .inl (fun _ => 0))), (g 22, .inl (cy 0, 36, .inl (fun _ => 0))), (g 23, .inl (cy 0, 240, .inl (fun _ => 0))), (g 24, .inl (cy 0, 3, .inl (fun _ => 0))), (g 3, .inr (0, [.int 0, .int 0, .int 0, .int 0, .int 0, .int 0, .ref (g 4), .ref (g 5), .ref (g 6), .ref (g 7)])), (g 4, .inl (cy 0, 28, .inl (fun _ => 0))), (g 5, .inl (cy 0, 36, .inl (fun _ => 0))), (g 6, .inl (cy 0, 240, .inl (fun _ => 0))), (g 7, .inl (cy 0, 3, .inl (fun _ => 0)))]) hP hD [17, 18, 19, 20, 21, 1, 2, 3, 4, 5] [0, 6, 7, 8, 9, 10, 11, 12, 13, 14, 15, 16, 22] rfl rfl (by decide) (by decide) hk1 hFc hP1 hD1
    generalize H1 = H at hP hS ⊢
    have hP : va_P D clz [(g 0, .inr (8, xF g)), (g 9, .inl (cy 4, 3, .inr (.inr (.inr (.inr (va_up (va_up (va_up (fun _ => none) 0 (some (g 10))) 1 (some (g 15))) 2 (some (g 20)))))))), (g 10, .inr (0, [.int 0, .int 0, .int 0, .int 0, .int 0, .int 0, .ref (g 11), .ref (g 12), .ref (g 13), .ref (g 14)])), (g 11, .inl (cy 0, 28, .inl (fun _ => 0))), (g 12, .inl (cy 0, 36, .inl (fun _ => 0))), (g 13, .inl (cy 0, 240, .inl (fun _ => 0))), (g 14, .inl (cy 0, 3, .inl (fun _ => 0))), (g 15, .inr (0, [.int 0, .int 0, .int 0, .int 0, .int 0, .int 0, .ref (g 16), .ref (g 17), .ref (g 18), .ref (g 19)])), (g 16, .inl (cy 0, 28, .inl (fun _ => 0))), (g 17, .inl (cy 0, 36, .inl (fun _ => 0))), (g 18, .inl (cy 0, 240, .inl (fun _ => 0))), (g 19, .inl (cy 0, 3, .inl (fun _ => 0))), (g 25, .inl (cy 0, 3, .inl (fun _ => 0))), (g 20, .inr (0, [.int 0, .int 0, .int 0, .int 0, .int 0, .int 0, .ref (g 21), .ref (g 22), .ref (g 23), .ref (g 24)])), (g 21, .inl (cy 0, 28, .inl (fun _ => 0))), (g 22, .inl (cy 0, 36, .inl (fun _ => 0))), (g 23, .inl (cy 0, 240, .inl (fun _ => 0))), (g 24, .inl (cy 0, 3, .inl (fun _ => 0))), (g 3, .inr (0, [.int 0, .int 0, .int 0, .int 0, .int 0, .int 0, .ref (g 4), .ref (g 5), .ref (g 6), .ref (g 7)])), (g 4, .inl (cy 0, 28, .inl (fun _ => 0))), (g 5, .inl (cy 0, 36, .inl (fun _ => 0))), (g 6, .inl (cy 0, 240, .inl (fun _ => 0))), (g 7, .inl (cy 0, 3, .inl (fun _ => 0)))] H := hP
    have hD : va_D A [(g 0, .inr (8, xF g)), (g 9, .inl (cy 4, 3, .inr (.inr (.inr (.inr (va_up (va_up (va_up (fun _ => none) 0 (some (g 10))) 1 (some (g 15))) 2 (some (g 20)))))))), (g 10, .inr (0, [.int 0, .int 0, .int 0, .int 0, .int 0, .int 0, .ref (g 11), .ref (g 12), .ref (g 13), .ref (g 14)])), (g 11, .inl (cy 0, 28, .inl (fun _ => 0))), (g 12, .inl (cy 0, 36, .inl (fun _ => 0))), (g 13, .inl (cy 0, 240, .inl (fun _ => 0))), (g 14, .inl (cy 0, 3, .inl (fun _ => 0))), (g 15, .inr (0, [.int 0, .int 0, .int 0, .int 0, .int 0, .int 0, .ref (g 16), .ref (g 17), .ref (g 18), .ref (g 19)])), (g 16, .inl (cy 0, 28, .inl (fun _ => 0))), (g 17, .inl (cy 0, 36, .inl (fun _ => 0))), (g 18, .inl (cy 0, 240, .inl (fun _ => 0))), (g 19, .inl (cy 0, 3, .inl (fun _ => 0))), (g 25, .inl (cy 0, 3, .inl (fun _ => 0))), (g 20, .inr (0, [.int 0, .int 0, .int 0, .int 0, .int 0, .int 0, .ref (g 21), .ref (g 22), .ref (g 23), .ref (g 24)])), (g 21, .inl (cy 0, 28, .inl (fun _ => 0))), (g 22, .inl (cy 0, 36, .inl (fun _ => 0))), (g 23, .inl (cy 0, 240, .inl (fun _ => 0))), (g 24, .inl (cy 0, 3, .inl (fun _ => 0))), (g 3, .inr (0, [.int 0, .int 0, .int 0, .int 0, .int 0, .int 0, .ref (g 4), .ref (g 5), .ref (g 6), .ref (g 7)])), (g 4, .inl (cy 0, 28, .inl (fun _ => 0))), (g 5, .inl (cy 0, 36, .inl (fun _ => 0))), (g 6, .inl (cy 0, 240, .inl (fun _ => 0))), (g 7, .inl (cy 0, 3, .inl (fun _ => 0)))] := hD
    refine lv_aload_n hx hb dX8_keep_25 rfl (lv_at hl 0 rfl) ?_
    refine va_get (D := D) (ci := 8) (v := .ref (g 25)) (C := RX8) (T := TX8) (N := 12) hx hb hts iX8 hown hK hP 0 rfl rfl 4 (by decide) (hts _ q438) (fun _ h9 => h9) rfl dX8_keep_26 ?_
    refine lv_iload_n hx hb dX8_keep_29 rfl (lv_at hl 1 rfl) ?_
    refine lv_iconst (v := 1) hx hb dX8_keep_30 (by decide) ?_
    refine va_iast hx hb hK hP hD hS 12 0 rfl rfl (vpi (by decide)) dX8_keep_31 (fun H locs hP hD hS => ?_)
    have hP : va_P D clz [(g 0, .inr (8, xF g)), (g 9, .inl (cy 4, 3, .inr (.inr (.inr (.inr (va_up (va_up (va_up (fun _ => none) 0 (some (g 10))) 1 (some (g 15))) 2 (some (g 20)))))))), (g 10, .inr (0, [.int 0, .int 0, .int 0, .int 0, .int 0, .int 0, .ref (g 11), .ref (g 12), .ref (g 13), .ref (g 14)])), (g 11, .inl (cy 0, 28, .inl (fun _ => 0))), (g 12, .inl (cy 0, 36, .inl (fun _ => 0))), (g 13, .inl (cy 0, 240, .inl (fun _ => 0))), (g 14, .inl (cy 0, 3, .inl (fun _ => 0))), (g 15, .inr (0, [.int 0, .int 0, .int 0, .int 0, .int 0, .int 0, .ref (g 16), .ref (g 17), .ref (g 18), .ref (g 19)])), (g 16, .inl (cy 0, 28, .inl (fun _ => 0))), (g 17, .inl (cy 0, 36, .inl (fun _ => 0))), (g 18, .inl (cy 0, 240, .inl (fun _ => 0))), (g 19, .inl (cy 0, 3, .inl (fun _ => 0))), (g 25, .inl (cy 0, 3, .inl (upd (fun _ => 0) 2 1))), (g 20, .inr (0, [.int 0, .int 0, .int 0, .int 0, .int 0, .int 0, .ref (g 21), .ref (g 22), .ref (g 23), .ref (g 24)])), (g 21, .inl (cy 0, 28, .inl (fun _ => 0))), (g 22, .inl (cy 0, 36, .inl (fun _ => 0))), (g 23, .inl (cy 0, 240, .inl (fun _ => 0))), (g 24, .inl (cy 0, 3, .inl (fun _ => 0))), (g 3, .inr (0, [.int 0, .int 0, .int 0, .int 0, .int 0, .int 0, .ref (g 4), .ref (g 5), .ref (g 6), .ref (g 7)])), (g 4, .inl (cy 0, 28, .inl (fun _ => 0))), (g 5, .inl (cy 0, 36, .inl (fun _ => 0))), (g 6, .inl (cy 0, 240, .inl (fun _ => 0))), (g 7, .inl (cy 0, 3, .inl (fun _ => 0)))] H := hP
    have hD : va_D A [(g 0, .inr (8, xF g)), (g 9, .inl (cy 4, 3, .inr (.inr (.inr (.inr (va_up (va_up (va_up (fun _ => none) 0 (some (g 10))) 1 (some (g 15))) 2 (some (g 20)))))))), (g 10, .inr (0, [.int 0, .int 0, .int 0, .int 0, .int 0, .int 0, .ref (g 11), .ref (g 12), .ref (g 13), .ref (g 14)])), (g 11, .inl (cy 0, 28, .inl (fun _ => 0))), (g 12, .inl (cy 0, 36, .inl (fun _ => 0))), (g 13, .inl (cy 0, 240, .inl (fun _ => 0))), (g 14, .inl (cy 0, 3, .inl (fun _ => 0))), (g 15, .inr (0, [.int 0, .int 0, .int 0, .int 0, .int 0, .int 0, .ref (g 16), .ref (g 17), .ref (g 18), .ref (g 19)])), (g 16, .inl (cy 0, 28, .inl (fun _ => 0))), (g 17, .inl (cy 0, 36, .inl (fun _ => 0))), (g 18, .inl (cy 0, 240, .inl (fun _ => 0))), (g 19, .inl (cy 0, 3, .inl (fun _ => 0))), (g 25, .inl (cy 0, 3, .inl (upd (fun _ => 0) 2 1))), (g 20, .inr (0, [.int 0, .int 0, .int 0, .int 0, .int 0, .int 0, .ref (g 21), .ref (g 22), .ref (g 23), .ref (g 24)])), (g 21, .inl (cy 0, 28, .inl (fun _ => 0))), (g 22, .inl (cy 0, 36, .inl (fun _ => 0))), (g 23, .inl (cy 0, 240, .inl (fun _ => 0))), (g 24, .inl (cy 0, 3, .inl (fun _ => 0))), (g 3, .inr (0, [.int 0, .int 0, .int 0, .int 0, .int 0, .int 0, .ref (g 4), .ref (g 5), .ref (g 6), .ref (g 7)])), (g 4, .inl (cy 0, 28, .inl (fun _ => 0))), (g 5, .inl (cy 0, 36, .inl (fun _ => 0))), (g 6, .inl (cy 0, 240, .inl (fun _ => 0))), (g 7, .inl (cy 0, 3, .inl (fun _ => 0)))] := hD
    refine lv_iconst (v := 0) hx hb dX8_keep_32 (by decide) ?_
    have hP9 := hP.sub (ws' := []) [] rfl
    have hD9 := hD.sub (ws' := []) [] (by decide) rfl
    exact W.iret (v := 0) hx hb hr (fun tS ht hW => ⟨⟨0, (), rfl, (by have z322 : (2 : Int32).toInt = 2 := (by decide); unfold sp_keep; (repeat' split) <;> first | rfl | (exfalso; omega)), by rw [ht]; exact hP9, va_K.moved hW.alike hK, hD9⟩, hS.F ht⟩) hS.2.2 dX8_keep_33
  ·
    refine lv_iload_n hx hb dX8_keep_0 rfl (lv_at hl 1 rfl) ?_
    refine lv_if_lt (tgt := 9) hx hb dX8_keep_1 (by decide) (fun c_5 => ?_) (fun c_5 => ?_)
    ·
      refine lv_bipush (v := (-2)) hx hb dX8_keep_9 (by decide) ?_
      have hP9 := hP.sub (ws' := []) [] rfl
      have hD9 := hD.sub (ws' := []) [] (by decide) rfl
      exact W.iret (v := (-2)) hx hb hr (fun tS ht hW => ⟨⟨(-2), (), rfl, (by have f0 := hs_1; have f1 := plt32 c_5; have z320 : (0 : Int32).toInt = 0 := (by decide); unfold sp_keep; (repeat' split) <;> first | rfl | (exfalso; omega)), by rw [ht]; exact hP9, va_K.moved hW.alike hK, hD9⟩, hS.F ht⟩) hS.2.2 dX8_keep_11
    ·
      refine lv_iload_n hx hb dX8_keep_4 rfl (lv_at hl 1 rfl) ?_
      refine lv_iconst (v := 3) hx hb dX8_keep_5 (by decide) ?_
      refine lv_icmp_lt (tgt := 12) hx hb dX8_keep_6 (by decide) (fun c_6 => ?_) (fun c_6 => ?_)
      ·
        exact False.elim (by have f0 := hs_1; have f1 := nlt32 c_5; have f2 := plt32 c_6; have z320 : (0 : Int32).toInt = 0 := (by decide); have z323 : (3 : Int32).toInt = 3 := (by decide); omega)
      ·
        refine lv_bipush (v := (-2)) hx hb dX8_keep_9 (by decide) ?_
        have hP9 := hP.sub (ws' := []) [] rfl
        have hD9 := hD.sub (ws' := []) [] (by decide) rfl
        exact W.iret (v := (-2)) hx hb hr (fun tS ht hW => ⟨⟨(-2), (), rfl, (by have f0 := hs_1; have f1 := nlt32 c_5; have f2 := nlt32 c_6; have z320 : (0 : Int32).toInt = 0 := (by decide); have z323 : (3 : Int32).toInt = 3 := (by decide); unfold sp_keep; (repeat' split) <;> first | rfl | (exfalso; omega)), by rw [ht]; exact hP9, va_K.moved hW.alike hK, hD9⟩, hS.F ht⟩) hS.2.2 dX8_keep_11

theorem q1339 : Cond.code yX8_write cX8_write 5 (some .int) ∈ lw_g := lw_gm (List.mem_of_getElem? (i := 1339) (by decide +kernel)) rfl
theorem dX8_write_0 : decode cX8_write 0 = .ok (.iload_n 1, 1) := by decide +kernel
theorem dX8_write_1 : decode cX8_write 1 = .ok (.invokestatic 360, 3) := by decide +kernel
theorem dX8_write_4 : decode cX8_write 4 = .ok (.ifCond .ne 6, 3) := by decide +kernel
theorem dX8_write_7 : decode cX8_write 7 = .ok (.bipush (-2), 2) := by decide +kernel
theorem dX8_write_9 : decode cX8_write 9 = .ok (.ireturn, 1) := by decide +kernel
theorem dX8_write_10 : decode cX8_write 10 = .ok (.aload_n 0, 1) := by decide +kernel
theorem dX8_write_11 : decode cX8_write 11 = .ok (.getfield 36, 3) := by decide +kernel
theorem dX8_write_14 : decode cX8_write 14 = .ok (.iload_n 1, 1) := by decide +kernel
theorem dX8_write_15 : decode cX8_write 15 = .ok (.aaload, 1) := by decide +kernel
theorem dX8_write_16 : decode cX8_write 16 = .ok (.getfield 123, 3) := by decide +kernel
theorem dX8_write_19 : decode cX8_write 19 = .ok (.ifCond .ne 6, 3) := by decide +kernel
theorem dX8_write_22 : decode cX8_write 22 = .ok (.bipush (-6), 2) := by decide +kernel
theorem dX8_write_24 : decode cX8_write 24 = .ok (.ireturn, 1) := by decide +kernel
set_option maxHeartbeats 4000000 in
set_option maxRecDepth 100000 in
theorem c_X8_write (l : Launch) (D : va_G) (cy : Nat → ClassId) (g : Nat → Nat) (p1 : Int32) (p2 : Int32) (v : Int64) (sz : Nat) : Met l yX8_write (ww yX8_write cX8_write 5 (some .int)) ({ frames := 2, cells := 0, slots := 0, locals := 128 }) (va_Pc [.ref (g 0), .int p1, .int p2, .long v] (pre D cy [(g 0, .inr (8, xF g)), (g 26, .inl (cy 5, 4, .inr (.inr (.inr (.inr (va_up (va_up (va_up (va_up (fun _ => none) 0 (some (g 27))) 1 (some (g 29))) 2 (some (g 31))) 3 (some (g 33)))))))), (g 27, .inr (5, [.int 0, .int 0, .int 0, .ref (g 28)])), (g 29, .inr (5, [.int 0, .int 0, .int 0, .ref (g 30)])), (g 31, .inr (5, [.int 0, .int 0, .int 0, .ref (g 32)])), (g 33, .inr (5, [.int 0, .int 0, .int 0, .ref (g 34)]))] sz)) (qi D cy (va_A [(g 0, .inr (8, xF g)), (g 26, .inl (cy 5, 4, .inr (.inr (.inr (.inr (va_up (va_up (va_up (va_up (fun _ => none) 0 (some (g 27))) 1 (some (g 29))) 2 (some (g 31))) 3 (some (g 33)))))))), (g 27, .inr (5, [.int 0, .int 0, .int 0, .ref (g 28)])), (g 29, .inr (5, [.int 0, .int 0, .int 0, .ref (g 30)])), (g 31, .inr (5, [.int 0, .int 0, .int 0, .ref (g 32)])), (g 33, .inr (5, [.int 0, .int 0, .int 0, .ref (g 34)]))] sz) (fun (r : Int32) (_ : Unit) => r = sp_write p1) (fun (_ : Unit) => [(g 0, .inr (8, xF g)), (g 26, .inl (cy 5, 4, .inr (.inr (.inr (.inr (va_up (va_up (va_up (va_up (fun _ => none) 0 (some (g 27))) 1 (some (g 29))) 2 (some (g 31))) 3 (some (g 33)))))))), (g 27, .inr (5, [.int 0, .int 0, .int 0, .ref (g 28)])), (g 29, .inr (5, [.int 0, .int 0, .int 0, .ref (g 30)])), (g 31, .inr (5, [.int 0, .int 0, .int 0, .ref (g 32)])), (g 33, .inr (5, [.int 0, .int 0, .int 0, .ref (g 34)]))])) 0 0 (va_A [(g 0, .inr (8, xF g)), (g 26, .inl (cy 5, 4, .inr (.inr (.inr (.inr (va_up (va_up (va_up (va_up (fun _ => none) 0 (some (g 27))) 1 (some (g 29))) 2 (some (g 31))) 3 (some (g 33)))))))), (g 27, .inr (5, [.int 0, .int 0, .int 0, .ref (g 28)])), (g 29, .inr (5, [.int 0, .int 0, .int 0, .ref (g 30)])), (g 31, .inr (5, [.int 0, .int 0, .int 0, .ref (g 32)])), (g 33, .inr (5, [.int 0, .int 0, .int 0, .ref (g 34)]))] sz) := by
  refine Met.ofW (cc := cX8_write) (maxL := 5) (ret := (some .int)) (by decide) rfl ?_
  intro p e s m args below meth c s₁ B hml hv
  obtain ⟨rfl, hsz, hP, hK, hD0⟩ := hv
  have hx := B.exec
  have hb := B.bytes
  have hr := B.returns
  have hts := hts_g (atoms_spec (ws := ww yX8_write cX8_write 5 (some .int)) B.pre)
  have hown : s.vm.findClass RX8 = some m.cls := findClass_of_methodNamed B.named
  have hlocks := B.notSynchronized
  subst hsz
  have hD := hD0.self (sz := s.heap.size)
  generalize hAe : va_A [(g 0, .inr (8, xF g)), (g 26, .inl (cy 5, 4, .inr (.inr (.inr (.inr (va_up (va_up (va_up (va_up (fun _ => none) 0 (some (g 27))) 1 (some (g 29))) 2 (some (g 31))) 3 (some (g 33)))))))), (g 27, .inr (5, [.int 0, .int 0, .int 0, .ref (g 28)])), (g 29, .inr (5, [.int 0, .int 0, .int 0, .ref (g 30)])), (g 31, .inr (5, [.int 0, .int 0, .int 0, .ref (g 32)])), (g 33, .inr (5, [.int 0, .int 0, .int 0, .ref (g 34)]))] s.heap.size = A at hD ⊢
  have hA : ∀ q : Nat, s.heap.size ≤ q → A q := fun q h => by rw [← hAe]; exact Or.inr h
  have hS : va_S A s.heap s.heap [] := va_S.rf
  have hl := lv_entry ([.ref (g 0), .int p1, .int p2, .long v]) (n := 5) (Nat.le_of_ble_eq_true rfl)
  rw [lg_entry_eq]
  generalize (lg_sl ([.ref (g 0), .int p1, .int p2, .long v]) ++ List.replicate (5 - (lg_sl ([.ref (g 0), .int p1, .int p2, .long v])).length) Slot.unset).toArray = ls at hl ⊢
  have hl : lv_has ls 5 [(0, .ref (g 0)), (1, .int p1), (2, .int p2), (3, .long v)] := hl
  rcases sp4 p1 with rfl | rfl | rfl | rfl | hs_1
  ·
    refine lv_iload_n hx hb dX8_write_0 rfl (lv_at hl 1 rfl) ?_
    have hPc := hP.sub (ws' := []) [] rfl
    have hDc := hD.sub (ws' := []) [] (by decide) rfl
    have hFc := va_free (wc := []) hD hS hA [] rfl
    refine va_calli (va_runS (As := [.int 0]) (rest := []) ⟨hx, hb, hml, hown, hts⟩ (c_X8_isSlot l D cy 0 s.heap.size) (va_cwS 1 hts (gd_S q1267 q1268 q125 q1269) rfl rfl rfl (by decide +kernel) ⟨Nat.le_of_ble_eq_true rfl, Nat.le_of_ble_eq_true rfl⟩) (pr_S hPc hK hDc) rfl rfl hl.1 rfl (lv_room (Nat.le_of_ble_eq_true rfl)) dX8_write_1 ⟨Nat.le_of_ble_eq_true rfl, Nat.le_of_ble_eq_true rfl⟩) hS (fun q _ h => hFc q h) hFc (fun r_2 u tS H1 locs ht hvm hw hB hz1 hk1 hS => ?_)
    obtain ⟨hP1, hK1, hD1⟩ := hB
    rw [ht] at hP1
    try dsimp only at hw
    obtain ⟨hP, hD⟩ := va_join (wr := [(g 0, .inr (8, xF g)), (g 26, .inl (cy 5, 4, .inr (.inr (.inr (.inr (va_up (va_up (va_up (va_up (fun _ => none) 0 (some (g 27))) 1 (some (g 29))) 2 (some (g 31))) 3 (some (g 33)))))))), (g 27, .inr (5, [.int 0, .int 0, .int 0, .ref (g 28)])), (g 29, .inr (5, [.int 0, .int 0, .int 0, .ref (g 30)])), (g 31, .inr (5, [.int 0, .int 0, .int 0, .ref (g 32)])), (g 33, .inr (5, [.int 0, .int 0, .int 0, .ref (g 34)]))]) (w1 := []) hP hD [] [0, 1, 2, 3, 4, 5] rfl rfl (by decide) (by decide) hk1 hFc hP1 hD1
    generalize H1 = H at hP hS ⊢
    have hP : va_P D clz [(g 0, .inr (8, xF g)), (g 26, .inl (cy 5, 4, .inr (.inr (.inr (.inr (va_up (va_up (va_up (va_up (fun _ => none) 0 (some (g 27))) 1 (some (g 29))) 2 (some (g 31))) 3 (some (g 33)))))))), (g 27, .inr (5, [.int 0, .int 0, .int 0, .ref (g 28)])), (g 29, .inr (5, [.int 0, .int 0, .int 0, .ref (g 30)])), (g 31, .inr (5, [.int 0, .int 0, .int 0, .ref (g 32)])), (g 33, .inr (5, [.int 0, .int 0, .int 0, .ref (g 34)]))] H := hP
    have hD : va_D A [(g 0, .inr (8, xF g)), (g 26, .inl (cy 5, 4, .inr (.inr (.inr (.inr (va_up (va_up (va_up (va_up (fun _ => none) 0 (some (g 27))) 1 (some (g 29))) 2 (some (g 31))) 3 (some (g 33)))))))), (g 27, .inr (5, [.int 0, .int 0, .int 0, .ref (g 28)])), (g 29, .inr (5, [.int 0, .int 0, .int 0, .ref (g 30)])), (g 31, .inr (5, [.int 0, .int 0, .int 0, .ref (g 32)])), (g 33, .inr (5, [.int 0, .int 0, .int 0, .ref (g 34)]))] := hD
    by_cases hc_3 : ((0 : Int32) ≤ (0 : Int32) ∧ (0 : Int32) ≤ (3 : Int32))
    ·
      rw [if_pos hc_3] at hw
      subst hw
      refine lv_if_ne (tgt := 10) hx hb dX8_write_4 (by decide) (fun _ => ?_) (fun c9 => absurd c9 (by decide))
      refine lv_aload_n hx hb dX8_write_10 rfl (lv_at hl 0 rfl) ?_
      refine va_get (D := D) (ci := 8) (v := .ref (g 26)) (C := RX8) (T := TX8) (N := 12) hx hb hts iX8 hown hK hP 0 rfl rfl 5 (by decide) (hts _ q439) (fun _ h9 => h9) rfl dX8_write_11 ?_
      refine lv_iload_n hx hb dX8_write_14 rfl (lv_at hl 1 rfl) ?_
      refine va_aldq hx hb hK hP 1 5 rfl rfl (vpi (by decide)) dX8_write_15 ?_
      refine W.eq (g2 := F0 m 16 ls [.ref (g 27)]) rfl ?_
      refine va_get (D := D) (ci := 5) (v := .int 0) (C := RX5) (T := TX5) (N := 4) hx hb hts iX5 hown hK hP 2 rfl rfl 0 (by decide) (hts _ q417) (fun _ h9 => h9) rfl dX8_write_16 ?_
      refine lv_if_ne (tgt := 25) hx hb dX8_write_19 (by decide) (fun c9 => absurd c9 (by decide)) (fun _ => ?_)
      refine lv_bipush (v := (-6)) hx hb dX8_write_22 (by decide) ?_
      have hP9 := hP.sub (ws' := [(g 0, .inr (8, xF g)), (g 26, .inl (cy 5, 4, .inr (.inr (.inr (.inr (va_up (va_up (va_up (va_up (fun _ => none) 0 (some (g 27))) 1 (some (g 29))) 2 (some (g 31))) 3 (some (g 33)))))))), (g 27, .inr (5, [.int 0, .int 0, .int 0, .ref (g 28)])), (g 29, .inr (5, [.int 0, .int 0, .int 0, .ref (g 30)])), (g 31, .inr (5, [.int 0, .int 0, .int 0, .ref (g 32)])), (g 33, .inr (5, [.int 0, .int 0, .int 0, .ref (g 34)]))]) [0, 1, 2, 3, 4, 5] rfl
      have hD9 := hD.sub (ws' := [(g 0, .inr (8, xF g)), (g 26, .inl (cy 5, 4, .inr (.inr (.inr (.inr (va_up (va_up (va_up (va_up (fun _ => none) 0 (some (g 27))) 1 (some (g 29))) 2 (some (g 31))) 3 (some (g 33)))))))), (g 27, .inr (5, [.int 0, .int 0, .int 0, .ref (g 28)])), (g 29, .inr (5, [.int 0, .int 0, .int 0, .ref (g 30)])), (g 31, .inr (5, [.int 0, .int 0, .int 0, .ref (g 32)])), (g 33, .inr (5, [.int 0, .int 0, .int 0, .ref (g 34)]))]) [0, 1, 2, 3, 4, 5] (by decide) rfl
      exact W.iret (v := (-6)) hx hb hr (fun tS ht hW => ⟨⟨(-6), (), rfl, (by have f0 := bp32 hc_3; have z320 : (0 : Int32).toInt = 0 := (by decide); have z323 : (3 : Int32).toInt = 3 := (by decide); unfold sp_write; (repeat' split) <;> first | rfl | (exfalso; omega)), by rw [ht]; exact hP9, va_K.moved hW.alike hK, hD9⟩, hS.F ht⟩) hS.2.2 dX8_write_24
    ·
      rw [if_neg hc_3] at hw
      subst hw
      exact False.elim (by have f0 := bn32 hc_3; have z320 : (0 : Int32).toInt = 0 := (by decide); have z323 : (3 : Int32).toInt = 3 := (by decide); omega)
  ·
    refine lv_iload_n hx hb dX8_write_0 rfl (lv_at hl 1 rfl) ?_
    have hPc := hP.sub (ws' := []) [] rfl
    have hDc := hD.sub (ws' := []) [] (by decide) rfl
    have hFc := va_free (wc := []) hD hS hA [] rfl
    refine va_calli (va_runS (As := [.int 1]) (rest := []) ⟨hx, hb, hml, hown, hts⟩ (c_X8_isSlot l D cy 1 s.heap.size) (va_cwS 1 hts (gd_S q1267 q1268 q125 q1269) rfl rfl rfl (by decide +kernel) ⟨Nat.le_of_ble_eq_true rfl, Nat.le_of_ble_eq_true rfl⟩) (pr_S hPc hK hDc) rfl rfl hl.1 rfl (lv_room (Nat.le_of_ble_eq_true rfl)) dX8_write_1 ⟨Nat.le_of_ble_eq_true rfl, Nat.le_of_ble_eq_true rfl⟩) hS (fun q _ h => hFc q h) hFc (fun r_4 u tS H1 locs ht hvm hw hB hz1 hk1 hS => ?_)
    obtain ⟨hP1, hK1, hD1⟩ := hB
    rw [ht] at hP1
    try dsimp only at hw
    obtain ⟨hP, hD⟩ := va_join (wr := [(g 0, .inr (8, xF g)), (g 26, .inl (cy 5, 4, .inr (.inr (.inr (.inr (va_up (va_up (va_up (va_up (fun _ => none) 0 (some (g 27))) 1 (some (g 29))) 2 (some (g 31))) 3 (some (g 33)))))))), (g 27, .inr (5, [.int 0, .int 0, .int 0, .ref (g 28)])), (g 29, .inr (5, [.int 0, .int 0, .int 0, .ref (g 30)])), (g 31, .inr (5, [.int 0, .int 0, .int 0, .ref (g 32)])), (g 33, .inr (5, [.int 0, .int 0, .int 0, .ref (g 34)]))]) (w1 := []) hP hD [] [0, 1, 2, 3, 4, 5] rfl rfl (by decide) (by decide) hk1 hFc hP1 hD1
    generalize H1 = H at hP hS ⊢
    have hP : va_P D clz [(g 0, .inr (8, xF g)), (g 26, .inl (cy 5, 4, .inr (.inr (.inr (.inr (va_up (va_up (va_up (va_up (fun _ => none) 0 (some (g 27))) 1 (some (g 29))) 2 (some (g 31))) 3 (some (g 33)))))))), (g 27, .inr (5, [.int 0, .int 0, .int 0, .ref (g 28)])), (g 29, .inr (5, [.int 0, .int 0, .int 0, .ref (g 30)])), (g 31, .inr (5, [.int 0, .int 0, .int 0, .ref (g 32)])), (g 33, .inr (5, [.int 0, .int 0, .int 0, .ref (g 34)]))] H := hP
    have hD : va_D A [(g 0, .inr (8, xF g)), (g 26, .inl (cy 5, 4, .inr (.inr (.inr (.inr (va_up (va_up (va_up (va_up (fun _ => none) 0 (some (g 27))) 1 (some (g 29))) 2 (some (g 31))) 3 (some (g 33)))))))), (g 27, .inr (5, [.int 0, .int 0, .int 0, .ref (g 28)])), (g 29, .inr (5, [.int 0, .int 0, .int 0, .ref (g 30)])), (g 31, .inr (5, [.int 0, .int 0, .int 0, .ref (g 32)])), (g 33, .inr (5, [.int 0, .int 0, .int 0, .ref (g 34)]))] := hD
    by_cases hc_5 : ((0 : Int32) ≤ (1 : Int32) ∧ (1 : Int32) ≤ (3 : Int32))
    ·
      rw [if_pos hc_5] at hw
      subst hw
      refine lv_if_ne (tgt := 10) hx hb dX8_write_4 (by decide) (fun _ => ?_) (fun c9 => absurd c9 (by decide))
      refine lv_aload_n hx hb dX8_write_10 rfl (lv_at hl 0 rfl) ?_
      refine va_get (D := D) (ci := 8) (v := .ref (g 26)) (C := RX8) (T := TX8) (N := 12) hx hb hts iX8 hown hK hP 0 rfl rfl 5 (by decide) (hts _ q439) (fun _ h9 => h9) rfl dX8_write_11 ?_
      refine lv_iload_n hx hb dX8_write_14 rfl (lv_at hl 1 rfl) ?_
      refine va_aldq hx hb hK hP 1 5 rfl rfl (vpi (by decide)) dX8_write_15 ?_
      refine W.eq (g2 := F0 m 16 ls [.ref (g 29)]) rfl ?_
      refine va_get (D := D) (ci := 5) (v := .int 0) (C := RX5) (T := TX5) (N := 4) hx hb hts iX5 hown hK hP 3 rfl rfl 0 (by decide) (hts _ q417) (fun _ h9 => h9) rfl dX8_write_16 ?_
      refine lv_if_ne (tgt := 25) hx hb dX8_write_19 (by decide) (fun c9 => absurd c9 (by decide)) (fun _ => ?_)
      refine lv_bipush (v := (-6)) hx hb dX8_write_22 (by decide) ?_
      have hP9 := hP.sub (ws' := [(g 0, .inr (8, xF g)), (g 26, .inl (cy 5, 4, .inr (.inr (.inr (.inr (va_up (va_up (va_up (va_up (fun _ => none) 0 (some (g 27))) 1 (some (g 29))) 2 (some (g 31))) 3 (some (g 33)))))))), (g 27, .inr (5, [.int 0, .int 0, .int 0, .ref (g 28)])), (g 29, .inr (5, [.int 0, .int 0, .int 0, .ref (g 30)])), (g 31, .inr (5, [.int 0, .int 0, .int 0, .ref (g 32)])), (g 33, .inr (5, [.int 0, .int 0, .int 0, .ref (g 34)]))]) [0, 1, 2, 3, 4, 5] rfl
      have hD9 := hD.sub (ws' := [(g 0, .inr (8, xF g)), (g 26, .inl (cy 5, 4, .inr (.inr (.inr (.inr (va_up (va_up (va_up (va_up (fun _ => none) 0 (some (g 27))) 1 (some (g 29))) 2 (some (g 31))) 3 (some (g 33)))))))), (g 27, .inr (5, [.int 0, .int 0, .int 0, .ref (g 28)])), (g 29, .inr (5, [.int 0, .int 0, .int 0, .ref (g 30)])), (g 31, .inr (5, [.int 0, .int 0, .int 0, .ref (g 32)])), (g 33, .inr (5, [.int 0, .int 0, .int 0, .ref (g 34)]))]) [0, 1, 2, 3, 4, 5] (by decide) rfl
      exact W.iret (v := (-6)) hx hb hr (fun tS ht hW => ⟨⟨(-6), (), rfl, (by have f0 := bp32 hc_5; have z320 : (0 : Int32).toInt = 0 := (by decide); have z321 : (1 : Int32).toInt = 1 := (by decide); have z323 : (3 : Int32).toInt = 3 := (by decide); unfold sp_write; (repeat' split) <;> first | rfl | (exfalso; omega)), by rw [ht]; exact hP9, va_K.moved hW.alike hK, hD9⟩, hS.F ht⟩) hS.2.2 dX8_write_24
    ·
      rw [if_neg hc_5] at hw
      subst hw
      exact False.elim (by have f0 := bn32 hc_5; have z320 : (0 : Int32).toInt = 0 := (by decide); have z321 : (1 : Int32).toInt = 1 := (by decide); have z323 : (3 : Int32).toInt = 3 := (by decide); omega)
  ·
    refine lv_iload_n hx hb dX8_write_0 rfl (lv_at hl 1 rfl) ?_
    have hPc := hP.sub (ws' := []) [] rfl
    have hDc := hD.sub (ws' := []) [] (by decide) rfl
    have hFc := va_free (wc := []) hD hS hA [] rfl
    refine va_calli (va_runS (As := [.int 2]) (rest := []) ⟨hx, hb, hml, hown, hts⟩ (c_X8_isSlot l D cy 2 s.heap.size) (va_cwS 1 hts (gd_S q1267 q1268 q125 q1269) rfl rfl rfl (by decide +kernel) ⟨Nat.le_of_ble_eq_true rfl, Nat.le_of_ble_eq_true rfl⟩) (pr_S hPc hK hDc) rfl rfl hl.1 rfl (lv_room (Nat.le_of_ble_eq_true rfl)) dX8_write_1 ⟨Nat.le_of_ble_eq_true rfl, Nat.le_of_ble_eq_true rfl⟩) hS (fun q _ h => hFc q h) hFc (fun r_6 u tS H1 locs ht hvm hw hB hz1 hk1 hS => ?_)
    obtain ⟨hP1, hK1, hD1⟩ := hB
    rw [ht] at hP1
    try dsimp only at hw
    obtain ⟨hP, hD⟩ := va_join (wr := [(g 0, .inr (8, xF g)), (g 26, .inl (cy 5, 4, .inr (.inr (.inr (.inr (va_up (va_up (va_up (va_up (fun _ => none) 0 (some (g 27))) 1 (some (g 29))) 2 (some (g 31))) 3 (some (g 33)))))))), (g 27, .inr (5, [.int 0, .int 0, .int 0, .ref (g 28)])), (g 29, .inr (5, [.int 0, .int 0, .int 0, .ref (g 30)])), (g 31, .inr (5, [.int 0, .int 0, .int 0, .ref (g 32)])), (g 33, .inr (5, [.int 0, .int 0, .int 0, .ref (g 34)]))]) (w1 := []) hP hD [] [0, 1, 2, 3, 4, 5] rfl rfl (by decide) (by decide) hk1 hFc hP1 hD1
    generalize H1 = H at hP hS ⊢
    have hP : va_P D clz [(g 0, .inr (8, xF g)), (g 26, .inl (cy 5, 4, .inr (.inr (.inr (.inr (va_up (va_up (va_up (va_up (fun _ => none) 0 (some (g 27))) 1 (some (g 29))) 2 (some (g 31))) 3 (some (g 33)))))))), (g 27, .inr (5, [.int 0, .int 0, .int 0, .ref (g 28)])), (g 29, .inr (5, [.int 0, .int 0, .int 0, .ref (g 30)])), (g 31, .inr (5, [.int 0, .int 0, .int 0, .ref (g 32)])), (g 33, .inr (5, [.int 0, .int 0, .int 0, .ref (g 34)]))] H := hP
    have hD : va_D A [(g 0, .inr (8, xF g)), (g 26, .inl (cy 5, 4, .inr (.inr (.inr (.inr (va_up (va_up (va_up (va_up (fun _ => none) 0 (some (g 27))) 1 (some (g 29))) 2 (some (g 31))) 3 (some (g 33)))))))), (g 27, .inr (5, [.int 0, .int 0, .int 0, .ref (g 28)])), (g 29, .inr (5, [.int 0, .int 0, .int 0, .ref (g 30)])), (g 31, .inr (5, [.int 0, .int 0, .int 0, .ref (g 32)])), (g 33, .inr (5, [.int 0, .int 0, .int 0, .ref (g 34)]))] := hD
    by_cases hc_7 : ((0 : Int32) ≤ (2 : Int32) ∧ (2 : Int32) ≤ (3 : Int32))
    ·
      rw [if_pos hc_7] at hw
      subst hw
      refine lv_if_ne (tgt := 10) hx hb dX8_write_4 (by decide) (fun _ => ?_) (fun c9 => absurd c9 (by decide))
      refine lv_aload_n hx hb dX8_write_10 rfl (lv_at hl 0 rfl) ?_
      refine va_get (D := D) (ci := 8) (v := .ref (g 26)) (C := RX8) (T := TX8) (N := 12) hx hb hts iX8 hown hK hP 0 rfl rfl 5 (by decide) (hts _ q439) (fun _ h9 => h9) rfl dX8_write_11 ?_
      refine lv_iload_n hx hb dX8_write_14 rfl (lv_at hl 1 rfl) ?_
      refine va_aldq hx hb hK hP 1 5 rfl rfl (vpi (by decide)) dX8_write_15 ?_
      refine W.eq (g2 := F0 m 16 ls [.ref (g 31)]) rfl ?_
      refine va_get (D := D) (ci := 5) (v := .int 0) (C := RX5) (T := TX5) (N := 4) hx hb hts iX5 hown hK hP 4 rfl rfl 0 (by decide) (hts _ q417) (fun _ h9 => h9) rfl dX8_write_16 ?_
      refine lv_if_ne (tgt := 25) hx hb dX8_write_19 (by decide) (fun c9 => absurd c9 (by decide)) (fun _ => ?_)
      refine lv_bipush (v := (-6)) hx hb dX8_write_22 (by decide) ?_
      have hP9 := hP.sub (ws' := [(g 0, .inr (8, xF g)), (g 26, .inl (cy 5, 4, .inr (.inr (.inr (.inr (va_up (va_up (va_up (va_up (fun _ => none) 0 (some (g 27))) 1 (some (g 29))) 2 (some (g 31))) 3 (some (g 33)))))))), (g 27, .inr (5, [.int 0, .int 0, .int 0, .ref (g 28)])), (g 29, .inr (5, [.int 0, .int 0, .int 0, .ref (g 30)])), (g 31, .inr (5, [.int 0, .int 0, .int 0, .ref (g 32)])), (g 33, .inr (5, [.int 0, .int 0, .int 0, .ref (g 34)]))]) [0, 1, 2, 3, 4, 5] rfl
      have hD9 := hD.sub (ws' := [(g 0, .inr (8, xF g)), (g 26, .inl (cy 5, 4, .inr (.inr (.inr (.inr (va_up (va_up (va_up (va_up (fun _ => none) 0 (some (g 27))) 1 (some (g 29))) 2 (some (g 31))) 3 (some (g 33)))))))), (g 27, .inr (5, [.int 0, .int 0, .int 0, .ref (g 28)])), (g 29, .inr (5, [.int 0, .int 0, .int 0, .ref (g 30)])), (g 31, .inr (5, [.int 0, .int 0, .int 0, .ref (g 32)])), (g 33, .inr (5, [.int 0, .int 0, .int 0, .ref (g 34)]))]) [0, 1, 2, 3, 4, 5] (by decide) rfl
      exact W.iret (v := (-6)) hx hb hr (fun tS ht hW => ⟨⟨(-6), (), rfl, (by have f0 := bp32 hc_7; have z320 : (0 : Int32).toInt = 0 := (by decide); have z322 : (2 : Int32).toInt = 2 := (by decide); have z323 : (3 : Int32).toInt = 3 := (by decide); unfold sp_write; (repeat' split) <;> first | rfl | (exfalso; omega)), by rw [ht]; exact hP9, va_K.moved hW.alike hK, hD9⟩, hS.F ht⟩) hS.2.2 dX8_write_24
    ·
      rw [if_neg hc_7] at hw
      subst hw
      exact False.elim (by have f0 := bn32 hc_7; have z320 : (0 : Int32).toInt = 0 := (by decide); have z322 : (2 : Int32).toInt = 2 := (by decide); have z323 : (3 : Int32).toInt = 3 := (by decide); omega)
  ·
    refine lv_iload_n hx hb dX8_write_0 rfl (lv_at hl 1 rfl) ?_
    have hPc := hP.sub (ws' := []) [] rfl
    have hDc := hD.sub (ws' := []) [] (by decide) rfl
    have hFc := va_free (wc := []) hD hS hA [] rfl
    refine va_calli (va_runS (As := [.int 3]) (rest := []) ⟨hx, hb, hml, hown, hts⟩ (c_X8_isSlot l D cy 3 s.heap.size) (va_cwS 1 hts (gd_S q1267 q1268 q125 q1269) rfl rfl rfl (by decide +kernel) ⟨Nat.le_of_ble_eq_true rfl, Nat.le_of_ble_eq_true rfl⟩) (pr_S hPc hK hDc) rfl rfl hl.1 rfl (lv_room (Nat.le_of_ble_eq_true rfl)) dX8_write_1 ⟨Nat.le_of_ble_eq_true rfl, Nat.le_of_ble_eq_true rfl⟩) hS (fun q _ h => hFc q h) hFc (fun r_8 u tS H1 locs ht hvm hw hB hz1 hk1 hS => ?_)
    obtain ⟨hP1, hK1, hD1⟩ := hB
    rw [ht] at hP1
    try dsimp only at hw
    obtain ⟨hP, hD⟩ := va_join (wr := [(g 0, .inr (8, xF g)), (g 26, .inl (cy 5, 4, .inr (.inr (.inr (.inr (va_up (va_up (va_up (va_up (fun _ => none) 0 (some (g 27))) 1 (some (g 29))) 2 (some (g 31))) 3 (some (g 33)))))))), (g 27, .inr (5, [.int 0, .int 0, .int 0, .ref (g 28)])), (g 29, .inr (5, [.int 0, .int 0, .int 0, .ref (g 30)])), (g 31, .inr (5, [.int 0, .int 0, .int 0, .ref (g 32)])), (g 33, .inr (5, [.int 0, .int 0, .int 0, .ref (g 34)]))]) (w1 := []) hP hD [] [0, 1, 2, 3, 4, 5] rfl rfl (by decide) (by decide) hk1 hFc hP1 hD1
    generalize H1 = H at hP hS ⊢
    have hP : va_P D clz [(g 0, .inr (8, xF g)), (g 26, .inl (cy 5, 4, .inr (.inr (.inr (.inr (va_up (va_up (va_up (va_up (fun _ => none) 0 (some (g 27))) 1 (some (g 29))) 2 (some (g 31))) 3 (some (g 33)))))))), (g 27, .inr (5, [.int 0, .int 0, .int 0, .ref (g 28)])), (g 29, .inr (5, [.int 0, .int 0, .int 0, .ref (g 30)])), (g 31, .inr (5, [.int 0, .int 0, .int 0, .ref (g 32)])), (g 33, .inr (5, [.int 0, .int 0, .int 0, .ref (g 34)]))] H := hP
    have hD : va_D A [(g 0, .inr (8, xF g)), (g 26, .inl (cy 5, 4, .inr (.inr (.inr (.inr (va_up (va_up (va_up (va_up (fun _ => none) 0 (some (g 27))) 1 (some (g 29))) 2 (some (g 31))) 3 (some (g 33)))))))), (g 27, .inr (5, [.int 0, .int 0, .int 0, .ref (g 28)])), (g 29, .inr (5, [.int 0, .int 0, .int 0, .ref (g 30)])), (g 31, .inr (5, [.int 0, .int 0, .int 0, .ref (g 32)])), (g 33, .inr (5, [.int 0, .int 0, .int 0, .ref (g 34)]))] := hD
    by_cases hc_9 : ((0 : Int32) ≤ (3 : Int32) ∧ (3 : Int32) ≤ (3 : Int32))
    ·
      rw [if_pos hc_9] at hw
      subst hw
      refine lv_if_ne (tgt := 10) hx hb dX8_write_4 (by decide) (fun _ => ?_) (fun c9 => absurd c9 (by decide))
      refine lv_aload_n hx hb dX8_write_10 rfl (lv_at hl 0 rfl) ?_
      refine va_get (D := D) (ci := 8) (v := .ref (g 26)) (C := RX8) (T := TX8) (N := 12) hx hb hts iX8 hown hK hP 0 rfl rfl 5 (by decide) (hts _ q439) (fun _ h9 => h9) rfl dX8_write_11 ?_
      refine lv_iload_n hx hb dX8_write_14 rfl (lv_at hl 1 rfl) ?_
      refine va_aldq hx hb hK hP 1 5 rfl rfl (vpi (by decide)) dX8_write_15 ?_
      refine W.eq (g2 := F0 m 16 ls [.ref (g 33)]) rfl ?_
      refine va_get (D := D) (ci := 5) (v := .int 0) (C := RX5) (T := TX5) (N := 4) hx hb hts iX5 hown hK hP 5 rfl rfl 0 (by decide) (hts _ q417) (fun _ h9 => h9) rfl dX8_write_16 ?_
      refine lv_if_ne (tgt := 25) hx hb dX8_write_19 (by decide) (fun c9 => absurd c9 (by decide)) (fun _ => ?_)
      refine lv_bipush (v := (-6)) hx hb dX8_write_22 (by decide) ?_
      have hP9 := hP.sub (ws' := [(g 0, .inr (8, xF g)), (g 26, .inl (cy 5, 4, .inr (.inr (.inr (.inr (va_up (va_up (va_up (va_up (fun _ => none) 0 (some (g 27))) 1 (some (g 29))) 2 (some (g 31))) 3 (some (g 33)))))))), (g 27, .inr (5, [.int 0, .int 0, .int 0, .ref (g 28)])), (g 29, .inr (5, [.int 0, .int 0, .int 0, .ref (g 30)])), (g 31, .inr (5, [.int 0, .int 0, .int 0, .ref (g 32)])), (g 33, .inr (5, [.int 0, .int 0, .int 0, .ref (g 34)]))]) [0, 1, 2, 3, 4, 5] rfl
      have hD9 := hD.sub (ws' := [(g 0, .inr (8, xF g)), (g 26, .inl (cy 5, 4, .inr (.inr (.inr (.inr (va_up (va_up (va_up (va_up (fun _ => none) 0 (some (g 27))) 1 (some (g 29))) 2 (some (g 31))) 3 (some (g 33)))))))), (g 27, .inr (5, [.int 0, .int 0, .int 0, .ref (g 28)])), (g 29, .inr (5, [.int 0, .int 0, .int 0, .ref (g 30)])), (g 31, .inr (5, [.int 0, .int 0, .int 0, .ref (g 32)])), (g 33, .inr (5, [.int 0, .int 0, .int 0, .ref (g 34)]))]) [0, 1, 2, 3, 4, 5] (by decide) rfl
      exact W.iret (v := (-6)) hx hb hr (fun tS ht hW => ⟨⟨(-6), (), rfl, (by have f0 := bp32 hc_9; have z320 : (0 : Int32).toInt = 0 := (by decide); have z323 : (3 : Int32).toInt = 3 := (by decide); unfold sp_write; (repeat' split) <;> first | rfl | (exfalso; omega)), by rw [ht]; exact hP9, va_K.moved hW.alike hK, hD9⟩, hS.F ht⟩) hS.2.2 dX8_write_24
    ·
      rw [if_neg hc_9] at hw
      subst hw
      exact False.elim (by have f0 := bn32 hc_9; have z320 : (0 : Int32).toInt = 0 := (by decide); have z323 : (3 : Int32).toInt = 3 := (by decide); omega)
  ·
    refine lv_iload_n hx hb dX8_write_0 rfl (lv_at hl 1 rfl) ?_
    have hPc := hP.sub (ws' := []) [] rfl
    have hDc := hD.sub (ws' := []) [] (by decide) rfl
    have hFc := va_free (wc := []) hD hS hA [] rfl
    refine va_calli (va_runS (As := [.int p1]) (rest := []) ⟨hx, hb, hml, hown, hts⟩ (c_X8_isSlot l D cy p1 s.heap.size) (va_cwS 1 hts (gd_S q1267 q1268 q125 q1269) rfl rfl rfl (by decide +kernel) ⟨Nat.le_of_ble_eq_true rfl, Nat.le_of_ble_eq_true rfl⟩) (pr_S hPc hK hDc) rfl rfl hl.1 rfl (lv_room (Nat.le_of_ble_eq_true rfl)) dX8_write_1 ⟨Nat.le_of_ble_eq_true rfl, Nat.le_of_ble_eq_true rfl⟩) hS (fun q _ h => hFc q h) hFc (fun r_10 u tS H1 locs ht hvm hw hB hz1 hk1 hS => ?_)
    obtain ⟨hP1, hK1, hD1⟩ := hB
    rw [ht] at hP1
    try dsimp only at hw
    obtain ⟨hP, hD⟩ := va_join (wr := [(g 0, .inr (8, xF g)), (g 26, .inl (cy 5, 4, .inr (.inr (.inr (.inr (va_up (va_up (va_up (va_up (fun _ => none) 0 (some (g 27))) 1 (some (g 29))) 2 (some (g 31))) 3 (some (g 33)))))))), (g 27, .inr (5, [.int 0, .int 0, .int 0, .ref (g 28)])), (g 29, .inr (5, [.int 0, .int 0, .int 0, .ref (g 30)])), (g 31, .inr (5, [.int 0, .int 0, .int 0, .ref (g 32)])), (g 33, .inr (5, [.int 0, .int 0, .int 0, .ref (g 34)]))]) (w1 := []) hP hD [] [0, 1, 2, 3, 4, 5] rfl rfl (by decide) (by decide) hk1 hFc hP1 hD1
    generalize H1 = H at hP hS ⊢
    have hP : va_P D clz [(g 0, .inr (8, xF g)), (g 26, .inl (cy 5, 4, .inr (.inr (.inr (.inr (va_up (va_up (va_up (va_up (fun _ => none) 0 (some (g 27))) 1 (some (g 29))) 2 (some (g 31))) 3 (some (g 33)))))))), (g 27, .inr (5, [.int 0, .int 0, .int 0, .ref (g 28)])), (g 29, .inr (5, [.int 0, .int 0, .int 0, .ref (g 30)])), (g 31, .inr (5, [.int 0, .int 0, .int 0, .ref (g 32)])), (g 33, .inr (5, [.int 0, .int 0, .int 0, .ref (g 34)]))] H := hP
    have hD : va_D A [(g 0, .inr (8, xF g)), (g 26, .inl (cy 5, 4, .inr (.inr (.inr (.inr (va_up (va_up (va_up (va_up (fun _ => none) 0 (some (g 27))) 1 (some (g 29))) 2 (some (g 31))) 3 (some (g 33)))))))), (g 27, .inr (5, [.int 0, .int 0, .int 0, .ref (g 28)])), (g 29, .inr (5, [.int 0, .int 0, .int 0, .ref (g 30)])), (g 31, .inr (5, [.int 0, .int 0, .int 0, .ref (g 32)])), (g 33, .inr (5, [.int 0, .int 0, .int 0, .ref (g 34)]))] := hD
    by_cases hc_11 : ((0 : Int32) ≤ p1 ∧ p1 ≤ (3 : Int32))
    ·
      rw [if_pos hc_11] at hw
      subst hw
      exact False.elim (by have f0 := hs_1; have f1 := bp32 hc_11; have z320 : (0 : Int32).toInt = 0 := (by decide); have z323 : (3 : Int32).toInt = 3 := (by decide); omega)
    ·
      rw [if_neg hc_11] at hw
      subst hw
      refine lv_if_ne (tgt := 10) hx hb dX8_write_4 (by decide) (fun c9 => absurd c9 (by decide)) (fun _ => ?_)
      refine lv_bipush (v := (-2)) hx hb dX8_write_7 (by decide) ?_
      have hP9 := hP.sub (ws' := [(g 0, .inr (8, xF g)), (g 26, .inl (cy 5, 4, .inr (.inr (.inr (.inr (va_up (va_up (va_up (va_up (fun _ => none) 0 (some (g 27))) 1 (some (g 29))) 2 (some (g 31))) 3 (some (g 33)))))))), (g 27, .inr (5, [.int 0, .int 0, .int 0, .ref (g 28)])), (g 29, .inr (5, [.int 0, .int 0, .int 0, .ref (g 30)])), (g 31, .inr (5, [.int 0, .int 0, .int 0, .ref (g 32)])), (g 33, .inr (5, [.int 0, .int 0, .int 0, .ref (g 34)]))]) [0, 1, 2, 3, 4, 5] rfl
      have hD9 := hD.sub (ws' := [(g 0, .inr (8, xF g)), (g 26, .inl (cy 5, 4, .inr (.inr (.inr (.inr (va_up (va_up (va_up (va_up (fun _ => none) 0 (some (g 27))) 1 (some (g 29))) 2 (some (g 31))) 3 (some (g 33)))))))), (g 27, .inr (5, [.int 0, .int 0, .int 0, .ref (g 28)])), (g 29, .inr (5, [.int 0, .int 0, .int 0, .ref (g 30)])), (g 31, .inr (5, [.int 0, .int 0, .int 0, .ref (g 32)])), (g 33, .inr (5, [.int 0, .int 0, .int 0, .ref (g 34)]))]) [0, 1, 2, 3, 4, 5] (by decide) rfl
      exact W.iret (v := (-2)) hx hb hr (fun tS ht hW => ⟨⟨(-2), (), rfl, (by have f0 := hs_1; have f1 := bn32 hc_11; have z320 : (0 : Int32).toInt = 0 := (by decide); have z323 : (3 : Int32).toInt = 3 := (by decide); unfold sp_write; (repeat' split) <;> first | rfl | (exfalso; omega)), by rw [ht]; exact hP9, va_K.moved hW.alike hK, hD9⟩, hS.F ht⟩) hS.2.2 dX8_write_9

