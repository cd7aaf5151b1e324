theorem q1587 : Cond.code yX9_clears cX9_clears 2 none ∈ lw_g := lw_gm (List.mem_of_getElem? (i := 1587) (by decide +kernel)) rfl
theorem dX9_clears_0 : decode cX9_clears 0 = .ok (.aload_n 0, 1) := by decide +kernel
theorem dX9_clears_1 : decode cX9_clears 1 = .ok (.getfield 31, 3) := by decide +kernel
theorem dX9_clears_4 : decode cX9_clears 4 = .ok (.iconst 4, 1) := by decide +kernel
theorem dX9_clears_5 : decode cX9_clears 5 = .ok (.iconst 0, 1) := by decide +kernel
theorem dX9_clears_6 : decode cX9_clears 6 = .ok (.iastore, 1) := by decide +kernel
theorem dX9_clears_7 : decode cX9_clears 7 = .ok (.iconst 0, 1) := by decide +kernel
theorem dX9_clears_8 : decode cX9_clears 8 = .ok (.istore_n 1, 1) := by decide +kernel
theorem dX9_clears_9 : decode cX9_clears 9 = .ok (.iload_n 1, 1) := by decide +kernel
theorem dX9_clears_10 : decode cX9_clears 10 = .ok (.iconst 5, 1) := by decide +kernel
theorem dX9_clears_11 : decode cX9_clears 11 = .ok (.if_icmp .ge 19, 3) := by decide +kernel
theorem dX9_clears_14 : decode cX9_clears 14 = .ok (.aload_n 0, 1) := by decide +kernel
theorem dX9_clears_15 : decode cX9_clears 15 = .ok (.getfield 34, 3) := by decide +kernel
theorem dX9_clears_18 : decode cX9_clears 18 = .ok (.bipush 20, 2) := by decide +kernel
theorem dX9_clears_20 : decode cX9_clears 20 = .ok (.iload_n 1, 1) := by decide +kernel
theorem dX9_clears_21 : decode cX9_clears 21 = .ok (.iadd, 1) := by decide +kernel
theorem dX9_clears_22 : decode cX9_clears 22 = .ok (.iconst 0, 1) := by decide +kernel
theorem dX9_clears_23 : decode cX9_clears 23 = .ok (.iastore, 1) := by decide +kernel
theorem dX9_clears_24 : decode cX9_clears 24 = .ok (.iinc 1 1, 3) := by decide +kernel
theorem dX9_clears_27 : decode cX9_clears 27 = .ok (.goto (-18), 3) := by decide +kernel
theorem dX9_clears_30 : decode cX9_clears 30 = .ok (.return_, 1) := by decide +kernel
set_option maxHeartbeats 4000000 in
set_option maxRecDepth 100000 in
theorem c_X9_clears (l : Launch) (D : va_G) (cy : Nat → ClassId) (g : Nat → Nat) (sz : Nat) : Met l yX9_clears (ww yX9_clears cX9_clears 2 none) ({ frames := 1, cells := 0, slots := 0, locals := 64 }) (va_Pc [.ref (g 60)] (pre D cy [(g 60, .inr (9, mF g)), (g 16, .inl (cy 0, 5, .inl (fun _ => 0))), (g 17, .inl (cy 0, 25, .inl (fun _ => 0)))] sz)) (qv D cy (va_A [(g 60, .inr (9, mF g)), (g 16, .inl (cy 0, 5, .inl (fun _ => 0))), (g 17, .inl (cy 0, 25, .inl (fun _ => 0)))] sz) (fun (_ : Unit) => True) (fun (_ : Unit) => [(g 60, .inr (9, mF g)), (g 16, .inl (cy 0, 5, .inl (fun _ => 0))), (g 17, .inl (cy 0, 25, .inl (fun _ => 0)))])) 0 0 (va_A [(g 60, .inr (9, mF g)), (g 16, .inl (cy 0, 5, .inl (fun _ => 0))), (g 17, .inl (cy 0, 25, .inl (fun _ => 0)))] sz) := by
  refine Met.ofW (cc := cX9_clears) (maxL := 2) (ret := none) (by decide) rfl ?_
  intro p e s m args below meth c s₁ B hml hv
  obtain ⟨rfl, hsz, hP, hK, hD0⟩ := hv
  have hx := B.exec
  have hb := B.bytes
  have hr := B.returns
  have hts := hts_g (atoms_spec (ws := ww yX9_clears cX9_clears 2 none) B.pre)
  have hown : s.vm.findClass RX9 = some m.cls := findClass_of_methodNamed B.named
  have hlocks := B.notSynchronized
  subst hsz
  have hD := hD0.self (sz := s.heap.size)
  generalize hAe : va_A [(g 60, .inr (9, mF g)), (g 16, .inl (cy 0, 5, .inl (fun _ => 0))), (g 17, .inl (cy 0, 25, .inl (fun _ => 0)))] s.heap.size = A at hD ⊢
  have hA : ∀ q : Nat, s.heap.size ≤ q → A q := fun q h => by rw [← hAe]; exact Or.inr h
  have hS : va_S A s.heap s.heap [] := va_S.rf
  have hl := lv_entry ([.ref (g 60)]) (n := 2) (Nat.le_of_ble_eq_true rfl)
  rw [lg_entry_eq]
  generalize (lg_sl ([.ref (g 60)]) ++ List.replicate (2 - (lg_sl ([.ref (g 60)])).length) Slot.unset).toArray = ls at hl ⊢
  have hl : lv_has ls 2 [(0, .ref (g 60))] := hl
  refine lv_aload_n hx hb dX9_clears_0 rfl (lv_at hl 0 rfl) ?_
  refine va_get (D := D) (ci := 9) (v := .ref (g 16)) (C := RX9) (T := TX9) (N := 60) hx hb hts iX9 hown hK hP 0 rfl rfl 16 (by decide) (hts _ q1376) (fun _ h9 => h9) rfl dX9_clears_1 ?_
  refine lv_iconst (v := 4) hx hb dX9_clears_4 (by decide) ?_
  refine lv_iconst (v := 0) hx hb dX9_clears_5 (by decide) ?_
  refine va_iast hx hb hK hP hD hS 1 0 rfl rfl (vpi (by decide)) dX9_clears_6 (fun H locs hP hD hS => ?_)
  rw [upd_z] at hP hD
  have hP : va_P D clz [(g 60, .inr (9, mF g)), (g 16, .inl (cy 0, 5, .inl (fun _ => 0))), (g 17, .inl (cy 0, 25, .inl (fun _ => 0)))] H := hP
  have hD : va_D A [(g 60, .inr (9, mF g)), (g 16, .inl (cy 0, 5, .inl (fun _ => 0))), (g 17, .inl (cy 0, 25, .inl (fun _ => 0)))] := hD
  refine lv_iconst (v := 0) hx hb dX9_clears_7 (by decide) ?_
  refine lv_istore_n (lv' := [(1, .int 0), (0, .ref (g 60))]) hx hb dX9_clears_8 rfl hl (by decide) rfl (fun ls hl => ?_)
  refine lv_iload_n hx hb dX9_clears_9 rfl (lv_at hl 0 rfl) ?_
  refine lv_iconst (v := 5) hx hb dX9_clears_10 (by decide) ?_
  refine lv_icmp_ge (tgt := 30) hx hb dX9_clears_11 (by decide) (fun c9 => absurd c9 (by decide)) (fun _ => ?_)
  refine lv_aload_n hx hb dX9_clears_14 rfl (lv_at hl 1 rfl) ?_
  refine va_get (D := D) (ci := 9) (v := .ref (g 17)) (C := RX9) (T := TX9) (N := 60) hx hb hts iX9 hown hK hP 0 rfl rfl 17 (by decide) (hts _ q1377) (fun _ h9 => h9) rfl dX9_clears_15 ?_
  refine lv_bipush (v := 20) hx hb dX9_clears_18 (by decide) ?_
  refine lv_iload_n hx hb dX9_clears_20 rfl (lv_at hl 0 rfl) ?_
  refine lv_iadd hx hb dX9_clears_21 ?_
  refine lv_topi (fun x_1 ex_1 => ?_)
  obtain rfl : x_1 = 20 := ex_1.trans (by decide)
  refine lv_iconst (v := 0) hx hb dX9_clears_22 (by decide) ?_
  refine va_iast hx hb hK hP hD hS 2 0 rfl rfl (vpi (by decide)) dX9_clears_23 (fun H locs hP hD hS => ?_)
  rw [upd_z] at hP hD
  have hP : va_P D clz [(g 60, .inr (9, mF g)), (g 16, .inl (cy 0, 5, .inl (fun _ => 0))), (g 17, .inl (cy 0, 25, .inl (fun _ => 0)))] H := hP
  have hD : va_D A [(g 60, .inr (9, mF g)), (g 16, .inl (cy 0, 5, .inl (fun _ => 0))), (g 17, .inl (cy 0, 25, .inl (fun _ => 0)))] := hD
  refine lv_iinc (v := 1) (lv' := [(1, .int 1), (0, .ref (g 60))]) hx hb dX9_clears_24 hl (k := 0) rfl (by decide) (by decide) rfl (fun ls hl => ?_)
  refine lv_goto (tgt := 9) hx hb dX9_clears_27 (by decide) ?_
  refine lv_iload_n hx hb dX9_clears_9 rfl (lv_at hl 0 rfl) ?_
  refine lv_iconst (v := 5) hx hb dX9_clears_10 (by decide) ?_
  refine lv_icmp_ge (tgt := 30) hx hb dX9_clears_11 (by decide) (fun c9 => absurd c9 (by decide)) (fun _ => ?_)
  refine lv_aload_n hx hb dX9_clears_14 rfl (lv_at hl 1 rfl) ?_
  refine va_get (D := D) (ci := 9) (v := .ref (g 17)) (C := RX9) (T := TX9) (N := 60) hx hb hts iX9 hown hK hP 0 rfl rfl 17 (by decide) (hts _ q1377) (fun _ h9 => h9) rfl dX9_clears_15 ?_
  refine lv_bipush (v := 20) hx hb dX9_clears_18 (by decide) ?_
  refine lv_iload_n hx hb dX9_clears_20 rfl (lv_at hl 0 rfl) ?_
  refine lv_iadd hx hb dX9_clears_21 ?_
  refine lv_topi (fun x_2 ex_2 => ?_)
  obtain rfl : x_2 = 21 := ex_2.trans (by decide)
  refine lv_iconst (v := 0) hx hb dX9_clears_22 (by decide) ?_
  refine va_iast hx hb hK hP hD hS 2 0 rfl rfl (vpi (by decide)) dX9_clears_23 (fun H locs hP hD hS => ?_)
  rw [upd_z] at hP hD
  have hP : va_P D clz [(g 60, .inr (9, mF g)), (g 16, .inl (cy 0, 5, .inl (fun _ => 0))), (g 17, .inl (cy 0, 25, .inl (fun _ => 0)))] H := hP
  have hD : va_D A [(g 60, .inr (9, mF g)), (g 16, .inl (cy 0, 5, .inl (fun _ => 0))), (g 17, .inl (cy 0, 25, .inl (fun _ => 0)))] := hD
  refine lv_iinc (v := 2) (lv' := [(1, .int 2), (0, .ref (g 60))]) hx hb dX9_clears_24 hl (k := 0) rfl (by decide) (by decide) rfl (fun ls hl => ?_)
  refine lv_goto (tgt := 9) hx hb dX9_clears_27 (by decide) ?_
  refine lv_iload_n hx hb dX9_clears_9 rfl (lv_at hl 0 rfl) ?_
  refine lv_iconst (v := 5) hx hb dX9_clears_10 (by decide) ?_
  refine lv_icmp_ge (tgt := 30) hx hb dX9_clears_11 (by decide) (fun c9 => absurd c9 (by decide)) (fun _ => ?_)
  refine lv_aload_n hx hb dX9_clears_14 rfl (lv_at hl 1 rfl) ?_
  refine va_get (D := D) (ci := 9) (v := .ref (g 17)) (C := RX9) (T := TX9) (N := 60) hx hb hts iX9 hown hK hP 0 rfl rfl 17 (by decide) (hts _ q1377) (fun _ h9 => h9) rfl dX9_clears_15 ?_
  refine lv_bipush (v := 20) hx hb dX9_clears_18 (by decide) ?_
  refine lv_iload_n hx hb dX9_clears_20 rfl (lv_at hl 0 rfl) ?_
  refine lv_iadd hx hb dX9_clears_21 ?_
  refine lv_topi (fun x_3 ex_3 => ?_)
  obtain rfl : x_3 = 22 := ex_3.trans (by decide)
  refine lv_iconst (v := 0) hx hb dX9_clears_22 (by decide) ?_
  refine va_iast hx hb hK hP hD hS 2 0 rfl rfl (vpi (by decide)) dX9_clears_23 (fun H locs hP hD hS => ?_)
  rw [upd_z] at hP hD
  have hP : va_P D clz [(g 60, .inr (9, mF g)), (g 16, .inl (cy 0, 5, .inl (fun _ => 0))), (g 17, .inl (cy 0, 25, .inl (fun _ => 0)))] H := hP
  have hD : va_D A [(g 60, .inr (9, mF g)), (g 16, .inl (cy 0, 5, .inl (fun _ => 0))), (g 17, .inl (cy 0, 25, .inl (fun _ => 0)))] := hD
  refine lv_iinc (v := 3) (lv' := [(1, .int 3), (0, .ref (g 60))]) hx hb dX9_clears_24 hl (k := 0) rfl (by decide) (by decide) rfl (fun ls hl => ?_)
  refine lv_goto (tgt := 9) hx hb dX9_clears_27 (by decide) ?_
  refine lv_iload_n hx hb dX9_clears_9 rfl (lv_at hl 0 rfl) ?_
  refine lv_iconst (v := 5) hx hb dX9_clears_10 (by decide) ?_
  refine lv_icmp_ge (tgt := 30) hx hb dX9_clears_11 (by decide) (fun c9 => absurd c9 (by decide)) (fun _ => ?_)
  refine lv_aload_n hx hb dX9_clears_14 rfl (lv_at hl 1 rfl) ?_
  refine va_get (D := D) (ci := 9) (v := .ref (g 17)) (C := RX9) (T := TX9) (N := 60) hx hb hts iX9 hown hK hP 0 rfl rfl 17 (by decide) (hts _ q1377) (fun _ h9 => h9) rfl dX9_clears_15 ?_
  refine lv_bipush (v := 20) hx hb dX9_clears_18 (by decide) ?_
  refine lv_iload_n hx hb dX9_clears_20 rfl (lv_at hl 0 rfl) ?_
  refine lv_iadd hx hb dX9_clears_21 ?_
  refine lv_topi (fun x_4 ex_4 => ?_)
  obtain rfl : x_4 = 23 := ex_4.trans (by decide)
  refine lv_iconst (v := 0) hx hb dX9_clears_22 (by decide) ?_
  refine va_iast hx hb hK hP hD hS 2 0 rfl rfl (vpi (by decide)) dX9_clears_23 (fun H locs hP hD hS => ?_)
  rw [upd_z] at hP hD
  have hP : va_P D clz [(g 60, .inr (9, mF g)), (g 16, .inl (cy 0, 5, .inl (fun _ => 0))), (g 17, .inl (cy 0, 25, .inl (fun _ => 0)))] H := hP
  have hD : va_D A [(g 60, .inr (9, mF g)), (g 16, .inl (cy 0, 5, .inl (fun _ => 0))), (g 17, .inl (cy 0, 25, .inl (fun _ => 0)))] := hD
  refine lv_iinc (v := 4) (lv' := [(1, .int 4), (0, .ref (g 60))]) hx hb dX9_clears_24 hl (k := 0) rfl (by decide) (by decide) rfl (fun ls hl => ?_)
  refine lv_goto (tgt := 9) hx hb dX9_clears_27 (by decide) ?_
  refine lv_iload_n hx hb dX9_clears_9 rfl (lv_at hl 0 rfl) ?_
  refine lv_iconst (v := 5) hx hb dX9_clears_10 (by decide) ?_
  refine lv_icmp_ge (tgt := 30) hx hb dX9_clears_11 (by decide) (fun c9 => absurd c9 (by decide)) (fun _ => ?_)
  refine lv_aload_n hx hb dX9_clears_14 rfl (lv_at hl 1 rfl) ?_
  refine va_get (D := D) (ci := 9) (v := .ref (g 17)) (C := RX9) (T := TX9) (N := 60) hx hb hts iX9 hown hK hP 0 rfl rfl 17 (by decide) (hts _ q1377) (fun _ h9 => h9) rfl dX9_clears_15 ?_
  refine lv_bipush (v := 20) hx hb dX9_clears_18 (by decide) ?_
  refine lv_iload_n hx hb dX9_clears_20 rfl (lv_at hl 0 rfl) ?_
  refine lv_iadd hx hb dX9_clears_21 ?_
  refine lv_topi (fun x_5 ex_5 => ?_)
  obtain rfl : x_5 = 24 := ex_5.trans (by decide)
  refine lv_iconst (v := 0) hx hb dX9_clears_22 (by decide) ?_
  refine va_iast hx hb hK hP hD hS 2 0 rfl rfl (vpi (by decide)) dX9_clears_23 (fun H locs hP hD hS => ?_)
  rw [upd_z] at hP hD
  have hP : va_P D clz [(g 60, .inr (9, mF g)), (g 16, .inl (cy 0, 5, .inl (fun _ => 0))), (g 17, .inl (cy 0, 25, .inl (fun _ => 0)))] H := hP
  have hD : va_D A [(g 60, .inr (9, mF g)), (g 16, .inl (cy 0, 5, .inl (fun _ => 0))), (g 17, .inl (cy 0, 25, .inl (fun _ => 0)))] := hD
  refine lv_iinc (v := 5) (lv' := [(1, .int 5), (0, .ref (g 60))]) hx hb dX9_clears_24 hl (k := 0) rfl (by decide) (by decide) rfl (fun ls hl => ?_)
  refine lv_goto (tgt := 9) hx hb dX9_clears_27 (by decide) ?_
  refine lv_iload_n hx hb dX9_clears_9 rfl (lv_at hl 0 rfl) ?_
  refine lv_iconst (v := 5) hx hb dX9_clears_10 (by decide) ?_
  refine lv_icmp_ge (tgt := 30) hx hb dX9_clears_11 (by decide) (fun _ => ?_) (fun c9 => absurd c9 (by decide))
  have hP9 := hP.sub (ws' := [(g 60, .inr (9, mF g)), (g 16, .inl (cy 0, 5, .inl (fun _ => 0))), (g 17, .inl (cy 0, 25, .inl (fun _ => 0)))]) [0, 1, 2] rfl
  have hD9 := hD.sub (ws' := [(g 60, .inr (9, mF g)), (g 16, .inl (cy 0, 5, .inl (fun _ => 0))), (g 17, .inl (cy 0, 25, .inl (fun _ => 0)))]) [0, 1, 2] (by decide) rfl
  exact W.vret hx hb hr (fun tS ht hW => ⟨⟨(), rfl, trivial, by rw [ht]; exact hP9, va_K.moved hW.alike hK, hD9⟩, hS.F ht⟩) hS.2.2 dX9_clears_30

theorem q1583 : Cond.code yX9_desk cX9_desk 1 (some .int) ∈ lw_g := lw_gm (List.mem_of_getElem? (i := 1583) (by decide +kernel)) rfl
theorem q1584 : Cond.methodLink RX9 270 yX9_clears ∈ lw_g := lw_gm (List.mem_of_getElem? (i := 1584) (by decide +kernel)) rfl
theorem q1586 : Cond.instanceMethod yX9_clears ∈ lw_g := lw_gm (List.mem_of_getElem? (i := 1586) (by decide +kernel)) rfl
theorem q50 : Cond.selects RX9 yX9_clears yX9_clears ∈ lw_g := lw_gm (List.mem_of_getElem? (i := 50) (by decide +kernel)) rfl
theorem q1588 : Cond.methodLink RX9 273 yX9_begins ∈ lw_g := lw_gm (List.mem_of_getElem? (i := 1588) (by decide +kernel)) rfl
theorem q1590 : Cond.instanceMethod yX9_begins ∈ lw_g := lw_gm (List.mem_of_getElem? (i := 1590) (by decide +kernel)) rfl
theorem q51 : Cond.selects RX9 yX9_begins yX9_begins ∈ lw_g := lw_gm (List.mem_of_getElem? (i := 51) (by decide +kernel)) rfl
theorem q1605 : Cond.methodLink RX9 276 yX9_isGood ∈ lw_g := lw_gm (List.mem_of_getElem? (i := 1605) (by decide +kernel)) rfl
theorem q1607 : Cond.instanceMethod yX9_isGood ∈ lw_g := lw_gm (List.mem_of_getElem? (i := 1607) (by decide +kernel)) rfl
theorem q54 : Cond.selects RX9 yX9_isGood yX9_isGood ∈ lw_g := lw_gm (List.mem_of_getElem? (i := 54) (by decide +kernel)) rfl
theorem q1686 : Cond.methodLink RX9 292 yX9_isOver ∈ lw_g := lw_gm (List.mem_of_getElem? (i := 1686) (by decide +kernel)) rfl
theorem q1688 : Cond.instanceMethod yX9_isOver ∈ lw_g := lw_gm (List.mem_of_getElem? (i := 1688) (by decide +kernel)) rfl
theorem q69 : Cond.selects RX9 yX9_isOver yX9_isOver ∈ lw_g := lw_gm (List.mem_of_getElem? (i := 69) (by decide +kernel)) rfl
theorem dX9_desk_0 : decode cX9_desk 0 = .ok (.aload_n 0, 1) := by decide +kernel
theorem dX9_desk_1 : decode cX9_desk 1 = .ok (.iconst 0, 1) := by decide +kernel
theorem dX9_desk_2 : decode cX9_desk 2 = .ok (.putfield 129, 3) := by decide +kernel
theorem dX9_desk_5 : decode cX9_desk 5 = .ok (.aload_n 0, 1) := by decide +kernel
theorem dX9_desk_6 : decode cX9_desk 6 = .ok (.invokevirtual 270, 3) := by decide +kernel
theorem dX9_desk_9 : decode cX9_desk 9 = .ok (.aload_n 0, 1) := by decide +kernel
theorem dX9_desk_10 : decode cX9_desk 10 = .ok (.invokevirtual 273, 3) := by decide +kernel
theorem dX9_desk_13 : decode cX9_desk 13 = .ok (.aload_n 0, 1) := by decide +kernel
theorem dX9_desk_14 : decode cX9_desk 14 = .ok (.invokevirtual 276, 3) := by decide +kernel
theorem dX9_desk_17 : decode cX9_desk 17 = .ok (.ifCond .eq 91, 3) := by decide +kernel
theorem dX9_desk_20 : decode cX9_desk 20 = .ok (.aload_n 0, 1) := by decide +kernel
theorem dX9_desk_21 : decode cX9_desk 21 = .ok (.getfield 170, 3) := by decide +kernel
theorem dX9_desk_24 : decode cX9_desk 24 = .ok (.ifCond .eq 84, 3) := by decide +kernel
theorem dX9_desk_108 : decode cX9_desk 108 = .ok (.aload_n 0, 1) := by decide +kernel
theorem dX9_desk_109 : decode cX9_desk 109 = .ok (.invokevirtual 292, 3) := by decide +kernel
theorem dX9_desk_112 : decode cX9_desk 112 = .ok (.aload_n 0, 1) := by decide +kernel
theorem dX9_desk_113 : decode cX9_desk 113 = .ok (.getfield 181, 3) := by decide +kernel
theorem dX9_desk_116 : decode cX9_desk 116 = .ok (.ifCond .eq 6, 3) := by decide +kernel
theorem dX9_desk_122 : decode cX9_desk 122 = .ok (.aload_n 0, 1) := by decide +kernel
theorem dX9_desk_123 : decode cX9_desk 123 = .ok (.iconst 4, 1) := by decide +kernel
theorem dX9_desk_124 : decode cX9_desk 124 = .ok (.iconst 0, 1) := by decide +kernel
theorem dX9_desk_125 : decode cX9_desk 125 = .ok (.invokevirtual 295, 3) := by decide +kernel
theorem dX9_desk_128 : decode cX9_desk 128 = .ok (.aload_n 0, 1) := by decide +kernel
theorem dX9_desk_129 : decode cX9_desk 129 = .ok (.getfield 31, 3) := by decide +kernel
theorem dX9_desk_132 : decode cX9_desk 132 = .ok (.iconst 0, 1) := by decide +kernel
theorem dX9_desk_133 : decode cX9_desk 133 = .ok (.iaload, 1) := by decide +kernel
theorem dX9_desk_134 : decode cX9_desk 134 = .ok (.ireturn, 1) := by decide +kernel
set_option maxHeartbeats 4000000 in
set_option maxRecDepth 100000 in
theorem c_X9_desk (l : Launch) (D : va_G) (cy : Nat → ClassId) (g : Nat → Nat) (sz : Nat) : Met l yX9_desk (ww yX9_desk cX9_desk 1 (some .int)) ({ frames := 4, cells := 0, slots := 0, locals := 256 }) (va_Pc [.ref (g 60)] (pre D cy [(g 60, .inr (9, mF g)), (g 16, .inl (cy 0, 5, .inl (fun _ => 0))), (g 17, .inl (cy 0, 25, .inl (fun _ => 0))), (g 18, .inl (cy 0, 140, .inl (fun _ => 0))), (g 19, .inl (cy 0, 180, .inl (fun _ => 0))), (g 20, .inl (cy 0, 15, .inl (fun _ => 0))), (g 21, .inl (cy 0, 960, .inl (fun _ => 0)))] sz)) (qi D cy (va_A [(g 60, .inr (9, mF g)), (g 16, .inl (cy 0, 5, .inl (fun _ => 0))), (g 17, .inl (cy 0, 25, .inl (fun _ => 0))), (g 18, .inl (cy 0, 140, .inl (fun _ => 0))), (g 19, .inl (cy 0, 180, .inl (fun _ => 0))), (g 20, .inl (cy 0, 15, .inl (fun _ => 0))), (g 21, .inl (cy 0, 960, .inl (fun _ => 0)))] sz) (fun (r : Int32) (_ : Unit) => r = 0) (fun (_ : Unit) => [])) 0 0 (va_A [(g 60, .inr (9, mF g)), (g 16, .inl (cy 0, 5, .inl (fun _ => 0))), (g 17, .inl (cy 0, 25, .inl (fun _ => 0))), (g 18, .inl (cy 0, 140, .inl (fun _ => 0))), (g 19, .inl (cy 0, 180, .inl (fun _ => 0))), (g 20, .inl (cy 0, 15, .inl (fun _ => 0))), (g 21, .inl (cy 0, 960, .inl (fun _ => 0)))] sz) := by
  refine Met.ofW (cc := cX9_desk) (maxL := 1) (ret := (some .int)) (by decide) rfl ?_
  intro p e s m args below meth c s₁ B hml hv
  obtain ⟨rfl, hsz, hP, hK, hD0⟩ := hv
  have hx := B.exec
  have hb := B.bytes
  have hr := B.returns
  have hts := hts_g (atoms_spec (ws := ww yX9_desk cX9_desk 1 (some .int)) B.pre)
  have hown : s.vm.findClass RX9 = some m.cls := findClass_of_methodNamed B.named
  have hlocks := B.notSynchronized
  subst hsz
  have hD := hD0.self (sz := s.heap.size)
  generalize hAe : va_A [(g 60, .inr (9, mF g)), (g 16, .inl (cy 0, 5, .inl (fun _ => 0))), (g 17, .inl (cy 0, 25, .inl (fun _ => 0))), (g 18, .inl (cy 0, 140, .inl (fun _ => 0))), (g 19, .inl (cy 0, 180, .inl (fun _ => 0))), (g 20, .inl (cy 0, 15, .inl (fun _ => 0))), (g 21, .inl (cy 0, 960, .inl (fun _ => 0)))] s.heap.size = A at hD ⊢
  have hA : ∀ q : Nat, s.heap.size ≤ q → A q := fun q h => by rw [← hAe]; exact Or.inr h
  have hS : va_S A s.heap s.heap [] := va_S.rf
  have hl := lv_entry ([.ref (g 60)]) (n := 1) (Nat.le_of_ble_eq_true rfl)
  rw [lg_entry_eq]
  generalize (lg_sl ([.ref (g 60)]) ++ List.replicate (1 - (lg_sl ([.ref (g 60)])).length) Slot.unset).toArray = ls at hl ⊢
  have hl : lv_has ls 1 [(0, .ref (g 60))] := hl
  refine lv_aload_n hx hb dX9_desk_0 rfl (lv_at hl 0 rfl) ?_
  refine lv_iconst (v := 0) hx hb dX9_desk_1 (by decide) ?_
  refine va_put (D := D) (ci := 9) (v := .int 0) (ty := .int) (C := RX9) (T := TX9) (N := 60) hx hb hts iX9 tyX9 tyX9_ok nmX9 hown hK hP hD hS 0 rfl rfl 0 (by decide) (hts _ q1360) (fun _ h9 => h9) rfl (by decide +kernel) rfl rfl (Nat.le_of_ble_eq_true rfl) dX9_desk_2 (fun H locs hP hD hS => ?_)
  have hP : va_P D clz [(g 60, .inr (9, mF g)), (g 16, .inl (cy 0, 5, .inl (fun _ => 0))), (g 17, .inl (cy 0, 25, .inl (fun _ => 0))), (g 18, .inl (cy 0, 140, .inl (fun _ => 0))), (g 19, .inl (cy 0, 180, .inl (fun _ => 0))), (g 20, .inl (cy 0, 15, .inl (fun _ => 0))), (g 21, .inl (cy 0, 960, .inl (fun _ => 0)))] H := hP
  have hD : va_D A [(g 60, .inr (9, mF g)), (g 16, .inl (cy 0, 5, .inl (fun _ => 0))), (g 17, .inl (cy 0, 25, .inl (fun _ => 0))), (g 18, .inl (cy 0, 140, .inl (fun _ => 0))), (g 19, .inl (cy 0, 180, .inl (fun _ => 0))), (g 20, .inl (cy 0, 15, .inl (fun _ => 0))), (g 21, .inl (cy 0, 960, .inl (fun _ => 0)))] := hD
  refine lv_aload_n hx hb dX9_desk_5 rfl (lv_at hl 0 rfl) ?_
  have hPc := hP.sub (ws' := [(g 60, .inr (9, mF g)), (g 16, .inl (cy 0, 5, .inl (fun _ => 0))), (g 17, .inl (cy 0, 25, .inl (fun _ => 0)))]) [0, 1, 2] rfl
  have hDc := hD.sub (ws' := [(g 60, .inr (9, mF g)), (g 16, .inl (cy 0, 5, .inl (fun _ => 0))), (g 17, .inl (cy 0, 25, .inl (fun _ => 0)))]) [0, 1, 2] (by decide) rfl
  have hFc := va_free (wc := [(g 60, .inr (9, mF g)), (g 16, .inl (cy 0, 5, .inl (fun _ => 0))), (g 17, .inl (cy 0, 25, .inl (fun _ => 0)))]) hD hS hA [0, 1, 2] rfl
  refine va_callv (va_runV (As := []) (rest := []) ⟨hx, hb, hml, hown, hts⟩ (c_X9_clears l D cy g H.size) (cwV 0 hts (gd_V q1584 q1586 q50 q134 q1587) rfl rfl rfl (by decide +kernel) ⟨Nat.le_of_ble_eq_true rfl, Nat.le_of_ble_eq_true rfl⟩) (pr_V hPc hK hDc (va_recv hK hPc (ci := 9) (q0 := 0) rfl rfl)) rfl rfl hl.1 rfl (lv_room (Nat.le_of_ble_eq_true rfl)) dX9_desk_6 ⟨Nat.le_of_ble_eq_true rfl, Nat.le_of_ble_eq_true rfl⟩) hS (fun q _ h => hFc q h) hFc (fun u tS H1 locs ht hvm hw hB hz1 hk1 hS => ?_)
  obtain ⟨hP1, hK1, hD1⟩ := hB
  rw [ht] at hP1
  try dsimp only at hw
  obtain ⟨hP, hD⟩ := va_join (wr := [(g 18, .inl (cy 0, 140, .inl (fun _ => 0))), (g 19, .inl (cy 0, 180, .inl (fun _ => 0))), (g 20, .inl (cy 0, 15, .inl (fun _ => 0))), (g 21, .inl (cy 0, 960, .inl (fun _ => 0)))]) (w1 := [(g 60, .inr (9, mF g)), (g 16, .inl (cy 0, 5, .inl (fun _ => 0))), (g 17, .inl (cy 0, 25, .inl (fun _ => 0)))]) hP hD [0, 1, 2] [3, 4, 5, 6] rfl rfl (by decide) (by decide) hk1 hFc hP1 hD1
  generalize H1 = H at hP hS ⊢
  have hP : va_P D clz [(g 18, .inl (cy 0, 140, .inl (fun _ => 0))), (g 19, .inl (cy 0, 180, .inl (fun _ => 0))), (g 20, .inl (cy 0, 15, .inl (fun _ => 0))), (g 21, .inl (cy 0, 960, .inl (fun _ => 0))), (g 60, .inr (9, mF g)), (g 16, .inl (cy 0, 5, .inl (fun _ => 0))), (g 17, .inl (cy 0, 25, .inl (fun _ => 0)))] H := hP
  have hD : va_D A [(g 18, .inl (cy 0, 140, .inl (fun _ => 0))), (g 19, .inl (cy 0, 180, .inl (fun _ => 0))), (g 20, .inl (cy 0, 15, .inl (fun _ => 0))), (g 21, .inl (cy 0, 960, .inl (fun _ => 0))), (g 60, .inr (9, mF g)), (g 16, .inl (cy 0, 5, .inl (fun _ => 0))), (g 17, .inl (cy 0, 25, .inl (fun _ => 0)))] := hD
  refine lv_aload_n hx hb dX9_desk_9 rfl (lv_at hl 0 rfl) ?_
  have hPc := hP.sub (ws' := [(g 60, .inr (9, mF g))]) [4] rfl
  have hDc := hD.sub (ws' := [(g 60, .inr (9, mF g))]) [4] (by decide) rfl
  have hFc := va_free (wc := [(g 60, .inr (9, mF g))]) hD hS hA [4] rfl
  refine va_callv (va_runV (As := []) (rest := []) ⟨hx, hb, hml, hown, hts⟩ (c_X9_begins l D cy g H.size) (cwV 0 hts (gd_V q1588 q1590 q51 q134 q1591) rfl rfl rfl (by decide +kernel) ⟨Nat.le_of_ble_eq_true rfl, Nat.le_of_ble_eq_true rfl⟩) (pr_V hPc hK hDc (va_recv hK hPc (ci := 9) (q0 := 0) rfl rfl)) rfl rfl hl.1 rfl (lv_room (Nat.le_of_ble_eq_true rfl)) dX9_desk_10 ⟨Nat.le_of_ble_eq_true rfl, Nat.le_of_ble_eq_true rfl⟩) hS (fun q _ h => hFc q h) hFc (fun u tS H1 locs ht hvm hw hB hz1 hk1 hS => ?_)
  obtain ⟨hP1, hK1, hD1⟩ := hB
  rw [ht] at hP1
  try dsimp only at hw
  obtain ⟨hP, hD⟩ := va_join (wr := [(g 18, .inl (cy 0, 140, .inl (fun _ => 0))), (g 19, .inl (cy 0, 180, .inl (fun _ => 0))), (g 20, .inl (cy 0, 15, .inl (fun _ => 0))), (g 21, .inl (cy 0, 960, .inl (fun _ => 0))), (g 16, .inl (cy 0, 5, .inl (fun _ => 0))), (g 17, .inl (cy 0, 25, .inl (fun _ => 0)))]) (w1 := [(g 60, .inr (9, [.int 0, .ref (g 1), .ref (g 2), .ref (g 3), .ref (g 4), .ref (g 5), .int 0, .int 0, .int 0, .int 0, .int 0, .long 0, .int 0, .int (-1), .int 0, .int (-1), .ref (g 16), .ref (g 17), .ref (g 18), .ref (g 19), .ref (g 20), .ref (g 21), .ref (g 22), .int 0, .ref (g 24), .ref (g 25), .ref (g 26), .ref (g 27), .int 0, .int 0, .int 0, .int 0, .ref (g 32), .ref (g 33), .ref (g 34), .ref (g 35), .ref (g 36), .ref (g 37), .ref (g 38), .int 0, .int 0, .long 0, .ref (g 42), .ref (g 43), .ref (g 44), .ref (g 45), .ref (g 46), .ref (g 47), .ref (g 48), .ref (g 49), .ref (g 50), .int 0, .int 0, .ref (g 53), .ref (g 54), .ref (g 55), .ref (g 56), .ref (g 57), .int 0, .int 0]))]) hP hD [4] [0, 1, 2, 3, 5, 6] rfl rfl (by decide) (by decide) hk1 hFc hP1 hD1
  generalize H1 = H at hP hS ⊢
  have hP : va_P D clz [(g 18, .inl (cy 0, 140, .inl (fun _ => 0))), (g 19, .inl (cy 0, 180, .inl (fun _ => 0))), (g 20, .inl (cy 0, 15, .inl (fun _ => 0))), (g 21, .inl (cy 0, 960, .inl (fun _ => 0))), (g 16, .inl (cy 0, 5, .inl (fun _ => 0))), (g 17, .inl (cy 0, 25, .inl (fun _ => 0))), (g 60, .inr (9, [.int 0, .ref (g 1), .ref (g 2), .ref (g 3), .ref (g 4), .ref (g 5), .int 0, .int 0, .int 0, .int 0, .int 0, .long 0, .int 0, .int (-1), .int 0, .int (-1), .ref (g 16), .ref (g 17), .ref (g 18), .ref (g 19), .ref (g 20), .ref (g 21), .ref (g 22), .int 0, .ref (g 24), .ref (g 25), .ref (g 26), .ref (g 27), .int 0, .int 0, .int 0, .int 0, .ref (g 32), .ref (g 33), .ref (g 34), .ref (g 35), .ref (g 36), .ref (g 37), .ref (g 38), .int 0, .int 0, .long 0, .ref (g 42), .ref (g 43), .ref (g 44), .ref (g 45), .ref (g 46), .ref (g 47), .ref (g 48), .ref (g 49), .ref (g 50), .int 0, .int 0, .ref (g 53), .ref (g 54), .ref (g 55), .ref (g 56), .ref (g 57), .int 0, .int 0]))] H := hP
  have hD : va_D A [(g 18, .inl (cy 0, 140, .inl (fun _ => 0))), (g 19, .inl (cy 0, 180, .inl (fun _ => 0))), (g 20, .inl (cy 0, 15, .inl (fun _ => 0))), (g 21, .inl (cy 0, 960, .inl (fun _ => 0))), (g 16, .inl (cy 0, 5, .inl (fun _ => 0))), (g 17, .inl (cy 0, 25, .inl (fun _ => 0))), (g 60, .inr (9, [.int 0, .ref (g 1), .ref (g 2), .ref (g 3), .ref (g 4), .ref (g 5), .int 0, .int 0, .int 0, .int 0, .int 0, .long 0, .int 0, .int (-1), .int 0, .int (-1), .ref (g 16), .ref (g 17), .ref (g 18), .ref (g 19), .ref (g 20), .ref (g 21), .ref (g 22), .int 0, .ref (g 24), .ref (g 25), .ref (g 26), .ref (g 27), .int 0, .int 0, .int 0, .int 0, .ref (g 32), .ref (g 33), .ref (g 34), .ref (g 35), .ref (g 36), .ref (g 37), .ref (g 38), .int 0, .int 0, .long 0, .ref (g 42), .ref (g 43), .ref (g 44), .ref (g 45), .ref (g 46), .ref (g 47), .ref (g 48), .ref (g 49), .ref (g 50), .int 0, .int 0, .ref (g 53), .ref (g 54), .ref (g 55), .ref (g 56), .ref (g 57), .int 0, .int 0]))] := hD
  refine lv_aload_n hx hb dX9_desk_13 rfl (lv_at hl 0 rfl) ?_
  have hPc := hP.sub (ws' := [(g 60, .inr (9, [.int 0, .ref (g 1), .ref (g 2), .ref (g 3), .ref (g 4), .ref (g 5), .int 0, .int 0, .int 0, .int 0, .int 0, .long 0, .int 0, .int (-1), .int 0, .int (-1), .ref (g 16), .ref (g 17), .ref (g 18), .ref (g 19), .ref (g 20), .ref (g 21), .ref (g 22), .int 0, .ref (g 24), .ref (g 25), .ref (g 26), .ref (g 27), .int 0, .int 0, .int 0, .int 0, .ref (g 32), .ref (g 33), .ref (g 34), .ref (g 35), .ref (g 36), .ref (g 37), .ref (g 38), .int 0, .int 0, .long 0, .ref (g 42), .ref (g 43), .ref (g 44), .ref (g 45), .ref (g 46), .ref (g 47), .ref (g 48), .ref (g 49), .ref (g 50), .int 0, .int 0, .ref (g 53), .ref (g 54), .ref (g 55), .ref (g 56), .ref (g 57), .int 0, .int 0]))]) [6] rfl
  have hDc := hD.sub (ws' := [(g 60, .inr (9, [.int 0, .ref (g 1), .ref (g 2), .ref (g 3), .ref (g 4), .ref (g 5), .int 0, .int 0, .int 0, .int 0, .int 0, .long 0, .int 0, .int (-1), .int 0, .int (-1), .ref (g 16), .ref (g 17), .ref (g 18), .ref (g 19), .ref (g 20), .ref (g 21), .ref (g 22), .int 0, .ref (g 24), .ref (g 25), .ref (g 26), .ref (g 27), .int 0, .int 0, .int 0, .int 0, .ref (g 32), .ref (g 33), .ref (g 34), .ref (g 35), .ref (g 36), .ref (g 37), .ref (g 38), .int 0, .int 0, .long 0, .ref (g 42), .ref (g 43), .ref (g 44), .ref (g 45), .ref (g 46), .ref (g 47), .ref (g 48), .ref (g 49), .ref (g 50), .int 0, .int 0, .ref (g 53), .ref (g 54), .ref (g 55), .ref (g 56), .ref (g 57), .int 0, .int 0]))]) [6] (by decide) rfl
  have hFc := va_free (wc := [(g 60, .inr (9, [.int 0, .ref (g 1), .ref (g 2), .ref (g 3), .ref (g 4), .ref (g 5), .int 0, .int 0, .int 0, .int 0, .int 0, .long 0, .int 0, .int (-1), .int 0, .int (-1), .ref (g 16), .ref (g 17), .ref (g 18), .ref (g 19), .ref (g 20), .ref (g 21), .ref (g 22), .int 0, .ref (g 24), .ref (g 25), .ref (g 26), .ref (g 27), .int 0, .int 0, .int 0, .int 0, .ref (g 32), .ref (g 33), .ref (g 34), .ref (g 35), .ref (g 36), .ref (g 37), .ref (g 38), .int 0, .int 0, .long 0, .ref (g 42), .ref (g 43), .ref (g 44), .ref (g 45), .ref (g 46), .ref (g 47), .ref (g 48), .ref (g 49), .ref (g 50), .int 0, .int 0, .ref (g 53), .ref (g 54), .ref (g 55), .ref (g 56), .ref (g 57), .int 0, .int 0]))]) hD hS hA [6] rfl
  refine va_calli (va_runV (As := []) (rest := []) ⟨hx, hb, hml, hown, hts⟩ (c_X9_isGood l D cy g H.size) (cwV 0 hts (gd_V q1605 q1607 q54 q134 q1608) rfl rfl rfl (by decide +kernel) ⟨Nat.le_of_ble_eq_true rfl, Nat.le_of_ble_eq_true rfl⟩) (pr_V hPc hK hDc (va_recv hK hPc (ci := 9) (q0 := 0) rfl rfl)) rfl rfl hl.1 rfl (lv_room (Nat.le_of_ble_eq_true rfl)) dX9_desk_14 ⟨Nat.le_of_ble_eq_true rfl, Nat.le_of_ble_eq_true rfl⟩) hS (fun q _ h => hFc q h) hFc (fun r_3 u tS H1 locs ht hvm hw hB hz1 hk1 hS => ?_)
  obtain ⟨hP1, hK1, hD1⟩ := hB
  rw [ht] at hP1
  try dsimp only at hw
  obtain ⟨hP, hD⟩ := va_join (wr := [(g 18, .inl (cy 0, 140, .inl (fun _ => 0))), (g 19, .inl (cy 0, 180, .inl (fun _ => 0))), (g 20, .inl (cy 0, 15, .inl (fun _ => 0))), (g 21, .inl (cy 0, 960, .inl (fun _ => 0))), (g 16, .inl (cy 0, 5, .inl (fun _ => 0))), (g 17, .inl (cy 0, 25, .inl (fun _ => 0)))]) (w1 := [(g 60, .inr (9, [.int 0, .ref (g 1), .ref (g 2), .ref (g 3), .ref (g 4), .ref (g 5), .int 0, .int 0, .int 0, .int 0, .int 0, .long 0, .int 0, .int (-1), .int 0, .int (-1), .ref (g 16), .ref (g 17), .ref (g 18), .ref (g 19), .ref (g 20), .ref (g 21), .ref (g 22), .int 0, .ref (g 24), .ref (g 25), .ref (g 26), .ref (g 27), .int 0, .int 0, .int 0, .int 0, .ref (g 32), .ref (g 33), .ref (g 34), .ref (g 35), .ref (g 36), .ref (g 37), .ref (g 38), .int 0, .int 0, .long 0, .ref (g 42), .ref (g 43), .ref (g 44), .ref (g 45), .ref (g 46), .ref (g 47), .ref (g 48), .ref (g 49), .ref (g 50), .int 0, .int 0, .ref (g 53), .ref (g 54), .ref (g 55), .ref (g 56), .ref (g 57), .int 0, .int 0]))]) hP hD [6] [0, 1, 2, 3, 4, 5] rfl rfl (by decide) (by decide) hk1 hFc hP1 hD1
  generalize H1 = H at hP hS ⊢
  have hP : va_P D clz [(g 18, .inl (cy 0, 140, .inl (fun _ => 0))), (g 19, .inl (cy 0, 180, .inl (fun _ => 0))), (g 20, .inl (cy 0, 15, .inl (fun _ => 0))), (g 21, .inl (cy 0, 960, .inl (fun _ => 0))), (g 16, .inl (cy 0, 5, .inl (fun _ => 0))), (g 17, .inl (cy 0, 25, .inl (fun _ => 0))), (g 60, .inr (9, [.int 0, .ref (g 1), .ref (g 2), .ref (g 3), .ref (g 4), .ref (g 5), .int 0, .int 0, .int 0, .int 0, .int 0, .long 0, .int 0, .int (-1), .int 0, .int (-1), .ref (g 16), .ref (g 17), .ref (g 18), .ref (g 19), .ref (g 20), .ref (g 21), .ref (g 22), .int 0, .ref (g 24), .ref (g 25), .ref (g 26), .ref (g 27), .int 0, .int 0, .int 0, .int 0, .ref (g 32), .ref (g 33), .ref (g 34), .ref (g 35), .ref (g 36), .ref (g 37), .ref (g 38), .int 0, .int 0, .long 0, .ref (g 42), .ref (g 43), .ref (g 44), .ref (g 45), .ref (g 46), .ref (g 47), .ref (g 48), .ref (g 49), .ref (g 50), .int 0, .int 0, .ref (g 53), .ref (g 54), .ref (g 55), .ref (g 56), .ref (g 57), .int 0, .int 0]))] H := hP
  have hD : va_D A [(g 18, .inl (cy 0, 140, .inl (fun _ => 0))), (g 19, .inl (cy 0, 180, .inl (fun _ => 0))), (g 20, .inl (cy 0, 15, .inl (fun _ => 0))), (g 21, .inl (cy 0, 960, .inl (fun _ => 0))), (g 16, .inl (cy 0, 5, .inl (fun _ => 0))), (g 17, .inl (cy 0, 25, .inl (fun _ => 0))), (g 60, .inr (9, [.int 0, .ref (g 1), .ref (g 2), .ref (g 3), .ref (g 4), .ref (g 5), .int 0, .int 0, .int 0, .int 0, .int 0, .long 0, .int 0, .int (-1), .int 0, .int (-1), .ref (g 16), .ref (g 17), .ref (g 18), .ref (g 19), .ref (g 20), .ref (g 21), .ref (g 22), .int 0, .ref (g 24), .ref (g 25), .ref (g 26), .ref (g 27), .int 0, .int 0, .int 0, .int 0, .ref (g 32), .ref (g 33), .ref (g 34), .ref (g 35), .ref (g 36), .ref (g 37), .ref (g 38), .int 0, .int 0, .long 0, .ref (g 42), .ref (g 43), .ref (g 44), .ref (g 45), .ref (g 46), .ref (g 47), .ref (g 48), .ref (g 49), .ref (g 50), .int 0, .int 0, .ref (g 53), .ref (g 54), .ref (g 55), .ref (g 56), .ref (g 57), .int 0, .int 0]))] := hD
  subst hw
  refine lv_if_eq (tgt := 108) hx hb dX9_desk_17 (by decide) (fun c9 => absurd c9 (by decide)) (fun _ => ?_)
  refine lv_aload_n hx hb dX9_desk_20 rfl (lv_at hl 0 rfl) ?_
  refine va_get (D := D) (ci := 9) (v := .int 0) (C := RX9) (T := TX9) (N := 60) hx hb hts iX9 hown hK hP 6 rfl rfl 8 (by decide) (hts _ q1368) (fun _ h9 => h9) rfl dX9_desk_21 ?_
  refine lv_if_eq (tgt := 108) hx hb dX9_desk_24 (by decide) (fun _ => ?_) (fun c9 => absurd c9 (by decide))
  refine lv_aload_n hx hb dX9_desk_108 rfl (lv_at hl 0 rfl) ?_
  have hPc := hP.sub (ws' := [(g 60, .inr (9, [.int 0, .ref (g 1), .ref (g 2), .ref (g 3), .ref (g 4), .ref (g 5), .int 0, .int 0, .int 0, .int 0, .int 0, .long 0, .int 0, .int (-1), .int 0, .int (-1), .ref (g 16), .ref (g 17), .ref (g 18), .ref (g 19), .ref (g 20), .ref (g 21), .ref (g 22), .int 0, .ref (g 24), .ref (g 25), .ref (g 26), .ref (g 27), .int 0, .int 0, .int 0, .int 0, .ref (g 32), .ref (g 33), .ref (g 34), .ref (g 35), .ref (g 36), .ref (g 37), .ref (g 38), .int 0, .int 0, .long 0, .ref (g 42), .ref (g 43), .ref (g 44), .ref (g 45), .ref (g 46), .ref (g 47), .ref (g 48), .ref (g 49), .ref (g 50), .int 0, .int 0, .ref (g 53), .ref (g 54), .ref (g 55), .ref (g 56), .ref (g 57), .int 0, .int 0]))]) [6] rfl
  have hDc := hD.sub (ws' := [(g 60, .inr (9, [.int 0, .ref (g 1), .ref (g 2), .ref (g 3), .ref (g 4), .ref (g 5), .int 0, .int 0, .int 0, .int 0, .int 0, .long 0, .int 0, .int (-1), .int 0, .int (-1), .ref (g 16), .ref (g 17), .ref (g 18), .ref (g 19), .ref (g 20), .ref (g 21), .ref (g 22), .int 0, .ref (g 24), .ref (g 25), .ref (g 26), .ref (g 27), .int 0, .int 0, .int 0, .int 0, .ref (g 32), .ref (g 33), .ref (g 34), .ref (g 35), .ref (g 36), .ref (g 37), .ref (g 38), .int 0, .int 0, .long 0, .ref (g 42), .ref (g 43), .ref (g 44), .ref (g 45), .ref (g 46), .ref (g 47), .ref (g 48), .ref (g 49), .ref (g 50), .int 0, .int 0, .ref (g 53), .ref (g 54), .ref (g 55), .ref (g 56), .ref (g 57), .int 0, .int 0]))]) [6] (by decide) rfl
  have hFc := va_free (wc := [(g 60, .inr (9, [.int 0, .ref (g 1), .ref (g 2), .ref (g 3), .ref (g 4), .ref (g 5), .int 0, .int 0, .int 0, .int 0, .int 0, .long 0, .int 0, .int (-1), .int 0, .int (-1), .ref (g 16), .ref (g 17), .ref (g 18), .ref (g 19), .ref (g 20), .ref (g 21), .ref (g 22), .int 0, .ref (g 24), .ref (g 25), .ref (g 26), .ref (g 27), .int 0, .int 0, .int 0, .int 0, .ref (g 32), .ref (g 33), .ref (g 34), .ref (g 35), .ref (g 36), .ref (g 37), .ref (g 38), .int 0, .int 0, .long 0, .ref (g 42), .ref (g 43), .ref (g 44), .ref (g 45), .ref (g 46), .ref (g 47), .ref (g 48), .ref (g 49), .ref (g 50), .int 0, .int 0, .ref (g 53), .ref (g 54), .ref (g 55), .ref (g 56), .ref (g 57), .int 0, .int 0]))]) hD hS hA [6] rfl
  refine va_callv (va_runV (As := []) (rest := []) ⟨hx, hb, hml, hown, hts⟩ (c_X9_isOver l D cy g H.size) (cwV 0 hts (gd_V q1686 q1688 q69 q134 q1689) rfl rfl rfl (by decide +kernel) ⟨Nat.le_of_ble_eq_true rfl, Nat.le_of_ble_eq_true rfl⟩) (pr_V hPc hK hDc (va_recv hK hPc (ci := 9) (q0 := 0) rfl rfl)) rfl rfl hl.1 rfl (lv_room (Nat.le_of_ble_eq_true rfl)) dX9_desk_109 ⟨Nat.le_of_ble_eq_true rfl, Nat.le_of_ble_eq_true rfl⟩) hS (fun q _ h => hFc q h) hFc (fun u tS H1 locs ht hvm hw hB hz1 hk1 hS => ?_)
  obtain ⟨hP1, hK1, hD1⟩ := hB
  rw [ht] at hP1
  try dsimp only at hw
  obtain ⟨hP, hD⟩ := va_join (wr := [(g 18, .inl (cy 0, 140, .inl (fun _ => 0))), (g 19, .inl (cy 0, 180, .inl (fun _ => 0))), (g 20, .inl (cy 0, 15, .inl (fun _ => 0))), (g 21, .inl (cy 0, 960, .inl (fun _ => 0))), (g 16, .inl (cy 0, 5, .inl (fun _ => 0))), (g 17, .inl (cy 0, 25, .inl (fun _ => 0)))]) (w1 := [(g 60, .inr (9, [.int 0, .ref (g 1), .ref (g 2), .ref (g 3), .ref (g 4), .ref (g 5), .int 0, .int 0, .int 0, .int 0, .int 0, .long 0, .int 0, .int (-1), .int 0, .int (-1), .ref (g 16), .ref (g 17), .ref (g 18), .ref (g 19), .ref (g 20), .ref (g 21), .ref (g 22), .int 0, .ref (g 24), .ref (g 25), .ref (g 26), .ref (g 27), .int 0, .int 0, .int 0, .int 0, .ref (g 32), .ref (g 33), .ref (g 34), .ref (g 35), .ref (g 36), .ref (g 37), .ref (g 38), .int 0, .int 0, .long 0, .ref (g 42), .ref (g 43), .ref (g 44), .ref (g 45), .ref (g 46), .ref (g 47), .ref (g 48), .ref (g 49), .ref (g 50), .int 0, .int 0, .ref (g 53), .ref (g 54), .ref (g 55), .ref (g 56), .ref (g 57), .int 0, .int 0]))]) hP hD [6] [0, 1, 2, 3, 4, 5] rfl rfl (by decide) (by decide) hk1 hFc hP1 hD1
  generalize H1 = H at hP hS ⊢
  have hP : va_P D clz [(g 18, .inl (cy 0, 140, .inl (fun _ => 0))), (g 19, .inl (cy 0, 180, .inl (fun _ => 0))), (g 20, .inl (cy 0, 15, .inl (fun _ => 0))), (g 21, .inl (cy 0, 960, .inl (fun _ => 0))), (g 16, .inl (cy 0, 5, .inl (fun _ => 0))), (g 17, .inl (cy 0, 25, .inl (fun _ => 0))), (g 60, .inr (9, [.int 0, .ref (g 1), .ref (g 2), .ref (g 3), .ref (g 4), .ref (g 5), .int 0, .int 0, .int 0, .int 0, .int 0, .long 0, .int 0, .int (-1), .int 0, .int (-1), .ref (g 16), .ref (g 17), .ref (g 18), .ref (g 19), .ref (g 20), .ref (g 21), .ref (g 22), .int 0, .ref (g 24), .ref (g 25), .ref (g 26), .ref (g 27), .int 0, .int 0, .int 0, .int 0, .ref (g 32), .ref (g 33), .ref (g 34), .ref (g 35), .ref (g 36), .ref (g 37), .ref (g 38), .int 0, .int 0, .long 0, .ref (g 42), .ref (g 43), .ref (g 44), .ref (g 45), .ref (g 46), .ref (g 47), .ref (g 48), .ref (g 49), .ref (g 50), .int 0, .int 0, .ref (g 53), .ref (g 54), .ref (g 55), .ref (g 56), .ref (g 57), .int 0, .int 0]))] H := hP
  have hD : va_D A [(g 18, .inl (cy 0, 140, .inl (fun _ => 0))), (g 19, .inl (cy 0, 180, .inl (fun _ => 0))), (g 20, .inl (cy 0, 15, .inl (fun _ => 0))), (g 21, .inl (cy 0, 960, .inl (fun _ => 0))), (g 16, .inl (cy 0, 5, .inl (fun _ => 0))), (g 17, .inl (cy 0, 25, .inl (fun _ => 0))), (g 60, .inr (9, [.int 0, .ref (g 1), .ref (g 2), .ref (g 3), .ref (g 4), .ref (g 5), .int 0, .int 0, .int 0, .int 0, .int 0, .long 0, .int 0, .int (-1), .int 0, .int (-1), .ref (g 16), .ref (g 17), .ref (g 18), .ref (g 19), .ref (g 20), .ref (g 21), .ref (g 22), .int 0, .ref (g 24), .ref (g 25), .ref (g 26), .ref (g 27), .int 0, .int 0, .int 0, .int 0, .ref (g 32), .ref (g 33), .ref (g 34), .ref (g 35), .ref (g 36), .ref (g 37), .ref (g 38), .int 0, .int 0, .long 0, .ref (g 42), .ref (g 43), .ref (g 44), .ref (g 45), .ref (g 46), .ref (g 47), .ref (g 48), .ref (g 49), .ref (g 50), .int 0, .int 0, .ref (g 53), .ref (g 54), .ref (g 55), .ref (g 56), .ref (g 57), .int 0, .int 0]))] := hD
  refine lv_aload_n hx hb dX9_desk_112 rfl (lv_at hl 0 rfl) ?_
  refine va_get (D := D) (ci := 9) (v := .int 0) (C := RX9) (T := TX9) (N := 60) hx hb hts iX9 hown hK hP 6 rfl rfl 12 (by decide) (hts _ q1372) (fun _ h9 => h9) rfl dX9_desk_113 ?_
  refine lv_if_eq (tgt := 122) hx hb dX9_desk_116 (by decide) (fun _ => ?_) (fun c9 => absurd c9 (by decide))
  refine lv_aload_n hx hb dX9_desk_122 rfl (lv_at hl 0 rfl) ?_
  refine lv_iconst (v := 4) hx hb dX9_desk_123 (by decide) ?_
  refine lv_iconst (v := 0) hx hb dX9_desk_124 (by decide) ?_
  have hPc := hP.sub (ws' := [(g 60, .inr (9, [.int 0, .ref (g 1), .ref (g 2), .ref (g 3), .ref (g 4), .ref (g 5), .int 0, .int 0, .int 0, .int 0, .int 0, .long 0, .int 0, .int (-1), .int 0, .int (-1), .ref (g 16), .ref (g 17), .ref (g 18), .ref (g 19), .ref (g 20), .ref (g 21), .ref (g 22), .int 0, .ref (g 24), .ref (g 25), .ref (g 26), .ref (g 27), .int 0, .int 0, .int 0, .int 0, .ref (g 32), .ref (g 33), .ref (g 34), .ref (g 35), .ref (g 36), .ref (g 37), .ref (g 38), .int 0, .int 0, .long 0, .ref (g 42), .ref (g 43), .ref (g 44), .ref (g 45), .ref (g 46), .ref (g 47), .ref (g 48), .ref (g 49), .ref (g 50), .int 0, .int 0, .ref (g 53), .ref (g 54), .ref (g 55), .ref (g 56), .ref (g 57), .int 0, .int 0])), (g 16, .inl (cy 0, 5, .inl (fun _ => 0))), (g 17, .inl (cy 0, 25, .inl (fun _ => 0))), (g 18, .inl (cy 0, 140, .inl (fun _ => 0))), (g 19, .inl (cy 0, 180, .inl (fun _ => 0))), (g 20, .inl (cy 0, 15, .inl (fun _ => 0))), (g 21, .inl (cy 0, 960, .inl (fun _ => 0)))]) [6, 4, 5, 0, 1, 2, 3] rfl
  have hDc := hD.sub (ws' := [(g 60, .inr (9, [.int 0, .ref (g 1), .ref (g 2), .ref (g 3), .ref (g 4), .ref (g 5), .int 0, .int 0, .int 0, .int 0, .int 0, .long 0, .int 0, .int (-1), .int 0, .int (-1), .ref (g 16), .ref (g 17), .ref (g 18), .ref (g 19), .ref (g 20), .ref (g 21), .ref (g 22), .int 0, .ref (g 24), .ref (g 25), .ref (g 26), .ref (g 27), .int 0, .int 0, .int 0, .int 0, .ref (g 32), .ref (g 33), .ref (g 34), .ref (g 35), .ref (g 36), .ref (g 37), .ref (g 38), .int 0, .int 0, .long 0, .ref (g 42), .ref (g 43), .ref (g 44), .ref (g 45), .ref (g 46), .ref (g 47), .ref (g 48), .ref (g 49), .ref (g 50), .int 0, .int 0, .ref (g 53), .ref (g 54), .ref (g 55), .ref (g 56), .ref (g 57), .int 0, .int 0])), (g 16, .inl (cy 0, 5, .inl (fun _ => 0))), (g 17, .inl (cy 0, 25, .inl (fun _ => 0))), (g 18, .inl (cy 0, 140, .inl (fun _ => 0))), (g 19, .inl (cy 0, 180, .inl (fun _ => 0))), (g 20, .inl (cy 0, 15, .inl (fun _ => 0))), (g 21, .inl (cy 0, 960, .inl (fun _ => 0)))]) [6, 4, 5, 0, 1, 2, 3] (by decide) rfl
  have hFc := va_free (wc := [(g 60, .inr (9, [.int 0, .ref (g 1), .ref (g 2), .ref (g 3), .ref (g 4), .ref (g 5), .int 0, .int 0, .int 0, .int 0, .int 0, .long 0, .int 0, .int (-1), .int 0, .int (-1), .ref (g 16), .ref (g 17), .ref (g 18), .ref (g 19), .ref (g 20), .ref (g 21), .ref (g 22), .int 0, .ref (g 24), .ref (g 25), .ref (g 26), .ref (g 27), .int 0, .int 0, .int 0, .int 0, .ref (g 32), .ref (g 33), .ref (g 34), .ref (g 35), .ref (g 36), .ref (g 37), .ref (g 38), .int 0, .int 0, .long 0, .ref (g 42), .ref (g 43), .ref (g 44), .ref (g 45), .ref (g 46), .ref (g 47), .ref (g 48), .ref (g 49), .ref (g 50), .int 0, .int 0, .ref (g 53), .ref (g 54), .ref (g 55), .ref (g 56), .ref (g 57), .int 0, .int 0])), (g 16, .inl (cy 0, 5, .inl (fun _ => 0))), (g 17, .inl (cy 0, 25, .inl (fun _ => 0))), (g 18, .inl (cy 0, 140, .inl (fun _ => 0))), (g 19, .inl (cy 0, 180, .inl (fun _ => 0))), (g 20, .inl (cy 0, 15, .inl (fun _ => 0))), (g 21, .inl (cy 0, 960, .inl (fun _ => 0)))]) hD hS hA [6, 4, 5, 0, 1, 2, 3] rfl
  refine va_callv (va_runV (As := [.int 4, .int 0]) (rest := []) ⟨hx, hb, hml, hown, hts⟩ (c_X9_copyDesk_40 l D cy g H.size) (cwV 2 hts (gd_V q1690 q1692 q70 q134 q1693) rfl rfl rfl (by decide +kernel) ⟨Nat.le_of_ble_eq_true rfl, Nat.le_of_ble_eq_true rfl⟩) (pr_V hPc hK hDc (va_recv hK hPc (ci := 9) (q0 := 0) rfl rfl)) rfl rfl hl.1 rfl (lv_room (Nat.le_of_ble_eq_true rfl)) dX9_desk_125 ⟨Nat.le_of_ble_eq_true rfl, Nat.le_of_ble_eq_true rfl⟩) hS (fun q _ h => hFc q h) hFc (fun u tS H1 locs ht hvm hw hB hz1 hk1 hS => ?_)
  obtain ⟨hP1, hK1, hD1⟩ := hB
  rw [ht] at hP1
  try dsimp only at hw
  obtain ⟨hP, hD⟩ := va_join (wr := []) (w1 := [(g 60, .inr (9, [.int 0, .ref (g 1), .ref (g 2), .ref (g 3), .ref (g 4), .ref (g 5), .int 0, .int 0, .int 0, .int 0, .int 0, .long 0, .int 0, .int (-1), .int 0, .int (-1), .ref (g 16), .ref (g 17), .ref (g 18), .ref (g 19), .ref (g 20), .ref (g 21), .ref (g 22), .int 0, .ref (g 24), .ref (g 25), .ref (g 26), .ref (g 27), .int 0, .int 0, .int 0, .int 0, .ref (g 32), .ref (g 33), .ref (g 34), .ref (g 35), .ref (g 36), .ref (g 37), .ref (g 38), .int 0, .int 0, .long 0, .ref (g 42), .ref (g 43), .ref (g 44), .ref (g 45), .ref (g 46), .ref (g 47), .ref (g 48), .ref (g 49), .ref (g 50), .int 0, .int 0, .ref (g 53), .ref (g 54), .ref (g 55), .ref (g 56), .ref (g 57), .int 0, .int 0])), (g 16, .inl (cy 0, 5, .inl (fun _ => 0))), (g 17, .inl (cy 0, 25, .inl (fun _ => 0))), (g 18, .inl (cy 0, 140, .inl (fun _ => 0))), (g 19, .inl (cy 0, 180, .inl (fun _ => 0))), (g 20, .inl (cy 0, 15, .inl (fun _ => 0))), (g 21, .inl (cy 0, 960, .inl (fun _ => 0)))]) hP hD [6, 4, 5, 0, 1, 2, 3] [] rfl rfl (by decide) (by decide) hk1 hFc hP1 hD1
  generalize H1 = H at hP hS ⊢
  have hP : va_P D clz [(g 60, .inr (9, [.int 0, .ref (g 1), .ref (g 2), .ref (g 3), .ref (g 4), .ref (g 5), .int 0, .int 0, .int 0, .int 0, .int 0, .long 0, .int 0, .int (-1), .int 0, .int (-1), .ref (g 16), .ref (g 17), .ref (g 18), .ref (g 19), .ref (g 20), .ref (g 21), .ref (g 22), .int 0, .ref (g 24), .ref (g 25), .ref (g 26), .ref (g 27), .int 0, .int 0, .int 0, .int 0, .ref (g 32), .ref (g 33), .ref (g 34), .ref (g 35), .ref (g 36), .ref (g 37), .ref (g 38), .int 0, .int 0, .long 0, .ref (g 42), .ref (g 43), .ref (g 44), .ref (g 45), .ref (g 46), .ref (g 47), .ref (g 48), .ref (g 49), .ref (g 50), .int 0, .int 0, .ref (g 53), .ref (g 54), .ref (g 55), .ref (g 56), .ref (g 57), .int 0, .int 0])), (g 16, .inl (cy 0, 5, .inl (fun _ => 0))), (g 17, .inl (cy 0, 25, .inl (fun _ => 0))), (g 18, .inl (cy 0, 140, .inl (fun _ => 0))), (g 19, .inl (cy 0, 180, .inl (fun _ => 0))), (g 20, .inl (cy 0, 15, .inl (fun _ => 0))), (g 21, .inl (cy 0, 960, .inl (fun _ => 0)))] H := hP
  have hD : va_D A [(g 60, .inr (9, [.int 0, .ref (g 1), .ref (g 2), .ref (g 3), .ref (g 4), .ref (g 5), .int 0, .int 0, .int 0, .int 0, .int 0, .long 0, .int 0, .int (-1), .int 0, .int (-1), .ref (g 16), .ref (g 17), .ref (g 18), .ref (g 19), .ref (g 20), .ref (g 21), .ref (g 22), .int 0, .ref (g 24), .ref (g 25), .ref (g 26), .ref (g 27), .int 0, .int 0, .int 0, .int 0, .ref (g 32), .ref (g 33), .ref (g 34), .ref (g 35), .ref (g 36), .ref (g 37), .ref (g 38), .int 0, .int 0, .long 0, .ref (g 42), .ref (g 43), .ref (g 44), .ref (g 45), .ref (g 46), .ref (g 47), .ref (g 48), .ref (g 49), .ref (g 50), .int 0, .int 0, .ref (g 53), .ref (g 54), .ref (g 55), .ref (g 56), .ref (g 57), .int 0, .int 0])), (g 16, .inl (cy 0, 5, .inl (fun _ => 0))), (g 17, .inl (cy 0, 25, .inl (fun _ => 0))), (g 18, .inl (cy 0, 140, .inl (fun _ => 0))), (g 19, .inl (cy 0, 180, .inl (fun _ => 0))), (g 20, .inl (cy 0, 15, .inl (fun _ => 0))), (g 21, .inl (cy 0, 960, .inl (fun _ => 0)))] := hD
  refine lv_aload_n hx hb dX9_desk_128 rfl (lv_at hl 0 rfl) ?_
  refine va_get (D := D) (ci := 9) (v := .ref (g 16)) (C := RX9) (T := TX9) (N := 60) hx hb hts iX9 hown hK hP 0 rfl rfl 16 (by decide) (hts _ q1376) (fun _ h9 => h9) rfl dX9_desk_129 ?_
  refine lv_iconst (v := 0) hx hb dX9_desk_132 (by decide) ?_
  refine va_iald hx hb hK hP 1 0 rfl rfl (vpi (by decide)) dX9_desk_133 ?_
  refine lv_topi (fun x_6 ex_6 => ?_)
  obtain rfl : x_6 = 0 := ex_6.trans (by decide)
  have hP9 := hP.sub (ws' := []) [] rfl
  have hD9 := hD.sub (ws' := []) [] (by decide) rfl
  exact W.iret (v := 0) hx hb hr (fun tS ht hW => ⟨⟨0, (), rfl, rfl, by rw [ht]; exact hP9, va_K.moved hW.alike hK, hD9⟩, hS.F ht⟩) hS.2.2 dX9_desk_134

