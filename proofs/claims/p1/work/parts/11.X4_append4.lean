set_option maxHeartbeats 4000000 in
set_option maxRecDepth 100000 in
theorem c_X4_append4 (l : Launch) (D : va_G) (cy : Nat → ClassId) (h : Nat) (t : Nat) (f : Nat → Int32) (p1 : Int32) (sz : Nat) : Met l yX4_append (ww yX4_append cX4_append 3 none) ({ frames := 1, cells := 0, slots := 0, locals := 64 }) (va_Pc [.ref h, .int p1] (pre D cy [(h, .inr (4, [.ref t, .int 4, .int 0, .int (-1), .int 0, .int 0, .int 0, .int 0])), (t, .inl (cy 1, 2000, .inl f))] sz)) (qv D cy (va_A [(h, .inr (4, [.ref t, .int 4, .int 0, .int (-1), .int 0, .int 0, .int 0, .int 0])), (t, .inl (cy 1, 2000, .inl f))] sz) (fun (_ : Nat → Int32) => True) (fun (u : Nat → Int32) => [(h, .inr (4, [.ref t, .int 8, .int 0, .int (-1), .int 0, .int 0, .int 0, .int 0])), (t, .inl (cy 1, 2000, .inl u))])) 0 0 (va_A [(h, .inr (4, [.ref t, .int 4, .int 0, .int (-1), .int 0, .int 0, .int 0, .int 0])), (t, .inl (cy 1, 2000, .inl f))] sz) := by
  refine Met.ofW (cc := cX4_append) (maxL := 3) (ret := none) (by decide) rfl ?_
  intro p e s m args below meth c s₁ B hml hv
  obtain ⟨rfl, hsz, hP, hK, hD0⟩ := hv
  have hx := B.exec
  have hb := B.bytes
  have hr := B.returns
  have hts := hts_g (atoms_spec (ws := ww yX4_append cX4_append 3 none) B.pre)
  have hown : s.vm.findClass RX4 = some m.cls := findClass_of_methodNamed B.named
  have hlocks := B.notSynchronized
  subst hsz
  have hD := hD0.self (sz := s.heap.size)
  generalize hAe : va_A [(h, .inr (4, [.ref t, .int 4, .int 0, .int (-1), .int 0, .int 0, .int 0, .int 0])), (t, .inl (cy 1, 2000, .inl f))] s.heap.size = A at hD ⊢
  have hA : ∀ q : Nat, s.heap.size ≤ q → A q := fun q h => by rw [← hAe]; exact Or.inr h
  have hS : va_S A s.heap s.heap [] := va_S.rf
  have hl := lv_entry ([.ref h, .int p1]) (n := 3) (Nat.le_of_ble_eq_true rfl)
  rw [lg_entry_eq]
  generalize (lg_sl ([.ref h, .int p1]) ++ List.replicate (3 - (lg_sl ([.ref h, .int p1])).length) Slot.unset).toArray = ls at hl ⊢
  have hl : lv_has ls 3 [(0, .ref h), (1, .int p1)] := hl
  refine lv_bipush (v := 24) hx hb dX4_append_0 (by decide) ?_
  refine lv_istore_n (lv' := [(2, .int 24), (0, .ref h), (1, .int p1)]) hx hb dX4_append_2 rfl hl (by decide) rfl (fun ls hl => ?_)
  refine lv_iload_n hx hb dX4_append_3 rfl (lv_at hl 0 rfl) ?_
  refine lv_if_lt (tgt := 53) hx hb dX4_append_4 (by decide) (fun c9 => absurd c9 (by decide)) (fun _ => ?_)
  refine lv_aload_n hx hb dX4_append_7 rfl (lv_at hl 1 rfl) ?_
  refine va_get (D := D) (ci := 4) (v := .int 4) (C := RX4) (T := TX4) (N := 8) hx hb hts iX4 hown hK hP 0 rfl rfl 1 (by decide) (hts _ q158) (fun _ h9 => h9) rfl dX4_append_8 ?_
  refine lv_if_lt (tgt := 47) hx hb dX4_append_11 (by decide) (fun c9 => absurd c9 (by decide)) (fun _ => ?_)
  refine lv_aload_n hx hb dX4_append_14 rfl (lv_at hl 1 rfl) ?_
  refine va_get (D := D) (ci := 4) (v := .int 4) (C := RX4) (T := TX4) (N := 8) hx hb hts iX4 hown hK hP 0 rfl rfl 1 (by decide) (hts _ q158) (fun _ h9 => h9) rfl dX4_append_15 ?_
  refine lv_sipush (v := 2000) hx hb dX4_append_18 (by decide) ?_
  refine lv_icmp_ge (tgt := 47) hx hb dX4_append_21 (by decide) (fun c9 => absurd c9 (by decide)) (fun _ => ?_)
  refine lv_aload_n hx hb dX4_append_24 rfl (lv_at hl 1 rfl) ?_
  refine va_get (D := D) (ci := 4) (v := .ref t) (C := RX4) (T := TX4) (N := 8) hx hb hts iX4 hown hK hP 0 rfl rfl 0 (by decide) (hts _ q157) (fun _ h9 => h9) rfl dX4_append_25 ?_
  refine lv_aload_n hx hb dX4_append_28 rfl (lv_at hl 1 rfl) ?_
  refine va_get (D := D) (ci := 4) (v := .int 4) (C := RX4) (T := TX4) (N := 8) hx hb hts iX4 hown hK hP 0 rfl rfl 1 (by decide) (hts _ q158) (fun _ h9 => h9) rfl dX4_append_29 ?_
  refine lv_iload_n hx hb dX4_append_32 rfl (lv_at hl 2 rfl) ?_
  refine lv_iload_n hx hb dX4_append_33 rfl (lv_at hl 0 rfl) ?_
  refine lv_ishr hx hb dX4_append_34 ?_
  refine lv_topi (fun x_1 ex_1 => ?_)
  refine lv_i2b hx hb dX4_append_35 rfl ?_
  refine lv_topi (fun x_2 ex_2 => ?_)
  refine va_bast hx hb hK hP hD hS 1 1 rfl rfl (vpi (by decide)) dX4_append_36 (fun H locs hP hD hS => ?_)
  have hP : va_P D clz [(h, .inr (4, [.ref t, .int 4, .int 0, .int (-1), .int 0, .int 0, .int 0, .int 0])), (t, .inl (cy 1, 2000, .inl (upd f 4 (vp_nar .byte x_2))))] H := hP
  have hD : va_D A [(h, .inr (4, [.ref t, .int 4, .int 0, .int (-1), .int 0, .int 0, .int 0, .int 0])), (t, .inl (cy 1, 2000, .inl (upd f 4 (vp_nar .byte x_2))))] := hD
  refine lv_aload_n hx hb dX4_append_37 rfl (lv_at hl 1 rfl) ?_
  refine lv_dup hx hb dX4_append_38 rfl ?_
  refine va_get (D := D) (ci := 4) (v := .int 4) (C := RX4) (T := TX4) (N := 8) hx hb hts iX4 hown hK hP 0 rfl rfl 1 (by decide) (hts _ q158) (fun _ h9 => h9) rfl dX4_append_39 ?_
  refine lv_iconst (v := 1) hx hb dX4_append_42 (by decide) ?_
  refine lv_iadd hx hb dX4_append_43 ?_
  refine lv_topi (fun x_3 ex_3 => ?_)
  obtain rfl : x_3 = 5 := ex_3.trans (by decide)
  refine va_put (D := D) (ci := 4) (v := .int 5) (ty := .int) (C := RX4) (T := TX4) (N := 8) hx hb hts iX4 tyX4 tyX4_ok nmX4 hown hK hP hD hS 0 rfl rfl 1 (by decide) (hts _ q158) (fun _ h9 => h9) rfl (by decide +kernel) rfl rfl (Nat.le_of_ble_eq_true rfl) dX4_append_44 (fun H locs hP hD hS => ?_)
  have hP : va_P D clz [(h, .inr (4, [.ref t, .int 5, .int 0, .int (-1), .int 0, .int 0, .int 0, .int 0])), (t, .inl (cy 1, 2000, .inl (upd f 4 (vp_nar .byte x_2))))] H := hP
  have hD : va_D A [(h, .inr (4, [.ref t, .int 5, .int 0, .int (-1), .int 0, .int 0, .int 0, .int 0])), (t, .inl (cy 1, 2000, .inl (upd f 4 (vp_nar .byte x_2))))] := hD
  refine lv_iinc (v := 16) (lv' := [(2, .int 16), (0, .ref h), (1, .int p1)]) hx hb dX4_append_47 hl (k := 0) rfl (by decide) (by decide) rfl (fun ls hl => ?_)
  refine lv_goto (tgt := 3) hx hb dX4_append_50 (by decide) ?_
  refine lv_iload_n hx hb dX4_append_3 rfl (lv_at hl 0 rfl) ?_
  refine lv_if_lt (tgt := 53) hx hb dX4_append_4 (by decide) (fun c9 => absurd c9 (by decide)) (fun _ => ?_)
  refine lv_aload_n hx hb dX4_append_7 rfl (lv_at hl 1 rfl) ?_
  refine va_get (D := D) (ci := 4) (v := .int 5) (C := RX4) (T := TX4) (N := 8) hx hb hts iX4 hown hK hP 0 rfl rfl 1 (by decide) (hts _ q158) (fun _ h9 => h9) rfl dX4_append_8 ?_
  refine lv_if_lt (tgt := 47) hx hb dX4_append_11 (by decide) (fun c9 => absurd c9 (by decide)) (fun _ => ?_)
  refine lv_aload_n hx hb dX4_append_14 rfl (lv_at hl 1 rfl) ?_
  refine va_get (D := D) (ci := 4) (v := .int 5) (C := RX4) (T := TX4) (N := 8) hx hb hts iX4 hown hK hP 0 rfl rfl 1 (by decide) (hts _ q158) (fun _ h9 => h9) rfl dX4_append_15 ?_
  refine lv_sipush (v := 2000) hx hb dX4_append_18 (by decide) ?_
  refine lv_icmp_ge (tgt := 47) hx hb dX4_append_21 (by decide) (fun c9 => absurd c9 (by decide)) (fun _ => ?_)
  refine lv_aload_n hx hb dX4_append_24 rfl (lv_at hl 1 rfl) ?_
  refine va_get (D := D) (ci := 4) (v := .ref t) (C := RX4) (T := TX4) (N := 8) hx hb hts iX4 hown hK hP 0 rfl rfl 0 (by decide) (hts _ q157) (fun _ h9 => h9) rfl dX4_append_25 ?_
  refine lv_aload_n hx hb dX4_append_28 rfl (lv_at hl 1 rfl) ?_
  refine va_get (D := D) (ci := 4) (v := .int 5) (C := RX4) (T := TX4) (N := 8) hx hb hts iX4 hown hK hP 0 rfl rfl 1 (by decide) (hts _ q158) (fun _ h9 => h9) rfl dX4_append_29 ?_
  refine lv_iload_n hx hb dX4_append_32 rfl (lv_at hl 2 rfl) ?_
  refine lv_iload_n hx hb dX4_append_33 rfl (lv_at hl 0 rfl) ?_
  refine lv_ishr hx hb dX4_append_34 ?_
  refine lv_topi (fun x_4 ex_4 => ?_)
  refine lv_i2b hx hb dX4_append_35 rfl ?_
  refine lv_topi (fun x_5 ex_5 => ?_)
  refine va_bast hx hb hK hP hD hS 1 1 rfl rfl (vpi (by decide)) dX4_append_36 (fun H locs hP hD hS => ?_)
  have hP : va_P D clz [(h, .inr (4, [.ref t, .int 5, .int 0, .int (-1), .int 0, .int 0, .int 0, .int 0])), (t, .inl (cy 1, 2000, .inl (upd (upd f 4 (vp_nar .byte x_2)) 5 (vp_nar .byte x_5))))] H := hP
  have hD : va_D A [(h, .inr (4, [.ref t, .int 5, .int 0, .int (-1), .int 0, .int 0, .int 0, .int 0])), (t, .inl (cy 1, 2000, .inl (upd (upd f 4 (vp_nar .byte x_2)) 5 (vp_nar .byte x_5))))] := hD
  refine lv_aload_n hx hb dX4_append_37 rfl (lv_at hl 1 rfl) ?_
  refine lv_dup hx hb dX4_append_38 rfl ?_
  refine va_get (D := D) (ci := 4) (v := .int 5) (C := RX4) (T := TX4) (N := 8) hx hb hts iX4 hown hK hP 0 rfl rfl 1 (by decide) (hts _ q158) (fun _ h9 => h9) rfl dX4_append_39 ?_
  refine lv_iconst (v := 1) hx hb dX4_append_42 (by decide) ?_
  refine lv_iadd hx hb dX4_append_43 ?_
  refine lv_topi (fun x_6 ex_6 => ?_)
  obtain rfl : x_6 = 6 := ex_6.trans (by decide)
  refine va_put (D := D) (ci := 4) (v := .int 6) (ty := .int) (C := RX4) (T := TX4) (N := 8) hx hb hts iX4 tyX4 tyX4_ok nmX4 hown hK hP hD hS 0 rfl rfl 1 (by decide) (hts _ q158) (fun _ h9 => h9) rfl (by decide +kernel) rfl rfl (Nat.le_of_ble_eq_true rfl) dX4_append_44 (fun H locs hP hD hS => ?_)
  have hP : va_P D clz [(h, .inr (4, [.ref t, .int 6, .int 0, .int (-1), .int 0, .int 0, .int 0, .int 0])), (t, .inl (cy 1, 2000, .inl (upd (upd f 4 (vp_nar .byte x_2)) 5 (vp_nar .byte x_5))))] H := hP
  have hD : va_D A [(h, .inr (4, [.ref t, .int 6, .int 0, .int (-1), .int 0, .int 0, .int 0, .int 0])), (t, .inl (cy 1, 2000, .inl (upd (upd f 4 (vp_nar .byte x_2)) 5 (vp_nar .byte x_5))))] := hD
  refine lv_iinc (v := 8) (lv' := [(2, .int 8), (0, .ref h), (1, .int p1)]) hx hb dX4_append_47 hl (k := 0) rfl (by decide) (by decide) rfl (fun ls hl => ?_)
  refine lv_goto (tgt := 3) hx hb dX4_append_50 (by decide) ?_
  refine lv_iload_n hx hb dX4_append_3 rfl (lv_at hl 0 rfl) ?_
  refine lv_if_lt (tgt := 53) hx hb dX4_append_4 (by decide) (fun c9 => absurd c9 (by decide)) (fun _ => ?_)
  refine lv_aload_n hx hb dX4_append_7 rfl (lv_at hl 1 rfl) ?_
  refine va_get (D := D) (ci := 4) (v := .int 6) (C := RX4) (T := TX4) (N := 8) hx hb hts iX4 hown hK hP 0 rfl rfl 1 (by decide) (hts _ q158) (fun _ h9 => h9) rfl dX4_append_8 ?_
  refine lv_if_lt (tgt := 47) hx hb dX4_append_11 (by decide) (fun c9 => absurd c9 (by decide)) (fun _ => ?_)
  refine lv_aload_n hx hb dX4_append_14 rfl (lv_at hl 1 rfl) ?_
  refine va_get (D := D) (ci := 4) (v := .int 6) (C := RX4) (T := TX4) (N := 8) hx hb hts iX4 hown hK hP 0 rfl rfl 1 (by decide) (hts _ q158) (fun _ h9 => h9) rfl dX4_append_15 ?_
  refine lv_sipush (v := 2000) hx hb dX4_append_18 (by decide) ?_
  refine lv_icmp_ge (tgt := 47) hx hb dX4_append_21 (by decide) (fun c9 => absurd c9 (by decide)) (fun _ => ?_)
  refine lv_aload_n hx hb dX4_append_24 rfl (lv_at hl 1 rfl) ?_
  refine va_get (D := D) (ci := 4) (v := .ref t) (C := RX4) (T := TX4) (N := 8) hx hb hts iX4 hown hK hP 0 rfl rfl 0 (by decide) (hts _ q157) (fun _ h9 => h9) rfl dX4_append_25 ?_
  refine lv_aload_n hx hb dX4_append_28 rfl (lv_at hl 1 rfl) ?_
  refine va_get (D := D) (ci := 4) (v := .int 6) (C := RX4) (T := TX4) (N := 8) hx hb hts iX4 hown hK hP 0 rfl rfl 1 (by decide) (hts _ q158) (fun _ h9 => h9) rfl dX4_append_29 ?_
  refine lv_iload_n hx hb dX4_append_32 rfl (lv_at hl 2 rfl) ?_
  refine lv_iload_n hx hb dX4_append_33 rfl (lv_at hl 0 rfl) ?_
  refine lv_ishr hx hb dX4_append_34 ?_
  refine lv_topi (fun x_7 ex_7 => ?_)
  refine lv_i2b hx hb dX4_append_35 rfl ?_
  refine lv_topi (fun x_8 ex_8 => ?_)
  refine va_bast hx hb hK hP hD hS 1 1 rfl rfl (vpi (by decide)) dX4_append_36 (fun H locs hP hD hS => ?_)
  have hP : va_P D clz [(h, .inr (4, [.ref t, .int 6, .int 0, .int (-1), .int 0, .int 0, .int 0, .int 0])), (t, .inl (cy 1, 2000, .inl (upd (upd (upd f 4 (vp_nar .byte x_2)) 5 (vp_nar .byte x_5)) 6 (vp_nar .byte x_8))))] H := hP
  have hD : va_D A [(h, .inr (4, [.ref t, .int 6, .int 0, .int (-1), .int 0, .int 0, .int 0, .int 0])), (t, .inl (cy 1, 2000, .inl (upd (upd (upd f 4 (vp_nar .byte x_2)) 5 (vp_nar .byte x_5)) 6 (vp_nar .byte x_8))))] := hD
  refine lv_aload_n hx hb dX4_append_37 rfl (lv_at hl 1 rfl) ?_
  refine lv_dup hx hb dX4_append_38 rfl ?_
  refine va_get (D := D) (ci := 4) (v := .int 6) (C := RX4) (T := TX4) (N := 8) hx hb hts iX4 hown hK hP 0 rfl rfl 1 (by decide) (hts _ q158) (fun _ h9 => h9) rfl dX4_append_39 ?_
  refine lv_iconst (v := 1) hx hb dX4_append_42 (by decide) ?_
  refine lv_iadd hx hb dX4_append_43 ?_
  refine lv_topi (fun x_9 ex_9 => ?_)
  obtain rfl : x_9 = 7 := ex_9.trans (by decide)
  refine va_put (D := D) (ci := 4) (v := .int 7) (ty := .int) (C := RX4) (T := TX4) (N := 8) hx hb hts iX4 tyX4 tyX4_ok nmX4 hown hK hP hD hS 0 rfl rfl 1 (by decide) (hts _ q158) (fun _ h9 => h9) rfl (by decide +kernel) rfl rfl (Nat.le_of_ble_eq_true rfl) dX4_append_44 (fun H locs hP hD hS => ?_)
  have hP : va_P D clz [(h, .inr (4, [.ref t, .int 7, .int 0, .int (-1), .int 0, .int 0, .int 0, .int 0])), (t, .inl (cy 1, 2000, .inl (upd (upd (upd f 4 (vp_nar .byte x_2)) 5 (vp_nar .byte x_5)) 6 (vp_nar .byte x_8))))] H := hP
  have hD : va_D A [(h, .inr (4, [.ref t, .int 7, .int 0, .int (-1), .int 0, .int 0, .int 0, .int 0])), (t, .inl (cy 1, 2000, .inl (upd (upd (upd f 4 (vp_nar .byte x_2)) 5 (vp_nar .byte x_5)) 6 (vp_nar .byte x_8))))] := hD
  refine lv_iinc (v := 0) (lv' := [(2, .int 0), (0, .ref h), (1, .int p1)]) hx hb dX4_append_47 hl (k := 0) rfl (by decide) (by decide) rfl (fun ls hl => ?_)
  refine lv_goto (tgt := 3) hx hb dX4_append_50 (by decide) ?_
  refine lv_iload_n hx hb dX4_append_3 rfl (lv_at hl 0 rfl) ?_
  refine lv_if_lt (tgt := 53) hx hb dX4_append_4 (by decide) (fun c9 => absurd c9 (by decide)) (fun _ => ?_)
  refine lv_aload_n hx hb dX4_append_7 rfl (lv_at hl 1 rfl) ?_
  refine va_get (D := D) (ci := 4) (v := .int 7) (C := RX4) (T := TX4) (N := 8) hx hb hts iX4 hown hK hP 0 rfl rfl 1 (by decide) (hts _ q158) (fun _ h9 => h9) rfl dX4_append_8 ?_
  refine lv_if_lt (tgt := 47) hx hb dX4_append_11 (by decide) (fun c9 => absurd c9 (by decide)) (fun _ => ?_)
  refine lv_aload_n hx hb dX4_append_14 rfl (lv_at hl 1 rfl) ?_
  refine va_get (D := D) (ci := 4) (v := .int 7) (C := RX4) (T := TX4) (N := 8) hx hb hts iX4 hown hK hP 0 rfl rfl 1 (by decide) (hts _ q158) (fun _ h9 => h9) rfl dX4_append_15 ?_
  refine lv_sipush (v := 2000) hx hb dX4_append_18 (by decide) ?_
  refine lv_icmp_ge (tgt := 47) hx hb dX4_append_21 (by decide) (fun c9 => absurd c9 (by decide)) (fun _ => ?_)
  refine lv_aload_n hx hb dX4_append_24 rfl (lv_at hl 1 rfl) ?_
  refine va_get (D := D) (ci := 4) (v := .ref t) (C := RX4) (T := TX4) (N := 8) hx hb hts iX4 hown hK hP 0 rfl rfl 0 (by decide) (hts _ q157) (fun _ h9 => h9) rfl dX4_append_25 ?_
  refine lv_aload_n hx hb dX4_append_28 rfl (lv_at hl 1 rfl) ?_
  refine va_get (D := D) (ci := 4) (v := .int 7) (C := RX4) (T := TX4) (N := 8) hx hb hts iX4 hown hK hP 0 rfl rfl 1 (by decide) (hts _ q158) (fun _ h9 => h9) rfl dX4_append_29 ?_
  refine lv_iload_n hx hb dX4_append_32 rfl (lv_at hl 2 rfl) ?_
  refine lv_iload_n hx hb dX4_append_33 rfl (lv_at hl 0 rfl) ?_
  refine lv_ishr hx hb dX4_append_34 ?_
  refine lv_topi (fun x_10 ex_10 => ?_)
  refine lv_i2b hx hb dX4_append_35 rfl ?_
  refine lv_topi (fun x_11 ex_11 => ?_)
  refine va_bast hx hb hK hP hD hS 1 1 rfl rfl (vpi (by decide)) dX4_append_36 (fun H locs hP hD hS => ?_)
  have hP : va_P D clz [(h, .inr (4, [.ref t, .int 7, .int 0, .int (-1), .int 0, .int 0, .int 0, .int 0])), (t, .inl (cy 1, 2000, .inl (upd (upd (upd (upd f 4 (vp_nar .byte x_2)) 5 (vp_nar .byte x_5)) 6 (vp_nar .byte x_8)) 7 (vp_nar .byte x_11))))] H := hP
  have hD : va_D A [(h, .inr (4, [.ref t, .int 7, .int 0, .int (-1), .int 0, .int 0, .int 0, .int 0])), (t, .inl (cy 1, 2000, .inl (upd (upd (upd (upd f 4 (vp_nar .byte x_2)) 5 (vp_nar .byte x_5)) 6 (vp_nar .byte x_8)) 7 (vp_nar .byte x_11))))] := hD
  refine lv_aload_n hx hb dX4_append_37 rfl (lv_at hl 1 rfl) ?_
  refine lv_dup hx hb dX4_append_38 rfl ?_
  refine va_get (D := D) (ci := 4) (v := .int 7) (C := RX4) (T := TX4) (N := 8) hx hb hts iX4 hown hK hP 0 rfl rfl 1 (by decide) (hts _ q158) (fun _ h9 => h9) rfl dX4_append_39 ?_
  refine lv_iconst (v := 1) hx hb dX4_append_42 (by decide) ?_
  refine lv_iadd hx hb dX4_append_43 ?_
  refine lv_topi (fun x_12 ex_12 => ?_)
  obtain rfl : x_12 = 8 := ex_12.trans (by decide)
  refine va_put (D := D) (ci := 4) (v := .int 8) (ty := .int) (C := RX4) (T := TX4) (N := 8) hx hb hts iX4 tyX4 tyX4_ok nmX4 hown hK hP hD hS 0 rfl rfl 1 (by decide) (hts _ q158) (fun _ h9 => h9) rfl (by decide +kernel) rfl rfl (Nat.le_of_ble_eq_true rfl) dX4_append_44 (fun H locs hP hD hS => ?_)
  have hP : va_P D clz [(h, .inr (4, [.ref t, .int 8, .int 0, .int (-1), .int 0, .int 0, .int 0, .int 0])), (t, .inl (cy 1, 2000, .inl (upd (upd (upd (upd f 4 (vp_nar .byte x_2)) 5 (vp_nar .byte x_5)) 6 (vp_nar .byte x_8)) 7 (vp_nar .byte x_11))))] H := hP
  have hD : va_D A [(h, .inr (4, [.ref t, .int 8, .int 0, .int (-1), .int 0, .int 0, .int 0, .int 0])), (t, .inl (cy 1, 2000, .inl (upd (upd (upd (upd f 4 (vp_nar .byte x_2)) 5 (vp_nar .byte x_5)) 6 (vp_nar .byte x_8)) 7 (vp_nar .byte x_11))))] := hD
  refine lv_iinc (v := (-8)) (lv' := [(2, .int (-8)), (0, .ref h), (1, .int p1)]) hx hb dX4_append_47 hl (k := 0) rfl (by decide) (by decide) rfl (fun ls hl => ?_)
  refine lv_goto (tgt := 3) hx hb dX4_append_50 (by decide) ?_
  refine lv_iload_n hx hb dX4_append_3 rfl (lv_at hl 0 rfl) ?_
  refine lv_if_lt (tgt := 53) hx hb dX4_append_4 (by decide) (fun _ => ?_) (fun c9 => absurd c9 (by decide))
  have hP9 := hP.sub (ws' := [(h, .inr (4, [.ref t, .int 8, .int 0, .int (-1), .int 0, .int 0, .int 0, .int 0])), (t, .inl (cy 1, 2000, .inl (upd (upd (upd (upd f 4 (vp_nar .byte x_2)) 5 (vp_nar .byte x_5)) 6 (vp_nar .byte x_8)) 7 (vp_nar .byte x_11))))]) [0, 1] rfl
  have hD9 := hD.sub (ws' := [(h, .inr (4, [.ref t, .int 8, .int 0, .int (-1), .int 0, .int 0, .int 0, .int 0])), (t, .inl (cy 1, 2000, .inl (upd (upd (upd (upd f 4 (vp_nar .byte x_2)) 5 (vp_nar .byte x_5)) 6 (vp_nar .byte x_8)) 7 (vp_nar .byte x_11))))]) [0, 1] (by decide) rfl
  exact W.vret hx hb hr (fun tS ht hW => ⟨⟨(upd (upd (upd (upd f 4 (vp_nar .byte x_2)) 5 (vp_nar .byte x_5)) 6 (vp_nar .byte x_8)) 7 (vp_nar .byte x_11)), rfl, trivial, by rw [ht]; exact hP9, va_K.moved hW.alike hK, hD9⟩, hS.F ht⟩) hS.2.2 dX4_append_53

set_option maxHeartbeats 4000000 in
set_option maxRecDepth 100000 in
theorem c_X4_append8 (l : Launch) (D : va_G) (cy : Nat → ClassId) (h : Nat) (t : Nat) (f : Nat → Int32) (p1 : Int32) (sz : Nat) : Met l yX4_append (ww yX4_append cX4_append 3 none) ({ frames := 1, cells := 0, slots := 0, locals := 64 }) (va_Pc [.ref h, .int p1] (pre D cy [(h, .inr (4, [.ref t, .int 8, .int 0, .int (-1), .int 0, .int 0, .int 0, .int 0])), (t, .inl (cy 1, 2000, .inl f))] sz)) (qv D cy (va_A [(h, .inr (4, [.ref t, .int 8, .int 0, .int (-1), .int 0, .int 0, .int 0, .int 0])), (t, .inl (cy 1, 2000, .inl f))] sz) (fun (_ : Nat → Int32) => True) (fun (u : Nat → Int32) => [(h, .inr (4, [.ref t, .int 12, .int 0, .int (-1), .int 0, .int 0, .int 0, .int 0])), (t, .inl (cy 1, 2000, .inl u))])) 0 0 (va_A [(h, .inr (4, [.ref t, .int 8, .int 0, .int (-1), .int 0, .int 0, .int 0, .int 0])), (t, .inl (cy 1, 2000, .inl f))] sz) := by
  refine Met.ofW (cc := cX4_append) (maxL := 3) (ret := none) (by decide) rfl ?_
  intro p e s m args below meth c s₁ B hml hv
  obtain ⟨rfl, hsz, hP, hK, hD0⟩ := hv
  have hx := B.exec
  have hb := B.bytes
  have hr := B.returns
  have hts := hts_g (atoms_spec (ws := ww yX4_append cX4_append 3 none) B.pre)
  have hown : s.vm.findClass RX4 = some m.cls := findClass_of_methodNamed B.named
  have hlocks := B.notSynchronized
  subst hsz
  have hD := hD0.self (sz := s.heap.size)
  generalize hAe : va_A [(h, .inr (4, [.ref t, .int 8, .int 0, .int (-1), .int 0, .int 0, .int 0, .int 0])), (t, .inl (cy 1, 2000, .inl f))] s.heap.size = A at hD ⊢
  have hA : ∀ q : Nat, s.heap.size ≤ q → A q := fun q h => by rw [← hAe]; exact Or.inr h
  have hS : va_S A s.heap s.heap [] := va_S.rf
  have hl := lv_entry ([.ref h, .int p1]) (n := 3) (Nat.le_of_ble_eq_true rfl)
  rw [lg_entry_eq]
  generalize (lg_sl ([.ref h, .int p1]) ++ List.replicate (3 - (lg_sl ([.ref h, .int p1])).length) Slot.unset).toArray = ls at hl ⊢
  have hl : lv_has ls 3 [(0, .ref h), (1, .int p1)] := hl
  refine lv_bipush (v := 24) hx hb dX4_append_0 (by decide) ?_
  refine lv_istore_n (lv' := [(2, .int 24), (0, .ref h), (1, .int p1)]) hx hb dX4_append_2 rfl hl (by decide) rfl (fun ls hl => ?_)
  refine lv_iload_n hx hb dX4_append_3 rfl (lv_at hl 0 rfl) ?_
  refine lv_if_lt (tgt := 53) hx hb dX4_append_4 (by decide) (fun c9 => absurd c9 (by decide)) (fun _ => ?_)
  refine lv_aload_n hx hb dX4_append_7 rfl (lv_at hl 1 rfl) ?_
  refine va_get (D := D) (ci := 4) (v := .int 8) (C := RX4) (T := TX4) (N := 8) hx hb hts iX4 hown hK hP 0 rfl rfl 1 (by decide) (hts _ q158) (fun _ h9 => h9) rfl dX4_append_8 ?_
  refine lv_if_lt (tgt := 47) hx hb dX4_append_11 (by decide) (fun c9 => absurd c9 (by decide)) (fun _ => ?_)
  refine lv_aload_n hx hb dX4_append_14 rfl (lv_at hl 1 rfl) ?_
  refine va_get (D := D) (ci := 4) (v := .int 8) (C := RX4) (T := TX4) (N := 8) hx hb hts iX4 hown hK hP 0 rfl rfl 1 (by decide) (hts _ q158) (fun _ h9 => h9) rfl dX4_append_15 ?_
  refine lv_sipush (v := 2000) hx hb dX4_append_18 (by decide) ?_
  refine lv_icmp_ge (tgt := 47) hx hb dX4_append_21 (by decide) (fun c9 => absurd c9 (by decide)) (fun _ => ?_)
  refine lv_aload_n hx hb dX4_append_24 rfl (lv_at hl 1 rfl) ?_
  refine va_get (D := D) (ci := 4) (v := .ref t) (C := RX4) (T := TX4) (N := 8) hx hb hts iX4 hown hK hP 0 rfl rfl 0 (by decide) (hts _ q157) (fun _ h9 => h9) rfl dX4_append_25 ?_
  refine lv_aload_n hx hb dX4_append_28 rfl (lv_at hl 1 rfl) ?_
  refine va_get (D := D) (ci := 4) (v := .int 8) (C := RX4) (T := TX4) (N := 8) hx hb hts iX4 hown hK hP 0 rfl rfl 1 (by decide) (hts _ q158) (fun _ h9 => h9) rfl dX4_append_29 ?_
  refine lv_iload_n hx hb dX4_append_32 rfl (lv_at hl 2 rfl) ?_
  refine lv_iload_n hx hb dX4_append_33 rfl (lv_at hl 0 rfl) ?_
  refine lv_ishr hx hb dX4_append_34 ?_
  refine lv_topi (fun x_1 ex_1 => ?_)
  refine lv_i2b hx hb dX4_append_35 rfl ?_
  refine lv_topi (fun x_2 ex_2 => ?_)
  refine va_bast hx hb hK hP hD hS 1 1 rfl rfl (vpi (by decide)) dX4_append_36 (fun H locs hP hD hS => ?_)
  have hP : va_P D clz [(h, .inr (4, [.ref t, .int 8, .int 0, .int (-1), .int 0, .int 0, .int 0, .int 0])), (t, .inl (cy 1, 2000, .inl (upd f 8 (vp_nar .byte x_2))))] H := hP
  have hD : va_D A [(h, .inr (4, [.ref t, .int 8, .int 0, .int (-1), .int 0, .int 0, .int 0, .int 0])), (t, .inl (cy 1, 2000, .inl (upd f 8 (vp_nar .byte x_2))))] := hD
  refine lv_aload_n hx hb dX4_append_37 rfl (lv_at hl 1 rfl) ?_
  refine lv_dup hx hb dX4_append_38 rfl ?_
  refine va_get (D := D) (ci := 4) (v := .int 8) (C := RX4) (T := TX4) (N := 8) hx hb hts iX4 hown hK hP 0 rfl rfl 1 (by decide) (hts _ q158) (fun _ h9 => h9) rfl dX4_append_39 ?_
  refine lv_iconst (v := 1) hx hb dX4_append_42 (by decide) ?_
  refine lv_iadd hx hb dX4_append_43 ?_
  refine lv_topi (fun x_3 ex_3 => ?_)
  obtain rfl : x_3 = 9 := ex_3.trans (by decide)
  refine va_put (D := D) (ci := 4) (v := .int 9) (ty := .int) (C := RX4) (T := TX4) (N := 8) hx hb hts iX4 tyX4 tyX4_ok nmX4 hown hK hP hD hS 0 rfl rfl 1 (by decide) (hts _ q158) (fun _ h9 => h9) rfl (by decide +kernel) rfl rfl (Nat.le_of_ble_eq_true rfl) dX4_append_44 (fun H locs hP hD hS => ?_)
  have hP : va_P D clz [(h, .inr (4, [.ref t, .int 9, .int 0, .int (-1), .int 0, .int 0, .int 0, .int 0])), (t, .inl (cy 1, 2000, .inl (upd f 8 (vp_nar .byte x_2))))] H := hP
  have hD : va_D A [(h, .inr (4, [.ref t, .int 9, .int 0, .int (-1), .int 0, .int 0, .int 0, .int 0])), (t, .inl (cy 1, 2000, .inl (upd f 8 (vp_nar .byte x_2))))] := hD
  refine lv_iinc (v := 16) (lv' := [(2, .int 16), (0, .ref h), (1, .int p1)]) hx hb dX4_append_47 hl (k := 0) rfl (by decide) (by decide) rfl (fun ls hl => ?_)
  refine lv_goto (tgt := 3) hx hb dX4_append_50 (by decide) ?_
  refine lv_iload_n hx hb dX4_append_3 rfl (lv_at hl 0 rfl) ?_
  refine lv_if_lt (tgt := 53) hx hb dX4_append_4 (by decide) (fun c9 => absurd c9 (by decide)) (fun _ => ?_)
  refine lv_aload_n hx hb dX4_append_7 rfl (lv_at hl 1 rfl) ?_
  refine va_get (D := D) (ci := 4) (v := .int 9) (C := RX4) (T := TX4) (N := 8) hx hb hts iX4 hown hK hP 0 rfl rfl 1 (by decide) (hts _ q158) (fun _ h9 => h9) rfl dX4_append_8 ?_
  refine lv_if_lt (tgt := 47) hx hb dX4_append_11 (by decide) (fun c9 => absurd c9 (by decide)) (fun _ => ?_)
  refine lv_aload_n hx hb dX4_append_14 rfl (lv_at hl 1 rfl) ?_
  refine va_get (D := D) (ci := 4) (v := .int 9) (C := RX4) (T := TX4) (N := 8) hx hb hts iX4 hown hK hP 0 rfl rfl 1 (by decide) (hts _ q158) (fun _ h9 => h9) rfl dX4_append_15 ?_
  refine lv_sipush (v := 2000) hx hb dX4_append_18 (by decide) ?_
  refine lv_icmp_ge (tgt := 47) hx hb dX4_append_21 (by decide) (fun c9 => absurd c9 (by decide)) (fun _ => ?_)
  refine lv_aload_n hx hb dX4_append_24 rfl (lv_at hl 1 rfl) ?_
  refine va_get (D := D) (ci := 4) (v := .ref t) (C := RX4) (T := TX4) (N := 8) hx hb hts iX4 hown hK hP 0 rfl rfl 0 (by decide) (hts _ q157) (fun _ h9 => h9) rfl dX4_append_25 ?_
  refine lv_aload_n hx hb dX4_append_28 rfl (lv_at hl 1 rfl) ?_
  refine va_get (D := D) (ci := 4) (v := .int 9) (C := RX4) (T := TX4) (N := 8) hx hb hts iX4 hown hK hP 0 rfl rfl 1 (by decide) (hts _ q158) (fun _ h9 => h9) rfl dX4_append_29 ?_
  refine lv_iload_n hx hb dX4_append_32 rfl (lv_at hl 2 rfl) ?_
  refine lv_iload_n hx hb dX4_append_33 rfl (lv_at hl 0 rfl) ?_
  refine lv_ishr hx hb dX4_append_34 ?_
  refine lv_topi (fun x_4 ex_4 => ?_)
  refine lv_i2b hx hb dX4_append_35 rfl ?_
  refine lv_topi (fun x_5 ex_5 => ?_)
  refine va_bast hx hb hK hP hD hS 1 1 rfl rfl (vpi (by decide)) dX4_append_36 (fun H locs hP hD hS => ?_)
  have hP : va_P D clz [(h, .inr (4, [.ref t, .int 9, .int 0, .int (-1), .int 0, .int 0, .int 0, .int 0])), (t, .inl (cy 1, 2000, .inl (upd (upd f 8 (vp_nar .byte x_2)) 9 (vp_nar .byte x_5))))] H := hP
  have hD : va_D A [(h, .inr (4, [.ref t, .int 9, .int 0, .int (-1), .int 0, .int 0, .int 0, .int 0])), (t, .inl (cy 1, 2000, .inl (upd (upd f 8 (vp_nar .byte x_2)) 9 (vp_nar .byte x_5))))] := hD
  refine lv_aload_n hx hb dX4_append_37 rfl (lv_at hl 1 rfl) ?_
  refine lv_dup hx hb dX4_append_38 rfl ?_
  refine va_get (D := D) (ci := 4) (v := .int 9) (C := RX4) (T := TX4) (N := 8) hx hb hts iX4 hown hK hP 0 rfl rfl 1 (by decide) (hts _ q158) (fun _ h9 => h9) rfl dX4_append_39 ?_
  refine lv_iconst (v := 1) hx hb dX4_append_42 (by decide) ?_
  refine lv_iadd hx hb dX4_append_43 ?_
  refine lv_topi (fun x_6 ex_6 => ?_)
  obtain rfl : x_6 = 10 := ex_6.trans (by decide)
  refine va_put (D := D) (ci := 4) (v := .int 10) (ty := .int) (C := RX4) (T := TX4) (N := 8) hx hb hts iX4 tyX4 tyX4_ok nmX4 hown hK hP hD hS 0 rfl rfl 1 (by decide) (hts _ q158) (fun _ h9 => h9) rfl (by decide +kernel) rfl rfl (Nat.le_of_ble_eq_true rfl) dX4_append_44 (fun H locs hP hD hS => ?_)
  have hP : va_P D clz [(h, .inr (4, [.ref t, .int 10, .int 0, .int (-1), .int 0, .int 0, .int 0, .int 0])), (t, .inl (cy 1, 2000, .inl (upd (upd f 8 (vp_nar .byte x_2)) 9 (vp_nar .byte x_5))))] H := hP
  have hD : va_D A [(h, .inr (4, [.ref t, .int 10, .int 0, .int (-1), .int 0, .int 0, .int 0, .int 0])), (t, .inl (cy 1, 2000, .inl (upd (upd f 8 (vp_nar .byte x_2)) 9 (vp_nar .byte x_5))))] := hD
  refine lv_iinc (v := 8) (lv' := [(2, .int 8), (0, .ref h), (1, .int p1)]) hx hb dX4_append_47 hl (k := 0) rfl (by decide) (by decide) rfl (fun ls hl => ?_)
  refine lv_goto (tgt := 3) hx hb dX4_append_50 (by decide) ?_
  refine lv_iload_n hx hb dX4_append_3 rfl (lv_at hl 0 rfl) ?_
  refine lv_if_lt (tgt := 53) hx hb dX4_append_4 (by decide) (fun c9 => absurd c9 (by decide)) (fun _ => ?_)
  refine lv_aload_n hx hb dX4_append_7 rfl (lv_at hl 1 rfl) ?_
  refine va_get (D := D) (ci := 4) (v := .int 10) (C := RX4) (T := TX4) (N := 8) hx hb hts iX4 hown hK hP 0 rfl rfl 1 (by decide) (hts _ q158) (fun _ h9 => h9) rfl dX4_append_8 ?_
  refine lv_if_lt (tgt := 47) hx hb dX4_append_11 (by decide) (fun c9 => absurd c9 (by decide)) (fun _ => ?_)
  refine lv_aload_n hx hb dX4_append_14 rfl (lv_at hl 1 rfl) ?_
  refine va_get (D := D) (ci := 4) (v := .int 10) (C := RX4) (T := TX4) (N := 8) hx hb hts iX4 hown hK hP 0 rfl rfl 1 (by decide) (hts _ q158) (fun _ h9 => h9) rfl dX4_append_15 ?_
  refine lv_sipush (v := 2000) hx hb dX4_append_18 (by decide) ?_
  refine lv_icmp_ge (tgt := 47) hx hb dX4_append_21 (by decide) (fun c9 => absurd c9 (by decide)) (fun _ => ?_)
  refine lv_aload_n hx hb dX4_append_24 rfl (lv_at hl 1 rfl) ?_
  refine va_get (D := D) (ci := 4) (v := .ref t) (C := RX4) (T := TX4) (N := 8) hx hb hts iX4 hown hK hP 0 rfl rfl 0 (by decide) (hts _ q157) (fun _ h9 => h9) rfl dX4_append_25 ?_
  refine lv_aload_n hx hb dX4_append_28 rfl (lv_at hl 1 rfl) ?_
  refine va_get (D := D) (ci := 4) (v := .int 10) (C := RX4) (T := TX4) (N := 8) hx hb hts iX4 hown hK hP 0 rfl rfl 1 (by decide) (hts _ q158) (fun _ h9 => h9) rfl dX4_append_29 ?_
  refine lv_iload_n hx hb dX4_append_32 rfl (lv_at hl 2 rfl) ?_
  refine lv_iload_n hx hb dX4_append_33 rfl (lv_at hl 0 rfl) ?_
  refine lv_ishr hx hb dX4_append_34 ?_
  refine lv_topi (fun x_7 ex_7 => ?_)
  refine lv_i2b hx hb dX4_append_35 rfl ?_
  refine lv_topi (fun x_8 ex_8 => ?_)
  refine va_bast hx hb hK hP hD hS 1 1 rfl rfl (vpi (by decide)) dX4_append_36 (fun H locs hP hD hS => ?_)
  have hP : va_P D clz [(h, .inr (4, [.ref t, .int 10, .int 0, .int (-1), .int 0, .int 0, .int 0, .int 0])), (t, .inl (cy 1, 2000, .inl (upd (upd (upd f 8 (vp_nar .byte x_2)) 9 (vp_nar .byte x_5)) 10 (vp_nar .byte x_8))))] H := hP
  have hD : va_D A [(h, .inr (4, [.ref t, .int 10, .int 0, .int (-1), .int 0, .int 0, .int 0, .int 0])), (t, .inl (cy 1, 2000, .inl (upd (upd (upd f 8 (vp_nar .byte x_2)) 9 (vp_nar .byte x_5)) 10 (vp_nar .byte x_8))))] := hD
  refine lv_aload_n hx hb dX4_append_37 rfl (lv_at hl 1 rfl) ?_
  refine lv_dup hx hb dX4_append_38 rfl ?_
  refine va_get (D := D) (ci := 4) (v := .int 10) (C := RX4) (T := TX4) (N := 8) hx hb hts iX4 hown hK hP 0 rfl rfl 1 (by decide) (hts _ q158) (fun _ h9 => h9) rfl dX4_append_39 ?_
  refine lv_iconst (v := 1) hx hb dX4_append_42 (by decide) ?_
  refine lv_iadd hx hb dX4_append_43 ?_
  refine lv_topi (fun x_9 ex_9 => ?_)
  obtain rfl : x_9 = 11 := ex_9.trans (by decide)
  refine va_put (D := D) (ci := 4) (v := .int 11) (ty := .int) (C := RX4) (T := TX4) (N := 8) hx hb hts iX4 tyX4 tyX4_ok nmX4 hown hK hP hD hS 0 rfl rfl 1 (by decide) (hts _ q158) (fun _ h9 => h9) rfl (by decide +kernel) rfl rfl (Nat.le_of_ble_eq_true rfl) dX4_append_44 (fun H locs hP hD hS => ?_)
  have hP : va_P D clz [(h, .inr (4, [.ref t, .int 11, .int 0, .int (-1), .int 0, .int 0, .int 0, .int 0])), (t, .inl (cy 1, 2000, .inl (upd (upd (upd f 8 (vp_nar .byte x_2)) 9 (vp_nar .byte x_5)) 10 (vp_nar .byte x_8))))] H := hP
  have hD : va_D A [(h, .inr (4, [.ref t, .int 11, .int 0, .int (-1), .int 0, .int 0, .int 0, .int 0])), (t, .inl (cy 1, 2000, .inl (upd (upd (upd f 8 (vp_nar .byte x_2)) 9 (vp_nar .byte x_5)) 10 (vp_nar .byte x_8))))] := hD
  refine lv_iinc (v := 0) (lv' := [(2, .int 0), (0, .ref h), (1, .int p1)]) hx hb dX4_append_47 hl (k := 0) rfl (by decide) (by decide) rfl (fun ls hl => ?_)
  refine lv_goto (tgt := 3) hx hb dX4_append_50 (by decide) ?_
  refine lv_iload_n hx hb dX4_append_3 rfl (lv_at hl 0 rfl) ?_
  refine lv_if_lt (tgt := 53) hx hb dX4_append_4 (by decide) (fun c9 => absurd c9 (by decide)) (fun _ => ?_)
  refine lv_aload_n hx hb dX4_append_7 rfl (lv_at hl 1 rfl) ?_
  refine va_get (D := D) (ci := 4) (v := .int 11) (C := RX4) (T := TX4) (N := 8) hx hb hts iX4 hown hK hP 0 rfl rfl 1 (by decide) (hts _ q158) (fun _ h9 => h9) rfl dX4_append_8 ?_
  refine lv_if_lt (tgt := 47) hx hb dX4_append_11 (by decide) (fun c9 => absurd c9 (by decide)) (fun _ => ?_)
  refine lv_aload_n hx hb dX4_append_14 rfl (lv_at hl 1 rfl) ?_
  refine va_get (D := D) (ci := 4) (v := .int 11) (C := RX4) (T := TX4) (N := 8) hx hb hts iX4 hown hK hP 0 rfl rfl 1 (by decide) (hts _ q158) (fun _ h9 => h9) rfl dX4_append_15 ?_
  refine lv_sipush (v := 2000) hx hb dX4_append_18 (by decide) ?_
  refine lv_icmp_ge (tgt := 47) hx hb dX4_append_21 (by decide) (fun c9 => absurd c9 (by decide)) (fun _ => ?_)
  refine lv_aload_n hx hb dX4_append_24 rfl (lv_at hl 1 rfl) ?_
  refine va_get (D := D) (ci := 4) (v := .ref t) (C := RX4) (T := TX4) (N := 8) hx hb hts iX4 hown hK hP 0 rfl rfl 0 (by decide) (hts _ q157) (fun _ h9 => h9) rfl dX4_append_25 ?_
  refine lv_aload_n hx hb dX4_append_28 rfl (lv_at hl 1 rfl) ?_
  refine va_get (D := D) (ci := 4) (v := .int 11) (C := RX4) (T := TX4) (N := 8) hx hb hts iX4 hown hK hP 0 rfl rfl 1 (by decide) (hts _ q158) (fun _ h9 => h9) rfl dX4_append_29 ?_
  refine lv_iload_n hx hb dX4_append_32 rfl (lv_at hl 2 rfl) ?_
  refine lv_iload_n hx hb dX4_append_33 rfl (lv_at hl 0 rfl) ?_
  refine lv_ishr hx hb dX4_append_34 ?_
  refine lv_topi (fun x_10 ex_10 => ?_)
  refine lv_i2b hx hb dX4_append_35 rfl ?_
  refine lv_topi (fun x_11 ex_11 => ?_)
  refine va_bast hx hb hK hP hD hS 1 1 rfl rfl (vpi (by decide)) dX4_append_36 (fun H locs hP hD hS => ?_)
  have hP : va_P D clz [(h, .inr (4, [.ref t, .int 11, .int 0, .int (-1), .int 0, .int 0, .int 0, .int 0])), (t, .inl (cy 1, 2000, .inl (upd (upd (upd (upd f 8 (vp_nar .byte x_2)) 9 (vp_nar .byte x_5)) 10 (vp_nar .byte x_8)) 11 (vp_nar .byte x_11))))] H := hP
  have hD : va_D A [(h, .inr (4, [.ref t, .int 11, .int 0, .int (-1), .int 0, .int 0, .int 0, .int 0])), (t, .inl (cy 1, 2000, .inl (upd (upd (upd (upd f 8 (vp_nar .byte x_2)) 9 (vp_nar .byte x_5)) 10 (vp_nar .byte x_8)) 11 (vp_nar .byte x_11))))] := hD
  refine lv_aload_n hx hb dX4_append_37 rfl (lv_at hl 1 rfl) ?_
  refine lv_dup hx hb dX4_append_38 rfl ?_
  refine va_get (D := D) (ci := 4) (v := .int 11) (C := RX4) (T := TX4) (N := 8) hx hb hts iX4 hown hK hP 0 rfl rfl 1 (by decide) (hts _ q158) (fun _ h9 => h9) rfl dX4_append_39 ?_
  refine lv_iconst (v := 1) hx hb dX4_append_42 (by decide) ?_
  refine lv_iadd hx hb dX4_append_43 ?_
  refine lv_topi (fun x_12 ex_12 => ?_)
  obtain rfl : x_12 = 12 := ex_12.trans (by decide)
  refine va_put (D := D) (ci := 4) (v := .int 12) (ty := .int) (C := RX4) (T := TX4) (N := 8) hx hb hts iX4 tyX4 tyX4_ok nmX4 hown hK hP hD hS 0 rfl rfl 1 (by decide) (hts _ q158) (fun _ h9 => h9) rfl (by decide +kernel) rfl rfl (Nat.le_of_ble_eq_true rfl) dX4_append_44 (fun H locs hP hD hS => ?_)
  have hP : va_P D clz [(h, .inr (4, [.ref t, .int 12, .int 0, .int (-1), .int 0, .int 0, .int 0, .int 0])), (t, .inl (cy 1, 2000, .inl (upd (upd (upd (upd f 8 (vp_nar .byte x_2)) 9 (vp_nar .byte x_5)) 10 (vp_nar .byte x_8)) 11 (vp_nar .byte x_11))))] H := hP
  have hD : va_D A [(h, .inr (4, [.ref t, .int 12, .int 0, .int (-1), .int 0, .int 0, .int 0, .int 0])), (t, .inl (cy 1, 2000, .inl (upd (upd (upd (upd f 8 (vp_nar .byte x_2)) 9 (vp_nar .byte x_5)) 10 (vp_nar .byte x_8)) 11 (vp_nar .byte x_11))))] := hD
  refine lv_iinc (v := (-8)) (lv' := [(2, .int (-8)), (0, .ref h), (1, .int p1)]) hx hb dX4_append_47 hl (k := 0) rfl (by decide) (by decide) rfl (fun ls hl => ?_)
  refine lv_goto (tgt := 3) hx hb dX4_append_50 (by decide) ?_
  refine lv_iload_n hx hb dX4_append_3 rfl (lv_at hl 0 rfl) ?_
  refine lv_if_lt (tgt := 53) hx hb dX4_append_4 (by decide) (fun _ => ?_) (fun c9 => absurd c9 (by decide))
  have hP9 := hP.sub (ws' := [(h, .inr (4, [.ref t, .int 12, .int 0, .int (-1), .int 0, .int 0, .int 0, .int 0])), (t, .inl (cy 1, 2000, .inl (upd (upd (upd (upd f 8 (vp_nar .byte x_2)) 9 (vp_nar .byte x_5)) 10 (vp_nar .byte x_8)) 11 (vp_nar .byte x_11))))]) [0, 1] rfl
  have hD9 := hD.sub (ws' := [(h, .inr (4, [.ref t, .int 12, .int 0, .int (-1), .int 0, .int 0, .int 0, .int 0])), (t, .inl (cy 1, 2000, .inl (upd (upd (upd (upd f 8 (vp_nar .byte x_2)) 9 (vp_nar .byte x_5)) 10 (vp_nar .byte x_8)) 11 (vp_nar .byte x_11))))]) [0, 1] (by decide) rfl
  exact W.vret hx hb hr (fun tS ht hW => ⟨⟨(upd (upd (upd (upd f 8 (vp_nar .byte x_2)) 9 (vp_nar .byte x_5)) 10 (vp_nar .byte x_8)) 11 (vp_nar .byte x_11)), rfl, trivial, by rw [ht]; exact hP9, va_K.moved hW.alike hK, hD9⟩, hS.F ht⟩) hS.2.2 dX4_append_53

set_option maxHeartbeats 4000000 in
set_option maxRecDepth 100000 in
theorem c_X4_append12 (l : Launch) (D : va_G) (cy : Nat → ClassId) (h : Nat) (t : Nat) (f : Nat → Int32) (p1 : Int32) (sz : Nat) : Met l yX4_append (ww yX4_append cX4_append 3 none) ({ frames := 1, cells := 0, slots := 0, locals := 64 }) (va_Pc [.ref h, .int p1] (pre D cy [(h, .inr (4, [.ref t, .int 12, .int 0, .int (-1), .int 0, .int 0, .int 0, .int 0])), (t, .inl (cy 1, 2000, .inl f))] sz)) (qv D cy (va_A [(h, .inr (4, [.ref t, .int 12, .int 0, .int (-1), .int 0, .int 0, .int 0, .int 0])), (t, .inl (cy 1, 2000, .inl f))] sz) (fun (_ : Nat → Int32) => True) (fun (u : Nat → Int32) => [(h, .inr (4, [.ref t, .int 16, .int 0, .int (-1), .int 0, .int 0, .int 0, .int 0])), (t, .inl (cy 1, 2000, .inl u))])) 0 0 (va_A [(h, .inr (4, [.ref t, .int 12, .int 0, .int (-1), .int 0, .int 0, .int 0, .int 0])), (t, .inl (cy 1, 2000, .inl f))] sz) := by
  refine Met.ofW (cc := cX4_append) (maxL := 3) (ret := none) (by decide) rfl ?_
  intro p e s m args below meth c s₁ B hml hv
  obtain ⟨rfl, hsz, hP, hK, hD0⟩ := hv
  have hx := B.exec
  have hb := B.bytes
  have hr := B.returns
  have hts := hts_g (atoms_spec (ws := ww yX4_append cX4_append 3 none) B.pre)
  have hown : s.vm.findClass RX4 = some m.cls := findClass_of_methodNamed B.named
  have hlocks := B.notSynchronized
  subst hsz
  have hD := hD0.self (sz := s.heap.size)
  generalize hAe : va_A [(h, .inr (4, [.ref t, .int 12, .int 0, .int (-1), .int 0, .int 0, .int 0, .int 0])), (t, .inl (cy 1, 2000, .inl f))] s.heap.size = A at hD ⊢
  have hA : ∀ q : Nat, s.heap.size ≤ q → A q := fun q h => by rw [← hAe]; exact Or.inr h
  have hS : va_S A s.heap s.heap [] := va_S.rf
  have hl := lv_entry ([.ref h, .int p1]) (n := 3) (Nat.le_of_ble_eq_true rfl)
  rw [lg_entry_eq]
  generalize (lg_sl ([.ref h, .int p1]) ++ List.replicate (3 - (lg_sl ([.ref h, .int p1])).length) Slot.unset).toArray = ls at hl ⊢
  have hl : lv_has ls 3 [(0, .ref h), (1, .int p1)] := hl
  refine lv_bipush (v := 24) hx hb dX4_append_0 (by decide) ?_
  refine lv_istore_n (lv' := [(2, .int 24), (0, .ref h), (1, .int p1)]) hx hb dX4_append_2 rfl hl (by decide) rfl (fun ls hl => ?_)
  refine lv_iload_n hx hb dX4_append_3 rfl (lv_at hl 0 rfl) ?_
  refine lv_if_lt (tgt := 53) hx hb dX4_append_4 (by decide) (fun c9 => absurd c9 (by decide)) (fun _ => ?_)
  refine lv_aload_n hx hb dX4_append_7 rfl (lv_at hl 1 rfl) ?_
  refine va_get (D := D) (ci := 4) (v := .int 12) (C := RX4) (T := TX4) (N := 8) hx hb hts iX4 hown hK hP 0 rfl rfl 1 (by decide) (hts _ q158) (fun _ h9 => h9) rfl dX4_append_8 ?_
  refine lv_if_lt (tgt := 47) hx hb dX4_append_11 (by decide) (fun c9 => absurd c9 (by decide)) (fun _ => ?_)
  refine lv_aload_n hx hb dX4_append_14 rfl (lv_at hl 1 rfl) ?_
  refine va_get (D := D) (ci := 4) (v := .int 12) (C := RX4) (T := TX4) (N := 8) hx hb hts iX4 hown hK hP 0 rfl rfl 1 (by decide) (hts _ q158) (fun _ h9 => h9) rfl dX4_append_15 ?_
  refine lv_sipush (v := 2000) hx hb dX4_append_18 (by decide) ?_
  refine lv_icmp_ge (tgt := 47) hx hb dX4_append_21 (by decide) (fun c9 => absurd c9 (by decide)) (fun _ => ?_)
  refine lv_aload_n hx hb dX4_append_24 rfl (lv_at hl 1 rfl) ?_
  refine va_get (D := D) (ci := 4) (v := .ref t) (C := RX4) (T := TX4) (N := 8) hx hb hts iX4 hown hK hP 0 rfl rfl 0 (by decide) (hts _ q157) (fun _ h9 => h9) rfl dX4_append_25 ?_
  refine lv_aload_n hx hb dX4_append_28 rfl (lv_at hl 1 rfl) ?_
  refine va_get (D := D) (ci := 4) (v := .int 12) (C := RX4) (T := TX4) (N := 8) hx hb hts iX4 hown hK hP 0 rfl rfl 1 (by decide) (hts _ q158) (fun _ h9 => h9) rfl dX4_append_29 ?_
  refine lv_iload_n hx hb dX4_append_32 rfl (lv_at hl 2 rfl) ?_
  refine lv_iload_n hx hb dX4_append_33 rfl (lv_at hl 0 rfl) ?_
  refine lv_ishr hx hb dX4_append_34 ?_
  refine lv_topi (fun x_1 ex_1 => ?_)
  refine lv_i2b hx hb dX4_append_35 rfl ?_
  refine lv_topi (fun x_2 ex_2 => ?_)
  refine va_bast hx hb hK hP hD hS 1 1 rfl rfl (vpi (by decide)) dX4_append_36 (fun H locs hP hD hS => ?_)
  have hP : va_P D clz [(h, .inr (4, [.ref t, .int 12, .int 0, .int (-1), .int 0, .int 0, .int 0, .int 0])), (t, .inl (cy 1, 2000, .inl (upd f 12 (vp_nar .byte x_2))))] H := hP
  have hD : va_D A [(h, .inr (4, [.ref t, .int 12, .int 0, .int (-1), .int 0, .int 0, .int 0, .int 0])), (t, .inl (cy 1, 2000, .inl (upd f 12 (vp_nar .byte x_2))))] := hD
  refine lv_aload_n hx hb dX4_append_37 rfl (lv_at hl 1 rfl) ?_
  refine lv_dup hx hb dX4_append_38 rfl ?_
  refine va_get (D := D) (ci := 4) (v := .int 12) (C := RX4) (T := TX4) (N := 8) hx hb hts iX4 hown hK hP 0 rfl rfl 1 (by decide) (hts _ q158) (fun _ h9 => h9) rfl dX4_append_39 ?_
  refine lv_iconst (v := 1) hx hb dX4_append_42 (by decide) ?_
  refine lv_iadd hx hb dX4_append_43 ?_
  refine lv_topi (fun x_3 ex_3 => ?_)
  obtain rfl : x_3 = 13 := ex_3.trans (by decide)
  refine va_put (D := D) (ci := 4) (v := .int 13) (ty := .int) (C := RX4) (T := TX4) (N := 8) hx hb hts iX4 tyX4 tyX4_ok nmX4 hown hK hP hD hS 0 rfl rfl 1 (by decide) (hts _ q158) (fun _ h9 => h9) rfl (by decide +kernel) rfl rfl (Nat.le_of_ble_eq_true rfl) dX4_append_44 (fun H locs hP hD hS => ?_)
  have hP : va_P D clz [(h, .inr (4, [.ref t, .int 13, .int 0, .int (-1), .int 0, .int 0, .int 0, .int 0])), (t, .inl (cy 1, 2000, .inl (upd f 12 (vp_nar .byte x_2))))] H := hP
  have hD : va_D A [(h, .inr (4, [.ref t, .int 13, .int 0, .int (-1), .int 0, .int 0, .int 0, .int 0])), (t, .inl (cy 1, 2000, .inl (upd f 12 (vp_nar .byte x_2))))] := hD
  refine lv_iinc (v := 16) (lv' := [(2, .int 16), (0, .ref h), (1, .int p1)]) hx hb dX4_append_47 hl (k := 0) rfl (by decide) (by decide) rfl (fun ls hl => ?_)
  refine lv_goto (tgt := 3) hx hb dX4_append_50 (by decide) ?_
  refine lv_iload_n hx hb dX4_append_3 rfl (lv_at hl 0 rfl) ?_
  refine lv_if_lt (tgt := 53) hx hb dX4_append_4 (by decide) (fun c9 => absurd c9 (by decide)) (fun _ => ?_)
  refine lv_aload_n hx hb dX4_append_7 rfl (lv_at hl 1 rfl) ?_
  refine va_get (D := D) (ci := 4) (v := .int 13) (C := RX4) (T := TX4) (N := 8) hx hb hts iX4 hown hK hP 0 rfl rfl 1 (by decide) (hts _ q158) (fun _ h9 => h9) rfl dX4_append_8 ?_
  refine lv_if_lt (tgt := 47) hx hb dX4_append_11 (by decide) (fun c9 => absurd c9 (by decide)) (fun _ => ?_)
  refine lv_aload_n hx hb dX4_append_14 rfl (lv_at hl 1 rfl) ?_
  refine va_get (D := D) (ci := 4) (v := .int 13) (C := RX4) (T := TX4) (N := 8) hx hb hts iX4 hown hK hP 0 rfl rfl 1 (by decide) (hts _ q158) (fun _ h9 => h9) rfl dX4_append_15 ?_
  refine lv_sipush (v := 2000) hx hb dX4_append_18 (by decide) ?_
  refine lv_icmp_ge (tgt := 47) hx hb dX4_append_21 (by decide) (fun c9 => absurd c9 (by decide)) (fun _ => ?_)
  refine lv_aload_n hx hb dX4_append_24 rfl (lv_at hl 1 rfl) ?_
  refine va_get (D := D) (ci := 4) (v := .ref t) (C := RX4) (T := TX4) (N := 8) hx hb hts iX4 hown hK hP 0 rfl rfl 0 (by decide) (hts _ q157) (fun _ h9 => h9) rfl dX4_append_25 ?_
  refine lv_aload_n hx hb dX4_append_28 rfl (lv_at hl 1 rfl) ?_
  refine va_get (D := D) (ci := 4) (v := .int 13) (C := RX4) (T := TX4) (N := 8) hx hb hts iX4 hown hK hP 0 rfl rfl 1 (by decide) (hts _ q158) (fun _ h9 => h9) rfl dX4_append_29 ?_
  refine lv_iload_n hx hb dX4_append_32 rfl (lv_at hl 2 rfl) ?_
  refine lv_iload_n hx hb dX4_append_33 rfl (lv_at hl 0 rfl) ?_
  refine lv_ishr hx hb dX4_append_34 ?_
  refine lv_topi (fun x_4 ex_4 => ?_)
  refine lv_i2b hx hb dX4_append_35 rfl ?_
  refine lv_topi (fun x_5 ex_5 => ?_)
  refine va_bast hx hb hK hP hD hS 1 1 rfl rfl (vpi (by decide)) dX4_append_36 (fun H locs hP hD hS => ?_)
  have hP : va_P D clz [(h, .inr (4, [.ref t, .int 13, .int 0, .int (-1), .int 0, .int 0, .int 0, .int 0])), (t, .inl (cy 1, 2000, .inl (upd (upd f 12 (vp_nar .byte x_2)) 13 (vp_nar .byte x_5))))] H := hP
  have hD : va_D A [(h, .inr (4, [.ref t, .int 13, .int 0, .int (-1), .int 0, .int 0, .int 0, .int 0])), (t, .inl (cy 1, 2000, .inl (upd (upd f 12 (vp_nar .byte x_2)) 13 (vp_nar .byte x_5))))] := hD
  refine lv_aload_n hx hb dX4_append_37 rfl (lv_at hl 1 rfl) ?_
  refine lv_dup hx hb dX4_append_38 rfl ?_
  refine va_get (D := D) (ci := 4) (v := .int 13) (C := RX4) (T := TX4) (N := 8) hx hb hts iX4 hown hK hP 0 rfl rfl 1 (by decide) (hts _ q158) (fun _ h9 => h9) rfl dX4_append_39 ?_
  refine lv_iconst (v := 1) hx hb dX4_append_42 (by decide) ?_
  refine lv_iadd hx hb dX4_append_43 ?_
  refine lv_topi (fun x_6 ex_6 => ?_)
  obtain rfl : x_6 = 14 := ex_6.trans (by decide)
  refine va_put (D := D) (ci := 4) (v := .int 14) (ty := .int) (C := RX4) (T := TX4) (N := 8) hx hb hts iX4 tyX4 tyX4_ok nmX4 hown hK hP hD hS 0 rfl rfl 1 (by decide) (hts _ q158) (fun _ h9 => h9) rfl (by decide +kernel) rfl rfl (Nat.le_of_ble_eq_true rfl) dX4_append_44 (fun H locs hP hD hS => ?_)
  have hP : va_P D clz [(h, .inr (4, [.ref t, .int 14, .int 0, .int (-1), .int 0, .int 0, .int 0, .int 0])), (t, .inl (cy 1, 2000, .inl (upd (upd f 12 (vp_nar .byte x_2)) 13 (vp_nar .byte x_5))))] H := hP
  have hD : va_D A [(h, .inr (4, [.ref t, .int 14, .int 0, .int (-1), .int 0, .int 0, .int 0, .int 0])), (t, .inl (cy 1, 2000, .inl (upd (upd f 12 (vp_nar .byte x_2)) 13 (vp_nar .byte x_5))))] := hD
  refine lv_iinc (v := 8) (lv' := [(2, .int 8), (0, .ref h), (1, .int p1)]) hx hb dX4_append_47 hl (k := 0) rfl (by decide) (by decide) rfl (fun ls hl => ?_)
  refine lv_goto (tgt := 3) hx hb dX4_append_50 (by decide) ?_
  refine lv_iload_n hx hb dX4_append_3 rfl (lv_at hl 0 rfl) ?_
  refine lv_if_lt (tgt := 53) hx hb dX4_append_4 (by decide) (fun c9 => absurd c9 (by decide)) (fun _ => ?_)
  refine lv_aload_n hx hb dX4_append_7 rfl (lv_at hl 1 rfl) ?_
  refine va_get (D := D) (ci := 4) (v := .int 14) (C := RX4) (T := TX4) (N := 8) hx hb hts iX4 hown hK hP 0 rfl rfl 1 (by decide) (hts _ q158) (fun _ h9 => h9) rfl dX4_append_8 ?_
  refine lv_if_lt (tgt := 47) hx hb dX4_append_11 (by decide) (fun c9 => absurd c9 (by decide)) (fun _ => ?_)
  refine lv_aload_n hx hb dX4_append_14 rfl (lv_at hl 1 rfl) ?_
  refine va_get (D := D) (ci := 4) (v := .int 14) (C := RX4) (T := TX4) (N := 8) hx hb hts iX4 hown hK hP 0 rfl rfl 1 (by decide) (hts _ q158) (fun _ h9 => h9) rfl dX4_append_15 ?_
  refine lv_sipush (v := 2000) hx hb dX4_append_18 (by decide) ?_
  refine lv_icmp_ge (tgt := 47) hx hb dX4_append_21 (by decide) (fun c9 => absurd c9 (by decide)) (fun _ => ?_)
  refine lv_aload_n hx hb dX4_append_24 rfl (lv_at hl 1 rfl) ?_
  refine va_get (D := D) (ci := 4) (v := .ref t) (C := RX4) (T := TX4) (N := 8) hx hb hts iX4 hown hK hP 0 rfl rfl 0 (by decide) (hts _ q157) (fun _ h9 => h9) rfl dX4_append_25 ?_
  refine lv_aload_n hx hb dX4_append_28 rfl (lv_at hl 1 rfl) ?_
  refine va_get (D := D) (ci := 4) (v := .int 14) (C := RX4) (T := TX4) (N := 8) hx hb hts iX4 hown hK hP 0 rfl rfl 1 (by decide) (hts _ q158) (fun _ h9 => h9) rfl dX4_append_29 ?_
  refine lv_iload_n hx hb dX4_append_32 rfl (lv_at hl 2 rfl) ?_
  refine lv_iload_n hx hb dX4_append_33 rfl (lv_at hl 0 rfl) ?_
  refine lv_ishr hx hb dX4_append_34 ?_
  refine lv_topi (fun x_7 ex_7 => ?_)
  refine lv_i2b hx hb dX4_append_35 rfl ?_
  refine lv_topi (fun x_8 ex_8 => ?_)
  refine va_bast hx hb hK hP hD hS 1 1 rfl rfl (vpi (by decide)) dX4_append_36 (fun H locs hP hD hS => ?_)
  have hP : va_P D clz [(h, .inr (4, [.ref t, .int 14, .int 0, .int (-1), .int 0, .int 0, .int 0, .int 0])), (t, .inl (cy 1, 2000, .inl (upd (upd (upd f 12 (vp_nar .byte x_2)) 13 (vp_nar .byte x_5)) 14 (vp_nar .byte x_8))))] H := hP
  have hD : va_D A [(h, .inr (4, [.ref t, .int 14, .int 0, .int (-1), .int 0, .int 0, .int 0, .int 0])), (t, .inl (cy 1, 2000, .inl (upd (upd (upd f 12 (vp_nar .byte x_2)) 13 (vp_nar .byte x_5)) 14 (vp_nar .byte x_8))))] := hD
  refine lv_aload_n hx hb dX4_append_37 rfl (lv_at hl 1 rfl) ?_
  refine lv_dup hx hb dX4_append_38 rfl ?_
  refine va_get (D := D) (ci := 4) (v := .int 14) (C := RX4) (T := TX4) (N := 8) hx hb hts iX4 hown hK hP 0 rfl rfl 1 (by decide) (hts _ q158) (fun _ h9 => h9) rfl dX4_append_39 ?_
  refine lv_iconst (v := 1) hx hb dX4_append_42 (by decide) ?_
  refine lv_iadd hx hb dX4_append_43 ?_
  refine lv_topi (fun x_9 ex_9 => ?_)
  obtain rfl : x_9 = 15 := ex_9.trans (by decide)
  refine va_put (D := D) (ci := 4) (v := .int 15) (ty := .int) (C := RX4) (T := TX4) (N := 8) hx hb hts iX4 tyX4 tyX4_ok nmX4 hown hK hP hD hS 0 rfl rfl 1 (by decide) (hts _ q158) (fun _ h9 => h9) rfl (by decide +kernel) rfl rfl (Nat.le_of_ble_eq_true rfl) dX4_append_44 (fun H locs hP hD hS => ?_)
  have hP : va_P D clz [(h, .inr (4, [.ref t, .int 15, .int 0, .int (-1), .int 0, .int 0, .int 0, .int 0])), (t, .inl (cy 1, 2000, .inl (upd (upd (upd f 12 (vp_nar .byte x_2)) 13 (vp_nar .byte x_5)) 14 (vp_nar .byte x_8))))] H := hP
  have hD : va_D A [(h, .inr (4, [.ref t, .int 15, .int 0, .int (-1), .int 0, .int 0, .int 0, .int 0])), (t, .inl (cy 1, 2000, .inl (upd (upd (upd f 12 (vp_nar .byte x_2)) 13 (vp_nar .byte x_5)) 14 (vp_nar .byte x_8))))] := hD
  refine lv_iinc (v := 0) (lv' := [(2, .int 0), (0, .ref h), (1, .int p1)]) hx hb dX4_append_47 hl (k := 0) rfl (by decide) (by decide) rfl (fun ls hl => ?_)
  refine lv_goto (tgt := 3) hx hb dX4_append_50 (by decide) ?_
  refine lv_iload_n hx hb dX4_append_3 rfl (lv_at hl 0 rfl) ?_
  refine lv_if_lt (tgt := 53) hx hb dX4_append_4 (by decide) (fun c9 => absurd c9 (by decide)) (fun _ => ?_)
  refine lv_aload_n hx hb dX4_append_7 rfl (lv_at hl 1 rfl) ?_
  refine va_get (D := D) (ci := 4) (v := .int 15) (C := RX4) (T := TX4) (N := 8) hx hb hts iX4 hown hK hP 0 rfl rfl 1 (by decide) (hts _ q158) (fun _ h9 => h9) rfl dX4_append_8 ?_
  refine lv_if_lt (tgt := 47) hx hb dX4_append_11 (by decide) (fun c9 => absurd c9 (by decide)) (fun _ => ?_)
  refine lv_aload_n hx hb dX4_append_14 rfl (lv_at hl 1 rfl) ?_
  refine va_get (D := D) (ci := 4) (v := .int 15) (C := RX4) (T := TX4) (N := 8) hx hb hts iX4 hown hK hP 0 rfl rfl 1 (by decide) (hts _ q158) (fun _ h9 => h9) rfl dX4_append_15 ?_
  refine lv_sipush (v := 2000) hx hb dX4_append_18 (by decide) ?_
  refine lv_icmp_ge (tgt := 47) hx hb dX4_append_21 (by decide) (fun c9 => absurd c9 (by decide)) (fun _ => ?_)
  refine lv_aload_n hx hb dX4_append_24 rfl (lv_at hl 1 rfl) ?_
  refine va_get (D := D) (ci := 4) (v := .ref t) (C := RX4) (T := TX4) (N := 8) hx hb hts iX4 hown hK hP 0 rfl rfl 0 (by decide) (hts _ q157) (fun _ h9 => h9) rfl dX4_append_25 ?_
  refine lv_aload_n hx hb dX4_append_28 rfl (lv_at hl 1 rfl) ?_
  refine va_get (D := D) (ci := 4) (v := .int 15) (C := RX4) (T := TX4) (N := 8) hx hb hts iX4 hown hK hP 0 rfl rfl 1 (by decide) (hts _ q158) (fun _ h9 => h9) rfl dX4_append_29 ?_
  refine lv_iload_n hx hb dX4_append_32 rfl (lv_at hl 2 rfl) ?_
  refine lv_iload_n hx hb dX4_append_33 rfl (lv_at hl 0 rfl) ?_
  refine lv_ishr hx hb dX4_append_34 ?_
  refine lv_topi (fun x_10 ex_10 => ?_)
  refine lv_i2b hx hb dX4_append_35 rfl ?_
  refine lv_topi (fun x_11 ex_11 => ?_)
  refine va_bast hx hb hK hP hD hS 1 1 rfl rfl (vpi (by decide)) dX4_append_36 (fun H locs hP hD hS => ?_)
  have hP : va_P D clz [(h, .inr (4, [.ref t, .int 15, .int 0, .int (-1), .int 0, .int 0, .int 0, .int 0])), (t, .inl (cy 1, 2000, .inl (upd (upd (upd (upd f 12 (vp_nar .byte x_2)) 13 (vp_nar .byte x_5)) 14 (vp_nar .byte x_8)) 15 (vp_nar .byte x_11))))] H := hP
  have hD : va_D A [(h, .inr (4, [.ref t, .int 15, .int 0, .int (-1), .int 0, .int 0, .int 0, .int 0])), (t, .inl (cy 1, 2000, .inl (upd (upd (upd (upd f 12 (vp_nar .byte x_2)) 13 (vp_nar .byte x_5)) 14 (vp_nar .byte x_8)) 15 (vp_nar .byte x_11))))] := hD
  refine lv_aload_n hx hb dX4_append_37 rfl (lv_at hl 1 rfl) ?_
  refine lv_dup hx hb dX4_append_38 rfl ?_
  refine va_get (D := D) (ci := 4) (v := .int 15) (C := RX4) (T := TX4) (N := 8) hx hb hts iX4 hown hK hP 0 rfl rfl 1 (by decide) (hts _ q158) (fun _ h9 => h9) rfl dX4_append_39 ?_
  refine lv_iconst (v := 1) hx hb dX4_append_42 (by decide) ?_
  refine lv_iadd hx hb dX4_append_43 ?_
  refine lv_topi (fun x_12 ex_12 => ?_)
  obtain rfl : x_12 = 16 := ex_12.trans (by decide)
  refine va_put (D := D) (ci := 4) (v := .int 16) (ty := .int) (C := RX4) (T := TX4) (N := 8) hx hb hts iX4 tyX4 tyX4_ok nmX4 hown hK hP hD hS 0 rfl rfl 1 (by decide) (hts _ q158) (fun _ h9 => h9) rfl (by decide +kernel) rfl rfl (Nat.le_of_ble_eq_true rfl) dX4_append_44 (fun H locs hP hD hS => ?_)
  have hP : va_P D clz [(h, .inr (4, [.ref t, .int 16, .int 0, .int (-1), .int 0, .int 0, .int 0, .int 0])), (t, .inl (cy 1, 2000, .inl (upd (upd (upd (upd f 12 (vp_nar .byte x_2)) 13 (vp_nar .byte x_5)) 14 (vp_nar .byte x_8)) 15 (vp_nar .byte x_11))))] H := hP
  have hD : va_D A [(h, .inr (4, [.ref t, .int 16, .int 0, .int (-1), .int 0, .int 0, .int 0, .int 0])), (t, .inl (cy 1, 2000, .inl (upd (upd (upd (upd f 12 (vp_nar .byte x_2)) 13 (vp_nar .byte x_5)) 14 (vp_nar .byte x_8)) 15 (vp_nar .byte x_11))))] := hD
  refine lv_iinc (v := (-8)) (lv' := [(2, .int (-8)), (0, .ref h), (1, .int p1)]) hx hb dX4_append_47 hl (k := 0) rfl (by decide) (by decide) rfl (fun ls hl => ?_)
  refine lv_goto (tgt := 3) hx hb dX4_append_50 (by decide) ?_
  refine lv_iload_n hx hb dX4_append_3 rfl (lv_at hl 0 rfl) ?_
  refine lv_if_lt (tgt := 53) hx hb dX4_append_4 (by decide) (fun _ => ?_) (fun c9 => absurd c9 (by decide))
  have hP9 := hP.sub (ws' := [(h, .inr (4, [.ref t, .int 16, .int 0, .int (-1), .int 0, .int 0, .int 0, .int 0])), (t, .inl (cy 1, 2000, .inl (upd (upd (upd (upd f 12 (vp_nar .byte x_2)) 13 (vp_nar .byte x_5)) 14 (vp_nar .byte x_8)) 15 (vp_nar .byte x_11))))]) [0, 1] rfl
  have hD9 := hD.sub (ws' := [(h, .inr (4, [.ref t, .int 16, .int 0, .int (-1), .int 0, .int 0, .int 0, .int 0])), (t, .inl (cy 1, 2000, .inl (upd (upd (upd (upd f 12 (vp_nar .byte x_2)) 13 (vp_nar .byte x_5)) 14 (vp_nar .byte x_8)) 15 (vp_nar .byte x_11))))]) [0, 1] (by decide) rfl
  exact W.vret hx hb hr (fun tS ht hW => ⟨⟨(upd (upd (upd (upd f 12 (vp_nar .byte x_2)) 13 (vp_nar .byte x_5)) 14 (vp_nar .byte x_8)) 15 (vp_nar .byte x_11)), rfl, trivial, by rw [ht]; exact hP9, va_K.moved hW.alike hK, hD9⟩, hS.F ht⟩) hS.2.2 dX4_append_53

set_option maxHeartbeats 4000000 in
set_option maxRecDepth 100000 in
theorem c_X4_append16 (l : Launch) (D : va_G) (cy : Nat → ClassId) (h : Nat) (t : Nat) (f : Nat → Int32) (p1 : Int32) (sz : Nat) : Met l yX4_append (ww yX4_append cX4_append 3 none) ({ frames := 1, cells := 0, slots := 0, locals := 64 }) (va_Pc [.ref h, .int p1] (pre D cy [(h, .inr (4, [.ref t, .int 16, .int 0, .int (-1), .int 0, .int 0, .int 0, .int 0])), (t, .inl (cy 1, 2000, .inl f))] sz)) (qv D cy (va_A [(h, .inr (4, [.ref t, .int 16, .int 0, .int (-1), .int 0, .int 0, .int 0, .int 0])), (t, .inl (cy 1, 2000, .inl f))] sz) (fun (_ : Nat → Int32) => True) (fun (u : Nat → Int32) => [(h, .inr (4, [.ref t, .int 20, .int 0, .int (-1), .int 0, .int 0, .int 0, .int 0])), (t, .inl (cy 1, 2000, .inl u))])) 0 0 (va_A [(h, .inr (4, [.ref t, .int 16, .int 0, .int (-1), .int 0, .int 0, .int 0, .int 0])), (t, .inl (cy 1, 2000, .inl f))] sz) := by
  refine Met.ofW (cc := cX4_append) (maxL := 3) (ret := none) (by decide) rfl ?_
  intro p e s m args below meth c s₁ B hml hv
  obtain ⟨rfl, hsz, hP, hK, hD0⟩ := hv
  have hx := B.exec
  have hb := B.bytes
  have hr := B.returns
  have hts := hts_g (atoms_spec (ws := ww yX4_append cX4_append 3 none) B.pre)
  have hown : s.vm.findClass RX4 = some m.cls := findClass_of_methodNamed B.named
  have hlocks := B.notSynchronized
  subst hsz
  have hD := hD0.self (sz := s.heap.size)
  generalize hAe : va_A [(h, .inr (4, [.ref t, .int 16, .int 0, .int (-1), .int 0, .int 0, .int 0, .int 0])), (t, .inl (cy 1, 2000, .inl f))] s.heap.size = A at hD ⊢
  have hA : ∀ q : Nat, s.heap.size ≤ q → A q := fun q h => by rw [← hAe]; exact Or.inr h
  have hS : va_S A s.heap s.heap [] := va_S.rf
  have hl := lv_entry ([.ref h, .int p1]) (n := 3) (Nat.le_of_ble_eq_true rfl)
  rw [lg_entry_eq]
  generalize (lg_sl ([.ref h, .int p1]) ++ List.replicate (3 - (lg_sl ([.ref h, .int p1])).length) Slot.unset).toArray = ls at hl ⊢
  have hl : lv_has ls 3 [(0, .ref h), (1, .int p1)] := hl
  refine lv_bipush (v := 24) hx hb dX4_append_0 (by decide) ?_
  refine lv_istore_n (lv' := [(2, .int 24), (0, .ref h), (1, .int p1)]) hx hb dX4_append_2 rfl hl (by decide) rfl (fun ls hl => ?_)
  refine lv_iload_n hx hb dX4_append_3 rfl (lv_at hl 0 rfl) ?_
  refine lv_if_lt (tgt := 53) hx hb dX4_append_4 (by decide) (fun c9 => absurd c9 (by decide)) (fun _ => ?_)
  refine lv_aload_n hx hb dX4_append_7 rfl (lv_at hl 1 rfl) ?_
  refine va_get (D := D) (ci := 4) (v := .int 16) (C := RX4) (T := TX4) (N := 8) hx hb hts iX4 hown hK hP 0 rfl rfl 1 (by decide) (hts _ q158) (fun _ h9 => h9) rfl dX4_append_8 ?_
  refine lv_if_lt (tgt := 47) hx hb dX4_append_11 (by decide) (fun c9 => absurd c9 (by decide)) (fun _ => ?_)
  refine lv_aload_n hx hb dX4_append_14 rfl (lv_at hl 1 rfl) ?_
  refine va_get (D := D) (ci := 4) (v := .int 16) (C := RX4) (T := TX4) (N := 8) hx hb hts iX4 hown hK hP 0 rfl rfl 1 (by decide) (hts _ q158) (fun _ h9 => h9) rfl dX4_append_15 ?_
  refine lv_sipush (v := 2000) hx hb dX4_append_18 (by decide) ?_
  refine lv_icmp_ge (tgt := 47) hx hb dX4_append_21 (by decide) (fun c9 => absurd c9 (by decide)) (fun _ => ?_)
  refine lv_aload_n hx hb dX4_append_24 rfl (lv_at hl 1 rfl) ?_
  refine va_get (D := D) (ci := 4) (v := .ref t) (C := RX4) (T := TX4) (N := 8) hx hb hts iX4 hown hK hP 0 rfl rfl 0 (by decide) (hts _ q157) (fun _ h9 => h9) rfl dX4_append_25 ?_
  refine lv_aload_n hx hb dX4_append_28 rfl (lv_at hl 1 rfl) ?_
  refine va_get (D := D) (ci := 4) (v := .int 16) (C := RX4) (T := TX4) (N := 8) hx hb hts iX4 hown hK hP 0 rfl rfl 1 (by decide) (hts _ q158) (fun _ h9 => h9) rfl dX4_append_29 ?_
  refine lv_iload_n hx hb dX4_append_32 rfl (lv_at hl 2 rfl) ?_
  refine lv_iload_n hx hb dX4_append_33 rfl (lv_at hl 0 rfl) ?_
  refine lv_ishr hx hb dX4_append_34 ?_
  refine lv_topi (fun x_1 ex_1 => ?_)
  refine lv_i2b hx hb dX4_append_35 rfl ?_
  refine lv_topi (fun x_2 ex_2 => ?_)
  refine va_bast hx hb hK hP hD hS 1 1 rfl rfl (vpi (by decide)) dX4_append_36 (fun H locs hP hD hS => ?_)
  have hP : va_P D clz [(h, .inr (4, [.ref t, .int 16, .int 0, .int (-1), .int 0, .int 0, .int 0, .int 0])), (t, .inl (cy 1, 2000, .inl (upd f 16 (vp_nar .byte x_2))))] H := hP
  have hD : va_D A [(h, .inr (4, [.ref t, .int 16, .int 0, .int (-1), .int 0, .int 0, .int 0, .int 0])), (t, .inl (cy 1, 2000, .inl (upd f 16 (vp_nar .byte x_2))))] := hD
  refine lv_aload_n hx hb dX4_append_37 rfl (lv_at hl 1 rfl) ?_
  refine lv_dup hx hb dX4_append_38 rfl ?_
  refine va_get (D := D) (ci := 4) (v := .int 16) (C := RX4) (T := TX4) (N := 8) hx hb hts iX4 hown hK hP 0 rfl rfl 1 (by decide) (hts _ q158) (fun _ h9 => h9) rfl dX4_append_39 ?_
  refine lv_iconst (v := 1) hx hb dX4_append_42 (by decide) ?_
  refine lv_iadd hx hb dX4_append_43 ?_
  refine lv_topi (fun x_3 ex_3 => ?_)
  obtain rfl : x_3 = 17 := ex_3.trans (by decide)
  refine va_put (D := D) (ci := 4) (v := .int 17) (ty := .int) (C := RX4) (T := TX4) (N := 8) hx hb hts iX4 tyX4 tyX4_ok nmX4 hown hK hP hD hS 0 rfl rfl 1 (by decide) (hts _ q158) (fun _ h9 => h9) rfl (by decide +kernel) rfl rfl (Nat.le_of_ble_eq_true rfl) dX4_append_44 (fun H locs hP hD hS => ?_)
  have hP : va_P D clz [(h, .inr (4, [.ref t, .int 17, .int 0, .int (-1), .int 0, .int 0, .int 0, .int 0])), (t, .inl (cy 1, 2000, .inl (upd f 16 (vp_nar .byte x_2))))] H := hP
  have hD : va_D A [(h, .inr (4, [.ref t, .int 17, .int 0, .int (-1), .int 0, .int 0, .int 0, .int 0])), (t, .inl (cy 1, 2000, .inl (upd f 16 (vp_nar .byte x_2))))] := hD
  refine lv_iinc (v := 16) (lv' := [(2, .int 16), (0, .ref h), (1, .int p1)]) hx hb dX4_append_47 hl (k := 0) rfl (by decide) (by decide) rfl (fun ls hl => ?_)
  refine lv_goto (tgt := 3) hx hb dX4_append_50 (by decide) ?_
  refine lv_iload_n hx hb dX4_append_3 rfl (lv_at hl 0 rfl) ?_
  refine lv_if_lt (tgt := 53) hx hb dX4_append_4 (by decide) (fun c9 => absurd c9 (by decide)) (fun _ => ?_)
  refine lv_aload_n hx hb dX4_append_7 rfl (lv_at hl 1 rfl) ?_
  refine va_get (D := D) (ci := 4) (v := .int 17) (C := RX4) (T := TX4) (N := 8) hx hb hts iX4 hown hK hP 0 rfl rfl 1 (by decide) (hts _ q158) (fun _ h9 => h9) rfl dX4_append_8 ?_
  refine lv_if_lt (tgt := 47) hx hb dX4_append_11 (by decide) (fun c9 => absurd c9 (by decide)) (fun _ => ?_)
  refine lv_aload_n hx hb dX4_append_14 rfl (lv_at hl 1 rfl) ?_
  refine va_get (D := D) (ci := 4) (v := .int 17) (C := RX4) (T := TX4) (N := 8) hx hb hts iX4 hown hK hP 0 rfl rfl 1 (by decide) (hts _ q158) (fun _ h9 => h9) rfl dX4_append_15 ?_
  refine lv_sipush (v := 2000) hx hb dX4_append_18 (by decide) ?_
  refine lv_icmp_ge (tgt := 47) hx hb dX4_append_21 (by decide) (fun c9 => absurd c9 (by decide)) (fun _ => ?_)
  refine lv_aload_n hx hb dX4_append_24 rfl (lv_at hl 1 rfl) ?_
  refine va_get (D := D) (ci := 4) (v := .ref t) (C := RX4) (T := TX4) (N := 8) hx hb hts iX4 hown hK hP 0 rfl rfl 0 (by decide) (hts _ q157) (fun _ h9 => h9) rfl dX4_append_25 ?_
  refine lv_aload_n hx hb dX4_append_28 rfl (lv_at hl 1 rfl) ?_
  refine va_get (D := D) (ci := 4) (v := .int 17) (C := RX4) (T := TX4) (N := 8) hx hb hts iX4 hown hK hP 0 rfl rfl 1 (by decide) (hts _ q158) (fun _ h9 => h9) rfl dX4_append_29 ?_
  refine lv_iload_n hx hb dX4_append_32 rfl (lv_at hl 2 rfl) ?_
  refine lv_iload_n hx hb dX4_append_33 rfl (lv_at hl 0 rfl) ?_
  refine lv_ishr hx hb dX4_append_34 ?_
  refine lv_topi (fun x_4 ex_4 => ?_)
  refine lv_i2b hx hb dX4_append_35 rfl ?_
  refine lv_topi (fun x_5 ex_5 => ?_)
  refine va_bast hx hb hK hP hD hS 1 1 rfl rfl (vpi (by decide)) dX4_append_36 (fun H locs hP hD hS => ?_)
  have hP : va_P D clz [(h, .inr (4, [.ref t, .int 17, .int 0, .int (-1), .int 0, .int 0, .int 0, .int 0])), (t, .inl (cy 1, 2000, .inl (upd (upd f 16 (vp_nar .byte x_2)) 17 (vp_nar .byte x_5))))] H := hP
  have hD : va_D A [(h, .inr (4, [.ref t, .int 17, .int 0, .int (-1), .int 0, .int 0, .int 0, .int 0])), (t, .inl (cy 1, 2000, .inl (upd (upd f 16 (vp_nar .byte x_2)) 17 (vp_nar .byte x_5))))] := hD
  refine lv_aload_n hx hb dX4_append_37 rfl (lv_at hl 1 rfl) ?_
  refine lv_dup hx hb dX4_append_38 rfl ?_
  refine va_get (D := D) (ci := 4) (v := .int 17) (C := RX4) (T := TX4) (N := 8) hx hb hts iX4 hown hK hP 0 rfl rfl 1 (by decide) (hts _ q158) (fun _ h9 => h9) rfl dX4_append_39 ?_
  refine lv_iconst (v := 1) hx hb dX4_append_42 (by decide) ?_
  refine lv_iadd hx hb dX4_append_43 ?_
  refine lv_topi (fun x_6 ex_6 => ?_)
  obtain rfl : x_6 = 18 := ex_6.trans (by decide)
  refine va_put (D := D) (ci := 4) (v := .int 18) (ty := .int) (C := RX4) (T := TX4) (N := 8) hx hb hts iX4 tyX4 tyX4_ok nmX4 hown hK hP hD hS 0 rfl rfl 1 (by decide) (hts _ q158) (fun _ h9 => h9) rfl (by decide +kernel) rfl rfl (Nat.le_of_ble_eq_true rfl) dX4_append_44 (fun H locs hP hD hS => ?_)
  have hP : va_P D clz [(h, .inr (4, [.ref t, .int 18, .int 0, .int (-1), .int 0, .int 0, .int 0, .int 0])), (t, .inl (cy 1, 2000, .inl (upd (upd f 16 (vp_nar .byte x_2)) 17 (vp_nar .byte x_5))))] H := hP
  have hD : va_D A [(h, .inr (4, [.ref t, .int 18, .int 0, .int (-1), .int 0, .int 0, .int 0, .int 0])), (t, .inl (cy 1, 2000, .inl (upd (upd f 16 (vp_nar .byte x_2)) 17 (vp_nar .byte x_5))))] := hD
  refine lv_iinc (v := 8) (lv' := [(2, .int 8), (0, .ref h), (1, .int p1)]) hx hb dX4_append_47 hl (k := 0) rfl (by decide) (by decide) rfl (fun ls hl => ?_)
  refine lv_goto (tgt := 3) hx hb dX4_append_50 (by decide) ?_
  refine lv_iload_n hx hb dX4_append_3 rfl (lv_at hl 0 rfl) ?_
  refine lv_if_lt (tgt := 53) hx hb dX4_append_4 (by decide) (fun c9 => absurd c9 (by decide)) (fun _ => ?_)
  refine lv_aload_n hx hb dX4_append_7 rfl (lv_at hl 1 rfl) ?_
  refine va_get (D := D) (ci := 4) (v := .int 18) (C := RX4) (T := TX4) (N := 8) hx hb hts iX4 hown hK hP 0 rfl rfl 1 (by decide) (hts _ q158) (fun _ h9 => h9) rfl dX4_append_8 ?_
  refine lv_if_lt (tgt := 47) hx hb dX4_append_11 (by decide) (fun c9 => absurd c9 (by decide)) (fun _ => ?_)
  refine lv_aload_n hx hb dX4_append_14 rfl (lv_at hl 1 rfl) ?_
  refine va_get (D := D) (ci := 4) (v := .int 18) (C := RX4) (T := TX4) (N := 8) hx hb hts iX4 hown hK hP 0 rfl rfl 1 (by decide) (hts _ q158) (fun _ h9 => h9) rfl dX4_append_15 ?_
  refine lv_sipush (v := 2000) hx hb dX4_append_18 (by decide) ?_
  refine lv_icmp_ge (tgt := 47) hx hb dX4_append_21 (by decide) (fun c9 => absurd c9 (by decide)) (fun _ => ?_)
  refine lv_aload_n hx hb dX4_append_24 rfl (lv_at hl 1 rfl) ?_
  refine va_get (D := D) (ci := 4) (v := .ref t) (C := RX4) (T := TX4) (N := 8) hx hb hts iX4 hown hK hP 0 rfl rfl 0 (by decide) (hts _ q157) (fun _ h9 => h9) rfl dX4_append_25 ?_
  refine lv_aload_n hx hb dX4_append_28 rfl (lv_at hl 1 rfl) ?_
  refine va_get (D := D) (ci := 4) (v := .int 18) (C := RX4) (T := TX4) (N := 8) hx hb hts iX4 hown hK hP 0 rfl rfl 1 (by decide) (hts _ q158) (fun _ h9 => h9) rfl dX4_append_29 ?_
  refine lv_iload_n hx hb dX4_append_32 rfl (lv_at hl 2 rfl) ?_
  refine lv_iload_n hx hb dX4_append_33 rfl (lv_at hl 0 rfl) ?_
  refine lv_ishr hx hb dX4_append_34 ?_
  refine lv_topi (fun x_7 ex_7 => ?_)
  refine lv_i2b hx hb dX4_append_35 rfl ?_
  refine lv_topi (fun x_8 ex_8 => ?_)
  refine va_bast hx hb hK hP hD hS 1 1 rfl rfl (vpi (by decide)) dX4_append_36 (fun H locs hP hD hS => ?_)
  have hP : va_P D clz [(h, .inr (4, [.ref t, .int 18, .int 0, .int (-1), .int 0, .int 0, .int 0, .int 0])), (t, .inl (cy 1, 2000, .inl (upd (upd (upd f 16 (vp_nar .byte x_2)) 17 (vp_nar .byte x_5)) 18 (vp_nar .byte x_8))))] H := hP
  have hD : va_D A [(h, .inr (4, [.ref t, .int 18, .int 0, .int (-1), .int 0, .int 0, .int 0, .int 0])), (t, .inl (cy 1, 2000, .inl (upd (upd (upd f 16 (vp_nar .byte x_2)) 17 (vp_nar .byte x_5)) 18 (vp_nar .byte x_8))))] := hD
  refine lv_aload_n hx hb dX4_append_37 rfl (lv_at hl 1 rfl) ?_
  refine lv_dup hx hb dX4_append_38 rfl ?_
  refine va_get (D := D) (ci := 4) (v := .int 18) (C := RX4) (T := TX4) (N := 8) hx hb hts iX4 hown hK hP 0 rfl rfl 1 (by decide) (hts _ q158) (fun _ h9 => h9) rfl dX4_append_39 ?_
  refine lv_iconst (v := 1) hx hb dX4_append_42 (by decide) ?_
  refine lv_iadd hx hb dX4_append_43 ?_
  refine lv_topi (fun x_9 ex_9 => ?_)
  obtain rfl : x_9 = 19 := ex_9.trans (by decide)
  refine va_put (D := D) (ci := 4) (v := .int 19) (ty := .int) (C := RX4) (T := TX4) (N := 8) hx hb hts iX4 tyX4 tyX4_ok nmX4 hown hK hP hD hS 0 rfl rfl 1 (by decide) (hts _ q158) (fun _ h9 => h9) rfl (by decide +kernel) rfl rfl (Nat.le_of_ble_eq_true rfl) dX4_append_44 (fun H locs hP hD hS => ?_)
  have hP : va_P D clz [(h, .inr (4, [.ref t, .int 19, .int 0, .int (-1), .int 0, .int 0, .int 0, .int 0])), (t, .inl (cy 1, 2000, .inl (upd (upd (upd f 16 (vp_nar .byte x_2)) 17 (vp_nar .byte x_5)) 18 (vp_nar .byte x_8))))] H := hP
  have hD : va_D A [(h, .inr (4, [.ref t, .int 19, .int 0, .int (-1), .int 0, .int 0, .int 0, .int 0])), (t, .inl (cy 1, 2000, .inl (upd (upd (upd f 16 (vp_nar .byte x_2)) 17 (vp_nar .byte x_5)) 18 (vp_nar .byte x_8))))] := hD
  refine lv_iinc (v := 0) (lv' := [(2, .int 0), (0, .ref h), (1, .int p1)]) hx hb dX4_append_47 hl (k := 0) rfl (by decide) (by decide) rfl (fun ls hl => ?_)
  refine lv_goto (tgt := 3) hx hb dX4_append_50 (by decide) ?_
  refine lv_iload_n hx hb dX4_append_3 rfl (lv_at hl 0 rfl) ?_
  refine lv_if_lt (tgt := 53) hx hb dX4_append_4 (by decide) (fun c9 => absurd c9 (by decide)) (fun _ => ?_)
  refine lv_aload_n hx hb dX4_append_7 rfl (lv_at hl 1 rfl) ?_
  refine va_get (D := D) (ci := 4) (v := .int 19) (C := RX4) (T := TX4) (N := 8) hx hb hts iX4 hown hK hP 0 rfl rfl 1 (by decide) (hts _ q158) (fun _ h9 => h9) rfl dX4_append_8 ?_
  refine lv_if_lt (tgt := 47) hx hb dX4_append_11 (by decide) (fun c9 => absurd c9 (by decide)) (fun _ => ?_)
  refine lv_aload_n hx hb dX4_append_14 rfl (lv_at hl 1 rfl) ?_
  refine va_get (D := D) (ci := 4) (v := .int 19) (C := RX4) (T := TX4) (N := 8) hx hb hts iX4 hown hK hP 0 rfl rfl 1 (by decide) (hts _ q158) (fun _ h9 => h9) rfl dX4_append_15 ?_
  refine lv_sipush (v := 2000) hx hb dX4_append_18 (by decide) ?_
  refine lv_icmp_ge (tgt := 47) hx hb dX4_append_21 (by decide) (fun c9 => absurd c9 (by decide)) (fun _ => ?_)
  refine lv_aload_n hx hb dX4_append_24 rfl (lv_at hl 1 rfl) ?_
  refine va_get (D := D) (ci := 4) (v := .ref t) (C := RX4) (T := TX4) (N := 8) hx hb hts iX4 hown hK hP 0 rfl rfl 0 (by decide) (hts _ q157) (fun _ h9 => h9) rfl dX4_append_25 ?_
  refine lv_aload_n hx hb dX4_append_28 rfl (lv_at hl 1 rfl) ?_
  refine va_get (D := D) (ci := 4) (v := .int 19) (C := RX4) (T := TX4) (N := 8) hx hb hts iX4 hown hK hP 0 rfl rfl 1 (by decide) (hts _ q158) (fun _ h9 => h9) rfl dX4_append_29 ?_
  refine lv_iload_n hx hb dX4_append_32 rfl (lv_at hl 2 rfl) ?_
  refine lv_iload_n hx hb dX4_append_33 rfl (lv_at hl 0 rfl) ?_
  refine lv_ishr hx hb dX4_append_34 ?_
  refine lv_topi (fun x_10 ex_10 => ?_)
  refine lv_i2b hx hb dX4_append_35 rfl ?_
  refine lv_topi (fun x_11 ex_11 => ?_)
  refine va_bast hx hb hK hP hD hS 1 1 rfl rfl (vpi (by decide)) dX4_append_36 (fun H locs hP hD hS => ?_)
  have hP : va_P D clz [(h, .inr (4, [.ref t, .int 19, .int 0, .int (-1), .int 0, .int 0, .int 0, .int 0])), (t, .inl (cy 1, 2000, .inl (upd (upd (upd (upd f 16 (vp_nar .byte x_2)) 17 (vp_nar .byte x_5)) 18 (vp_nar .byte x_8)) 19 (vp_nar .byte x_11))))] H := hP
  have hD : va_D A [(h, .inr (4, [.ref t, .int 19, .int 0, .int (-1), .int 0, .int 0, .int 0, .int 0])), (t, .inl (cy 1, 2000, .inl (upd (upd (upd (upd f 16 (vp_nar .byte x_2)) 17 (vp_nar .byte x_5)) 18 (vp_nar .byte x_8)) 19 (vp_nar .byte x_11))))] := hD
  refine lv_aload_n hx hb dX4_append_37 rfl (lv_at hl 1 rfl) ?_
  refine lv_dup hx hb dX4_append_38 rfl ?_
  refine va_get (D := D) (ci := 4) (v := .int 19) (C := RX4) (T := TX4) (N := 8) hx hb hts iX4 hown hK hP 0 rfl rfl 1 (by decide) (hts _ q158) (fun _ h9 => h9) rfl dX4_append_39 ?_
  refine lv_iconst (v := 1) hx hb dX4_append_42 (by decide) ?_
  refine lv_iadd hx hb dX4_append_43 ?_
  refine lv_topi (fun x_12 ex_12 => ?_)
  obtain rfl : x_12 = 20 := ex_12.trans (by decide)
  refine va_put (D := D) (ci := 4) (v := .int 20) (ty := .int) (C := RX4) (T := TX4) (N := 8) hx hb hts iX4 tyX4 tyX4_ok nmX4 hown hK hP hD hS 0 rfl rfl 1 (by decide) (hts _ q158) (fun _ h9 => h9) rfl (by decide +kernel) rfl rfl (Nat.le_of_ble_eq_true rfl) dX4_append_44 (fun H locs hP hD hS => ?_)
  have hP : va_P D clz [(h, .inr (4, [.ref t, .int 20, .int 0, .int (-1), .int 0, .int 0, .int 0, .int 0])), (t, .inl (cy 1, 2000, .inl (upd (upd (upd (upd f 16 (vp_nar .byte x_2)) 17 (vp_nar .byte x_5)) 18 (vp_nar .byte x_8)) 19 (vp_nar .byte x_11))))] H := hP
  have hD : va_D A [(h, .inr (4, [.ref t, .int 20, .int 0, .int (-1), .int 0, .int 0, .int 0, .int 0])), (t, .inl (cy 1, 2000, .inl (upd (upd (upd (upd f 16 (vp_nar .byte x_2)) 17 (vp_nar .byte x_5)) 18 (vp_nar .byte x_8)) 19 (vp_nar .byte x_11))))] := hD
  refine lv_iinc (v := (-8)) (lv' := [(2, .int (-8)), (0, .ref h), (1, .int p1)]) hx hb dX4_append_47 hl (k := 0) rfl (by decide) (by decide) rfl (fun ls hl => ?_)
  refine lv_goto (tgt := 3) hx hb dX4_append_50 (by decide) ?_
  refine lv_iload_n hx hb dX4_append_3 rfl (lv_at hl 0 rfl) ?_
  refine lv_if_lt (tgt := 53) hx hb dX4_append_4 (by decide) (fun _ => ?_) (fun c9 => absurd c9 (by decide))
  have hP9 := hP.sub (ws' := [(h, .inr (4, [.ref t, .int 20, .int 0, .int (-1), .int 0, .int 0, .int 0, .int 0])), (t, .inl (cy 1, 2000, .inl (upd (upd (upd (upd f 16 (vp_nar .byte x_2)) 17 (vp_nar .byte x_5)) 18 (vp_nar .byte x_8)) 19 (vp_nar .byte x_11))))]) [0, 1] rfl
  have hD9 := hD.sub (ws' := [(h, .inr (4, [.ref t, .int 20, .int 0, .int (-1), .int 0, .int 0, .int 0, .int 0])), (t, .inl (cy 1, 2000, .inl (upd (upd (upd (upd f 16 (vp_nar .byte x_2)) 17 (vp_nar .byte x_5)) 18 (vp_nar .byte x_8)) 19 (vp_nar .byte x_11))))]) [0, 1] (by decide) rfl
  exact W.vret hx hb hr (fun tS ht hW => ⟨⟨(upd (upd (upd (upd f 16 (vp_nar .byte x_2)) 17 (vp_nar .byte x_5)) 18 (vp_nar .byte x_8)) 19 (vp_nar .byte x_11)), rfl, trivial, by rw [ht]; exact hP9, va_K.moved hW.alike hK, hD9⟩, hS.F ht⟩) hS.2.2 dX4_append_53

theorem q245 : Cond.code yX7_init cX7_init 1 none ∈ lw_g := lw_gm (List.mem_of_getElem? (i := 245) (by decide +kernel)) rfl
theorem q246 : Cond.methodLink RX7 3 objectInit ∈ lw_g := lw_gm (List.mem_of_getElem? (i := 246) (by decide +kernel)) rfl
theorem q149 : Cond.instanceMethod objectInit ∈ lw_g := lw_gm (List.mem_of_getElem? (i := 149) (by decide +kernel)) rfl
theorem q150 : Cond.code objectInit ⟨#[0xb1]⟩ 1 none ∈ lw_g := lw_gm (List.mem_of_getElem? (i := 150) (by decide +kernel)) rfl
theorem q237 : Cond.arrayClass .int ∈ lw_g := lw_gm (List.mem_of_getElem? (i := 237) (by decide +kernel)) rfl
theorem q256 : Cond.fieldLink RX7 11 "LipsAndSlides$Tube" "longer" "[I" ∈ lw_g := lw_gm (List.mem_of_getElem? (i := 256) (by decide +kernel)) rfl
theorem dX7_init_0 : decode cX7_init 0 = .ok (.aload_n 0, 1) := by decide +kernel
theorem dX7_init_1 : decode cX7_init 1 = .ok (.invokespecial 3, 3) := by decide +kernel
theorem dX7_init_4 : decode cX7_init 4 = .ok (.aload_n 0, 1) := by decide +kernel
theorem dX7_init_5 : decode cX7_init 5 = .ok (.bipush 8, 2) := by decide +kernel
theorem dX7_init_7 : decode cX7_init 7 = .ok (.newarray .int, 2) := by decide +kernel
theorem dX7_init_9 : decode cX7_init 9 = .ok (.putfield 11, 3) := by decide +kernel
theorem dX7_init_12 : decode cX7_init 12 = .ok (.return_, 1) := by decide +kernel
set_option maxHeartbeats 4000000 in
set_option maxRecDepth 100000 in
theorem c_X7_init (l : Launch) (D : va_G) (cy : Nat → ClassId) (h : Nat) (sz : Nat) : Met l yX7_init (ww yX7_init cX7_init 1 none) ({ frames := 1, cells := 1, slots := 8, locals := 64 }) (va_Pc [.ref h] (pre D cy [(h, .inr (7, [.int 0, .int 0, .int 0, .int 0, .int 0, .int 0, .null]))] sz)) (qv D cy (va_A [(h, .inr (7, [.int 0, .int 0, .int 0, .int 0, .int 0, .int 0, .null]))] sz) (fun (_ : Unit) => True) (fun (_ : Unit) => [])) 1 8 (va_A [(h, .inr (7, [.int 0, .int 0, .int 0, .int 0, .int 0, .int 0, .null]))] sz) := by
  refine Met.ofW (cc := cX7_init) (maxL := 1) (ret := none) (by decide) rfl ?_
  intro p e s m args below meth c s₁ B hml hv
  obtain ⟨rfl, hsz, hP, hK, hD0⟩ := hv
  have hx := B.exec
  have hb := B.bytes
  have hr := B.returns
  have hts := hts_g (atoms_spec (ws := ww yX7_init cX7_init 1 none) B.pre)
  have hown : s.vm.findClass RX7 = some m.cls := findClass_of_methodNamed B.named
  have hlocks := B.notSynchronized
  have hin : meth.name = "<init>" := (name_of_methodNamed B.named B.method).1
  subst hsz
  have hD := hD0.self (sz := s.heap.size)
  generalize hAe : va_A [(h, .inr (7, [.int 0, .int 0, .int 0, .int 0, .int 0, .int 0, .null]))] s.heap.size = A at hD ⊢
  have hA : ∀ q : Nat, s.heap.size ≤ q → A q := fun q h => by rw [← hAe]; exact Or.inr h
  have hS : va_S A s.heap s.heap [] := va_S.rf
  have hl := lv_entry ([.ref h]) (n := 1) (Nat.le_of_ble_eq_true rfl)
  rw [lg_entry_eq]
  generalize (lg_sl ([.ref h]) ++ List.replicate (1 - (lg_sl ([.ref h])).length) Slot.unset).toArray = ls at hl ⊢
  have hl : lv_has ls 1 [(0, .ref h)] := hl
  refine lv_aload_n hx hb dX7_init_0 rfl (lv_at hl 0 rfl) ?_
  refine W.objInit hx hb hown (hts _ q246) (hts _ q149) (hts _ q150) rfl (by rw [hml]; exact hl.1) rfl dX7_init_1 (Nat.le_of_ble_eq_true rfl) (Nat.le_of_ble_eq_true rfl) ?_
  refine W.eq (g2 := F0 m 4 ls []) rfl ?_
  refine lv_aload_n hx hb dX7_init_4 rfl (lv_at hl 0 rfl) ?_
  refine lv_bipush (v := 8) hx hb dX7_init_5 (by decide) ?_
  refine va_newa (atype := .int) (ty := .int) (N' := 8) (a0 := (8, .inl (fun _ => 0))) hx hb (hts _ q237) rfl hK hP hD hS hA (fun _ => rfl) (by decide) (by decide) (Nat.le_of_ble_eq_true rfl) (Nat.le_of_ble_eq_true rfl) (Nat.le_of_ble_eq_true rfl) dX7_init_7 (fun q_1 cA_2 H hK hP hD hS => ?_)
  obtain rfl : cA_2 = cy 0 := ty_eq hK 6 0 rfl rfl
  have hK := hK.sub (tys' := tyl cy) [0, 1, 2, 3, 4, 5] rfl
  have hP : va_P D clz [(h, .inr (7, [.int 0, .int 0, .int 0, .int 0, .int 0, .int 0, .null])), (q_1, .inl (cy 0, 8, .inl (fun _ => 0)))] H := hP
  have hD : va_D A [(h, .inr (7, [.int 0, .int 0, .int 0, .int 0, .int 0, .int 0, .null])), (q_1, .inl (cy 0, 8, .inl (fun _ => 0)))] := hD
  refine W.widen (k := 1) (n := 8) (Nat.le_of_ble_eq_true rfl) (Nat.le_of_ble_eq_true rfl) ?_
  refine va_putF (D := D) (ci := 7) (v := .ref q_1) (ty := .array .int) (C := RX7) (T := TX7) (N := 7) hx hb hts iX7 tyX7 tyX7_ok nmX7 hown hK hP hD hS 0 rfl rfl 6 (by decide) (hts _ q256) (fun _ h9 => h9) rfl hin rfl (by decide +kernel) rfl rfl (Nat.le_of_ble_eq_true rfl) dX7_init_9 (fun H locs hP hD hS => ?_)
  have hP : va_P D clz [(h, .inr (7, [.int 0, .int 0, .int 0, .int 0, .int 0, .int 0, .ref q_1])), (q_1, .inl (cy 0, 8, .inl (fun _ => 0)))] H := hP
  have hD : va_D A [(h, .inr (7, [.int 0, .int 0, .int 0, .int 0, .int 0, .int 0, .ref q_1])), (q_1, .inl (cy 0, 8, .inl (fun _ => 0)))] := hD
  have hP9 := hP.sub (ws' := []) [] rfl
  have hD9 := hD.sub (ws' := []) [] (by decide) rfl
  exact W.vret hx hb hr (fun tS ht hW => ⟨⟨(), rfl, trivial, by rw [ht]; exact hP9, va_K.moved hW.alike hK, hD9⟩, hS.F ht⟩) hS.2.2 dX7_init_12

theorem q365 : Cond.code yX1_init cX1_init 1 none ∈ lw_g := lw_gm (List.mem_of_getElem? (i := 365) (by decide +kernel)) rfl
theorem q366 : Cond.methodLink RX1 3 objectInit ∈ lw_g := lw_gm (List.mem_of_getElem? (i := 366) (by decide +kernel)) rfl
theorem q370 : Cond.fieldLink RX1 9 "LipsAndSlides$Doubles" "number" "[I" ∈ lw_g := lw_gm (List.mem_of_getElem? (i := 370) (by decide +kernel)) rfl
theorem q371 : Cond.fieldLink RX1 15 "LipsAndSlides$Doubles" "air" "[I" ∈ lw_g := lw_gm (List.mem_of_getElem? (i := 371) (by decide +kernel)) rfl
theorem q372 : Cond.fieldLink RX1 18 "LipsAndSlides$Doubles" "before" "[I" ∈ lw_g := lw_gm (List.mem_of_getElem? (i := 372) (by decide +kernel)) rfl
theorem q373 : Cond.fieldLink RX1 21 "LipsAndSlides$Doubles" "resting" "[I" ∈ lw_g := lw_gm (List.mem_of_getElem? (i := 373) (by decide +kernel)) rfl
theorem q374 : Cond.fieldLink RX1 24 "LipsAndSlides$Doubles" "leaver" "[I" ∈ lw_g := lw_gm (List.mem_of_getElem? (i := 374) (by decide +kernel)) rfl
theorem q375 : Cond.fieldLink RX1 27 "LipsAndSlides$Doubles" "known" "[I" ∈ lw_g := lw_gm (List.mem_of_getElem? (i := 375) (by decide +kernel)) rfl
theorem dX1_init_0 : decode cX1_init 0 = .ok (.aload_n 0, 1) := by decide +kernel
theorem dX1_init_1 : decode cX1_init 1 = .ok (.invokespecial 3, 3) := by decide +kernel
theorem dX1_init_4 : decode cX1_init 4 = .ok (.aload_n 0, 1) := by decide +kernel
theorem dX1_init_5 : decode cX1_init 5 = .ok (.iconst 3, 1) := by decide +kernel
theorem dX1_init_6 : decode cX1_init 6 = .ok (.newarray .int, 2) := by decide +kernel
theorem dX1_init_8 : decode cX1_init 8 = .ok (.putfield 9, 3) := by decide +kernel
theorem dX1_init_11 : decode cX1_init 11 = .ok (.aload_n 0, 1) := by decide +kernel
theorem dX1_init_12 : decode cX1_init 12 = .ok (.iconst 3, 1) := by decide +kernel
theorem dX1_init_13 : decode cX1_init 13 = .ok (.newarray .int, 2) := by decide +kernel
theorem dX1_init_15 : decode cX1_init 15 = .ok (.putfield 15, 3) := by decide +kernel
theorem dX1_init_18 : decode cX1_init 18 = .ok (.aload_n 0, 1) := by decide +kernel
theorem dX1_init_19 : decode cX1_init 19 = .ok (.bipush 17, 2) := by decide +kernel
theorem dX1_init_21 : decode cX1_init 21 = .ok (.newarray .int, 2) := by decide +kernel
theorem dX1_init_23 : decode cX1_init 23 = .ok (.putfield 18, 3) := by decide +kernel
theorem dX1_init_26 : decode cX1_init 26 = .ok (.aload_n 0, 1) := by decide +kernel
theorem dX1_init_27 : decode cX1_init 27 = .ok (.bipush 16, 2) := by decide +kernel
theorem dX1_init_29 : decode cX1_init 29 = .ok (.newarray .int, 2) := by decide +kernel
theorem dX1_init_31 : decode cX1_init 31 = .ok (.putfield 21, 3) := by decide +kernel
theorem dX1_init_34 : decode cX1_init 34 = .ok (.aload_n 0, 1) := by decide +kernel
theorem dX1_init_35 : decode cX1_init 35 = .ok (.bipush 16, 2) := by decide +kernel
theorem dX1_init_37 : decode cX1_init 37 = .ok (.newarray .int, 2) := by decide +kernel
theorem dX1_init_39 : decode cX1_init 39 = .ok (.putfield 24, 3) := by decide +kernel
theorem dX1_init_42 : decode cX1_init 42 = .ok (.aload_n 0, 1) := by decide +kernel
theorem dX1_init_43 : decode cX1_init 43 = .ok (.sipush 18496, 3) := by decide +kernel
theorem dX1_init_46 : decode cX1_init 46 = .ok (.newarray .int, 2) := by decide +kernel
theorem dX1_init_48 : decode cX1_init 48 = .ok (.putfield 27, 3) := by decide +kernel
theorem dX1_init_51 : decode cX1_init 51 = .ok (.return_, 1) := by decide +kernel
set_option maxHeartbeats 4000000 in
set_option maxRecDepth 100000 in
theorem c_X1_init (l : Launch) (D : va_G) (cy : Nat → ClassId) (h : Nat) (sz : Nat) : Met l yX1_init (ww yX1_init cX1_init 1 none) ({ frames := 1, cells := 6, slots := 18551, locals := 64 }) (va_Pc [.ref h] (pre D cy [(h, .inr (1, [.int 0, .int 0, .int 0, .null, .null, .null, .null, .null, .null]))] sz)) (qv D cy (va_A [(h, .inr (1, [.int 0, .int 0, .int 0, .null, .null, .null, .null, .null, .null]))] sz) (fun (_ : Unit) => True) (fun (_ : Unit) => [])) 6 18551 (va_A [(h, .inr (1, [.int 0, .int 0, .int 0, .null, .null, .null, .null, .null, .null]))] sz) := by
  refine Met.ofW (cc := cX1_init) (maxL := 1) (ret := none) (by decide) rfl ?_
  intro p e s m args below meth c s₁ B hml hv
  obtain ⟨rfl, hsz, hP, hK, hD0⟩ := hv
  have hx := B.exec
  have hb := B.bytes
  have hr := B.returns
  have hts := hts_g (atoms_spec (ws := ww yX1_init cX1_init 1 none) B.pre)
  have hown : s.vm.findClass RX1 = some m.cls := findClass_of_methodNamed B.named
  have hlocks := B.notSynchronized
  have hin : meth.name = "<init>" := (name_of_methodNamed B.named B.method).1
  subst hsz
  have hD := hD0.self (sz := s.heap.size)
  generalize hAe : va_A [(h, .inr (1, [.int 0, .int 0, .int 0, .null, .null, .null, .null, .null, .null]))] s.heap.size = A at hD ⊢
  have hA : ∀ q : Nat, s.heap.size ≤ q → A q := fun q h => by rw [← hAe]; exact Or.inr h
  have hS : va_S A s.heap s.heap [] := va_S.rf
  have hl := lv_entry ([.ref h]) (n := 1) (Nat.le_of_ble_eq_true rfl)
  rw [lg_entry_eq]
  generalize (lg_sl ([.ref h]) ++ List.replicate (1 - (lg_sl ([.ref h])).length) Slot.unset).toArray = ls at hl ⊢
  have hl : lv_has ls 1 [(0, .ref h)] := hl
  refine lv_aload_n hx hb dX1_init_0 rfl (lv_at hl 0 rfl) ?_
  refine W.objInit hx hb hown (hts _ q366) (hts _ q149) (hts _ q150) rfl (by rw [hml]; exact hl.1) rfl dX1_init_1 (Nat.le_of_ble_eq_true rfl) (Nat.le_of_ble_eq_true rfl) ?_
  refine W.eq (g2 := F0 m 4 ls []) rfl ?_
  refine lv_aload_n hx hb dX1_init_4 rfl (lv_at hl 0 rfl) ?_
  refine lv_iconst (v := 3) hx hb dX1_init_5 (by decide) ?_
  refine va_newa (atype := .int) (ty := .int) (N' := 3) (a0 := (3, .inl (fun _ => 0))) hx hb (hts _ q237) rfl hK hP hD hS hA (fun _ => rfl) (by decide) (by decide) (Nat.le_of_ble_eq_true rfl) (Nat.le_of_ble_eq_true rfl) (Nat.le_of_ble_eq_true rfl) dX1_init_6 (fun q_1 cA_2 H hK hP hD hS => ?_)
  obtain rfl : cA_2 = cy 0 := ty_eq hK 6 0 rfl rfl
  have hK := hK.sub (tys' := tyl cy) [0, 1, 2, 3, 4, 5] rfl
  have hP : va_P D clz [(h, .inr (1, [.int 0, .int 0, .int 0, .null, .null, .null, .null, .null, .null])), (q_1, .inl (cy 0, 3, .inl (fun _ => 0)))] H := hP
  have hD : va_D A [(h, .inr (1, [.int 0, .int 0, .int 0, .null, .null, .null, .null, .null, .null])), (q_1, .inl (cy 0, 3, .inl (fun _ => 0)))] := hD
  refine W.widen (k := 1) (n := 3) (Nat.le_of_ble_eq_true rfl) (Nat.le_of_ble_eq_true rfl) ?_
  refine va_putF (D := D) (ci := 1) (v := .ref q_1) (ty := .array .int) (C := RX1) (T := TX1) (N := 9) hx hb hts iX1 tyX1 tyX1_ok nmX1 hown hK hP hD hS 0 rfl rfl 3 (by decide) (hts _ q370) (fun _ h9 => h9) rfl hin rfl (by decide +kernel) rfl rfl (Nat.le_of_ble_eq_true rfl) dX1_init_8 (fun H locs hP hD hS => ?_)
  have hP : va_P D clz [(h, .inr (1, [.int 0, .int 0, .int 0, .ref q_1, .null, .null, .null, .null, .null])), (q_1, .inl (cy 0, 3, .inl (fun _ => 0)))] H := hP
  have hD : va_D A [(h, .inr (1, [.int 0, .int 0, .int 0, .ref q_1, .null, .null, .null, .null, .null])), (q_1, .inl (cy 0, 3, .inl (fun _ => 0)))] := hD
  refine lv_aload_n hx hb dX1_init_11 rfl (lv_at hl 0 rfl) ?_
  refine lv_iconst (v := 3) hx hb dX1_init_12 (by decide) ?_
  refine va_newa (atype := .int) (ty := .int) (N' := 3) (a0 := (3, .inl (fun _ => 0))) hx hb (hts _ q237) rfl hK hP hD hS hA (fun _ => rfl) (by decide) (by decide) (Nat.le_of_ble_eq_true rfl) (Nat.le_of_ble_eq_true rfl) (Nat.le_of_ble_eq_true rfl) dX1_init_13 (fun q_3 cA_4 H hK hP hD hS => ?_)
  obtain rfl : cA_4 = cy 0 := ty_eq hK 6 0 rfl rfl
  have hK := hK.sub (tys' := tyl cy) [0, 1, 2, 3, 4, 5] rfl
  have hP : va_P D clz [(h, .inr (1, [.int 0, .int 0, .int 0, .ref q_1, .null, .null, .null, .null, .null])), (q_1, .inl (cy 0, 3, .inl (fun _ => 0))), (q_3, .inl (cy 0, 3, .inl (fun _ => 0)))] H := hP
  have hD : va_D A [(h, .inr (1, [.int 0, .int 0, .int 0, .ref q_1, .null, .null, .null, .null, .null])), (q_1, .inl (cy 0, 3, .inl (fun _ => 0))), (q_3, .inl (cy 0, 3, .inl (fun _ => 0)))] := hD
  refine W.widen (k := 2) (n := 6) (Nat.le_of_ble_eq_true rfl) (Nat.le_of_ble_eq_true rfl) ?_
  refine va_putF (D := D) (ci := 1) (v := .ref q_3) (ty := .array .int) (C := RX1) (T := TX1) (N := 9) hx hb hts iX1 tyX1 tyX1_ok nmX1 hown hK hP hD hS 0 rfl rfl 4 (by decide) (hts _ q371) (fun _ h9 => h9) rfl hin rfl (by decide +kernel) rfl rfl (Nat.le_of_ble_eq_true rfl) dX1_init_15 (fun H locs hP hD hS => ?_)
  have hP : va_P D clz [(h, .inr (1, [.int 0, .int 0, .int 0, .ref q_1, .ref q_3, .null, .null, .null, .null])), (q_1, .inl (cy 0, 3, .inl (fun _ => 0))), (q_3, .inl (cy 0, 3, .inl (fun _ => 0)))] H := hP
  have hD : va_D A [(h, .inr (1, [.int 0, .int 0, .int 0, .ref q_1, .ref q_3, .null, .null, .null, .null])), (q_1, .inl (cy 0, 3, .inl (fun _ => 0))), (q_3, .inl (cy 0, 3, .inl (fun _ => 0)))] := hD
  refine lv_aload_n hx hb dX1_init_18 rfl (lv_at hl 0 rfl) ?_
  refine lv_bipush (v := 17) hx hb dX1_init_19 (by decide) ?_
  refine va_newa (atype := .int) (ty := .int) (N' := 17) (a0 := (17, .inl (fun _ => 0))) hx hb (hts _ q237) rfl hK hP hD hS hA (fun _ => rfl) (by decide) (by decide) (Nat.le_of_ble_eq_true rfl) (Nat.le_of_ble_eq_true rfl) (Nat.le_of_ble_eq_true rfl) dX1_init_21 (fun q_5 cA_6 H hK hP hD hS => ?_)
  obtain rfl : cA_6 = cy 0 := ty_eq hK 6 0 rfl rfl
  have hK := hK.sub (tys' := tyl cy) [0, 1, 2, 3, 4, 5] rfl
  have hP : va_P D clz [(h, .inr (1, [.int 0, .int 0, .int 0, .ref q_1, .ref q_3, .null, .null, .null, .null])), (q_1, .inl (cy 0, 3, .inl (fun _ => 0))), (q_3, .inl (cy 0, 3, .inl (fun _ => 0))), (q_5, .inl (cy 0, 17, .inl (fun _ => 0)))] H := hP
  have hD : va_D A [(h, .inr (1, [.int 0, .int 0, .int 0, .ref q_1, .ref q_3, .null, .null, .null, .null])), (q_1, .inl (cy 0, 3, .inl (fun _ => 0))), (q_3, .inl (cy 0, 3, .inl (fun _ => 0))), (q_5, .inl (cy 0, 17, .inl (fun _ => 0)))] := hD
  refine W.widen (k := 3) (n := 23) (Nat.le_of_ble_eq_true rfl) (Nat.le_of_ble_eq_true rfl) ?_
  refine va_putF (D := D) (ci := 1) (v := .ref q_5) (ty := .array .int) (C := RX1) (T := TX1) (N := 9) hx hb hts iX1 tyX1 tyX1_ok nmX1 hown hK hP hD hS 0 rfl rfl 5 (by decide) (hts _ q372) (fun _ h9 => h9) rfl hin rfl (by decide +kernel) rfl rfl (Nat.le_of_ble_eq_true rfl) dX1_init_23 (fun H locs hP hD hS => ?_)
  have hP : va_P D clz [(h, .inr (1, [.int 0, .int 0, .int 0, .ref q_1, .ref q_3, .ref q_5, .null, .null, .null])), (q_1, .inl (cy 0, 3, .inl (fun _ => 0))), (q_3, .inl (cy 0, 3, .inl (fun _ => 0))), (q_5, .inl (cy 0, 17, .inl (fun _ => 0)))] H := hP
  have hD : va_D A [(h, .inr (1, [.int 0, .int 0, .int 0, .ref q_1, .ref q_3, .ref q_5, .null, .null, .null])), (q_1, .inl (cy 0, 3, .inl (fun _ => 0))), (q_3, .inl (cy 0, 3, .inl (fun _ => 0))), (q_5, .inl (cy 0, 17, .inl (fun _ => 0)))] := hD
  refine lv_aload_n hx hb dX1_init_26 rfl (lv_at hl 0 rfl) ?_
  refine lv_bipush (v := 16) hx hb dX1_init_27 (by decide) ?_
  refine va_newa (atype := .int) (ty := .int) (N' := 16) (a0 := (16, .inl (fun _ => 0))) hx hb (hts _ q237) rfl hK hP hD hS hA (fun _ => rfl) (by decide) (by decide) (Nat.le_of_ble_eq_true rfl) (Nat.le_of_ble_eq_true rfl) (Nat.le_of_ble_eq_true rfl) dX1_init_29 (fun q_7 cA_8 H hK hP hD hS => ?_)
  obtain rfl : cA_8 = cy 0 := ty_eq hK 6 0 rfl rfl
  have hK := hK.sub (tys' := tyl cy) [0, 1, 2, 3, 4, 5] rfl
  have hP : va_P D clz [(h, .inr (1, [.int 0, .int 0, .int 0, .ref q_1, .ref q_3, .ref q_5, .null, .null, .null])), (q_1, .inl (cy 0, 3, .inl (fun _ => 0))), (q_3, .inl (cy 0, 3, .inl (fun _ => 0))), (q_5, .inl (cy 0, 17, .inl (fun _ => 0))), (q_7, .inl (cy 0, 16, .inl (fun _ => 0)))] H := hP
  have hD : va_D A [(h, .inr (1, [.int 0, .int 0, .int 0, .ref q_1, .ref q_3, .ref q_5, .null, .null, .null])), (q_1, .inl (cy 0, 3, .inl (fun _ => 0))), (q_3, .inl (cy 0, 3, .inl (fun _ => 0))), (q_5, .inl (cy 0, 17, .inl (fun _ => 0))), (q_7, .inl (cy 0, 16, .inl (fun _ => 0)))] := hD
  refine W.widen (k := 4) (n := 39) (Nat.le_of_ble_eq_true rfl) (Nat.le_of_ble_eq_true rfl) ?_
  refine va_putF (D := D) (ci := 1) (v := .ref q_7) (ty := .array .int) (C := RX1) (T := TX1) (N := 9) hx hb hts iX1 tyX1 tyX1_ok nmX1 hown hK hP hD hS 0 rfl rfl 6 (by decide) (hts _ q373) (fun _ h9 => h9) rfl hin rfl (by decide +kernel) rfl rfl (Nat.le_of_ble_eq_true rfl) dX1_init_31 (fun H locs hP hD hS => ?_)
  have hP : va_P D clz [(h, .inr (1, [.int 0, .int 0, .int 0, .ref q_1, .ref q_3, .ref q_5, .ref q_7, .null, .null])), (q_1, .inl (cy 0, 3, .inl (fun _ => 0))), (q_3, .inl (cy 0, 3, .inl (fun _ => 0))), (q_5, .inl (cy 0, 17, .inl (fun _ => 0))), (q_7, .inl (cy 0, 16, .inl (fun _ => 0)))] H := hP
  have hD : va_D A [(h, .inr (1, [.int 0, .int 0, .int 0, .ref q_1, .ref q_3, .ref q_5, .ref q_7, .null, .null])), (q_1, .inl (cy 0, 3, .inl (fun _ => 0))), (q_3, .inl (cy 0, 3, .inl (fun _ => 0))), (q_5, .inl (cy 0, 17, .inl (fun _ => 0))), (q_7, .inl (cy 0, 16, .inl (fun _ => 0)))] := hD
  refine lv_aload_n hx hb dX1_init_34 rfl (lv_at hl 0 rfl) ?_
  refine lv_bipush (v := 16) hx hb dX1_init_35 (by decide) ?_
  refine va_newa (atype := .int) (ty := .int) (N' := 16) (a0 := (16, .inl (fun _ => 0))) hx hb (hts _ q237) rfl hK hP hD hS hA (fun _ => rfl) (by decide) (by decide) (Nat.le_of_ble_eq_true rfl) (Nat.le_of_ble_eq_true rfl) (Nat.le_of_ble_eq_true rfl) dX1_init_37 (fun q_9 cA_10 H hK hP hD hS => ?_)
  obtain rfl : cA_10 = cy 0 := ty_eq hK 6 0 rfl rfl
  have hK := hK.sub (tys' := tyl cy) [0, 1, 2, 3, 4, 5] rfl
  have hP : va_P D clz [(h, .inr (1, [.int 0, .int 0, .int 0, .ref q_1, .ref q_3, .ref q_5, .ref q_7, .null, .null])), (q_1, .inl (cy 0, 3, .inl (fun _ => 0))), (q_3, .inl (cy 0, 3, .inl (fun _ => 0))), (q_5, .inl (cy 0, 17, .inl (fun _ => 0))), (q_7, .inl (cy 0, 16, .inl (fun _ => 0))), (q_9, .inl (cy 0, 16, .inl (fun _ => 0)))] H := hP
  have hD : va_D A [(h, .inr (1, [.int 0, .int 0, .int 0, .ref q_1, .ref q_3, .ref q_5, .ref q_7, .null, .null])), (q_1, .inl (cy 0, 3, .inl (fun _ => 0))), (q_3, .inl (cy 0, 3, .inl (fun _ => 0))), (q_5, .inl (cy 0, 17, .inl (fun _ => 0))), (q_7, .inl (cy 0, 16, .inl (fun _ => 0))), (q_9, .inl (cy 0, 16, .inl (fun _ => 0)))] := hD
  refine W.widen (k := 5) (n := 55) (Nat.le_of_ble_eq_true rfl) (Nat.le_of_ble_eq_true rfl) ?_
  refine va_putF (D := D) (ci := 1) (v := .ref q_9) (ty := .array .int) (C := RX1) (T := TX1) (N := 9) hx hb hts iX1 tyX1 tyX1_ok nmX1 hown hK hP hD hS 0 rfl rfl 7 (by decide) (hts _ q374) (fun _ h9 => h9) rfl hin rfl (by decide +kernel) rfl rfl (Nat.le_of_ble_eq_true rfl) dX1_init_39 (fun H locs hP hD hS => ?_)
  have hP : va_P D clz [(h, .inr (1, [.int 0, .int 0, .int 0, .ref q_1, .ref q_3, .ref q_5, .ref q_7, .ref q_9, .null])), (q_1, .inl (cy 0, 3, .inl (fun _ => 0))), (q_3, .inl (cy 0, 3, .inl (fun _ => 0))), (q_5, .inl (cy 0, 17, .inl (fun _ => 0))), (q_7, .inl (cy 0, 16, .inl (fun _ => 0))), (q_9, .inl (cy 0, 16, .inl (fun _ => 0)))] H := hP
  have hD : va_D A [(h, .inr (1, [.int 0, .int 0, .int 0, .ref q_1, .ref q_3, .ref q_5, .ref q_7, .ref q_9, .null])), (q_1, .inl (cy 0, 3, .inl (fun _ => 0))), (q_3, .inl (cy 0, 3, .inl (fun _ => 0))), (q_5, .inl (cy 0, 17, .inl (fun _ => 0))), (q_7, .inl (cy 0, 16, .inl (fun _ => 0))), (q_9, .inl (cy 0, 16, .inl (fun _ => 0)))] := hD
  refine lv_aload_n hx hb dX1_init_42 rfl (lv_at hl 0 rfl) ?_
  refine lv_sipush (v := 18496) hx hb dX1_init_43 (by decide) ?_
  refine va_newa (atype := .int) (ty := .int) (N' := 18496) (a0 := (18496, .inl (fun _ => 0))) hx hb (hts _ q237) rfl hK hP hD hS hA (fun _ => rfl) (by decide) (by decide) (Nat.le_of_ble_eq_true rfl) (Nat.le_of_ble_eq_true rfl) (Nat.le_of_ble_eq_true rfl) dX1_init_46 (fun q_11 cA_12 H hK hP hD hS => ?_)
  obtain rfl : cA_12 = cy 0 := ty_eq hK 6 0 rfl rfl
  have hK := hK.sub (tys' := tyl cy) [0, 1, 2, 3, 4, 5] rfl
  have hP : va_P D clz [(h, .inr (1, [.int 0, .int 0, .int 0, .ref q_1, .ref q_3, .ref q_5, .ref q_7, .ref q_9, .null])), (q_1, .inl (cy 0, 3, .inl (fun _ => 0))), (q_3, .inl (cy 0, 3, .inl (fun _ => 0))), (q_5, .inl (cy 0, 17, .inl (fun _ => 0))), (q_7, .inl (cy 0, 16, .inl (fun _ => 0))), (q_9, .inl (cy 0, 16, .inl (fun _ => 0))), (q_11, .inl (cy 0, 18496, .inl (fun _ => 0)))] H := hP
  have hD : va_D A [(h, .inr (1, [.int 0, .int 0, .int 0, .ref q_1, .ref q_3, .ref q_5, .ref q_7, .ref q_9, .null])), (q_1, .inl (cy 0, 3, .inl (fun _ => 0))), (q_3, .inl (cy 0, 3, .inl (fun _ => 0))), (q_5, .inl (cy 0, 17, .inl (fun _ => 0))), (q_7, .inl (cy 0, 16, .inl (fun _ => 0))), (q_9, .inl (cy 0, 16, .inl (fun _ => 0))), (q_11, .inl (cy 0, 18496, .inl (fun _ => 0)))] := hD
  refine W.widen (k := 6) (n := 18551) (Nat.le_of_ble_eq_true rfl) (Nat.le_of_ble_eq_true rfl) ?_
  refine va_putF (D := D) (ci := 1) (v := .ref q_11) (ty := .array .int) (C := RX1) (T := TX1) (N := 9) hx hb hts iX1 tyX1 tyX1_ok nmX1 hown hK hP hD hS 0 rfl rfl 8 (by decide) (hts _ q375) (fun _ h9 => h9) rfl hin rfl (by decide +kernel) rfl rfl (Nat.le_of_ble_eq_true rfl) dX1_init_48 (fun H locs hP hD hS => ?_)
  have hP : va_P D clz [(h, .inr (1, [.int 0, .int 0, .int 0, .ref q_1, .ref q_3, .ref q_5, .ref q_7, .ref q_9, .ref q_11])), (q_1, .inl (cy 0, 3, .inl (fun _ => 0))), (q_3, .inl (cy 0, 3, .inl (fun _ => 0))), (q_5, .inl (cy 0, 17, .inl (fun _ => 0))), (q_7, .inl (cy 0, 16, .inl (fun _ => 0))), (q_9, .inl (cy 0, 16, .inl (fun _ => 0))), (q_11, .inl (cy 0, 18496, .inl (fun _ => 0)))] H := hP
  have hD : va_D A [(h, .inr (1, [.int 0, .int 0, .int 0, .ref q_1, .ref q_3, .ref q_5, .ref q_7, .ref q_9, .ref q_11])), (q_1, .inl (cy 0, 3, .inl (fun _ => 0))), (q_3, .inl (cy 0, 3, .inl (fun _ => 0))), (q_5, .inl (cy 0, 17, .inl (fun _ => 0))), (q_7, .inl (cy 0, 16, .inl (fun _ => 0))), (q_9, .inl (cy 0, 16, .inl (fun _ => 0))), (q_11, .inl (cy 0, 18496, .inl (fun _ => 0)))] := hD
  have hP9 := hP.sub (ws' := []) [] rfl
  have hD9 := hD.sub (ws' := []) [] (by decide) rfl
  exact W.vret hx hb hr (fun tS ht hW => ⟨⟨(), rfl, trivial, by rw [ht]; exact hP9, va_K.moved hW.alike hK, hD9⟩, hS.F ht⟩) hS.2.2 dX1_init_51

theorem q350 : Cond.code yX2_init cX2_init 1 none ∈ lw_g := lw_gm (List.mem_of_getElem? (i := 350) (by decide +kernel)) rfl
theorem q351 : Cond.methodLink RX2 3 objectInit ∈ lw_g := lw_gm (List.mem_of_getElem? (i := 351) (by decide +kernel)) rfl
theorem dX2_init_0 : decode cX2_init 0 = .ok (.aload_n 0, 1) := by decide +kernel
theorem dX2_init_1 : decode cX2_init 1 = .ok (.invokespecial 3, 3) := by decide +kernel
theorem dX2_init_4 : decode cX2_init 4 = .ok (.return_, 1) := by decide +kernel
set_option maxHeartbeats 4000000 in
set_option maxRecDepth 100000 in
theorem c_X2_init (l : Launch) (D : va_G) (cy : Nat → ClassId) (h : Nat) (sz : Nat) : Met l yX2_init (ww yX2_init cX2_init 1 none) ({ frames := 1, cells := 0, slots := 0, locals := 64 }) (va_Pc [.ref h] (pre D cy [(h, .inr (2, [.int 0, .int 0]))] sz)) (qv D cy (va_A [(h, .inr (2, [.int 0, .int 0]))] sz) (fun (_ : Unit) => True) (fun (_ : Unit) => [])) 0 0 (va_A [(h, .inr (2, [.int 0, .int 0]))] sz) := by
  refine Met.ofW (cc := cX2_init) (maxL := 1) (ret := none) (by decide) rfl ?_
  intro p e s m args below meth c s₁ B hml hv
  obtain ⟨rfl, hsz, hP, hK, hD0⟩ := hv
  have hx := B.exec
  have hb := B.bytes
  have hr := B.returns
  have hts := hts_g (atoms_spec (ws := ww yX2_init cX2_init 1 none) B.pre)
  have hown : s.vm.findClass RX2 = some m.cls := findClass_of_methodNamed B.named
  have hlocks := B.notSynchronized
  have hin : meth.name = "<init>" := (name_of_methodNamed B.named B.method).1
  subst hsz
  have hD := hD0.self (sz := s.heap.size)
  generalize hAe : va_A [(h, .inr (2, [.int 0, .int 0]))] s.heap.size = A at hD ⊢
  have hA : ∀ q : Nat, s.heap.size ≤ q → A q := fun q h => by rw [← hAe]; exact Or.inr h
  have hS : va_S A s.heap s.heap [] := va_S.rf
  have hl := lv_entry ([.ref h]) (n := 1) (Nat.le_of_ble_eq_true rfl)
  rw [lg_entry_eq]
  generalize (lg_sl ([.ref h]) ++ List.replicate (1 - (lg_sl ([.ref h])).length) Slot.unset).toArray = ls at hl ⊢
  have hl : lv_has ls 1 [(0, .ref h)] := hl
  refine lv_aload_n hx hb dX2_init_0 rfl (lv_at hl 0 rfl) ?_
  refine W.objInit hx hb hown (hts _ q351) (hts _ q149) (hts _ q150) rfl (by rw [hml]; exact hl.1) rfl dX2_init_1 (Nat.le_of_ble_eq_true rfl) (Nat.le_of_ble_eq_true rfl) ?_
  refine W.eq (g2 := F0 m 4 ls []) rfl ?_
  have hP9 := hP.sub (ws' := []) [] rfl
  have hD9 := hD.sub (ws' := []) [] (by decide) rfl
  exact W.vret hx hb hr (fun tS ht hW => ⟨⟨(), rfl, trivial, by rw [ht]; exact hP9, va_K.moved hW.alike hK, hD9⟩, hS.F ht⟩) hS.2.2 dX2_init_4

