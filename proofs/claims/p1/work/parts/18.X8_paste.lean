theorem q1347 : Cond.code yX8_paste cX8_paste 8 (some .int) ∈ lw_g := lw_gm (List.mem_of_getElem? (i := 1347) (by decide +kernel)) rfl
theorem dX8_paste_0 : decode cX8_paste 0 = .ok (.iload_n 1, 1) := by decide +kernel
theorem dX8_paste_1 : decode cX8_paste 1 = .ok (.invokestatic 360, 3) := by decide +kernel
theorem dX8_paste_4 : decode cX8_paste 4 = .ok (.ifCond .eq 10, 3) := by decide +kernel
theorem dX8_paste_7 : decode cX8_paste 7 = .ok (.iload_n 3, 1) := by decide +kernel
theorem dX8_paste_8 : decode cX8_paste 8 = .ok (.invokestatic 360, 3) := by decide +kernel
theorem dX8_paste_11 : decode cX8_paste 11 = .ok (.ifCond .ne 6, 3) := by decide +kernel
theorem dX8_paste_14 : decode cX8_paste 14 = .ok (.bipush (-2), 2) := by decide +kernel
theorem dX8_paste_16 : decode cX8_paste 16 = .ok (.ireturn, 1) := by decide +kernel
theorem dX8_paste_17 : decode cX8_paste 17 = .ok (.aload_n 0, 1) := by decide +kernel
theorem dX8_paste_18 : decode cX8_paste 18 = .ok (.getfield 36, 3) := by decide +kernel
theorem dX8_paste_21 : decode cX8_paste 21 = .ok (.iload_n 1, 1) := by decide +kernel
theorem dX8_paste_22 : decode cX8_paste 22 = .ok (.aaload, 1) := by decide +kernel
theorem dX8_paste_23 : decode cX8_paste 23 = .ok (.astore 6, 2) := by decide +kernel
theorem dX8_paste_25 : decode cX8_paste 25 = .ok (.aload_n 0, 1) := by decide +kernel
theorem dX8_paste_26 : decode cX8_paste 26 = .ok (.getfield 36, 3) := by decide +kernel
theorem dX8_paste_29 : decode cX8_paste 29 = .ok (.iload_n 3, 1) := by decide +kernel
theorem dX8_paste_30 : decode cX8_paste 30 = .ok (.aaload, 1) := by decide +kernel
theorem dX8_paste_31 : decode cX8_paste 31 = .ok (.astore 7, 2) := by decide +kernel
theorem dX8_paste_33 : decode cX8_paste 33 = .ok (.aload 6, 2) := by decide +kernel
theorem dX8_paste_35 : decode cX8_paste 35 = .ok (.getfield 123, 3) := by decide +kernel
theorem dX8_paste_38 : decode cX8_paste 38 = .ok (.ifCond .eq 11, 3) := by decide +kernel
theorem dX8_paste_49 : decode cX8_paste 49 = .ok (.bipush (-6), 2) := by decide +kernel
theorem dX8_paste_51 : decode cX8_paste 51 = .ok (.ireturn, 1) := by decide +kernel
set_option maxHeartbeats 4000000 in
set_option maxRecDepth 100000 in
theorem c_X8_paste (l : Launch) (D : va_G) (cy : Nat → ClassId) (g : Nat → Nat) (p1 : Int32) (p2 : Int32) (p3 : Int32) (p4 : Int32) (p5 : Int32) (sz : Nat) : Met l yX8_paste (ww yX8_paste cX8_paste 8 (some .int)) ({ frames := 2, cells := 0, slots := 0, locals := 128 }) (va_Pc [.ref (g 0), .int p1, .int p2, .int p3, .int p4, .int p5] (pre D cy [(g 0, .inr (8, xF g)), (g 26, .inl (cy 5, 4, .inr (.inr (.inr (.inr (va_up (va_up (va_up (va_up (fun _ => none) 0 (some (g 27))) 1 (some (g 29))) 2 (some (g 31))) 3 (some (g 33)))))))), (g 27, .inr (5, [.int 0, .int 0, .int 0, .ref (g 28)])), (g 29, .inr (5, [.int 0, .int 0, .int 0, .ref (g 30)])), (g 31, .inr (5, [.int 0, .int 0, .int 0, .ref (g 32)])), (g 33, .inr (5, [.int 0, .int 0, .int 0, .ref (g 34)]))] sz)) (qi D cy (va_A [(g 0, .inr (8, xF g)), (g 26, .inl (cy 5, 4, .inr (.inr (.inr (.inr (va_up (va_up (va_up (va_up (fun _ => none) 0 (some (g 27))) 1 (some (g 29))) 2 (some (g 31))) 3 (some (g 33)))))))), (g 27, .inr (5, [.int 0, .int 0, .int 0, .ref (g 28)])), (g 29, .inr (5, [.int 0, .int 0, .int 0, .ref (g 30)])), (g 31, .inr (5, [.int 0, .int 0, .int 0, .ref (g 32)])), (g 33, .inr (5, [.int 0, .int 0, .int 0, .ref (g 34)]))] sz) (fun (r : Int32) (_ : Unit) => r = sp_paste p1 p3) (fun (_ : Unit) => [(g 0, .inr (8, xF g)), (g 26, .inl (cy 5, 4, .inr (.inr (.inr (.inr (va_up (va_up (va_up (va_up (fun _ => none) 0 (some (g 27))) 1 (some (g 29))) 2 (some (g 31))) 3 (some (g 33)))))))), (g 27, .inr (5, [.int 0, .int 0, .int 0, .ref (g 28)])), (g 29, .inr (5, [.int 0, .int 0, .int 0, .ref (g 30)])), (g 31, .inr (5, [.int 0, .int 0, .int 0, .ref (g 32)])), (g 33, .inr (5, [.int 0, .int 0, .int 0, .ref (g 34)]))])) 0 0 (va_A [(g 0, .inr (8, xF g)), (g 26, .inl (cy 5, 4, .inr (.inr (.inr (.inr (va_up (va_up (va_up (va_up (fun _ => none) 0 (some (g 27))) 1 (some (g 29))) 2 (some (g 31))) 3 (some (g 33)))))))), (g 27, .inr (5, [.int 0, .int 0, .int 0, .ref (g 28)])), (g 29, .inr (5, [.int 0, .int 0, .int 0, .ref (g 30)])), (g 31, .inr (5, [.int 0, .int 0, .int 0, .ref (g 32)])), (g 33, .inr (5, [.int 0, .int 0, .int 0, .ref (g 34)]))] sz) := by
  refine Met.ofW (cc := cX8_paste) (maxL := 8) (ret := (some .int)) (by decide) rfl ?_
  intro p e s m args below meth c s₁ B hml hv
  obtain ⟨rfl, hsz, hP, hK, hD0⟩ := hv
  have hx := B.exec
  have hb := B.bytes
  have hr := B.returns
  have hts := hts_g (atoms_spec (ws := ww yX8_paste cX8_paste 8 (some .int)) B.pre)
  have hown : s.vm.findClass RX8 = some m.cls := findClass_of_methodNamed B.named
  have hlocks := B.notSynchronized
  subst hsz
  have hD := hD0.self (sz := s.heap.size)
  generalize hAe : va_A [(g 0, .inr (8, xF g)), (g 26, .inl (cy 5, 4, .inr (.inr (.inr (.inr (va_up (va_up (va_up (va_up (fun _ => none) 0 (some (g 27))) 1 (some (g 29))) 2 (some (g 31))) 3 (some (g 33)))))))), (g 27, .inr (5, [.int 0, .int 0, .int 0, .ref (g 28)])), (g 29, .inr (5, [.int 0, .int 0, .int 0, .ref (g 30)])), (g 31, .inr (5, [.int 0, .int 0, .int 0, .ref (g 32)])), (g 33, .inr (5, [.int 0, .int 0, .int 0, .ref (g 34)]))] s.heap.size = A at hD ⊢
  have hA : ∀ q : Nat, s.heap.size ≤ q → A q := fun q h => by rw [← hAe]; exact Or.inr h
  have hS : va_S A s.heap s.heap [] := va_S.rf
  have hl := lv_entry ([.ref (g 0), .int p1, .int p2, .int p3, .int p4, .int p5]) (n := 8) (Nat.le_of_ble_eq_true rfl)
  rw [lg_entry_eq]
  generalize (lg_sl ([.ref (g 0), .int p1, .int p2, .int p3, .int p4, .int p5]) ++ List.replicate (8 - (lg_sl ([.ref (g 0), .int p1, .int p2, .int p3, .int p4, .int p5])).length) Slot.unset).toArray = ls at hl ⊢
  have hl : lv_has ls 8 [(0, .ref (g 0)), (1, .int p1), (2, .int p2), (3, .int p3), (4, .int p4), (5, .int p5)] := hl
  rcases sp4 p1 with rfl | rfl | rfl | rfl | hs_1
  ·
    rcases sp4 p3 with rfl | rfl | rfl | rfl | hs_2
    ·
      refine lv_iload_n hx hb dX8_paste_0 rfl (lv_at hl 1 rfl) ?_
      have hPc := hP.sub (ws' := []) [] rfl
      have hDc := hD.sub (ws' := []) [] (by decide) rfl
      have hFc := va_free (wc := []) hD hS hA [] rfl
      refine va_calli (va_runS (As := [.int 0]) (rest := []) ⟨hx, hb, hml, hown, hts⟩ (c_X8_isSlot l D cy 0 s.heap.size) (va_cwS 1 hts (gd_S q1267 q1268 q125 q1269) rfl rfl rfl (by decide +kernel) ⟨Nat.le_of_ble_eq_true rfl, Nat.le_of_ble_eq_true rfl⟩) (pr_S hPc hK hDc) rfl rfl hl.1 rfl (lv_room (Nat.le_of_ble_eq_true rfl)) dX8_paste_1 ⟨Nat.le_of_ble_eq_true rfl, Nat.le_of_ble_eq_true rfl⟩) hS (fun q _ h => hFc q h) hFc (fun r_3 u tS H1 locs ht hvm hw hB hz1 hk1 hS => ?_)
      obtain ⟨hP1, hK1, hD1⟩ := hB
      rw [ht] at hP1
      try dsimp only at hw
      obtain ⟨hP, hD⟩ := va_join (wr := [(g 0, .inr (8, xF g)), (g 26, .inl (cy 5, 4, .inr (.inr (.inr (.inr (va_up (va_up (va_up (va_up (fun _ => none) 0 (some (g 27))) 1 (some (g 29))) 2 (some (g 31))) 3 (some (g 33)))))))), (g 27, .inr (5, [.int 0, .int 0, .int 0, .ref (g 28)])), (g 29, .inr (5, [.int 0, .int 0, .int 0, .ref (g 30)])), (g 31, .inr (5, [.int 0, .int 0, .int 0, .ref (g 32)])), (g 33, .inr (5, [.int 0, .int 0, .int 0, .ref (g 34)]))]) (w1 := []) hP hD [] [0, 1, 2, 3, 4, 5] rfl rfl (by decide) (by decide) hk1 hFc hP1 hD1
      generalize H1 = H at hP hS ⊢
      have hP : va_P D clz [(g 0, .inr (8, xF g)), (g 26, .inl (cy 5, 4, .inr (.inr (.inr (.inr (va_up (va_up (va_up (va_up (fun _ => none) 0 (some (g 27))) 1 (some (g 29))) 2 (some (g 31))) 3 (some (g 33)))))))), (g 27, .inr (5, [.int 0, .int 0, .int 0, .ref (g 28)])), (g 29, .inr (5, [.int 0, .int 0, .int 0, .ref (g 30)])), (g 31, .inr (5, [.int 0, .int 0, .int 0, .ref (g 32)])), (g 33, .inr (5, [.int 0, .int 0, .int 0, .ref (g 34)]))] H := hP
      have hD : va_D A [(g 0, .inr (8, xF g)), (g 26, .inl (cy 5, 4, .inr (.inr (.inr (.inr (va_up (va_up (va_up (va_up (fun _ => none) 0 (some (g 27))) 1 (some (g 29))) 2 (some (g 31))) 3 (some (g 33)))))))), (g 27, .inr (5, [.int 0, .int 0, .int 0, .ref (g 28)])), (g 29, .inr (5, [.int 0, .int 0, .int 0, .ref (g 30)])), (g 31, .inr (5, [.int 0, .int 0, .int 0, .ref (g 32)])), (g 33, .inr (5, [.int 0, .int 0, .int 0, .ref (g 34)]))] := hD
      by_cases hc_4 : ((0 : Int32) ≤ (0 : Int32) ∧ (0 : Int32) ≤ (3 : Int32))
      ·
        rw [if_pos hc_4] at hw
        subst hw
        refine lv_if_eq (tgt := 14) hx hb dX8_paste_4 (by decide) (fun c9 => absurd c9 (by decide)) (fun _ => ?_)
        refine lv_iload_n hx hb dX8_paste_7 rfl (lv_at hl 3 rfl) ?_
        have hPc := hP.sub (ws' := []) [] rfl
        have hDc := hD.sub (ws' := []) [] (by decide) rfl
        have hFc := va_free (wc := []) hD hS hA [] rfl
        refine va_calli (va_runS (As := [.int 0]) (rest := []) ⟨hx, hb, hml, hown, hts⟩ (c_X8_isSlot l D cy 0 H.size) (va_cwS 1 hts (gd_S q1267 q1268 q125 q1269) rfl rfl rfl (by decide +kernel) ⟨Nat.le_of_ble_eq_true rfl, Nat.le_of_ble_eq_true rfl⟩) (pr_S hPc hK hDc) rfl rfl hl.1 rfl (lv_room (Nat.le_of_ble_eq_true rfl)) dX8_paste_8 ⟨Nat.le_of_ble_eq_true rfl, Nat.le_of_ble_eq_true rfl⟩) hS (fun q _ h => hFc q h) hFc (fun r_5 u tS H1 locs ht hvm hw hB hz1 hk1 hS => ?_)
        obtain ⟨hP1, hK1, hD1⟩ := hB
        rw [ht] at hP1
        try dsimp only at hw
        obtain ⟨hP, hD⟩ := va_join (wr := [(g 0, .inr (8, xF g)), (g 26, .inl (cy 5, 4, .inr (.inr (.inr (.inr (va_up (va_up (va_up (va_up (fun _ => none) 0 (some (g 27))) 1 (some (g 29))) 2 (some (g 31))) 3 (some (g 33)))))))), (g 27, .inr (5, [.int 0, .int 0, .int 0, .ref (g 28)])), (g 29, .inr (5, [.int 0, .int 0, .int 0, .ref (g 30)])), (g 31, .inr (5, [.int 0, .int 0, .int 0, .ref (g 32)])), (g 33, .inr (5, [.int 0, .int 0, .int 0, .ref (g 34)]))]) (w1 := []) hP hD [] [0, 1, 2, 3, 4, 5] rfl rfl (by decide) (by decide) hk1 hFc hP1 hD1
        generalize H1 = H at hP hS ⊢
        have hP : va_P D clz [(g 0, .inr (8, xF g)), (g 26, .inl (cy 5, 4, .inr (.inr (.inr (.inr (va_up (va_up (va_up (va_up (fun _ => none) 0 (some (g 27))) 1 (some (g 29))) 2 (some (g 31))) 3 (some (g 33)))))))), (g 27, .inr (5, [.int 0, .int 0, .int 0, .ref (g 28)])), (g 29, .inr (5, [.int 0, .int 0, .int 0, .ref (g 30)])), (g 31, .inr (5, [.int 0, .int 0, .int 0, .ref (g 32)])), (g 33, .inr (5, [.int 0, .int 0, .int 0, .ref (g 34)]))] H := hP
        have hD : va_D A [(g 0, .inr (8, xF g)), (g 26, .inl (cy 5, 4, .inr (.inr (.inr (.inr (va_up (va_up (va_up (va_up (fun _ => none) 0 (some (g 27))) 1 (some (g 29))) 2 (some (g 31))) 3 (some (g 33)))))))), (g 27, .inr (5, [.int 0, .int 0, .int 0, .ref (g 28)])), (g 29, .inr (5, [.int 0, .int 0, .int 0, .ref (g 30)])), (g 31, .inr (5, [.int 0, .int 0, .int 0, .ref (g 32)])), (g 33, .inr (5, [.int 0, .int 0, .int 0, .ref (g 34)]))] := hD
        by_cases hc_6 : ((0 : Int32) ≤ (0 : Int32) ∧ (0 : Int32) ≤ (3 : Int32))
        ·
          rw [if_pos hc_6] at hw
          subst hw
          refine lv_if_ne (tgt := 17) hx hb dX8_paste_11 (by decide) (fun _ => ?_) (fun c9 => absurd c9 (by decide))
          refine lv_aload_n hx hb dX8_paste_17 rfl (lv_at hl 0 rfl) ?_
          refine va_get (D := D) (ci := 8) (v := .ref (g 26)) (C := RX8) (T := TX8) (N := 12) hx hb hts iX8 hown hK hP 0 rfl rfl 5 (by decide) (hts _ q439) (fun _ h9 => h9) rfl dX8_paste_18 ?_
          refine lv_iload_n hx hb dX8_paste_21 rfl (lv_at hl 1 rfl) ?_
          refine va_aldq hx hb hK hP 1 5 rfl rfl (vpi (by decide)) dX8_paste_22 ?_
          refine W.eq (g2 := F0 m 23 ls [.ref (g 27)]) rfl ?_
          refine lv_astore (lv' := [(6, .ref (g 27)), (0, .ref (g 0)), (1, .int 0), (2, .int p2), (3, .int 0), (4, .int p4), (5, .int p5)]) hx hb dX8_paste_23 hl (by decide) rfl (fun ls hl => ?_)
          refine lv_aload_n hx hb dX8_paste_25 rfl (lv_at hl 1 rfl) ?_
          refine va_get (D := D) (ci := 8) (v := .ref (g 26)) (C := RX8) (T := TX8) (N := 12) hx hb hts iX8 hown hK hP 0 rfl rfl 5 (by decide) (hts _ q439) (fun _ h9 => h9) rfl dX8_paste_26 ?_
          refine lv_iload_n hx hb dX8_paste_29 rfl (lv_at hl 4 rfl) ?_
          refine va_aldq hx hb hK hP 1 5 rfl rfl (vpi (by decide)) dX8_paste_30 ?_
          refine W.eq (g2 := F0 m 31 ls [.ref (g 27)]) rfl ?_
          refine lv_astore (lv' := [(7, .ref (g 27)), (6, .ref (g 27)), (0, .ref (g 0)), (1, .int 0), (2, .int p2), (3, .int 0), (4, .int p4), (5, .int p5)]) hx hb dX8_paste_31 hl (by decide) rfl (fun ls hl => ?_)
          refine lv_aload hx hb dX8_paste_33 (lv_at hl 1 rfl) ?_
          refine va_get (D := D) (ci := 5) (v := .int 0) (C := RX5) (T := TX5) (N := 4) hx hb hts iX5 hown hK hP 2 rfl rfl 0 (by decide) (hts _ q417) (fun _ h9 => h9) rfl dX8_paste_35 ?_
          refine lv_if_eq (tgt := 49) hx hb dX8_paste_38 (by decide) (fun _ => ?_) (fun c9 => absurd c9 (by decide))
          refine lv_bipush (v := (-6)) hx hb dX8_paste_49 (by decide) ?_
          have hP9 := hP.sub (ws' := [(g 0, .inr (8, xF g)), (g 26, .inl (cy 5, 4, .inr (.inr (.inr (.inr (va_up (va_up (va_up (va_up (fun _ => none) 0 (some (g 27))) 1 (some (g 29))) 2 (some (g 31))) 3 (some (g 33)))))))), (g 27, .inr (5, [.int 0, .int 0, .int 0, .ref (g 28)])), (g 29, .inr (5, [.int 0, .int 0, .int 0, .ref (g 30)])), (g 31, .inr (5, [.int 0, .int 0, .int 0, .ref (g 32)])), (g 33, .inr (5, [.int 0, .int 0, .int 0, .ref (g 34)]))]) [0, 1, 2, 3, 4, 5] rfl
          have hD9 := hD.sub (ws' := [(g 0, .inr (8, xF g)), (g 26, .inl (cy 5, 4, .inr (.inr (.inr (.inr (va_up (va_up (va_up (va_up (fun _ => none) 0 (some (g 27))) 1 (some (g 29))) 2 (some (g 31))) 3 (some (g 33)))))))), (g 27, .inr (5, [.int 0, .int 0, .int 0, .ref (g 28)])), (g 29, .inr (5, [.int 0, .int 0, .int 0, .ref (g 30)])), (g 31, .inr (5, [.int 0, .int 0, .int 0, .ref (g 32)])), (g 33, .inr (5, [.int 0, .int 0, .int 0, .ref (g 34)]))]) [0, 1, 2, 3, 4, 5] (by decide) rfl
          exact W.iret (v := (-6)) hx hb hr (fun tS ht hW => ⟨⟨(-6), (), rfl, (by have f0 := bp32 hc_4; have f1 := bp32 hc_6; have z320 : (0 : Int32).toInt = 0 := (by decide); have z323 : (3 : Int32).toInt = 3 := (by decide); unfold sp_paste; (repeat' split) <;> first | rfl | (exfalso; omega)), by rw [ht]; exact hP9, va_K.moved hW.alike hK, hD9⟩, hS.F ht⟩) hS.2.2 dX8_paste_51
        ·
          rw [if_neg hc_6] at hw
          subst hw
          exact False.elim (by have f0 := bp32 hc_4; have f1 := bn32 hc_6; have z320 : (0 : Int32).toInt = 0 := (by decide); have z323 : (3 : Int32).toInt = 3 := (by decide); omega)
      ·
        rw [if_neg hc_4] at hw
        subst hw
        exact False.elim (by have f0 := bn32 hc_4; have z320 : (0 : Int32).toInt = 0 := (by decide); have z323 : (3 : Int32).toInt = 3 := (by decide); omega)
    ·
      refine lv_iload_n hx hb dX8_paste_0 rfl (lv_at hl 1 rfl) ?_
      have hPc := hP.sub (ws' := []) [] rfl
      have hDc := hD.sub (ws' := []) [] (by decide) rfl
      have hFc := va_free (wc := []) hD hS hA [] rfl
      refine va_calli (va_runS (As := [.int 0]) (rest := []) ⟨hx, hb, hml, hown, hts⟩ (c_X8_isSlot l D cy 0 s.heap.size) (va_cwS 1 hts (gd_S q1267 q1268 q125 q1269) rfl rfl rfl (by decide +kernel) ⟨Nat.le_of_ble_eq_true rfl, Nat.le_of_ble_eq_true rfl⟩) (pr_S hPc hK hDc) rfl rfl hl.1 rfl (lv_room (Nat.le_of_ble_eq_true rfl)) dX8_paste_1 ⟨Nat.le_of_ble_eq_true rfl, Nat.le_of_ble_eq_true rfl⟩) hS (fun q _ h => hFc q h) hFc (fun r_7 u tS H1 locs ht hvm hw hB hz1 hk1 hS => ?_)
      obtain ⟨hP1, hK1, hD1⟩ := hB
      rw [ht] at hP1
      try dsimp only at hw
      obtain ⟨hP, hD⟩ := va_join (wr := [(g 0, .inr (8, xF g)), (g 26, .inl (cy 5, 4, .inr (.inr (.inr (.inr (va_up (va_up (va_up (va_up (fun _ => none) 0 (some (g 27))) 1 (some (g 29))) 2 (some (g 31))) 3 (some (g 33)))))))), (g 27, .inr (5, [.int 0, .int 0, .int 0, .ref (g 28)])), (g 29, .inr (5, [.int 0, .int 0, .int 0, .ref (g 30)])), (g 31, .inr (5, [.int 0, .int 0, .int 0, .ref (g 32)])), (g 33, .inr (5, [.int 0, .int 0, .int 0, .ref (g 34)]))]) (w1 := []) hP hD [] [0, 1, 2, 3, 4, 5] rfl rfl (by decide) (by decide) hk1 hFc hP1 hD1
      generalize H1 = H at hP hS ⊢
      have hP : va_P D clz [(g 0, .inr (8, xF g)), (g 26, .inl (cy 5, 4, .inr (.inr (.inr (.inr (va_up (va_up (va_up (va_up (fun _ => none) 0 (some (g 27))) 1 (some (g 29))) 2 (some (g 31))) 3 (some (g 33)))))))), (g 27, .inr (5, [.int 0, .int 0, .int 0, .ref (g 28)])), (g 29, .inr (5, [.int 0, .int 0, .int 0, .ref (g 30)])), (g 31, .inr (5, [.int 0, .int 0, .int 0, .ref (g 32)])), (g 33, .inr (5, [.int 0, .int 0, .int 0, .ref (g 34)]))] H := hP
      have hD : va_D A [(g 0, .inr (8, xF g)), (g 26, .inl (cy 5, 4, .inr (.inr (.inr (.inr (va_up (va_up (va_up (va_up (fun _ => none) 0 (some (g 27))) 1 (some (g 29))) 2 (some (g 31))) 3 (some (g 33)))))))), (g 27, .inr (5, [.int 0, .int 0, .int 0, .ref (g 28)])), (g 29, .inr (5, [.int 0, .int 0, .int 0, .ref (g 30)])), (g 31, .inr (5, [.int 0, .int 0, .int 0, .ref (g 32)])), (g 33, .inr (5, [.int 0, .int 0, .int 0, .ref (g 34)]))] := hD
      by_cases hc_8 : ((0 : Int32) ≤ (0 : Int32) ∧ (0 : Int32) ≤ (3 : Int32))
      ·
        rw [if_pos hc_8] at hw
        subst hw
        refine lv_if_eq (tgt := 14) hx hb dX8_paste_4 (by decide) (fun c9 => absurd c9 (by decide)) (fun _ => ?_)
        refine lv_iload_n hx hb dX8_paste_7 rfl (lv_at hl 3 rfl) ?_
        have hPc := hP.sub (ws' := []) [] rfl
        have hDc := hD.sub (ws' := []) [] (by decide) rfl
        have hFc := va_free (wc := []) hD hS hA [] rfl
        refine va_calli (va_runS (As := [.int 1]) (rest := []) ⟨hx, hb, hml, hown, hts⟩ (c_X8_isSlot l D cy 1 H.size) (va_cwS 1 hts (gd_S q1267 q1268 q125 q1269) rfl rfl rfl (by decide +kernel) ⟨Nat.le_of_ble_eq_true rfl, Nat.le_of_ble_eq_true rfl⟩) (pr_S hPc hK hDc) rfl rfl hl.1 rfl (lv_room (Nat.le_of_ble_eq_true rfl)) dX8_paste_8 ⟨Nat.le_of_ble_eq_true rfl, Nat.le_of_ble_eq_true rfl⟩) hS (fun q _ h => hFc q h) hFc (fun r_9 u tS H1 locs ht hvm hw hB hz1 hk1 hS => ?_)
        obtain ⟨hP1, hK1, hD1⟩ := hB
        rw [ht] at hP1
        try dsimp only at hw
        obtain ⟨hP, hD⟩ := va_join (wr := [(g 0, .inr (8, xF g)), (g 26, .inl (cy 5, 4, .inr (.inr (.inr (.inr (va_up (va_up (va_up (va_up (fun _ => none) 0 (some (g 27))) 1 (some (g 29))) 2 (some (g 31))) 3 (some (g 33)))))))), (g 27, .inr (5, [.int 0, .int 0, .int 0, .ref (g 28)])), (g 29, .inr (5, [.int 0, .int 0, .int 0, .ref (g 30)])), (g 31, .inr (5, [.int 0, .int 0, .int 0, .ref (g 32)])), (g 33, .inr (5, [.int 0, .int 0, .int 0, .ref (g 34)]))]) (w1 := []) hP hD [] [0, 1, 2, 3, 4, 5] rfl rfl (by decide) (by decide) hk1 hFc hP1 hD1
        generalize H1 = H at hP hS ⊢
        have hP : va_P D clz [(g 0, .inr (8, xF g)), (g 26, .inl (cy 5, 4, .inr (.inr (.inr (.inr (va_up (va_up (va_up (va_up (fun _ => none) 0 (some (g 27))) 1 (some (g 29))) 2 (some (g 31))) 3 (some (g 33)))))))), (g 27, .inr (5, [.int 0, .int 0, .int 0, .ref (g 28)])), (g 29, .inr (5, [.int 0, .int 0, .int 0, .ref (g 30)])), (g 31, .inr (5, [.int 0, .int 0, .int 0, .ref (g 32)])), (g 33, .inr (5, [.int 0, .int 0, .int 0, .ref (g 34)]))] H := hP
        have hD : va_D A [(g 0, .inr (8, xF g)), (g 26, .inl (cy 5, 4, .inr (.inr (.inr (.inr (va_up (va_up (va_up (va_up (fun _ => none) 0 (some (g 27))) 1 (some (g 29))) 2 (some (g 31))) 3 (some (g 33)))))))), (g 27, .inr (5, [.int 0, .int 0, .int 0, .ref (g 28)])), (g 29, .inr (5, [.int 0, .int 0, .int 0, .ref (g 30)])), (g 31, .inr (5, [.int 0, .int 0, .int 0, .ref (g 32)])), (g 33, .inr (5, [.int 0, .int 0, .int 0, .ref (g 34)]))] := hD
        by_cases hc_10 : ((0 : Int32) ≤ (1 : Int32) ∧ (1 : Int32) ≤ (3 : Int32))
        ·
          rw [if_pos hc_10] at hw
          subst hw
          refine lv_if_ne (tgt := 17) hx hb dX8_paste_11 (by decide) (fun _ => ?_) (fun c9 => absurd c9 (by decide))
          refine lv_aload_n hx hb dX8_paste_17 rfl (lv_at hl 0 rfl) ?_
          refine va_get (D := D) (ci := 8) (v := .ref (g 26)) (C := RX8) (T := TX8) (N := 12) hx hb hts iX8 hown hK hP 0 rfl rfl 5 (by decide) (hts _ q439) (fun _ h9 => h9) rfl dX8_paste_18 ?_
          refine lv_iload_n hx hb dX8_paste_21 rfl (lv_at hl 1 rfl) ?_
          refine va_aldq hx hb hK hP 1 5 rfl rfl (vpi (by decide)) dX8_paste_22 ?_
          refine W.eq (g2 := F0 m 23 ls [.ref (g 27)]) rfl ?_
          refine lv_astore (lv' := [(6, .ref (g 27)), (0, .ref (g 0)), (1, .int 0), (2, .int p2), (3, .int 1), (4, .int p4), (5, .int p5)]) hx hb dX8_paste_23 hl (by decide) rfl (fun ls hl => ?_)
          refine lv_aload_n hx hb dX8_paste_25 rfl (lv_at hl 1 rfl) ?_
          refine va_get (D := D) (ci := 8) (v := .ref (g 26)) (C := RX8) (T := TX8) (N := 12) hx hb hts iX8 hown hK hP 0 rfl rfl 5 (by decide) (hts _ q439) (fun _ h9 => h9) rfl dX8_paste_26 ?_
          refine lv_iload_n hx hb dX8_paste_29 rfl (lv_at hl 4 rfl) ?_
          refine va_aldq hx hb hK hP 1 5 rfl rfl (vpi (by decide)) dX8_paste_30 ?_
          refine W.eq (g2 := F0 m 31 ls [.ref (g 29)]) rfl ?_
          refine lv_astore (lv' := [(7, .ref (g 29)), (6, .ref (g 27)), (0, .ref (g 0)), (1, .int 0), (2, .int p2), (3, .int 1), (4, .int p4), (5, .int p5)]) hx hb dX8_paste_31 hl (by decide) rfl (fun ls hl => ?_)
          refine lv_aload hx hb dX8_paste_33 (lv_at hl 1 rfl) ?_
          refine va_get (D := D) (ci := 5) (v := .int 0) (C := RX5) (T := TX5) (N := 4) hx hb hts iX5 hown hK hP 2 rfl rfl 0 (by decide) (hts _ q417) (fun _ h9 => h9) rfl dX8_paste_35 ?_
          refine lv_if_eq (tgt := 49) hx hb dX8_paste_38 (by decide) (fun _ => ?_) (fun c9 => absurd c9 (by decide))
          refine lv_bipush (v := (-6)) hx hb dX8_paste_49 (by decide) ?_
          have hP9 := hP.sub (ws' := [(g 0, .inr (8, xF g)), (g 26, .inl (cy 5, 4, .inr (.inr (.inr (.inr (va_up (va_up (va_up (va_up (fun _ => none) 0 (some (g 27))) 1 (some (g 29))) 2 (some (g 31))) 3 (some (g 33)))))))), (g 27, .inr (5, [.int 0, .int 0, .int 0, .ref (g 28)])), (g 29, .inr (5, [.int 0, .int 0, .int 0, .ref (g 30)])), (g 31, .inr (5, [.int 0, .int 0, .int 0, .ref (g 32)])), (g 33, .inr (5, [.int 0, .int 0, .int 0, .ref (g 34)]))]) [0, 1, 2, 3, 4, 5] rfl
          have hD9 := hD.sub (ws' := [(g 0, .inr (8, xF g)), (g 26, .inl (cy 5, 4, .inr (.inr (.inr (.inr (va_up (va_up (va_up (va_up (fun _ => none) 0 (some (g 27))) 1 (some (g 29))) 2 (some (g 31))) 3 (some (g 33)))))))), (g 27, .inr (5, [.int 0, .int 0, .int 0, .ref (g 28)])), (g 29, .inr (5, [.int 0, .int 0, .int 0, .ref (g 30)])), (g 31, .inr (5, [.int 0, .int 0, .int 0, .ref (g 32)])), (g 33, .inr (5, [.int 0, .int 0, .int 0, .ref (g 34)]))]) [0, 1, 2, 3, 4, 5] (by decide) rfl
          exact W.iret (v := (-6)) hx hb hr (fun tS ht hW => ⟨⟨(-6), (), rfl, (by have f0 := bp32 hc_8; have f1 := bp32 hc_10; have z320 : (0 : Int32).toInt = 0 := (by decide); have z321 : (1 : Int32).toInt = 1 := (by decide); have z323 : (3 : Int32).toInt = 3 := (by decide); unfold sp_paste; (repeat' split) <;> first | rfl | (exfalso; omega)), by rw [ht]; exact hP9, va_K.moved hW.alike hK, hD9⟩, hS.F ht⟩) hS.2.2 dX8_paste_51
        ·
          rw [if_neg hc_10] at hw
          subst hw
          exact False.elim (by have f0 := bp32 hc_8; have f1 := bn32 hc_10; have z320 : (0 : Int32).toInt = 0 := (by decide); have z321 : (1 : Int32).toInt = 1 := (by decide); have z323 : (3 : Int32).toInt = 3 := (by decide); omega)
      ·
        rw [if_neg hc_8] at hw
        subst hw
        exact False.elim (by have f0 := bn32 hc_8; have z320 : (0 : Int32).toInt = 0 := (by decide); have z323 : (3 : Int32).toInt = 3 := (by decide); omega)
    ·
      refine lv_iload_n hx hb dX8_paste_0 rfl (lv_at hl 1 rfl) ?_
      have hPc := hP.sub (ws' := []) [] rfl
      have hDc := hD.sub (ws' := []) [] (by decide) rfl
      have hFc := va_free (wc := []) hD hS hA [] rfl
      refine va_calli (va_runS (As := [.int 0]) (rest := []) ⟨hx, hb, hml, hown, hts⟩ (c_X8_isSlot l D cy 0 s.heap.size) (va_cwS 1 hts (gd_S q1267 q1268 q125 q1269) rfl rfl rfl (by decide +kernel) ⟨Nat.le_of_ble_eq_true rfl, Nat.le_of_ble_eq_true rfl⟩) (pr_S hPc hK hDc) rfl rfl hl.1 rfl (lv_room (Nat.le_of_ble_eq_true rfl)) dX8_paste_1 ⟨Nat.le_of_ble_eq_true rfl, Nat.le_of_ble_eq_true rfl⟩) hS (fun q _ h => hFc q h) hFc (fun r_11 u tS H1 locs ht hvm hw hB hz1 hk1 hS => ?_)
      obtain ⟨hP1, hK1, hD1⟩ := hB
      rw [ht] at hP1
      try dsimp only at hw
      obtain ⟨hP, hD⟩ := va_join (wr := [(g 0, .inr (8, xF g)), (g 26, .inl (cy 5, 4, .inr (.inr (.inr (.inr (va_up (va_up (va_up (va_up (fun _ => none) 0 (some (g 27))) 1 (some (g 29))) 2 (some (g 31))) 3 (some (g 33)))))))), (g 27, .inr (5, [.int 0, .int 0, .int 0, .ref (g 28)])), (g 29, .inr (5, [.int 0, .int 0, .int 0, .ref (g 30)])), (g 31, .inr (5, [.int 0, .int 0, .int 0, .ref (g 32)])), (g 33, .inr (5, [.int 0, .int 0, .int 0, .ref (g 34)]))]) (w1 := []) hP hD [] [0, 1, 2, 3, 4, 5] rfl rfl (by decide) (by decide) hk1 hFc hP1 hD1
      generalize H1 = H at hP hS ⊢
      have hP : va_P D clz [(g 0, .inr (8, xF g)), (g 26, .inl (cy 5, 4, .inr (.inr (.inr (.inr (va_up (va_up (va_up (va_up (fun _ => none) 0 (some (g 27))) 1 (some (g 29))) 2 (some (g 31))) 3 (some (g 33)))))))), (g 27, .inr (5, [.int 0, .int 0, .int 0, .ref (g 28)])), (g 29, .inr (5, [.int 0, .int 0, .int 0, .ref (g 30)])), (g 31, .inr (5, [.int 0, .int 0, .int 0, .ref (g 32)])), (g 33, .inr (5, [.int 0, .int 0, .int 0, .ref (g 34)]))] H := hP
      have hD : va_D A [(g 0, .inr (8, xF g)), (g 26, .inl (cy 5, 4, .inr (.inr (.inr (.inr (va_up (va_up (va_up (va_up (fun _ => none) 0 (some (g 27))) 1 (some (g 29))) 2 (some (g 31))) 3 (some (g 33)))))))), (g 27, .inr (5, [.int 0, .int 0, .int 0, .ref (g 28)])), (g 29, .inr (5, [.int 0, .int 0, .int 0, .ref (g 30)])), (g 31, .inr (5, [.int 0, .int 0, .int 0, .ref (g 32)])), (g 33, .inr (5, [.int 0, .int 0, .int 0, .ref (g 34)]))] := hD
      by_cases hc_12 : ((0 : Int32) ≤ (0 : Int32) ∧ (0 : Int32) ≤ (3 : Int32))
      ·
        rw [if_pos hc_12] at hw
        subst hw
        refine lv_if_eq (tgt := 14) hx hb dX8_paste_4 (by decide) (fun c9 => absurd c9 (by decide)) (fun _ => ?_)
        refine lv_iload_n hx hb dX8_paste_7 rfl (lv_at hl 3 rfl) ?_
        have hPc := hP.sub (ws' := []) [] rfl
        have hDc := hD.sub (ws' := []) [] (by decide) rfl
        have hFc := va_free (wc := []) hD hS hA [] rfl
        refine va_calli (va_runS (As := [.int 2]) (rest := []) ⟨hx, hb, hml, hown, hts⟩ (c_X8_isSlot l D cy 2 H.size) (va_cwS 1 hts (gd_S q1267 q1268 q125 q1269) rfl rfl rfl (by decide +kernel) ⟨Nat.le_of_ble_eq_true rfl, Nat.le_of_ble_eq_true rfl⟩) (pr_S hPc hK hDc) rfl rfl hl.1 rfl (lv_room (Nat.le_of_ble_eq_true rfl)) dX8_paste_8 ⟨Nat.le_of_ble_eq_true rfl, Nat.le_of_ble_eq_true rfl⟩) hS (fun q _ h => hFc q h) hFc (fun r_13 u tS H1 locs ht hvm hw hB hz1 hk1 hS => ?_)
        obtain ⟨hP1, hK1, hD1⟩ := hB
        rw [ht] at hP1
        try dsimp only at hw
        obtain ⟨hP, hD⟩ := va_join (wr := [(g 0, .inr (8, xF g)), (g 26, .inl (cy 5, 4, .inr (.inr (.inr (.inr (va_up (va_up (va_up (va_up (fun _ => none) 0 (some (g 27))) 1 (some (g 29))) 2 (some (g 31))) 3 (some (g 33)))))))), (g 27, .inr (5, [.int 0, .int 0, .int 0, .ref (g 28)])), (g 29, .inr (5, [.int 0, .int 0, .int 0, .ref (g 30)])), (g 31, .inr (5, [.int 0, .int 0, .int 0, .ref (g 32)])), (g 33, .inr (5, [.int 0, .int 0, .int 0, .ref (g 34)]))]) (w1 := []) hP hD [] [0, 1, 2, 3, 4, 5] rfl rfl (by decide) (by decide) hk1 hFc hP1 hD1
        generalize H1 = H at hP hS ⊢
        have hP : va_P D clz [(g 0, .inr (8, xF g)), (g 26, .inl (cy 5, 4, .inr (.inr (.inr (.inr (va_up (va_up (va_up (va_up (fun _ => none) 0 (some (g 27))) 1 (some (g 29))) 2 (some (g 31))) 3 (some (g 33)))))))), (g 27, .inr (5, [.int 0, .int 0, .int 0, .ref (g 28)])), (g 29, .inr (5, [.int 0, .int 0, .int 0, .ref (g 30)])), (g 31, .inr (5, [.int 0, .int 0, .int 0, .ref (g 32)])), (g 33, .inr (5, [.int 0, .int 0, .int 0, .ref (g 34)]))] H := hP
        have hD : va_D A [(g 0, .inr (8, xF g)), (g 26, .inl (cy 5, 4, .inr (.inr (.inr (.inr (va_up (va_up (va_up (va_up (fun _ => none) 0 (some (g 27))) 1 (some (g 29))) 2 (some (g 31))) 3 (some (g 33)))))))), (g 27, .inr (5, [.int 0, .int 0, .int 0, .ref (g 28)])), (g 29, .inr (5, [.int 0, .int 0, .int 0, .ref (g 30)])), (g 31, .inr (5, [.int 0, .int 0, .int 0, .ref (g 32)])), (g 33, .inr (5, [.int 0, .int 0, .int 0, .ref (g 34)]))] := hD
        by_cases hc_14 : ((0 : Int32) ≤ (2 : Int32) ∧ (2 : Int32) ≤ (3 : Int32))
        ·
          rw [if_pos hc_14] at hw
          subst hw
          refine lv_if_ne (tgt := 17) hx hb dX8_paste_11 (by decide) (fun _ => ?_) (fun c9 => absurd c9 (by decide))
          refine lv_aload_n hx hb dX8_paste_17 rfl (lv_at hl 0 rfl) ?_
          refine va_get (D := D) (ci := 8) (v := .ref (g 26)) (C := RX8) (T := TX8) (N := 12) hx hb hts iX8 hown hK hP 0 rfl rfl 5 (by decide) (hts _ q439) (fun _ h9 => h9) rfl dX8_paste_18 ?_
          refine lv_iload_n hx hb dX8_paste_21 rfl (lv_at hl 1 rfl) ?_
          refine va_aldq hx hb hK hP 1 5 rfl rfl (vpi (by decide)) dX8_paste_22 ?_
          refine W.eq (g2 := F0 m 23 ls [.ref (g 27)]) rfl ?_
          refine lv_astore (lv' := [(6, .ref (g 27)), (0, .ref (g 0)), (1, .int 0), (2, .int p2), (3, .int 2), (4, .int p4), (5, .int p5)]) hx hb dX8_paste_23 hl (by decide) rfl (fun ls hl => ?_)
          refine lv_aload_n hx hb dX8_paste_25 rfl (lv_at hl 1 rfl) ?_
          refine va_get (D := D) (ci := 8) (v := .ref (g 26)) (C := RX8) (T := TX8) (N := 12) hx hb hts iX8 hown hK hP 0 rfl rfl 5 (by decide) (hts _ q439) (fun _ h9 => h9) rfl dX8_paste_26 ?_
          refine lv_iload_n hx hb dX8_paste_29 rfl (lv_at hl 4 rfl) ?_
          refine va_aldq hx hb hK hP 1 5 rfl rfl (vpi (by decide)) dX8_paste_30 ?_
          refine W.eq (g2 := F0 m 31 ls [.ref (g 31)]) rfl ?_
          refine lv_astore (lv' := [(7, .ref (g 31)), (6, .ref (g 27)), (0, .ref (g 0)), (1, .int 0), (2, .int p2), (3, .int 2), (4, .int p4), (5, .int p5)]) hx hb dX8_paste_31 hl (by decide) rfl (fun ls hl => ?_)
          refine lv_aload hx hb dX8_paste_33 (lv_at hl 1 rfl) ?_
          refine va_get (D := D) (ci := 5) (v := .int 0) (C := RX5) (T := TX5) (N := 4) hx hb hts iX5 hown hK hP 2 rfl rfl 0 (by decide) (hts _ q417) (fun _ h9 => h9) rfl dX8_paste_35 ?_
          refine lv_if_eq (tgt := 49) hx hb dX8_paste_38 (by decide) (fun _ => ?_) (fun c9 => absurd c9 (by decide))
          refine lv_bipush (v := (-6)) hx hb dX8_paste_49 (by decide) ?_
          have hP9 := hP.sub (ws' := [(g 0, .inr (8, xF g)), (g 26, .inl (cy 5, 4, .inr (.inr (.inr (.inr (va_up (va_up (va_up (va_up (fun _ => none) 0 (some (g 27))) 1 (some (g 29))) 2 (some (g 31))) 3 (some (g 33)))))))), (g 27, .inr (5, [.int 0, .int 0, .int 0, .ref (g 28)])), (g 29, .inr (5, [.int 0, .int 0, .int 0, .ref (g 30)])), (g 31, .inr (5, [.int 0, .int 0, .int 0, .ref (g 32)])), (g 33, .inr (5, [.int 0, .int 0, .int 0, .ref (g 34)]))]) [0, 1, 2, 3, 4, 5] rfl
          have hD9 := hD.sub (ws' := [(g 0, .inr (8, xF g)), (g 26, .inl (cy 5, 4, .inr (.inr (.inr (.inr (va_up (va_up (va_up (va_up (fun _ => none) 0 (some (g 27))) 1 (some (g 29))) 2 (some (g 31))) 3 (some (g 33)))))))), (g 27, .inr (5, [.int 0, .int 0, .int 0, .ref (g 28)])), (g 29, .inr (5, [.int 0, .int 0, .int 0, .ref (g 30)])), (g 31, .inr (5, [.int 0, .int 0, .int 0, .ref (g 32)])), (g 33, .inr (5, [.int 0, .int 0, .int 0, .ref (g 34)]))]) [0, 1, 2, 3, 4, 5] (by decide) rfl
          exact W.iret (v := (-6)) hx hb hr (fun tS ht hW => ⟨⟨(-6), (), rfl, (by have f0 := bp32 hc_12; have f1 := bp32 hc_14; have z320 : (0 : Int32).toInt = 0 := (by decide); have z322 : (2 : Int32).toInt = 2 := (by decide); have z323 : (3 : Int32).toInt = 3 := (by decide); unfold sp_paste; (repeat' split) <;> first | rfl | (exfalso; omega)), by rw [ht]; exact hP9, va_K.moved hW.alike hK, hD9⟩, hS.F ht⟩) hS.2.2 dX8_paste_51
        ·
          rw [if_neg hc_14] at hw
          subst hw
          exact False.elim (by have f0 := bp32 hc_12; have f1 := bn32 hc_14; have z320 : (0 : Int32).toInt = 0 := (by decide); have z322 : (2 : Int32).toInt = 2 := (by decide); have z323 : (3 : Int32).toInt = 3 := (by decide); omega)
      ·
        rw [if_neg hc_12] at hw
        subst hw
        exact False.elim (by have f0 := bn32 hc_12; have z320 : (0 : Int32).toInt = 0 := (by decide); have z323 : (3 : Int32).toInt = 3 := (by decide); omega)
    ·
      refine lv_iload_n hx hb dX8_paste_0 rfl (lv_at hl 1 rfl) ?_
      have hPc := hP.sub (ws' := []) [] rfl
      have hDc := hD.sub (ws' := []) [] (by decide) rfl
      have hFc := va_free (wc := []) hD hS hA [] rfl
      refine va_calli (va_runS (As := [.int 0]) (rest := []) ⟨hx, hb, hml, hown, hts⟩ (c_X8_isSlot l D cy 0 s.heap.size) (va_cwS 1 hts (gd_S q1267 q1268 q125 q1269) rfl rfl rfl (by decide +kernel) ⟨Nat.le_of_ble_eq_true rfl, Nat.le_of_ble_eq_true rfl⟩) (pr_S hPc hK hDc) rfl rfl hl.1 rfl (lv_room (Nat.le_of_ble_eq_true rfl)) dX8_paste_1 ⟨Nat.le_of_ble_eq_true rfl, Nat.le_of_ble_eq_true rfl⟩) hS (fun q _ h => hFc q h) hFc (fun r_15 u tS H1 locs ht hvm hw hB hz1 hk1 hS => ?_)
      obtain ⟨hP1, hK1, hD1⟩ := hB
      rw [ht] at hP1
      try dsimp only at hw
      obtain ⟨hP, hD⟩ := va_join (wr := [(g 0, .inr (8, xF g)), (g 26, .inl (cy 5, 4, .inr (.inr (.inr (.inr (va_up (va_up (va_up (va_up (fun _ => none) 0 (some (g 27))) 1 (some (g 29))) 2 (some (g 31))) 3 (some (g 33)))))))), (g 27, .inr (5, [.int 0, .int 0, .int 0, .ref (g 28)])), (g 29, .inr (5, [.int 0, .int 0, .int 0, .ref (g 30)])), (g 31, .inr (5, [.int 0, .int 0, .int 0, .ref (g 32)])), (g 33, .inr (5, [.int 0, .int 0, .int 0, .ref (g 34)]))]) (w1 := []) hP hD [] [0, 1, 2, 3, 4, 5] rfl rfl (by decide) (by decide) hk1 hFc hP1 hD1
      generalize H1 = H at hP hS ⊢
      have hP : va_P D clz [(g 0, .inr (8, xF g)), (g 26, .inl (cy 5, 4, .inr (.inr (.inr (.inr (va_up (va_up (va_up (va_up (fun _ => none) 0 (some (g 27))) 1 (some (g 29))) 2 (some (g 31))) 3 (some (g 33)))))))), (g 27, .inr (5, [.int 0, .int 0, .int 0, .ref (g 28)])), (g 29, .inr (5, [.int 0, .int 0, .int 0, .ref (g 30)])), (g 31, .inr (5, [.int 0, .int 0, .int 0, .ref (g 32)])), (g 33, .inr (5, [.int 0, .int 0, .int 0, .ref (g 34)]))] H := hP
      have hD : va_D A [(g 0, .inr (8, xF g)), (g 26, .inl (cy 5, 4, .inr (.inr (.inr (.inr (va_up (va_up (va_up (va_up (fun _ => none) 0 (some (g 27))) 1 (some (g 29))) 2 (some (g 31))) 3 (some (g 33)))))))), (g 27, .inr (5, [.int 0, .int 0, .int 0, .ref (g 28)])), (g 29, .inr (5, [.int 0, .int 0, .int 0, .ref (g 30)])), (g 31, .inr (5, [.int 0, .int 0, .int 0, .ref (g 32)])), (g 33, .inr (5, [.int 0, .int 0, .int 0, .ref (g 34)]))] := hD
      by_cases hc_16 : ((0 : Int32) ≤ (0 : Int32) ∧ (0 : Int32) ≤ (3 : Int32))
      ·
        rw [if_pos hc_16] at hw
        subst hw
        refine lv_if_eq (tgt := 14) hx hb dX8_paste_4 (by decide) (fun c9 => absurd c9 (by decide)) (fun _ => ?_)
        refine lv_iload_n hx hb dX8_paste_7 rfl (lv_at hl 3 rfl) ?_
        have hPc := hP.sub (ws' := []) [] rfl
        have hDc := hD.sub (ws' := []) [] (by decide) rfl
        have hFc := va_free (wc := []) hD hS hA [] rfl
        refine va_calli (va_runS (As := [.int 3]) (rest := []) ⟨hx, hb, hml, hown, hts⟩ (c_X8_isSlot l D cy 3 H.size) (va_cwS 1 hts (gd_S q1267 q1268 q125 q1269) rfl rfl rfl (by decide +kernel) ⟨Nat.le_of_ble_eq_true rfl, Nat.le_of_ble_eq_true rfl⟩) (pr_S hPc hK hDc) rfl rfl hl.1 rfl (lv_room (Nat.le_of_ble_eq_true rfl)) dX8_paste_8 ⟨Nat.le_of_ble_eq_true rfl, Nat.le_of_ble_eq_true rfl⟩) hS (fun q _ h => hFc q h) hFc (fun r_17 u tS H1 locs ht hvm hw hB hz1 hk1 hS => ?_)
        obtain ⟨hP1, hK1, hD1⟩ := hB
        rw [ht] at hP1
        try dsimp only at hw
        obtain ⟨hP, hD⟩ := va_join (wr := [(g 0, .inr (8, xF g)), (g 26, .inl (cy 5, 4, .inr (.inr (.inr (.inr (va_up (va_up (va_up (va_up (fun _ => none) 0 (some (g 27))) 1 (some (g 29))) 2 (some (g 31))) 3 (some (g 33)))))))), (g 27, .inr (5, [.int 0, .int 0, .int 0, .ref (g 28)])), (g 29, .inr (5, [.int 0, .int 0, .int 0, .ref (g 30)])), (g 31, .inr (5, [.int 0, .int 0, .int 0, .ref (g 32)])), (g 33, .inr (5, [.int 0, .int 0, .int 0, .ref (g 34)]))]) (w1 := []) hP hD [] [0, 1, 2, 3, 4, 5] rfl rfl (by decide) (by decide) hk1 hFc hP1 hD1
        generalize H1 = H at hP hS ⊢
        have hP : va_P D clz [(g 0, .inr (8, xF g)), (g 26, .inl (cy 5, 4, .inr (.inr (.inr (.inr (va_up (va_up (va_up (va_up (fun _ => none) 0 (some (g 27))) 1 (some (g 29))) 2 (some (g 31))) 3 (some (g 33)))))))), (g 27, .inr (5, [.int 0, .int 0, .int 0, .ref (g 28)])), (g 29, .inr (5, [.int 0, .int 0, .int 0, .ref (g 30)])), (g 31, .inr (5, [.int 0, .int 0, .int 0, .ref (g 32)])), (g 33, .inr (5, [.int 0, .int 0, .int 0, .ref (g 34)]))] H := hP
        have hD : va_D A [(g 0, .inr (8, xF g)), (g 26, .inl (cy 5, 4, .inr (.inr (.inr (.inr (va_up (va_up (va_up (va_up (fun _ => none) 0 (some (g 27))) 1 (some (g 29))) 2 (some (g 31))) 3 (some (g 33)))))))), (g 27, .inr (5, [.int 0, .int 0, .int 0, .ref (g 28)])), (g 29, .inr (5, [.int 0, .int 0, .int 0, .ref (g 30)])), (g 31, .inr (5, [.int 0, .int 0, .int 0, .ref (g 32)])), (g 33, .inr (5, [.int 0, .int 0, .int 0, .ref (g 34)]))] := hD
        by_cases hc_18 : ((0 : Int32) ≤ (3 : Int32) ∧ (3 : Int32) ≤ (3 : Int32))
        ·
          rw [if_pos hc_18] at hw
          subst hw
          refine lv_if_ne (tgt := 17) hx hb dX8_paste_11 (by decide) (fun _ => ?_) (fun c9 => absurd c9 (by decide))
          refine lv_aload_n hx hb dX8_paste_17 rfl (lv_at hl 0 rfl) ?_
          refine va_get (D := D) (ci := 8) (v := .ref (g 26)) (C := RX8) (T := TX8) (N := 12) hx hb hts iX8 hown hK hP 0 rfl rfl 5 (by decide) (hts _ q439) (fun _ h9 => h9) rfl dX8_paste_18 ?_
          refine lv_iload_n hx hb dX8_paste_21 rfl (lv_at hl 1 rfl) ?_
          refine va_aldq hx hb hK hP 1 5 rfl rfl (vpi (by decide)) dX8_paste_22 ?_
          refine W.eq (g2 := F0 m 23 ls [.ref (g 27)]) rfl ?_
          refine lv_astore (lv' := [(6, .ref (g 27)), (0, .ref (g 0)), (1, .int 0), (2, .int p2), (3, .int 3), (4, .int p4), (5, .int p5)]) hx hb dX8_paste_23 hl (by decide) rfl (fun ls hl => ?_)
          refine lv_aload_n hx hb dX8_paste_25 rfl (lv_at hl 1 rfl) ?_
          refine va_get (D := D) (ci := 8) (v := .ref (g 26)) (C := RX8) (T := TX8) (N := 12) hx hb hts iX8 hown hK hP 0 rfl rfl 5 (by decide) (hts _ q439) (fun _ h9 => h9) rfl dX8_paste_26 ?_
          refine lv_iload_n hx hb dX8_paste_29 rfl (lv_at hl 4 rfl) ?_
          refine va_aldq hx hb hK hP 1 5 rfl rfl (vpi (by decide)) dX8_paste_30 ?_
          refine W.eq (g2 := F0 m 31 ls [.ref (g 33)]) rfl ?_
          refine lv_astore (lv' := [(7, .ref (g 33)), (6, .ref (g 27)), (0, .ref (g 0)), (1, .int 0), (2, .int p2), (3, .int 3), (4, .int p4), (5, .int p5)]) hx hb dX8_paste_31 hl (by decide) rfl (fun ls hl => ?_)
          refine lv_aload hx hb dX8_paste_33 (lv_at hl 1 rfl) ?_
          refine va_get (D := D) (ci := 5) (v := .int 0) (C := RX5) (T := TX5) (N := 4) hx hb hts iX5 hown hK hP 2 rfl rfl 0 (by decide) (hts _ q417) (fun _ h9 => h9) rfl dX8_paste_35 ?_
          refine lv_if_eq (tgt := 49) hx hb dX8_paste_38 (by decide) (fun _ => ?_) (fun c9 => absurd c9 (by decide))
          refine lv_bipush (v := (-6)) hx hb dX8_paste_49 (by decide) ?_
          have hP9 := hP.sub (ws' := [(g 0, .inr (8, xF g)), (g 26, .inl (cy 5, 4, .inr (.inr (.inr (.inr (va_up (va_up (va_up (va_up (fun _ => none) 0 (some (g 27))) 1 (some (g 29))) 2 (some (g 31))) 3 (some (g 33)))))))), (g 27, .inr (5, [.int 0, .int 0, .int 0, .ref (g 28)])), (g 29, .inr (5, [.int 0, .int 0, .int 0, .ref (g 30)])), (g 31, .inr (5, [.int 0, .int 0, .int 0, .ref (g 32)])), (g 33, .inr (5, [.int 0, .int 0, .int 0, .ref (g 34)]))]) [0, 1, 2, 3, 4, 5] rfl
          have hD9 := hD.sub (ws' := [(g 0, .inr (8, xF g)), (g 26, .inl (cy 5, 4, .inr (.inr (.inr (.inr (va_up (va_up (va_up (va_up (fun _ => none) 0 (some (g 27))) 1 (some (g 29))) 2 (some (g 31))) 3 (some (g 33)))))))), (g 27, .inr (5, [.int 0, .int 0, .int 0, .ref (g 28)])), (g 29, .inr (5, [.int 0, .int 0, .int 0, .ref (g 30)])), (g 31, .inr (5, [.int 0, .int 0, .int 0, .ref (g 32)])), (g 33, .inr (5, [.int 0, .int 0, .int 0, .ref (g 34)]))]) [0, 1, 2, 3, 4, 5] (by decide) rfl
          exact W.iret (v := (-6)) hx hb hr (fun tS ht hW => ⟨⟨(-6), (), rfl, (by have f0 := bp32 hc_16; have f1 := bp32 hc_18; have z320 : (0 : Int32).toInt = 0 := (by decide); have z323 : (3 : Int32).toInt = 3 := (by decide); unfold sp_paste; (repeat' split) <;> first | rfl | (exfalso; omega)), by rw [ht]; exact hP9, va_K.moved hW.alike hK, hD9⟩, hS.F ht⟩) hS.2.2 dX8_paste_51
        ·
          rw [if_neg hc_18] at hw
          subst hw
          exact False.elim (by have f0 := bp32 hc_16; have f1 := bn32 hc_18; have z320 : (0 : Int32).toInt = 0 := (by decide); have z323 : (3 : Int32).toInt = 3 := (by decide); omega)
      ·
        rw [if_neg hc_16] at hw
        subst hw
        exact False.elim (by have f0 := bn32 hc_16; have z320 : (0 : Int32).toInt = 0 := (by decide); have z323 : (3 : Int32).toInt = 3 := (by decide); omega)
    ·
      refine lv_iload_n hx hb dX8_paste_0 rfl (lv_at hl 1 rfl) ?_
      have hPc := hP.sub (ws' := []) [] rfl
      have hDc := hD.sub (ws' := []) [] (by decide) rfl
      have hFc := va_free (wc := []) hD hS hA [] rfl
      refine va_calli (va_runS (As := [.int 0]) (rest := []) ⟨hx, hb, hml, hown, hts⟩ (c_X8_isSlot l D cy 0 s.heap.size) (va_cwS 1 hts (gd_S q1267 q1268 q125 q1269) rfl rfl rfl (by decide +kernel) ⟨Nat.le_of_ble_eq_true rfl, Nat.le_of_ble_eq_true rfl⟩) (pr_S hPc hK hDc) rfl rfl hl.1 rfl (lv_room (Nat.le_of_ble_eq_true rfl)) dX8_paste_1 ⟨Nat.le_of_ble_eq_true rfl, Nat.le_of_ble_eq_true rfl⟩) hS (fun q _ h => hFc q h) hFc (fun r_19 u tS H1 locs ht hvm hw hB hz1 hk1 hS => ?_)
      obtain ⟨hP1, hK1, hD1⟩ := hB
      rw [ht] at hP1
      try dsimp only at hw
      obtain ⟨hP, hD⟩ := va_join (wr := [(g 0, .inr (8, xF g)), (g 26, .inl (cy 5, 4, .inr (.inr (.inr (.inr (va_up (va_up (va_up (va_up (fun _ => none) 0 (some (g 27))) 1 (some (g 29))) 2 (some (g 31))) 3 (some (g 33)))))))), (g 27, .inr (5, [.int 0, .int 0, .int 0, .ref (g 28)])), (g 29, .inr (5, [.int 0, .int 0, .int 0, .ref (g 30)])), (g 31, .inr (5, [.int 0, .int 0, .int 0, .ref (g 32)])), (g 33, .inr (5, [.int 0, .int 0, .int 0, .ref (g 34)]))]) (w1 := []) hP hD [] [0, 1, 2, 3, 4, 5] rfl rfl (by decide) (by decide) hk1 hFc hP1 hD1
      generalize H1 = H at hP hS ⊢
      have hP : va_P D clz [(g 0, .inr (8, xF g)), (g 26, .inl (cy 5, 4, .inr (.inr (.inr (.inr (va_up (va_up (va_up (va_up (fun _ => none) 0 (some (g 27))) 1 (some (g 29))) 2 (some (g 31))) 3 (some (g 33)))))))), (g 27, .inr (5, [.int 0, .int 0, .int 0, .ref (g 28)])), (g 29, .inr (5, [.int 0, .int 0, .int 0, .ref (g 30)])), (g 31, .inr (5, [.int 0, .int 0, .int 0, .ref (g 32)])), (g 33, .inr (5, [.int 0, .int 0, .int 0, .ref (g 34)]))] H := hP
      have hD : va_D A [(g 0, .inr (8, xF g)), (g 26, .inl (cy 5, 4, .inr (.inr (.inr (.inr (va_up (va_up (va_up (va_up (fun _ => none) 0 (some (g 27))) 1 (some (g 29))) 2 (some (g 31))) 3 (some (g 33)))))))), (g 27, .inr (5, [.int 0, .int 0, .int 0, .ref (g 28)])), (g 29, .inr (5, [.int 0, .int 0, .int 0, .ref (g 30)])), (g 31, .inr (5, [.int 0, .int 0, .int 0, .ref (g 32)])), (g 33, .inr (5, [.int 0, .int 0, .int 0, .ref (g 34)]))] := hD
      by_cases hc_20 : ((0 : Int32) ≤ (0 : Int32) ∧ (0 : Int32) ≤ (3 : Int32))
      ·
        rw [if_pos hc_20] at hw
        subst hw
        refine lv_if_eq (tgt := 14) hx hb dX8_paste_4 (by decide) (fun c9 => absurd c9 (by decide)) (fun _ => ?_)
        refine lv_iload_n hx hb dX8_paste_7 rfl (lv_at hl 3 rfl) ?_
        have hPc := hP.sub (ws' := []) [] rfl
        have hDc := hD.sub (ws' := []) [] (by decide) rfl
        have hFc := va_free (wc := []) hD hS hA [] rfl
        refine va_calli (va_runS (As := [.int p3]) (rest := []) ⟨hx, hb, hml, hown, hts⟩ (c_X8_isSlot l D cy p3 H.size) (va_cwS 1 hts (gd_S q1267 q1268 q125 q1269) rfl rfl rfl (by decide +kernel) ⟨Nat.le_of_ble_eq_true rfl, Nat.le_of_ble_eq_true rfl⟩) (pr_S hPc hK hDc) rfl rfl hl.1 rfl (lv_room (Nat.le_of_ble_eq_true rfl)) dX8_paste_8 ⟨Nat.le_of_ble_eq_true rfl, Nat.le_of_ble_eq_true rfl⟩) hS (fun q _ h => hFc q h) hFc (fun r_21 u tS H1 locs ht hvm hw hB hz1 hk1 hS => ?_)
        obtain ⟨hP1, hK1, hD1⟩ := hB
        rw [ht] at hP1
        try dsimp only at hw
        obtain ⟨hP, hD⟩ := va_join (wr := [(g 0, .inr (8, xF g)), (g 26, .inl (cy 5, 4, .inr (.inr (.inr (.inr (va_up (va_up (va_up (va_up (fun _ => none) 0 (some (g 27))) 1 (some (g 29))) 2 (some (g 31))) 3 (some (g 33)))))))), (g 27, .inr (5, [.int 0, .int 0, .int 0, .ref (g 28)])), (g 29, .inr (5, [.int 0, .int 0, .int 0, .ref (g 30)])), (g 31, .inr (5, [.int 0, .int 0, .int 0, .ref (g 32)])), (g 33, .inr (5, [.int 0, .int 0, .int 0, .ref (g 34)]))]) (w1 := []) hP hD [] [0, 1, 2, 3, 4, 5] rfl rfl (by decide) (by decide) hk1 hFc hP1 hD1
        generalize H1 = H at hP hS ⊢
        have hP : va_P D clz [(g 0, .inr (8, xF g)), (g 26, .inl (cy 5, 4, .inr (.inr (.inr (.inr (va_up (va_up (va_up (va_up (fun _ => none) 0 (some (g 27))) 1 (some (g 29))) 2 (some (g 31))) 3 (some (g 33)))))))), (g 27, .inr (5, [.int 0, .int 0, .int 0, .ref (g 28)])), (g 29, .inr (5, [.int 0, .int 0, .int 0, .ref (g 30)])), (g 31, .inr (5, [.int 0, .int 0, .int 0, .ref (g 32)])), (g 33, .inr (5, [.int 0, .int 0, .int 0, .ref (g 34)]))] H := hP
        have hD : va_D A [(g 0, .inr (8, xF g)), (g 26, .inl (cy 5, 4, .inr (.inr (.inr (.inr (va_up (va_up (va_up (va_up (fun _ => none) 0 (some (g 27))) 1 (some (g 29))) 2 (some (g 31))) 3 (some (g 33)))))))), (g 27, .inr (5, [.int 0, .int 0, .int 0, .ref (g 28)])), (g 29, .inr (5, [.int 0, .int 0, .int 0, .ref (g 30)])), (g 31, .inr (5, [.int 0, .int 0, .int 0, .ref (g 32)])), (g 33, .inr (5, [.int 0, .int 0, .int 0, .ref (g 34)]))] := hD
        by_cases hc_22 : ((0 : Int32) ≤ p3 ∧ p3 ≤ (3 : Int32))
        ·
          rw [if_pos hc_22] at hw
          subst hw
          exact False.elim (by have f0 := hs_2; have f1 := bp32 hc_20; have f2 := bp32 hc_22; have z320 : (0 : Int32).toInt = 0 := (by decide); have z323 : (3 : Int32).toInt = 3 := (by decide); omega)
        ·
          rw [if_neg hc_22] at hw
          subst hw
          refine lv_if_ne (tgt := 17) hx hb dX8_paste_11 (by decide) (fun c9 => absurd c9 (by decide)) (fun _ => ?_)
          refine lv_bipush (v := (-2)) hx hb dX8_paste_14 (by decide) ?_
          have hP9 := hP.sub (ws' := [(g 0, .inr (8, xF g)), (g 26, .inl (cy 5, 4, .inr (.inr (.inr (.inr (va_up (va_up (va_up (va_up (fun _ => none) 0 (some (g 27))) 1 (some (g 29))) 2 (some (g 31))) 3 (some (g 33)))))))), (g 27, .inr (5, [.int 0, .int 0, .int 0, .ref (g 28)])), (g 29, .inr (5, [.int 0, .int 0, .int 0, .ref (g 30)])), (g 31, .inr (5, [.int 0, .int 0, .int 0, .ref (g 32)])), (g 33, .inr (5, [.int 0, .int 0, .int 0, .ref (g 34)]))]) [0, 1, 2, 3, 4, 5] rfl
          have hD9 := hD.sub (ws' := [(g 0, .inr (8, xF g)), (g 26, .inl (cy 5, 4, .inr (.inr (.inr (.inr (va_up (va_up (va_up (va_up (fun _ => none) 0 (some (g 27))) 1 (some (g 29))) 2 (some (g 31))) 3 (some (g 33)))))))), (g 27, .inr (5, [.int 0, .int 0, .int 0, .ref (g 28)])), (g 29, .inr (5, [.int 0, .int 0, .int 0, .ref (g 30)])), (g 31, .inr (5, [.int 0, .int 0, .int 0, .ref (g 32)])), (g 33, .inr (5, [.int 0, .int 0, .int 0, .ref (g 34)]))]) [0, 1, 2, 3, 4, 5] (by decide) rfl
          exact W.iret (v := (-2)) hx hb hr (fun tS ht hW => ⟨⟨(-2), (), rfl, (by have f0 := hs_2; have f1 := bp32 hc_20; have f2 := bn32 hc_22; have z320 : (0 : Int32).toInt = 0 := (by decide); have z323 : (3 : Int32).toInt = 3 := (by decide); unfold sp_paste; (repeat' split) <;> first | rfl | (exfalso; omega)), by rw [ht]; exact hP9, va_K.moved hW.alike hK, hD9⟩, hS.F ht⟩) hS.2.2 dX8_paste_16
      ·
        rw [if_neg hc_20] at hw
        subst hw
        exact False.elim (by have f0 := hs_2; have f1 := bn32 hc_20; have z320 : (0 : Int32).toInt = 0 := (by decide); have z323 : (3 : Int32).toInt = 3 := (by decide); omega)
  ·
    rcases sp4 p3 with rfl | rfl | rfl | rfl | hs_23
    ·
      refine lv_iload_n hx hb dX8_paste_0 rfl (lv_at hl 1 rfl) ?_
      have hPc := hP.sub (ws' := []) [] rfl
      have hDc := hD.sub (ws' := []) [] (by decide) rfl
      have hFc := va_free (wc := []) hD hS hA [] rfl
      refine va_calli (va_runS (As := [.int 1]) (rest := []) ⟨hx, hb, hml, hown, hts⟩ (c_X8_isSlot l D cy 1 s.heap.size) (va_cwS 1 hts (gd_S q1267 q1268 q125 q1269) rfl rfl rfl (by decide +kernel) ⟨Nat.le_of_ble_eq_true rfl, Nat.le_of_ble_eq_true rfl⟩) (pr_S hPc hK hDc) rfl rfl hl.1 rfl (lv_room (Nat.le_of_ble_eq_true rfl)) dX8_paste_1 ⟨Nat.le_of_ble_eq_true rfl, Nat.le_of_ble_eq_true rfl⟩) hS (fun q _ h => hFc q h) hFc (fun r_24 u tS H1 locs ht hvm hw hB hz1 hk1 hS => ?_)
      obtain ⟨hP1, hK1, hD1⟩ := hB
      rw [ht] at hP1
      try dsimp only at hw
      obtain ⟨hP, hD⟩ := va_join (wr := [(g 0, .inr (8, xF g)), (g 26, .inl (cy 5, 4, .inr (.inr (.inr (.inr (va_up (va_up (va_up (va_up (fun _ => none) 0 (some (g 27))) 1 (some (g 29))) 2 (some (g 31))) 3 (some (g 33)))))))), (g 27, .inr (5, [.int 0, .int 0, .int 0, .ref (g 28)])), (g 29, .inr (5, [.int 0, .int 0, .int 0, .ref (g 30)])), (g 31, .inr (5, [.int 0, .int 0, .int 0, .ref (g 32)])), (g 33, .inr (5, [.int 0, .int 0, .int 0, .ref (g 34)]))]) (w1 := []) hP hD [] [0, 1, 2, 3, 4, 5] rfl rfl (by decide) (by decide) hk1 hFc hP1 hD1
      generalize H1 = H at hP hS ⊢
      have hP : va_P D clz [(g 0, .inr (8, xF g)), (g 26, .inl (cy 5, 4, .inr (.inr (.inr (.inr (va_up (va_up (va_up (va_up (fun _ => none) 0 (some (g 27))) 1 (some (g 29))) 2 (some (g 31))) 3 (some (g 33)))))))), (g 27, .inr (5, [.int 0, .int 0, .int 0, .ref (g 28)])), (g 29, .inr (5, [.int 0, .int 0, .int 0, .ref (g 30)])), (g 31, .inr (5, [.int 0, .int 0, .int 0, .ref (g 32)])), (g 33, .inr (5, [.int 0, .int 0, .int 0, .ref (g 34)]))] H := hP
      have hD : va_D A [(g 0, .inr (8, xF g)), (g 26, .inl (cy 5, 4, .inr (.inr (.inr (.inr (va_up (va_up (va_up (va_up (fun _ => none) 0 (some (g 27))) 1 (some (g 29))) 2 (some (g 31))) 3 (some (g 33)))))))), (g 27, .inr (5, [.int 0, .int 0, .int 0, .ref (g 28)])), (g 29, .inr (5, [.int 0, .int 0, .int 0, .ref (g 30)])), (g 31, .inr (5, [.int 0, .int 0, .int 0, .ref (g 32)])), (g 33, .inr (5, [.int 0, .int 0, .int 0, .ref (g 34)]))] := hD
      by_cases hc_25 : ((0 : Int32) ≤ (1 : Int32) ∧ (1 : Int32) ≤ (3 : Int32))
      ·
        rw [if_pos hc_25] at hw
        subst hw
        refine lv_if_eq (tgt := 14) hx hb dX8_paste_4 (by decide) (fun c9 => absurd c9 (by decide)) (fun _ => ?_)
        refine lv_iload_n hx hb dX8_paste_7 rfl (lv_at hl 3 rfl) ?_
        have hPc := hP.sub (ws' := []) [] rfl
        have hDc := hD.sub (ws' := []) [] (by decide) rfl
        have hFc := va_free (wc := []) hD hS hA [] rfl
        refine va_calli (va_runS (As := [.int 0]) (rest := []) ⟨hx, hb, hml, hown, hts⟩ (c_X8_isSlot l D cy 0 H.size) (va_cwS 1 hts (gd_S q1267 q1268 q125 q1269) rfl rfl rfl (by decide +kernel) ⟨Nat.le_of_ble_eq_true rfl, Nat.le_of_ble_eq_true rfl⟩) (pr_S hPc hK hDc) rfl rfl hl.1 rfl (lv_room (Nat.le_of_ble_eq_true rfl)) dX8_paste_8 ⟨Nat.le_of_ble_eq_true rfl, Nat.le_of_ble_eq_true rfl⟩) hS (fun q _ h => hFc q h) hFc (fun r_26 u tS H1 locs ht hvm hw hB hz1 hk1 hS => ?_)
        obtain ⟨hP1, hK1, hD1⟩ := hB
        rw [ht] at hP1
        try dsimp only at hw
        obtain ⟨hP, hD⟩ := va_join (wr := [(g 0, .inr (8, xF g)), (g 26, .inl (cy 5, 4, .inr (.inr (.inr (.inr (va_up (va_up (va_up (va_up (fun _ => none) 0 (some (g 27))) 1 (some (g 29))) 2 (some (g 31))) 3 (some (g 33)))))))), (g 27, .inr (5, [.int 0, .int 0, .int 0, .ref (g 28)])), (g 29, .inr (5, [.int 0, .int 0, .int 0, .ref (g 30)])), (g 31, .inr (5, [.int 0, .int 0, .int 0, .ref (g 32)])), (g 33, .inr (5, [.int 0, .int 0, .int 0, .ref (g 34)]))]) (w1 := []) hP hD [] [0, 1, 2, 3, 4, 5] rfl rfl (by decide) (by decide) hk1 hFc hP1 hD1
        generalize H1 = H at hP hS ⊢
        have hP : va_P D clz [(g 0, .inr (8, xF g)), (g 26, .inl (cy 5, 4, .inr (.inr (.inr (.inr (va_up (va_up (va_up (va_up (fun _ => none) 0 (some (g 27))) 1 (some (g 29))) 2 (some (g 31))) 3 (some (g 33)))))))), (g 27, .inr (5, [.int 0, .int 0, .int 0, .ref (g 28)])), (g 29, .inr (5, [.int 0, .int 0, .int 0, .ref (g 30)])), (g 31, .inr (5, [.int 0, .int 0, .int 0, .ref (g 32)])), (g 33, .inr (5, [.int 0, .int 0, .int 0, .ref (g 34)]))] H := hP
        have hD : va_D A [(g 0, .inr (8, xF g)), (g 26, .inl (cy 5, 4, .inr (.inr (.inr (.inr (va_up (va_up (va_up (va_up (fun _ => none) 0 (some (g 27))) 1 (some (g 29))) 2 (some (g 31))) 3 (some (g 33)))))))), (g 27, .inr (5, [.int 0, .int 0, .int 0, .ref (g 28)])), (g 29, .inr (5, [.int 0, .int 0, .int 0, .ref (g 30)])), (g 31, .inr (5, [.int 0, .int 0, .int 0, .ref (g 32)])), (g 33, .inr (5, [.int 0, .int 0, .int 0, .ref (g 34)]))] := hD
        by_cases hc_27 : ((0 : Int32) ≤ (0 : Int32) ∧ (0 : Int32) ≤ (3 : Int32))
        ·
          rw [if_pos hc_27] at hw
          subst hw
          refine lv_if_ne (tgt := 17) hx hb dX8_paste_11 (by decide) (fun _ => ?_) (fun c9 => absurd c9 (by decide))
          refine lv_aload_n hx hb dX8_paste_17 rfl (lv_at hl 0 rfl) ?_
          refine va_get (D := D) (ci := 8) (v := .ref (g 26)) (C := RX8) (T := TX8) (N := 12) hx hb hts iX8 hown hK hP 0 rfl rfl 5 (by decide) (hts _ q439) (fun _ h9 => h9) rfl dX8_paste_18 ?_
          refine lv_iload_n hx hb dX8_paste_21 rfl (lv_at hl 1 rfl) ?_
          refine va_aldq hx hb hK hP 1 5 rfl rfl (vpi (by decide)) dX8_paste_22 ?_
          refine W.eq (g2 := F0 m 23 ls [.ref (g 29)]) rfl ?_
          refine lv_astore (lv' := [(6, .ref (g 29)), (0, .ref (g 0)), (1, .int 1), (2, .int p2), (3, .int 0), (4, .int p4), (5, .int p5)]) hx hb dX8_paste_23 hl (by decide) rfl (fun ls hl => ?_)
          refine lv_aload_n hx hb dX8_paste_25 rfl (lv_at hl 1 rfl) ?_
          refine va_get (D := D) (ci := 8) (v := .ref (g 26)) (C := RX8) (T := TX8) (N := 12) hx hb hts iX8 hown hK hP 0 rfl rfl 5 (by decide) (hts _ q439) (fun _ h9 => h9) rfl dX8_paste_26 ?_
          refine lv_iload_n hx hb dX8_paste_29 rfl (lv_at hl 4 rfl) ?_
          refine va_aldq hx hb hK hP 1 5 rfl rfl (vpi (by decide)) dX8_paste_30 ?_
          refine W.eq (g2 := F0 m 31 ls [.ref (g 27)]) rfl ?_
          refine lv_astore (lv' := [(7, .ref (g 27)), (6, .ref (g 29)), (0, .ref (g 0)), (1, .int 1), (2, .int p2), (3, .int 0), (4, .int p4), (5, .int p5)]) hx hb dX8_paste_31 hl (by decide) rfl (fun ls hl => ?_)
          refine lv_aload hx hb dX8_paste_33 (lv_at hl 1 rfl) ?_
          refine va_get (D := D) (ci := 5) (v := .int 0) (C := RX5) (T := TX5) (N := 4) hx hb hts iX5 hown hK hP 3 rfl rfl 0 (by decide) (hts _ q417) (fun _ h9 => h9) rfl dX8_paste_35 ?_
          refine lv_if_eq (tgt := 49) hx hb dX8_paste_38 (by decide) (fun _ => ?_) (fun c9 => absurd c9 (by decide))
          refine lv_bipush (v := (-6)) hx hb dX8_paste_49 (by decide) ?_
          have hP9 := hP.sub (ws' := [(g 0, .inr (8, xF g)), (g 26, .inl (cy 5, 4, .inr (.inr (.inr (.inr (va_up (va_up (va_up (va_up (fun _ => none) 0 (some (g 27))) 1 (some (g 29))) 2 (some (g 31))) 3 (some (g 33)))))))), (g 27, .inr (5, [.int 0, .int 0, .int 0, .ref (g 28)])), (g 29, .inr (5, [.int 0, .int 0, .int 0, .ref (g 30)])), (g 31, .inr (5, [.int 0, .int 0, .int 0, .ref (g 32)])), (g 33, .inr (5, [.int 0, .int 0, .int 0, .ref (g 34)]))]) [0, 1, 2, 3, 4, 5] rfl
          have hD9 := hD.sub (ws' := [(g 0, .inr (8, xF g)), (g 26, .inl (cy 5, 4, .inr (.inr (.inr (.inr (va_up (va_up (va_up (va_up (fun _ => none) 0 (some (g 27))) 1 (some (g 29))) 2 (some (g 31))) 3 (some (g 33)))))))), (g 27, .inr (5, [.int 0, .int 0, .int 0, .ref (g 28)])), (g 29, .inr (5, [.int 0, .int 0, .int 0, .ref (g 30)])), (g 31, .inr (5, [.int 0, .int 0, .int 0, .ref (g 32)])), (g 33, .inr (5, [.int 0, .int 0, .int 0, .ref (g 34)]))]) [0, 1, 2, 3, 4, 5] (by decide) rfl
          exact W.iret (v := (-6)) hx hb hr (fun tS ht hW => ⟨⟨(-6), (), rfl, (by have f0 := bp32 hc_25; have f1 := bp32 hc_27; have z320 : (0 : Int32).toInt = 0 := (by decide); have z321 : (1 : Int32).toInt = 1 := (by decide); have z323 : (3 : Int32).toInt = 3 := (by decide); unfold sp_paste; (repeat' split) <;> first | rfl | (exfalso; omega)), by rw [ht]; exact hP9, va_K.moved hW.alike hK, hD9⟩, hS.F ht⟩) hS.2.2 dX8_paste_51
        ·
          rw [if_neg hc_27] at hw
          subst hw
          exact False.elim (by have f0 := bp32 hc_25; have f1 := bn32 hc_27; have z320 : (0 : Int32).toInt = 0 := (by decide); have z321 : (1 : Int32).toInt = 1 := (by decide); have z323 : (3 : Int32).toInt = 3 := (by decide); omega)
      ·
        rw [if_neg hc_25] at hw
        subst hw
        exact False.elim (by have f0 := bn32 hc_25; have z320 : (0 : Int32).toInt = 0 := (by decide); have z321 : (1 : Int32).toInt = 1 := (by decide); have z323 : (3 : Int32).toInt = 3 := (by decide); omega)
    ·
      refine lv_iload_n hx hb dX8_paste_0 rfl (lv_at hl 1 rfl) ?_
      have hPc := hP.sub (ws' := []) [] rfl
      have hDc := hD.sub (ws' := []) [] (by decide) rfl
      have hFc := va_free (wc := []) hD hS hA [] rfl
      refine va_calli (va_runS (As := [.int 1]) (rest := []) ⟨hx, hb, hml, hown, hts⟩ (c_X8_isSlot l D cy 1 s.heap.size) (va_cwS 1 hts (gd_S q1267 q1268 q125 q1269) rfl rfl rfl (by decide +kernel) ⟨Nat.le_of_ble_eq_true rfl, Nat.le_of_ble_eq_true rfl⟩) (pr_S hPc hK hDc) rfl rfl hl.1 rfl (lv_room (Nat.le_of_ble_eq_true rfl)) dX8_paste_1 ⟨Nat.le_of_ble_eq_true rfl, Nat.le_of_ble_eq_true rfl⟩) hS (fun q _ h => hFc q h) hFc (fun r_28 u tS H1 locs ht hvm hw hB hz1 hk1 hS => ?_)
      obtain ⟨hP1, hK1, hD1⟩ := hB
      rw [ht] at hP1
      try dsimp only at hw
      obtain ⟨hP, hD⟩ := va_join (wr := [(g 0, .inr (8, xF g)), (g 26, .inl (cy 5, 4, .inr (.inr (.inr (.inr (va_up (va_up (va_up (va_up (fun _ => none) 0 (some (g 27))) 1 (some (g 29))) 2 (some (g 31))) 3 (some (g 33)))))))), (g 27, .inr (5, [.int 0, .int 0, .int 0, .ref (g 28)])), (g 29, .inr (5, [.int 0, .int 0, .int 0, .ref (g 30)])), (g 31, .inr (5, [.int 0, .int 0, .int 0, .ref (g 32)])), (g 33, .inr (5, [.int 0, .int 0, .int 0, .ref (g 34)]))]) (w1 := []) hP hD [] [0, 1, 2, 3, 4, 5] rfl rfl (by decide) (by decide) hk1 hFc hP1 hD1
      generalize H1 = H at hP hS ⊢
      have hP : va_P D clz [(g 0, .inr (8, xF g)), (g 26, .inl (cy 5, 4, .inr (.inr (.inr (.inr (va_up (va_up (va_up (va_up (fun _ => none) 0 (some (g 27))) 1 (some (g 29))) 2 (some (g 31))) 3 (some (g 33)))))))), (g 27, .inr (5, [.int 0, .int 0, .int 0, .ref (g 28)])), (g 29, .inr (5, [.int 0, .int 0, .int 0, .ref (g 30)])), (g 31, .inr (5, [.int 0, .int 0, .int 0, .ref (g 32)])), (g 33, .inr (5, [.int 0, .int 0, .int 0, .ref (g 34)]))] H := hP
      have hD : va_D A [(g 0, .inr (8, xF g)), (g 26, .inl (cy 5, 4, .inr (.inr (.inr (.inr (va_up (va_up (va_up (va_up (fun _ => none) 0 (some (g 27))) 1 (some (g 29))) 2 (some (g 31))) 3 (some (g 33)))))))), (g 27, .inr (5, [.int 0, .int 0, .int 0, .ref (g 28)])), (g 29, .inr (5, [.int 0, .int 0, .int 0, .ref (g 30)])), (g 31, .inr (5, [.int 0, .int 0, .int 0, .ref (g 32)])), (g 33, .inr (5, [.int 0, .int 0, .int 0, .ref (g 34)]))] := hD
      by_cases hc_29 : ((0 : Int32) ≤ (1 : Int32) ∧ (1 : Int32) ≤ (3 : Int32))
      ·
        rw [if_pos hc_29] at hw
        subst hw
        refine lv_if_eq (tgt := 14) hx hb dX8_paste_4 (by decide) (fun c9 => absurd c9 (by decide)) (fun _ => ?_)
        refine lv_iload_n hx hb dX8_paste_7 rfl (lv_at hl 3 rfl) ?_
        have hPc := hP.sub (ws' := []) [] rfl
        have hDc := hD.sub (ws' := []) [] (by decide) rfl
        have hFc := va_free (wc := []) hD hS hA [] rfl
        refine va_calli (va_runS (As := [.int 1]) (rest := []) ⟨hx, hb, hml, hown, hts⟩ (c_X8_isSlot l D cy 1 H.size) (va_cwS 1 hts (gd_S q1267 q1268 q125 q1269) rfl rfl rfl (by decide +kernel) ⟨Nat.le_of_ble_eq_true rfl, Nat.le_of_ble_eq_true rfl⟩) (pr_S hPc hK hDc) rfl rfl hl.1 rfl (lv_room (Nat.le_of_ble_eq_true rfl)) dX8_paste_8 ⟨Nat.le_of_ble_eq_true rfl, Nat.le_of_ble_eq_true rfl⟩) hS (fun q _ h => hFc q h) hFc (fun r_30 u tS H1 locs ht hvm hw hB hz1 hk1 hS => ?_)
        obtain ⟨hP1, hK1, hD1⟩ := hB
        rw [ht] at hP1
        try dsimp only at hw
        obtain ⟨hP, hD⟩ := va_join (wr := [(g 0, .inr (8, xF g)), (g 26, .inl (cy 5, 4, .inr (.inr (.inr (.inr (va_up (va_up (va_up (va_up (fun _ => none) 0 (some (g 27))) 1 (some (g 29))) 2 (some (g 31))) 3 (some (g 33)))))))), (g 27, .inr (5, [.int 0, .int 0, .int 0, .ref (g 28)])), (g 29, .inr (5, [.int 0, .int 0, .int 0, .ref (g 30)])), (g 31, .inr (5, [.int 0, .int 0, .int 0, .ref (g 32)])), (g 33, .inr (5, [.int 0, .int 0, .int 0, .ref (g 34)]))]) (w1 := []) hP hD [] [0, 1, 2, 3, 4, 5] rfl rfl (by decide) (by decide) hk1 hFc hP1 hD1
        generalize H1 = H at hP hS ⊢
        have hP : va_P D clz [(g 0, .inr (8, xF g)), (g 26, .inl (cy 5, 4, .inr (.inr (.inr (.inr (va_up (va_up (va_up (va_up (fun _ => none) 0 (some (g 27))) 1 (some (g 29))) 2 (some (g 31))) 3 (some (g 33)))))))), (g 27, .inr (5, [.int 0, .int 0, .int 0, .ref (g 28)])), (g 29, .inr (5, [.int 0, .int 0, .int 0, .ref (g 30)])), (g 31, .inr (5, [.int 0, .int 0, .int 0, .ref (g 32)])), (g 33, .inr (5, [.int 0, .int 0, .int 0, .ref (g 34)]))] H := hP
        have hD : va_D A [(g 0, .inr (8, xF g)), (g 26, .inl (cy 5, 4, .inr (.inr (.inr (.inr (va_up (va_up (va_up (va_up (fun _ => none) 0 (some (g 27))) 1 (some (g 29))) 2 (some (g 31))) 3 (some (g 33)))))))), (g 27, .inr (5, [.int 0, .int 0, .int 0, .ref (g 28)])), (g 29, .inr (5, [.int 0, .int 0, .int 0, .ref (g 30)])), (g 31, .inr (5, [.int 0, .int 0, .int 0, .ref (g 32)])), (g 33, .inr (5, [.int 0, .int 0, .int 0, .ref (g 34)]))] := hD
        by_cases hc_31 : ((0 : Int32) ≤ (1 : Int32) ∧ (1 : Int32) ≤ (3 : Int32))
        ·
          rw [if_pos hc_31] at hw
          subst hw
          refine lv_if_ne (tgt := 17) hx hb dX8_paste_11 (by decide) (fun _ => ?_) (fun c9 => absurd c9 (by decide))
          refine lv_aload_n hx hb dX8_paste_17 rfl (lv_at hl 0 rfl) ?_
          refine va_get (D := D) (ci := 8) (v := .ref (g 26)) (C := RX8) (T := TX8) (N := 12) hx hb hts iX8 hown hK hP 0 rfl rfl 5 (by decide) (hts _ q439) (fun _ h9 => h9) rfl dX8_paste_18 ?_
          refine lv_iload_n hx hb dX8_paste_21 rfl (lv_at hl 1 rfl) ?_
          refine va_aldq hx hb hK hP 1 5 rfl rfl (vpi (by decide)) dX8_paste_22 ?_
          refine W.eq (g2 := F0 m 23 ls [.ref (g 29)]) rfl ?_
          refine lv_astore (lv' := [(6, .ref (g 29)), (0, .ref (g 0)), (1, .int 1), (2, .int p2), (3, .int 1), (4, .int p4), (5, .int p5)]) hx hb dX8_paste_23 hl (by decide) rfl (fun ls hl => ?_)
          refine lv_aload_n hx hb dX8_paste_25 rfl (lv_at hl 1 rfl) ?_
          refine va_get (D := D) (ci := 8) (v := .ref (g 26)) (C := RX8) (T := TX8) (N := 12) hx hb hts iX8 hown hK hP 0 rfl rfl 5 (by decide) (hts _ q439) (fun _ h9 => h9) rfl dX8_paste_26 ?_
          refine lv_iload_n hx hb dX8_paste_29 rfl (lv_at hl 4 rfl) ?_
          refine va_aldq hx hb hK hP 1 5 rfl rfl (vpi (by decide)) dX8_paste_30 ?_
          refine W.eq (g2 := F0 m 31 ls [.ref (g 29)]) rfl ?_
          refine lv_astore (lv' := [(7, .ref (g 29)), (6, .ref (g 29)), (0, .ref (g 0)), (1, .int 1), (2, .int p2), (3, .int 1), (4, .int p4), (5, .int p5)]) hx hb dX8_paste_31 hl (by decide) rfl (fun ls hl => ?_)
          refine lv_aload hx hb dX8_paste_33 (lv_at hl 1 rfl) ?_
          refine va_get (D := D) (ci := 5) (v := .int 0) (C := RX5) (T := TX5) (N := 4) hx hb hts iX5 hown hK hP 3 rfl rfl 0 (by decide) (hts _ q417) (fun _ h9 => h9) rfl dX8_paste_35 ?_
          refine lv_if_eq (tgt := 49) hx hb dX8_paste_38 (by decide) (fun _ => ?_) (fun c9 => absurd c9 (by decide))
          refine lv_bipush (v := (-6)) hx hb dX8_paste_49 (by decide) ?_
          have hP9 := hP.sub (ws' := [(g 0, .inr (8, xF g)), (g 26, .inl (cy 5, 4, .inr (.inr (.inr (.inr (va_up (va_up (va_up (va_up (fun _ => none) 0 (some (g 27))) 1 (some (g 29))) 2 (some (g 31))) 3 (some (g 33)))))))), (g 27, .inr (5, [.int 0, .int 0, .int 0, .ref (g 28)])), (g 29, .inr (5, [.int 0, .int 0, .int 0, .ref (g 30)])), (g 31, .inr (5, [.int 0, .int 0, .int 0, .ref (g 32)])), (g 33, .inr (5, [.int 0, .int 0, .int 0, .ref (g 34)]))]) [0, 1, 2, 3, 4, 5] rfl
          have hD9 := hD.sub (ws' := [(g 0, .inr (8, xF g)), (g 26, .inl (cy 5, 4, .inr (.inr (.inr (.inr (va_up (va_up (va_up (va_up (fun _ => none) 0 (some (g 27))) 1 (some (g 29))) 2 (some (g 31))) 3 (some (g 33)))))))), (g 27, .inr (5, [.int 0, .int 0, .int 0, .ref (g 28)])), (g 29, .inr (5, [.int 0, .int 0, .int 0, .ref (g 30)])), (g 31, .inr (5, [.int 0, .int 0, .int 0, .ref (g 32)])), (g 33, .inr (5, [.int 0, .int 0, .int 0, .ref (g 34)]))]) [0, 1, 2, 3, 4, 5] (by decide) rfl
          exact W.iret (v := (-6)) hx hb hr (fun tS ht hW => ⟨⟨(-6), (), rfl, (by have f0 := bp32 hc_29; have f1 := bp32 hc_31; have z320 : (0 : Int32).toInt = 0 := (by decide); have z321 : (1 : Int32).toInt = 1 := (by decide); have z323 : (3 : Int32).toInt = 3 := (by decide); unfold sp_paste; (repeat' split) <;> first | rfl | (exfalso; omega)), by rw [ht]; exact hP9, va_K.moved hW.alike hK, hD9⟩, hS.F ht⟩) hS.2.2 dX8_paste_51
        ·
          rw [if_neg hc_31] at hw
          subst hw
          exact False.elim (by have f0 := bp32 hc_29; have f1 := bn32 hc_31; have z320 : (0 : Int32).toInt = 0 := (by decide); have z321 : (1 : Int32).toInt = 1 := (by decide); have z323 : (3 : Int32).toInt = 3 := (by decide); omega)
      ·
        rw [if_neg hc_29] at hw
        subst hw
        exact False.elim (by have f0 := bn32 hc_29; have z320 : (0 : Int32).toInt = 0 := (by decide); have z321 : (1 : Int32).toInt = 1 := (by decide); have z323 : (3 : Int32).toInt = 3 := (by decide); omega)
    ·
      refine lv_iload_n hx hb dX8_paste_0 rfl (lv_at hl 1 rfl) ?_
      have hPc := hP.sub (ws' := []) [] rfl
      have hDc := hD.sub (ws' := []) [] (by decide) rfl
      have hFc := va_free (wc := []) hD hS hA [] rfl
      refine va_calli (va_runS (As := [.int 1]) (rest := []) ⟨hx, hb, hml, hown, hts⟩ (c_X8_isSlot l D cy 1 s.heap.size) (va_cwS 1 hts (gd_S q1267 q1268 q125 q1269) rfl rfl rfl (by decide +kernel) ⟨Nat.le_of_ble_eq_true rfl, Nat.le_of_ble_eq_true rfl⟩) (pr_S hPc hK hDc) rfl rfl hl.1 rfl (lv_room (Nat.le_of_ble_eq_true rfl)) dX8_paste_1 ⟨Nat.le_of_ble_eq_true rfl, Nat.le_of_ble_eq_true rfl⟩) hS (fun q _ h => hFc q h) hFc (fun r_32 u tS H1 locs ht hvm hw hB hz1 hk1 hS => ?_)
      obtain ⟨hP1, hK1, hD1⟩ := hB
      rw [ht] at hP1
      try dsimp only at hw
      obtain ⟨hP, hD⟩ := va_join (wr := [(g 0, .inr (8, xF g)), (g 26, .inl (cy 5, 4, .inr (.inr (.inr (.inr (va_up (va_up (va_up (va_up (fun _ => none) 0 (some (g 27))) 1 (some (g 29))) 2 (some (g 31))) 3 (some (g 33)))))))), (g 27, .inr (5, [.int 0, .int 0, .int 0, .ref (g 28)])), (g 29, .inr (5, [.int 0, .int 0, .int 0, .ref (g 30)])), (g 31, .inr (5, [.int 0, .int 0, .int 0, .ref (g 32)])), (g 33, .inr (5, [.int 0, .int 0, .int 0, .ref (g 34)]))]) (w1 := []) hP hD [] [0, 1, 2, 3, 4, 5] rfl rfl (by decide) (by decide) hk1 hFc hP1 hD1
      generalize H1 = H at hP hS ⊢
      have hP : va_P D clz [(g 0, .inr (8, xF g)), (g 26, .inl (cy 5, 4, .inr (.inr (.inr (.inr (va_up (va_up (va_up (va_up (fun _ => none) 0 (some (g 27))) 1 (some (g 29))) 2 (some (g 31))) 3 (some (g 33)))))))), (g 27, .inr (5, [.int 0, .int 0, .int 0, .ref (g 28)])), (g 29, .inr (5, [.int 0, .int 0, .int 0, .ref (g 30)])), (g 31, .inr (5, [.int 0, .int 0, .int 0, .ref (g 32)])), (g 33, .inr (5, [.int 0, .int 0, .int 0, .ref (g 34)]))] H := hP
      have hD : va_D A [(g 0, .inr (8, xF g)), (g 26, .inl (cy 5, 4, .inr (.inr (.inr (.inr (va_up (va_up (va_up (va_up (fun _ => none) 0 (some (g 27))) 1 (some (g 29))) 2 (some (g 31))) 3 (some (g 33)))))))), (g 27, .inr (5, [.int 0, .int 0, .int 0, .ref (g 28)])), (g 29, .inr (5, [.int 0, .int 0, .int 0, .ref (g 30)])), (g 31, .inr (5, [.int 0, .int 0, .int 0, .ref (g 32)])), (g 33, .inr (5, [.int 0, .int 0, .int 0, .ref (g 34)]))] := hD
      by_cases hc_33 : ((0 : Int32) ≤ (1 : Int32) ∧ (1 : Int32) ≤ (3 : Int32))
      ·
        rw [if_pos hc_33] at hw
        subst hw
        refine lv_if_eq (tgt := 14) hx hb dX8_paste_4 (by decide) (fun c9 => absurd c9 (by decide)) (fun _ => ?_)
        refine lv_iload_n hx hb dX8_paste_7 rfl (lv_at hl 3 rfl) ?_
        have hPc := hP.sub (ws' := []) [] rfl
        have hDc := hD.sub (ws' := []) [] (by decide) rfl
        have hFc := va_free (wc := []) hD hS hA [] rfl
        refine va_calli (va_runS (As := [.int 2]) (rest := []) ⟨hx, hb, hml, hown, hts⟩ (c_X8_isSlot l D cy 2 H.size) (va_cwS 1 hts (gd_S q1267 q1268 q125 q1269) rfl rfl rfl (by decide +kernel) ⟨Nat.le_of_ble_eq_true rfl, Nat.le_of_ble_eq_true rfl⟩) (pr_S hPc hK hDc) rfl rfl hl.1 rfl (lv_room (Nat.le_of_ble_eq_true rfl)) dX8_paste_8 ⟨Nat.le_of_ble_eq_true rfl, Nat.le_of_ble_eq_true rfl⟩) hS (fun q _ h => hFc q h) hFc (fun r_34 u tS H1 locs ht hvm hw hB hz1 hk1 hS => ?_)
        obtain ⟨hP1, hK1, hD1⟩ := hB
        rw [ht] at hP1
        try dsimp only at hw
        obtain ⟨hP, hD⟩ := va_join (wr := [(g 0, .inr (8, xF g)), (g 26, .inl (cy 5, 4, .inr (.inr (.inr (.inr (va_up (va_up (va_up (va_up (fun _ => none) 0 (some (g 27))) 1 (some (g 29))) 2 (some (g 31))) 3 (some (g 33)))))))), (g 27, .inr (5, [.int 0, .int 0, .int 0, .ref (g 28)])), (g 29, .inr (5, [.int 0, .int 0, .int 0, .ref (g 30)])), (g 31, .inr (5, [.int 0, .int 0, .int 0, .ref (g 32)])), (g 33, .inr (5, [.int 0, .int 0, .int 0, .ref (g 34)]))]) (w1 := []) hP hD [] [0, 1, 2, 3, 4, 5] rfl rfl (by decide) (by decide) hk1 hFc hP1 hD1
        generalize H1 = H at hP hS ⊢
        have hP : va_P D clz [(g 0, .inr (8, xF g)), (g 26, .inl (cy 5, 4, .inr (.inr (.inr (.inr (va_up (va_up (va_up (va_up (fun _ => none) 0 (some (g 27))) 1 (some (g 29))) 2 (some (g 31))) 3 (some (g 33)))))))), (g 27, .inr (5, [.int 0, .int 0, .int 0, .ref (g 28)])), (g 29, .inr (5, [.int 0, .int 0, .int 0, .ref (g 30)])), (g 31, .inr (5, [.int 0, .int 0, .int 0, .ref (g 32)])), (g 33, .inr (5, [.int 0, .int 0, .int 0, .ref (g 34)]))] H := hP
        have hD : va_D A [(g 0, .inr (8, xF g)), (g 26, .inl (cy 5, 4, .inr (.inr (.inr (.inr (va_up (va_up (va_up (va_up (fun _ => none) 0 (some (g 27))) 1 (some (g 29))) 2 (some (g 31))) 3 (some (g 33)))))))), (g 27, .inr (5, [.int 0, .int 0, .int 0, .ref (g 28)])), (g 29, .inr (5, [.int 0, .int 0, .int 0, .ref (g 30)])), (g 31, .inr (5, [.int 0, .int 0, .int 0, .ref (g 32)])), (g 33, .inr (5, [.int 0, .int 0, .int 0, .ref (g 34)]))] := hD
        by_cases hc_35 : ((0 : Int32) ≤ (2 : Int32) ∧ (2 : Int32) ≤ (3 : Int32))
        ·
          rw [if_pos hc_35] at hw
          subst hw
          refine lv_if_ne (tgt := 17) hx hb dX8_paste_11 (by decide) (fun _ => ?_) (fun c9 => absurd c9 (by decide))
          refine lv_aload_n hx hb dX8_paste_17 rfl (lv_at hl 0 rfl) ?_
          refine va_get (D := D) (ci := 8) (v := .ref (g 26)) (C := RX8) (T := TX8) (N := 12) hx hb hts iX8 hown hK hP 0 rfl rfl 5 (by decide) (hts _ q439) (fun _ h9 => h9) rfl dX8_paste_18 ?_
          refine lv_iload_n hx hb dX8_paste_21 rfl (lv_at hl 1 rfl) ?_
          refine va_aldq hx hb hK hP 1 5 rfl rfl (vpi (by decide)) dX8_paste_22 ?_
          refine W.eq (g2 := F0 m 23 ls [.ref (g 29)]) rfl ?_
          refine lv_astore (lv' := [(6, .ref (g 29)), (0, .ref (g 0)), (1, .int 1), (2, .int p2), (3, .int 2), (4, .int p4), (5, .int p5)]) hx hb dX8_paste_23 hl (by decide) rfl (fun ls hl => ?_)
          refine lv_aload_n hx hb dX8_paste_25 rfl (lv_at hl 1 rfl) ?_
          refine va_get (D := D) (ci := 8) (v := .ref (g 26)) (C := RX8) (T := TX8) (N := 12) hx hb hts iX8 hown hK hP 0 rfl rfl 5 (by decide) (hts _ q439) (fun _ h9 => h9) rfl dX8_paste_26 ?_
          refine lv_iload_n hx hb dX8_paste_29 rfl (lv_at hl 4 rfl) ?_
          refine va_aldq hx hb hK hP 1 5 rfl rfl (vpi (by decide)) dX8_paste_30 ?_
          refine W.eq (g2 := F0 m 31 ls [.ref (g 31)]) rfl ?_
          refine lv_astore (lv' := [(7, .ref (g 31)), (6, .ref (g 29)), (0, .ref (g 0)), (1, .int 1), (2, .int p2), (3, .int 2), (4, .int p4), (5, .int p5)]) hx hb dX8_paste_31 hl (by decide) rfl (fun ls hl => ?_)
          refine lv_aload hx hb dX8_paste_33 (lv_at hl 1 rfl) ?_
          refine va_get (D := D) (ci := 5) (v := .int 0) (C := RX5) (T := TX5) (N := 4) hx hb hts iX5 hown hK hP 3 rfl rfl 0 (by decide) (hts _ q417) (fun _ h9 => h9) rfl dX8_paste_35 ?_
          refine lv_if_eq (tgt := 49) hx hb dX8_paste_38 (by decide) (fun _ => ?_) (fun c9 => absurd c9 (by decide))
          refine lv_bipush (v := (-6)) hx hb dX8_paste_49 (by decide) ?_
          have hP9 := hP.sub (ws' := [(g 0, .inr (8, xF g)), (g 26, .inl (cy 5, 4, .inr (.inr (.inr (.inr (va_up (va_up (va_up (va_up (fun _ => none) 0 (some (g 27))) 1 (some (g 29))) 2 (some (g 31))) 3 (some (g 33)))))))), (g 27, .inr (5, [.int 0, .int 0, .int 0, .ref (g 28)])), (g 29, .inr (5, [.int 0, .int 0, .int 0, .ref (g 30)])), (g 31, .inr (5, [.int 0, .int 0, .int 0, .ref (g 32)])), (g 33, .inr (5, [.int 0, .int 0, .int 0, .ref (g 34)]))]) [0, 1, 2, 3, 4, 5] rfl
          have hD9 := hD.sub (ws' := [(g 0, .inr (8, xF g)), (g 26, .inl (cy 5, 4, .inr (.inr (.inr (.inr (va_up (va_up (va_up (va_up (fun _ => none) 0 (some (g 27))) 1 (some (g 29))) 2 (some (g 31))) 3 (some (g 33)))))))), (g 27, .inr (5, [.int 0, .int 0, .int 0, .ref (g 28)])), (g 29, .inr (5, [.int 0, .int 0, .int 0, .ref (g 30)])), (g 31, .inr (5, [.int 0, .int 0, .int 0, .ref (g 32)])), (g 33, .inr (5, [.int 0, .int 0, .int 0, .ref (g 34)]))]) [0, 1, 2, 3, 4, 5] (by decide) rfl
          exact W.iret (v := (-6)) hx hb hr (fun tS ht hW => ⟨⟨(-6), (), rfl, (by have f0 := bp32 hc_33; have f1 := bp32 hc_35; have z320 : (0 : Int32).toInt = 0 := (by decide); have z321 : (1 : Int32).toInt = 1 := (by decide); have z322 : (2 : Int32).toInt = 2 := (by decide); have z323 : (3 : Int32).toInt = 3 := (by decide); unfold sp_paste; (repeat' split) <;> first | rfl | (exfalso; omega)), by rw [ht]; exact hP9, va_K.moved hW.alike hK, hD9⟩, hS.F ht⟩) hS.2.2 dX8_paste_51
        ·
          rw [if_neg hc_35] at hw
          subst hw
          exact False.elim (by have f0 := bp32 hc_33; have f1 := bn32 hc_35; have z320 : (0 : Int32).toInt = 0 := (by decide); have z321 : (1 : Int32).toInt = 1 := (by decide); have z322 : (2 : Int32).toInt = 2 := (by decide); have z323 : (3 : Int32).toInt = 3 := (by decide); omega)
      ·
        rw [if_neg hc_33] at hw
        subst hw
        exact False.elim (by have f0 := bn32 hc_33; have z320 : (0 : Int32).toInt = 0 := (by decide); have z321 : (1 : Int32).toInt = 1 := (by decide); have z323 : (3 : Int32).toInt = 3 := (by decide); omega)
    ·
      refine lv_iload_n hx hb dX8_paste_0 rfl (lv_at hl 1 rfl) ?_
      have hPc := hP.sub (ws' := []) [] rfl
      have hDc := hD.sub (ws' := []) [] (by decide) rfl
      have hFc := va_free (wc := []) hD hS hA [] rfl
      refine va_calli (va_runS (As := [.int 1]) (rest := []) ⟨hx, hb, hml, hown, hts⟩ (c_X8_isSlot l D cy 1 s.heap.size) (va_cwS 1 hts (gd_S q1267 q1268 q125 q1269) rfl rfl rfl (by decide +kernel) ⟨Nat.le_of_ble_eq_true rfl, Nat.le_of_ble_eq_true rfl⟩) (pr_S hPc hK hDc) rfl rfl hl.1 rfl (lv_room (Nat.le_of_ble_eq_true rfl)) dX8_paste_1 ⟨Nat.le_of_ble_eq_true rfl, Nat.le_of_ble_eq_true rfl⟩) hS (fun q _ h => hFc q h) hFc (fun r_36 u tS H1 locs ht hvm hw hB hz1 hk1 hS => ?_)
      obtain ⟨hP1, hK1, hD1⟩ := hB
      rw [ht] at hP1
      try dsimp only at hw
      obtain ⟨hP, hD⟩ := va_join (wr := [(g 0, .inr (8, xF g)), (g 26, .inl (cy 5, 4, .inr (.inr (.inr (.inr (va_up (va_up (va_up (va_up (fun _ => none) 0 (some (g 27))) 1 (some (g 29))) 2 (some (g 31))) 3 (some (g 33)))))))), (g 27, .inr (5, [.int 0, .int 0, .int 0, .ref (g 28)])), (g 29, .inr (5, [.int 0, .int 0, .int 0, .ref (g 30)])), (g 31, .inr (5, [.int 0, .int 0, .int 0, .ref (g 32)])), (g 33, .inr (5, [.int 0, .int 0, .int 0, .ref (g 34)]))]) (w1 := []) hP hD [] [0, 1, 2, 3, 4, 5] rfl rfl (by decide) (by decide) hk1 hFc hP1 hD1
      generalize H1 = H at hP hS ⊢
      have hP : va_P D clz [(g 0, .inr (8, xF g)), (g 26, .inl (cy 5, 4, .inr (.inr (.inr (.inr (va_up (va_up (va_up (va_up (fun _ => none) 0 (some (g 27))) 1 (some (g 29))) 2 (some (g 31))) 3 (some (g 33)))))))), (g 27, .inr (5, [.int 0, .int 0, .int 0, .ref (g 28)])), (g 29, .inr (5, [.int 0, .int 0, .int 0, .ref (g 30)])), (g 31, .inr (5, [.int 0, .int 0, .int 0, .ref (g 32)])), (g 33, .inr (5, [.int 0, .int 0, .int 0, .ref (g 34)]))] H := hP
      have hD : va_D A [(g 0, .inr (8, xF g)), (g 26, .inl (cy 5, 4, .inr (.inr (.inr (.inr (va_up (va_up (va_up (va_up (fun _ => none) 0 (some (g 27))) 1 (some (g 29))) 2 (some (g 31))) 3 (some (g 33)))))))), (g 27, .inr (5, [.int 0, .int 0, .int 0, .ref (g 28)])), (g 29, .inr (5, [.int 0, .int 0, .int 0, .ref (g 30)])), (g 31, .inr (5, [.int 0, .int 0, .int 0, .ref (g 32)])), (g 33, .inr (5, [.int 0, .int 0, .int 0, .ref (g 34)]))] := hD
      by_cases hc_37 : ((0 : Int32) ≤ (1 : Int32) ∧ (1 : Int32) ≤ (3 : Int32))
      ·
        rw [if_pos hc_37] at hw
        subst hw
        refine lv_if_eq (tgt := 14) hx hb dX8_paste_4 (by decide) (fun c9 => absurd c9 (by decide)) (fun _ => ?_)
        refine lv_iload_n hx hb dX8_paste_7 rfl (lv_at hl 3 rfl) ?_
        have hPc := hP.sub (ws' := []) [] rfl
        have hDc := hD.sub (ws' := []) [] (by decide) rfl
        have hFc := va_free (wc := []) hD hS hA [] rfl
        refine va_calli (va_runS (As := [.int 3]) (rest := []) ⟨hx, hb, hml, hown, hts⟩ (c_X8_isSlot l D cy 3 H.size) (va_cwS 1 hts (gd_S q1267 q1268 q125 q1269) rfl rfl rfl (by decide +kernel) ⟨Nat.le_of_ble_eq_true rfl, Nat.le_of_ble_eq_true rfl⟩) (pr_S hPc hK hDc) rfl rfl hl.1 rfl (lv_room (Nat.le_of_ble_eq_true rfl)) dX8_paste_8 ⟨Nat.le_of_ble_eq_true rfl, Nat.le_of_ble_eq_true rfl⟩) hS (fun q _ h => hFc q h) hFc (fun r_38 u tS H1 locs ht hvm hw hB hz1 hk1 hS => ?_)
        obtain ⟨hP1, hK1, hD1⟩ := hB
        rw [ht] at hP1
        try dsimp only at hw
        obtain ⟨hP, hD⟩ := va_join (wr := [(g 0, .inr (8, xF g)), (g 26, .inl (cy 5, 4, .inr (.inr (.inr (.inr (va_up (va_up (va_up (va_up (fun _ => none) 0 (some (g 27))) 1 (some (g 29))) 2 (some (g 31))) 3 (some (g 33)))))))), (g 27, .inr (5, [.int 0, .int 0, .int 0, .ref (g 28)])), (g 29, .inr (5, [.int 0, .int 0, .int 0, .ref (g 30)])), (g 31, .inr (5, [.int 0, .int 0, .int 0, .ref (g 32)])), (g 33, .inr (5, [.int 0, .int 0, .int 0, .ref (g 34)]))]) (w1 := []) hP hD [] [0, 1, 2, 3, 4, 5] rfl rfl (by decide) (by decide) hk1 hFc hP1 hD1
        generalize H1 = H at hP hS ⊢
        have hP : va_P D clz [(g 0, .inr (8, xF g)), (g 26, .inl (cy 5, 4, .inr (.inr (.inr (.inr (va_up (va_up (va_up (va_up (fun _ => none) 0 (some (g 27))) 1 (some (g 29))) 2 (some (g 31))) 3 (some (g 33)))))))), (g 27, .inr (5, [.int 0, .int 0, .int 0, .ref (g 28)])), (g 29, .inr (5, [.int 0, .int 0, .int 0, .ref (g 30)])), (g 31, .inr (5, [.int 0, .int 0, .int 0, .ref (g 32)])), (g 33, .inr (5, [.int 0, .int 0, .int 0, .ref (g 34)]))] H := hP
        have hD : va_D A [(g 0, .inr (8, xF g)), (g 26, .inl (cy 5, 4, .inr (.inr (.inr (.inr (va_up (va_up (va_up (va_up (fun _ => none) 0 (some (g 27))) 1 (some (g 29))) 2 (some (g 31))) 3 (some (g 33)))))))), (g 27, .inr (5, [.int 0, .int 0, .int 0, .ref (g 28)])), (g 29, .inr (5, [.int 0, .int 0, .int 0, .ref (g 30)])), (g 31, .inr (5, [.int 0, .int 0, .int 0, .ref (g 32)])), (g 33, .inr (5, [.int 0, .int 0, .int 0, .ref (g 34)]))] := hD
        by_cases hc_39 : ((0 : Int32) ≤ (3 : Int32) ∧ (3 : Int32) ≤ (3 : Int32))
        ·
          rw [if_pos hc_39] at hw
          subst hw
          refine lv_if_ne (tgt := 17) hx hb dX8_paste_11 (by decide) (fun _ => ?_) (fun c9 => absurd c9 (by decide))
          refine lv_aload_n hx hb dX8_paste_17 rfl (lv_at hl 0 rfl) ?_
          refine va_get (D := D) (ci := 8) (v := .ref (g 26)) (C := RX8) (T := TX8) (N := 12) hx hb hts iX8 hown hK hP 0 rfl rfl 5 (by decide) (hts _ q439) (fun _ h9 => h9) rfl dX8_paste_18 ?_
          refine lv_iload_n hx hb dX8_paste_21 rfl (lv_at hl 1 rfl) ?_
          refine va_aldq hx hb hK hP 1 5 rfl rfl (vpi (by decide)) dX8_paste_22 ?_
          refine W.eq (g2 := F0 m 23 ls [.ref (g 29)]) rfl ?_
          refine lv_astore (lv' := [(6, .ref (g 29)), (0, .ref (g 0)), (1, .int 1), (2, .int p2), (3, .int 3), (4, .int p4), (5, .int p5)]) hx hb dX8_paste_23 hl (by decide) rfl (fun ls hl => ?_)
          refine lv_aload_n hx hb dX8_paste_25 rfl (lv_at hl 1 rfl) ?_
          refine va_get (D := D) (ci := 8) (v := .ref (g 26)) (C := RX8) (T := TX8) (N := 12) hx hb hts iX8 hown hK hP 0 rfl rfl 5 (by decide) (hts _ q439) (fun _ h9 => h9) rfl dX8_paste_26 ?_
          refine lv_iload_n hx hb dX8_paste_29 rfl (lv_at hl 4 rfl) ?_
          refine va_aldq hx hb hK hP 1 5 rfl rfl (vpi (by decide)) dX8_paste_30 ?_
          refine W.eq (g2 := F0 m 31 ls [.ref (g 33)]) rfl ?_
          refine lv_astore (lv' := [(7, .ref (g 33)), (6, .ref (g 29)), (0, .ref (g 0)), (1, .int 1), (2, .int p2), (3, .int 3), (4, .int p4), (5, .int p5)]) hx hb dX8_paste_31 hl (by decide) rfl (fun ls hl => ?_)
          refine lv_aload hx hb dX8_paste_33 (lv_at hl 1 rfl) ?_
          refine va_get (D := D) (ci := 5) (v := .int 0) (C := RX5) (T := TX5) (N := 4) hx hb hts iX5 hown hK hP 3 rfl rfl 0 (by decide) (hts _ q417) (fun _ h9 => h9) rfl dX8_paste_35 ?_
          refine lv_if_eq (tgt := 49) hx hb dX8_paste_38 (by decide) (fun _ => ?_) (fun c9 => absurd c9 (by decide))
          refine lv_bipush (v := (-6)) hx hb dX8_paste_49 (by decide) ?_
          have hP9 := hP.sub (ws' := [(g 0, .inr (8, xF g)), (g 26, .inl (cy 5, 4, .inr (.inr (.inr (.inr (va_up (va_up (va_up (va_up (fun _ => none) 0 (some (g 27))) 1 (some (g 29))) 2 (some (g 31))) 3 (some (g 33)))))))), (g 27, .inr (5, [.int 0, .int 0, .int 0, .ref (g 28)])), (g 29, .inr (5, [.int 0, .int 0, .int 0, .ref (g 30)])), (g 31, .inr (5, [.int 0, .int 0, .int 0, .ref (g 32)])), (g 33, .inr (5, [.int 0, .int 0, .int 0, .ref (g 34)]))]) [0, 1, 2, 3, 4, 5] rfl
          have hD9 := hD.sub (ws' := [(g 0, .inr (8, xF g)), (g 26, .inl (cy 5, 4, .inr (.inr (.inr (.inr (va_up (va_up (va_up (va_up (fun _ => none) 0 (some (g 27))) 1 (some (g 29))) 2 (some (g 31))) 3 (some (g 33)))))))), (g 27, .inr (5, [.int 0, .int 0, .int 0, .ref (g 28)])), (g 29, .inr (5, [.int 0, .int 0, .int 0, .ref (g 30)])), (g 31, .inr (5, [.int 0, .int 0, .int 0, .ref (g 32)])), (g 33, .inr (5, [.int 0, .int 0, .int 0, .ref (g 34)]))]) [0, 1, 2, 3, 4, 5] (by decide) rfl
          exact W.iret (v := (-6)) hx hb hr (fun tS ht hW => ⟨⟨(-6), (), rfl, (by have f0 := bp32 hc_37; have f1 := bp32 hc_39; have z320 : (0 : Int32).toInt = 0 := (by decide); have z321 : (1 : Int32).toInt = 1 := (by decide); have z323 : (3 : Int32).toInt = 3 := (by decide); unfold sp_paste; (repeat' split) <;> first | rfl | (exfalso; omega)), by rw [ht]; exact hP9, va_K.moved hW.alike hK, hD9⟩, hS.F ht⟩) hS.2.2 dX8_paste_51
        ·
          rw [if_neg hc_39] at hw
          subst hw
          exact False.elim (by have f0 := bp32 hc_37; have f1 := bn32 hc_39; have z320 : (0 : Int32).toInt = 0 := (by decide); have z321 : (1 : Int32).toInt = 1 := (by decide); have z323 : (3 : Int32).toInt = 3 := (by decide); omega)
      ·
        rw [if_neg hc_37] at hw
        subst hw
        exact False.elim (by have f0 := bn32 hc_37; have z320 : (0 : Int32).toInt = 0 := (by decide); have z321 : (1 : Int32).toInt = 1 := (by decide); have z323 : (3 : Int32).toInt = 3 := (by decide); omega)
    ·
      refine lv_iload_n hx hb dX8_paste_0 rfl (lv_at hl 1 rfl) ?_
      have hPc := hP.sub (ws' := []) [] rfl
      have hDc := hD.sub (ws' := []) [] (by decide) rfl
      have hFc := va_free (wc := []) hD hS hA [] rfl
      refine va_calli (va_runS (As := [.int 1]) (rest := []) ⟨hx, hb, hml, hown, hts⟩ (c_X8_isSlot l D cy 1 s.heap.size) (va_cwS 1 hts (gd_S q1267 q1268 q125 q1269) rfl rfl rfl (by decide +kernel) ⟨Nat.le_of_ble_eq_true rfl, Nat.le_of_ble_eq_true rfl⟩) (pr_S hPc hK hDc) rfl rfl hl.1 rfl (lv_room (Nat.le_of_ble_eq_true rfl)) dX8_paste_1 ⟨Nat.le_of_ble_eq_true rfl, Nat.le_of_ble_eq_true rfl⟩) hS (fun q _ h => hFc q h) hFc (fun r_40 u tS H1 locs ht hvm hw hB hz1 hk1 hS => ?_)
      obtain ⟨hP1, hK1, hD1⟩ := hB
      rw [ht] at hP1
      try dsimp only at hw
      obtain ⟨hP, hD⟩ := va_join (wr := [(g 0, .inr (8, xF g)), (g 26, .inl (cy 5, 4, .inr (.inr (.inr (.inr (va_up (va_up (va_up (va_up (fun _ => none) 0 (some (g 27))) 1 (some (g 29))) 2 (some (g 31))) 3 (some (g 33)))))))), (g 27, .inr (5, [.int 0, .int 0, .int 0, .ref (g 28)])), (g 29, .inr (5, [.int 0, .int 0, .int 0, .ref (g 30)])), (g 31, .inr (5, [.int 0, .int 0, .int 0, .ref (g 32)])), (g 33, .inr (5, [.int 0, .int 0, .int 0, .ref (g 34)]))]) (w1 := []) hP hD [] [0, 1, 2, 3, 4, 5] rfl rfl (by decide) (by decide) hk1 hFc hP1 hD1
      generalize H1 = H at hP hS ⊢
      have hP : va_P D clz [(g 0, .inr (8, xF g)), (g 26, .inl (cy 5, 4, .inr (.inr (.inr (.inr (va_up (va_up (va_up (va_up (fun _ => none) 0 (some (g 27))) 1 (some (g 29))) 2 (some (g 31))) 3 (some (g 33)))))))), (g 27, .inr (5, [.int 0, .int 0, .int 0, .ref (g 28)])), (g 29, .inr (5, [.int 0, .int 0, .int 0, .ref (g 30)])), (g 31, .inr (5, [.int 0, .int 0, .int 0, .ref (g 32)])), (g 33, .inr (5, [.int 0, .int 0, .int 0, .ref (g 34)]))] H := hP
      have hD : va_D A [(g 0, .inr (8, xF g)), (g 26, .inl (cy 5, 4, .inr (.inr (.inr (.inr (va_up (va_up (va_up (va_up (fun _ => none) 0 (some (g 27))) 1 (some (g 29))) 2 (some (g 31))) 3 (some (g 33)))))))), (g 27, .inr (5, [.int 0, .int 0, .int 0, .ref (g 28)])), (g 29, .inr (5, [.int 0, .int 0, .int 0, .ref (g 30)])), (g 31, .inr (5, [.int 0, .int 0, .int 0, .ref (g 32)])), (g 33, .inr (5, [.int 0, .int 0, .int 0, .ref (g 34)]))] := hD
      by_cases hc_41 : ((0 : Int32) ≤ (1 : Int32) ∧ (1 : Int32) ≤ (3 : Int32))
      ·
        rw [if_pos hc_41] at hw
        subst hw
        refine lv_if_eq (tgt := 14) hx hb dX8_paste_4 (by decide) (fun c9 => absurd c9 (by decide)) (fun _ => ?_)
        refine lv_iload_n hx hb dX8_paste_7 rfl (lv_at hl 3 rfl) ?_
        have hPc := hP.sub (ws' := []) [] rfl
        have hDc := hD.sub (ws' := []) [] (by decide) rfl
        have hFc := va_free (wc := []) hD hS hA [] rfl
        refine va_calli (va_runS (As := [.int p3]) (rest := []) ⟨hx, hb, hml, hown, hts⟩ (c_X8_isSlot l D cy p3 H.size) (va_cwS 1 hts (gd_S q1267 q1268 q125 q1269) rfl rfl rfl (by decide +kernel) ⟨Nat.le_of_ble_eq_true rfl, Nat.le_of_ble_eq_true rfl⟩) (pr_S hPc hK hDc) rfl rfl hl.1 rfl (lv_room (Nat.le_of_ble_eq_true rfl)) dX8_paste_8 ⟨Nat.le_of_ble_eq_true rfl, Nat.le_of_ble_eq_true rfl⟩) hS (fun q _ h => hFc q h) hFc (fun r_42 u tS H1 locs ht hvm hw hB hz1 hk1 hS => ?_)
        obtain ⟨hP1, hK1, hD1⟩ := hB
        rw [ht] at hP1
        try dsimp only at hw
        obtain ⟨hP, hD⟩ := va_join (wr := [(g 0, .inr (8, xF g)), (g 26, .inl (cy 5, 4, .inr (.inr (.inr (.inr (va_up (va_up (va_up (va_up (fun _ => none) 0 (some (g 27))) 1 (some (g 29))) 2 (some (g 31))) 3 (some (g 33)))))))), (g 27, .inr (5, [.int 0, .int 0, .int 0, .ref (g 28)])), (g 29, .inr (5, [.int 0, .int 0, .int 0, .ref (g 30)])), (g 31, .inr (5, [.int 0, .int 0, .int 0, .ref (g 32)])), (g 33, .inr (5, [.int 0, .int 0, .int 0, .ref (g 34)]))]) (w1 := []) hP hD [] [0, 1, 2, 3, 4, 5] rfl rfl (by decide) (by decide) hk1 hFc hP1 hD1
        generalize H1 = H at hP hS ⊢
        have hP : va_P D clz [(g 0, .inr (8, xF g)), (g 26, .inl (cy 5, 4, .inr (.inr (.inr (.inr (va_up (va_up (va_up (va_up (fun _ => none) 0 (some (g 27))) 1 (some (g 29))) 2 (some (g 31))) 3 (some (g 33)))))))), (g 27, .inr (5, [.int 0, .int 0, .int 0, .ref (g 28)])), (g 29, .inr (5, [.int 0, .int 0, .int 0, .ref (g 30)])), (g 31, .inr (5, [.int 0, .int 0, .int 0, .ref (g 32)])), (g 33, .inr (5, [.int 0, .int 0, .int 0, .ref (g 34)]))] H := hP
        have hD : va_D A [(g 0, .inr (8, xF g)), (g 26, .inl (cy 5, 4, .inr (.inr (.inr (.inr (va_up (va_up (va_up (va_up (fun _ => none) 0 (some (g 27))) 1 (some (g 29))) 2 (some (g 31))) 3 (some (g 33)))))))), (g 27, .inr (5, [.int 0, .int 0, .int 0, .ref (g 28)])), (g 29, .inr (5, [.int 0, .int 0, .int 0, .ref (g 30)])), (g 31, .inr (5, [.int 0, .int 0, .int 0, .ref (g 32)])), (g 33, .inr (5, [.int 0, .int 0, .int 0, .ref (g 34)]))] := hD
        by_cases hc_43 : ((0 : Int32) ≤ p3 ∧ p3 ≤ (3 : Int32))
        ·
          rw [if_pos hc_43] at hw
          subst hw
          exact False.elim (by have f0 := hs_23; have f1 := bp32 hc_41; have f2 := bp32 hc_43; have z320 : (0 : Int32).toInt = 0 := (by decide); have z321 : (1 : Int32).toInt = 1 := (by decide); have z323 : (3 : Int32).toInt = 3 := (by decide); omega)
        ·
          rw [if_neg hc_43] at hw
          subst hw
          refine lv_if_ne (tgt := 17) hx hb dX8_paste_11 (by decide) (fun c9 => absurd c9 (by decide)) (fun _ => ?_)
          refine lv_bipush (v := (-2)) hx hb dX8_paste_14 (by decide) ?_
          have hP9 := hP.sub (ws' := [(g 0, .inr (8, xF g)), (g 26, .inl (cy 5, 4, .inr (.inr (.inr (.inr (va_up (va_up (va_up (va_up (fun _ => none) 0 (some (g 27))) 1 (some (g 29))) 2 (some (g 31))) 3 (some (g 33)))))))), (g 27, .inr (5, [.int 0, .int 0, .int 0, .ref (g 28)])), (g 29, .inr (5, [.int 0, .int 0, .int 0, .ref (g 30)])), (g 31, .inr (5, [.int 0, .int 0, .int 0, .ref (g 32)])), (g 33, .inr (5, [.int 0, .int 0, .int 0, .ref (g 34)]))]) [0, 1, 2, 3, 4, 5] rfl
          have hD9 := hD.sub (ws' := [(g 0, .inr (8, xF g)), (g 26, .inl (cy 5, 4, .inr (.inr (.inr (.inr (va_up (va_up (va_up (va_up (fun _ => none) 0 (some (g 27))) 1 (some (g 29))) 2 (some (g 31))) 3 (some (g 33)))))))), (g 27, .inr (5, [.int 0, .int 0, .int 0, .ref (g 28)])), (g 29, .inr (5, [.int 0, .int 0, .int 0, .ref (g 30)])), (g 31, .inr (5, [.int 0, .int 0, .int 0, .ref (g 32)])), (g 33, .inr (5, [.int 0, .int 0, .int 0, .ref (g 34)]))]) [0, 1, 2, 3, 4, 5] (by decide) rfl
          exact W.iret (v := (-2)) hx hb hr (fun tS ht hW => ⟨⟨(-2), (), rfl, (by have f0 := hs_23; have f1 := bp32 hc_41; have f2 := bn32 hc_43; have z320 : (0 : Int32).toInt = 0 := (by decide); have z321 : (1 : Int32).toInt = 1 := (by decide); have z323 : (3 : Int32).toInt = 3 := (by decide); unfold sp_paste; (repeat' split) <;> first | rfl | (exfalso; omega)), by rw [ht]; exact hP9, va_K.moved hW.alike hK, hD9⟩, hS.F ht⟩) hS.2.2 dX8_paste_16
      ·
        rw [if_neg hc_41] at hw
        subst hw
        exact False.elim (by have f0 := hs_23; have f1 := bn32 hc_41; have z320 : (0 : Int32).toInt = 0 := (by decide); have z321 : (1 : Int32).toInt = 1 := (by decide); have z323 : (3 : Int32).toInt = 3 := (by decide); omega)
  ·
    rcases sp4 p3 with rfl | rfl | rfl | rfl | hs_44
    ·
      refine lv_iload_n hx hb dX8_paste_0 rfl (lv_at hl 1 rfl) ?_
      have hPc := hP.sub (ws' := []) [] rfl
      have hDc := hD.sub (ws' := []) [] (by decide) rfl
      have hFc := va_free (wc := []) hD hS hA [] rfl
      refine va_calli (va_runS (As := [.int 2]) (rest := []) ⟨hx, hb, hml, hown, hts⟩ (c_X8_isSlot l D cy 2 s.heap.size) (va_cwS 1 hts (gd_S q1267 q1268 q125 q1269) rfl rfl rfl (by decide +kernel) ⟨Nat.le_of_ble_eq_true rfl, Nat.le_of_ble_eq_true rfl⟩) (pr_S hPc hK hDc) rfl rfl hl.1 rfl (lv_room (Nat.le_of_ble_eq_true rfl)) dX8_paste_1 ⟨Nat.le_of_ble_eq_true rfl, Nat.le_of_ble_eq_true rfl⟩) hS (fun q _ h => hFc q h) hFc (fun r_45 u tS H1 locs ht hvm hw hB hz1 hk1 hS => ?_)
      obtain ⟨hP1, hK1, hD1⟩ := hB
      rw [ht] at hP1
      try dsimp only at hw
      obtain ⟨hP, hD⟩ := va_join (wr := [(g 0, .inr (8, xF g)), (g 26, .inl (cy 5, 4, .inr (.inr (.inr (.inr (va_up (va_up (va_up (va_up (fun _ => none) 0 (some (g 27))) 1 (some (g 29))) 2 (some (g 31))) 3 (some (g 33)))))))), (g 27, .inr (5, [.int 0, .int 0, .int 0, .ref (g 28)])), (g 29, .inr (5, [.int 0, .int 0, .int 0, .ref (g 30)])), (g 31, .inr (5, [.int 0, .int 0, .int 0, .ref (g 32)])), (g 33, .inr (5, [.int 0, .int 0, .int 0, .ref (g 34)]))]) (w1 := []) hP hD [] [0, 1, 2, 3, 4, 5] rfl rfl (by decide) (by decide) hk1 hFc hP1 hD1
      generalize H1 = H at hP hS ⊢
      have hP : va_P D clz [(g 0, .inr (8, xF g)), (g 26, .inl (cy 5, 4, .inr (.inr (.inr (.inr (va_up (va_up (va_up (va_up (fun _ => none) 0 (some (g 27))) 1 (some (g 29))) 2 (some (g 31))) 3 (some (g 33)))))))), (g 27, .inr (5, [.int 0, .int 0, .int 0, .ref (g 28)])), (g 29, .inr (5, [.int 0, .int 0, .int 0, .ref (g 30)])), (g 31, .inr (5, [.int 0, .int 0, .int 0, .ref (g 32)])), (g 33, .inr (5, [.int 0, .int 0, .int 0, .ref (g 34)]))] H := hP
      have hD : va_D A [(g 0, .inr (8, xF g)), (g 26, .inl (cy 5, 4, .inr (.inr (.inr (.inr (va_up (va_up (va_up (va_up (fun _ => none) 0 (some (g 27))) 1 (some (g 29))) 2 (some (g 31))) 3 (some (g 33)))))))), (g 27, .inr (5, [.int 0, .int 0, .int 0, .ref (g 28)])), (g 29, .inr (5, [.int 0, .int 0, .int 0, .ref (g 30)])), (g 31, .inr (5, [.int 0, .int 0, .int 0, .ref (g 32)])), (g 33, .inr (5, [.int 0, .int 0, .int 0, .ref (g 34)]))] := hD
      by_cases hc_46 : ((0 : Int32) ≤ (2 : Int32) ∧ (2 : Int32) ≤ (3 : Int32))
      ·
        rw [if_pos hc_46] at hw
        subst hw
        refine lv_if_eq (tgt := 14) hx hb dX8_paste_4 (by decide) (fun c9 => absurd c9 (by decide)) (fun _ => ?_)
        refine lv_iload_n hx hb dX8_paste_7 rfl (lv_at hl 3 rfl) ?_
        have hPc := hP.sub (ws' := []) [] rfl
        have hDc := hD.sub (ws' := []) [] (by decide) rfl
        have hFc := va_free (wc := []) hD hS hA [] rfl
        refine va_calli (va_runS (As := [.int 0]) (rest := []) ⟨hx, hb, hml, hown, hts⟩ (c_X8_isSlot l D cy 0 H.size) (va_cwS 1 hts (gd_S q1267 q1268 q125 q1269) rfl rfl rfl (by decide +kernel) ⟨Nat.le_of_ble_eq_true rfl, Nat.le_of_ble_eq_true rfl⟩) (pr_S hPc hK hDc) rfl rfl hl.1 rfl (lv_room (Nat.le_of_ble_eq_true rfl)) dX8_paste_8 ⟨Nat.le_of_ble_eq_true rfl, Nat.le_of_ble_eq_true rfl⟩) hS (fun q _ h => hFc q h) hFc (fun r_47 u tS H1 locs ht hvm hw hB hz1 hk1 hS => ?_)
        obtain ⟨hP1, hK1, hD1⟩ := hB
        rw [ht] at hP1
        try dsimp only at hw
        obtain ⟨hP, hD⟩ := va_join (wr := [(g 0, .inr (8, xF g)), (g 26, .inl (cy 5, 4, .inr (.inr (.inr (.inr (va_up (va_up (va_up (va_up (fun _ => none) 0 (some (g 27))) 1 (some (g 29))) 2 (some (g 31))) 3 (some (g 33)))))))), (g 27, .inr (5, [.int 0, .int 0, .int 0, .ref (g 28)])), (g 29, .inr (5, [.int 0, .int 0, .int 0, .ref (g 30)])), (g 31, .inr (5, [.int 0, .int 0, .int 0, .ref (g 32)])), (g 33, .inr (5, [.int 0, .int 0, .int 0, .ref (g 34)]))]) (w1 := []) hP hD [] [0, 1, 2, 3, 4, 5] rfl rfl (by decide) (by decide) hk1 hFc hP1 hD1
        generalize H1 = H at hP hS ⊢
        have hP : va_P D clz [(g 0, .inr (8, xF g)), (g 26, .inl (cy 5, 4, .inr (.inr (.inr (.inr (va_up (va_up (va_up (va_up (fun _ => none) 0 (some (g 27))) 1 (some (g 29))) 2 (some (g 31))) 3 (some (g 33)))))))), (g 27, .inr (5, [.int 0, .int 0, .int 0, .ref (g 28)])), (g 29, .inr (5, [.int 0, .int 0, .int 0, .ref (g 30)])), (g 31, .inr (5, [.int 0, .int 0, .int 0, .ref (g 32)])), (g 33, .inr (5, [.int 0, .int 0, .int 0, .ref (g 34)]))] H := hP
        have hD : va_D A [(g 0, .inr (8, xF g)), (g 26, .inl (cy 5, 4, .inr (.inr (.inr (.inr (va_up (va_up (va_up (va_up (fun _ => none) 0 (some (g 27))) 1 (some (g 29))) 2 (some (g 31))) 3 (some (g 33)))))))), (g 27, .inr (5, [.int 0, .int 0, .int 0, .ref (g 28)])), (g 29, .inr (5, [.int 0, .int 0, .int 0, .ref (g 30)])), (g 31, .inr (5, [.int 0, .int 0, .int 0, .ref (g 32)])), (g 33, .inr (5, [.int 0, .int 0, .int 0, .ref (g 34)]))] := hD
        by_cases hc_48 : ((0 : Int32) ≤ (0 : Int32) ∧ (0 : Int32) ≤ (3 : Int32))
        ·
          rw [if_pos hc_48] at hw
          subst hw
          refine lv_if_ne (tgt := 17) hx hb dX8_paste_11 (by decide) (fun _ => ?_) (fun c9 => absurd c9 (by decide))
          refine lv_aload_n hx hb dX8_paste_17 rfl (lv_at hl 0 rfl) ?_
          refine va_get (D := D) (ci := 8) (v := .ref (g 26)) (C := RX8) (T := TX8) (N := 12) hx hb hts iX8 hown hK hP 0 rfl rfl 5 (by decide) (hts _ q439) (fun _ h9 => h9) rfl dX8_paste_18 ?_
          refine lv_iload_n hx hb dX8_paste_21 rfl (lv_at hl 1 rfl) ?_
          refine va_aldq hx hb hK hP 1 5 rfl rfl (vpi (by decide)) dX8_paste_22 ?_
          refine W.eq (g2 := F0 m 23 ls [.ref (g 31)]) rfl ?_
          refine lv_astore (lv' := [(6, .ref (g 31)), (0, .ref (g 0)), (1, .int 2), (2, .int p2), (3, .int 0), (4, .int p4), (5, .int p5)]) hx hb dX8_paste_23 hl (by decide) rfl (fun ls hl => ?_)
          refine lv_aload_n hx hb dX8_paste_25 rfl (lv_at hl 1 rfl) ?_
          refine va_get (D := D) (ci := 8) (v := .ref (g 26)) (C := RX8) (T := TX8) (N := 12) hx hb hts iX8 hown hK hP 0 rfl rfl 5 (by decide) (hts _ q439) (fun _ h9 => h9) rfl dX8_paste_26 ?_
          refine lv_iload_n hx hb dX8_paste_29 rfl (lv_at hl 4 rfl) ?_
          refine va_aldq hx hb hK hP 1 5 rfl rfl (vpi (by decide)) dX8_paste_30 ?_
          refine W.eq (g2 := F0 m 31 ls [.ref (g 27)]) rfl ?_
          refine lv_astore (lv' := [(7, .ref (g 27)), (6, .ref (g 31)), (0, .ref (g 0)), (1, .int 2), (2, .int p2), (3, .int 0), (4, .int p4), (5, .int p5)]) hx hb dX8_paste_31 hl (by decide) rfl (fun ls hl => ?_)
          refine lv_aload hx hb dX8_paste_33 (lv_at hl 1 rfl) ?_
          refine va_get (D := D) (ci := 5) (v := .int 0) (C := RX5) (T := TX5) (N := 4) hx hb hts iX5 hown hK hP 4 rfl rfl 0 (by decide) (hts _ q417) (fun _ h9 => h9) rfl dX8_paste_35 ?_
          refine lv_if_eq (tgt := 49) hx hb dX8_paste_38 (by decide) (fun _ => ?_) (fun c9 => absurd c9 (by decide))
          refine lv_bipush (v := (-6)) hx hb dX8_paste_49 (by decide) ?_
          have hP9 := hP.sub (ws' := [(g 0, .inr (8, xF g)), (g 26, .inl (cy 5, 4, .inr (.inr (.inr (.inr (va_up (va_up (va_up (va_up (fun _ => none) 0 (some (g 27))) 1 (some (g 29))) 2 (some (g 31))) 3 (some (g 33)))))))), (g 27, .inr (5, [.int 0, .int 0, .int 0, .ref (g 28)])), (g 29, .inr (5, [.int 0, .int 0, .int 0, .ref (g 30)])), (g 31, .inr (5, [.int 0, .int 0, .int 0, .ref (g 32)])), (g 33, .inr (5, [.int 0, .int 0, .int 0, .ref (g 34)]))]) [0, 1, 2, 3, 4, 5] rfl
          have hD9 := hD.sub (ws' := [(g 0, .inr (8, xF g)), (g 26, .inl (cy 5, 4, .inr (.inr (.inr (.inr (va_up (va_up (va_up (va_up (fun _ => none) 0 (some (g 27))) 1 (some (g 29))) 2 (some (g 31))) 3 (some (g 33)))))))), (g 27, .inr (5, [.int 0, .int 0, .int 0, .ref (g 28)])), (g 29, .inr (5, [.int 0, .int 0, .int 0, .ref (g 30)])), (g 31, .inr (5, [.int 0, .int 0, .int 0, .ref (g 32)])), (g 33, .inr (5, [.int 0, .int 0, .int 0, .ref (g 34)]))]) [0, 1, 2, 3, 4, 5] (by decide) rfl
          exact W.iret (v := (-6)) hx hb hr (fun tS ht hW => ⟨⟨(-6), (), rfl, (by have f0 := bp32 hc_46; have f1 := bp32 hc_48; have z320 : (0 : Int32).toInt = 0 := (by decide); have z322 : (2 : Int32).toInt = 2 := (by decide); have z323 : (3 : Int32).toInt = 3 := (by decide); unfold sp_paste; (repeat' split) <;> first | rfl | (exfalso; omega)), by rw [ht]; exact hP9, va_K.moved hW.alike hK, hD9⟩, hS.F ht⟩) hS.2.2 dX8_paste_51
        ·
          rw [if_neg hc_48] at hw
          subst hw
          exact False.elim (by have f0 := bp32 hc_46; have f1 := bn32 hc_48; have z320 : (0 : Int32).toInt = 0 := (by decide); have z322 : (2 : Int32).toInt = 2 := (by decide); have z323 : (3 : Int32).toInt = 3 := (by decide); omega)
      ·
        rw [if_neg hc_46] at hw
        subst hw
        exact False.elim (by have f0 := bn32 hc_46; have z320 : (0 : Int32).toInt = 0 := (by decide); have z322 : (2 : Int32).toInt = 2 := (by decide); have z323 : (3 : Int32).toInt = 3 := (by decide); omega)
    ·
      refine lv_iload_n hx hb dX8_paste_0 rfl (lv_at hl 1 rfl) ?_
      have hPc := hP.sub (ws' := []) [] rfl
      have hDc := hD.sub (ws' := []) [] (by decide) rfl
      have hFc := va_free (wc := []) hD hS hA [] rfl
      refine va_calli (va_runS (As := [.int 2]) (rest := []) ⟨hx, hb, hml, hown, hts⟩ (c_X8_isSlot l D cy 2 s.heap.size) (va_cwS 1 hts (gd_S q1267 q1268 q125 q1269) rfl rfl rfl (by decide +kernel) ⟨Nat.le_of_ble_eq_true rfl, Nat.le_of_ble_eq_true rfl⟩) (pr_S hPc hK hDc) rfl rfl hl.1 rfl (lv_room (Nat.le_of_ble_eq_true rfl)) dX8_paste_1 ⟨Nat.le_of_ble_eq_true rfl, Nat.le_of_ble_eq_true rfl⟩) hS (fun q _ h => hFc q h) hFc (fun r_49 u tS H1 locs ht hvm hw hB hz1 hk1 hS => ?_)
      obtain ⟨hP1, hK1, hD1⟩ := hB
      rw [ht] at hP1
      try dsimp only at hw
      obtain ⟨hP, hD⟩ := va_join (wr := [(g 0, .inr (8, xF g)), (g 26, .inl (cy 5, 4, .inr (.inr (.inr (.inr (va_up (va_up (va_up (va_up (fun _ => none) 0 (some (g 27))) 1 (some (g 29))) 2 (some (g 31))) 3 (some (g 33)))))))), (g 27, .inr (5, [.int 0, .int 0, .int 0, .ref (g 28)])), (g 29, .inr (5, [.int 0, .int 0, .int 0, .ref (g 30)])), (g 31, .inr (5, [.int 0, .int 0, .int 0, .ref (g 32)])), (g 33, .inr (5, [.int 0, .int 0, .int 0, .ref (g 34)]))]) (w1 := []) hP hD [] [0, 1, 2, 3, 4, 5] rfl rfl (by decide) (by decide) hk1 hFc hP1 hD1
      generalize H1 = H at hP hS ⊢
      have hP : va_P D clz [(g 0, .inr (8, xF g)), (g 26, .inl (cy 5, 4, .inr (.inr (.inr (.inr (va_up (va_up (va_up (va_up (fun _ => none) 0 (some (g 27))) 1 (some (g 29))) 2 (some (g 31))) 3 (some (g 33)))))))), (g 27, .inr (5, [.int 0, .int 0, .int 0, .ref (g 28)])), (g 29, .inr (5, [.int 0, .int 0, .int 0, .ref (g 30)])), (g 31, .inr (5, [.int 0, .int 0, .int 0, .ref (g 32)])), (g 33, .inr (5, [.int 0, .int 0, .int 0, .ref (g 34)]))] H := hP
      have hD : va_D A [(g 0, .inr (8, xF g)), (g 26, .inl (cy 5, 4, .inr (.inr (.inr (.inr (va_up (va_up (va_up (va_up (fun _ => none) 0 (some (g 27))) 1 (some (g 29))) 2 (some (g 31))) 3 (some (g 33)))))))), (g 27, .inr (5, [.int 0, .int 0, .int 0, .ref (g 28)])), (g 29, .inr (5, [.int 0, .int 0, .int 0, .ref (g 30)])), (g 31, .inr (5, [.int 0, .int 0, .int 0, .ref (g 32)])), (g 33, .inr (5, [.int 0, .int 0, .int 0, .ref (g 34)]))] := hD
      by_cases hc_50 : ((0 : Int32) ≤ (2 : Int32) ∧ (2 : Int32) ≤ (3 : Int32))
      ·
        rw [if_pos hc_50] at hw
        subst hw
        refine lv_if_eq (tgt := 14) hx hb dX8_paste_4 (by decide) (fun c9 => absurd c9 (by decide)) (fun _ => ?_)
        refine lv_iload_n hx hb dX8_paste_7 rfl (lv_at hl 3 rfl) ?_
        have hPc := hP.sub (ws' := []) [] rfl
        have hDc := hD.sub (ws' := []) [] (by decide) rfl
        have hFc := va_free (wc := []) hD hS hA [] rfl
        refine va_calli (va_runS (As := [.int 1]) (rest := []) ⟨hx, hb, hml, hown, hts⟩ (c_X8_isSlot l D cy 1 H.size) (va_cwS 1 hts (gd_S q1267 q1268 q125 q1269) rfl rfl rfl (by decide +kernel) ⟨Nat.le_of_ble_eq_true rfl, Nat.le_of_ble_eq_true rfl⟩) (pr_S hPc hK hDc) rfl rfl hl.1 rfl (lv_room (Nat.le_of_ble_eq_true rfl)) dX8_paste_8 ⟨Nat.le_of_ble_eq_true rfl, Nat.le_of_ble_eq_true rfl⟩) hS (fun q _ h => hFc q h) hFc (fun r_51 u tS H1 locs ht hvm hw hB hz1 hk1 hS => ?_)
        obtain ⟨hP1, hK1, hD1⟩ := hB
        rw [ht] at hP1
        try dsimp only at hw
        obtain ⟨hP, hD⟩ := va_join (wr := [(g 0, .inr (8, xF g)), (g 26, .inl (cy 5, 4, .inr (.inr (.inr (.inr (va_up (va_up (va_up (va_up (fun _ => none) 0 (some (g 27))) 1 (some (g 29))) 2 (some (g 31))) 3 (some (g 33)))))))), (g 27, .inr (5, [.int 0, .int 0, .int 0, .ref (g 28)])), (g 29, .inr (5, [.int 0, .int 0, .int 0, .ref (g 30)])), (g 31, .inr (5, [.int 0, .int 0, .int 0, .ref (g 32)])), (g 33, .inr (5, [.int 0, .int 0, .int 0, .ref (g 34)]))]) (w1 := []) hP hD [] [0, 1, 2, 3, 4, 5] rfl rfl (by decide) (by decide) hk1 hFc hP1 hD1
        generalize H1 = H at hP hS ⊢
        have hP : va_P D clz [(g 0, .inr (8, xF g)), (g 26, .inl (cy 5, 4, .inr (.inr (.inr (.inr (va_up (va_up (va_up (va_up (fun _ => none) 0 (some (g 27))) 1 (some (g 29))) 2 (some (g 31))) 3 (some (g 33)))))))), (g 27, .inr (5, [.int 0, .int 0, .int 0, .ref (g 28)])), (g 29, .inr (5, [.int 0, .int 0, .int 0, .ref (g 30)])), (g 31, .inr (5, [.int 0, .int 0, .int 0, .ref (g 32)])), (g 33, .inr (5, [.int 0, .int 0, .int 0, .ref (g 34)]))] H := hP
        have hD : va_D A [(g 0, .inr (8, xF g)), (g 26, .inl (cy 5, 4, .inr (.inr (.inr (.inr (va_up (va_up (va_up (va_up (fun _ => none) 0 (some (g 27))) 1 (some (g 29))) 2 (some (g 31))) 3 (some (g 33)))))))), (g 27, .inr (5, [.int 0, .int 0, .int 0, .ref (g 28)])), (g 29, .inr (5, [.int 0, .int 0, .int 0, .ref (g 30)])), (g 31, .inr (5, [.int 0, .int 0, .int 0, .ref (g 32)])), (g 33, .inr (5, [.int 0, .int 0, .int 0, .ref (g 34)]))] := hD
        by_cases hc_52 : ((0 : Int32) ≤ (1 : Int32) ∧ (1 : Int32) ≤ (3 : Int32))
        ·
          rw [if_pos hc_52] at hw
          subst hw
          refine lv_if_ne (tgt := 17) hx hb dX8_paste_11 (by decide) (fun _ => ?_) (fun c9 => absurd c9 (by decide))
          refine lv_aload_n hx hb dX8_paste_17 rfl (lv_at hl 0 rfl) ?_
          refine va_get (D := D) (ci := 8) (v := .ref (g 26)) (C := RX8) (T := TX8) (N := 12) hx hb hts iX8 hown hK hP 0 rfl rfl 5 (by decide) (hts _ q439) (fun _ h9 => h9) rfl dX8_paste_18 ?_
          refine lv_iload_n hx hb dX8_paste_21 rfl (lv_at hl 1 rfl) ?_
          refine va_aldq hx hb hK hP 1 5 rfl rfl (vpi (by decide)) dX8_paste_22 ?_
          refine W.eq (g2 := F0 m 23 ls [.ref (g 31)]) rfl ?_
          refine lv_astore (lv' := [(6, .ref (g 31)), (0, .ref (g 0)), (1, .int 2), (2, .int p2), (3, .int 1), (4, .int p4), (5, .int p5)]) hx hb dX8_paste_23 hl (by decide) rfl (fun ls hl => ?_)
          refine lv_aload_n hx hb dX8_paste_25 rfl (lv_at hl 1 rfl) ?_
          refine va_get (D := D) (ci := 8) (v := .ref (g 26)) (C := RX8) (T := TX8) (N := 12) hx hb hts iX8 hown hK hP 0 rfl rfl 5 (by decide) (hts _ q439) (fun _ h9 => h9) rfl dX8_paste_26 ?_
          refine lv_iload_n hx hb dX8_paste_29 rfl (lv_at hl 4 rfl) ?_
          refine va_aldq hx hb hK hP 1 5 rfl rfl (vpi (by decide)) dX8_paste_30 ?_
          refine W.eq (g2 := F0 m 31 ls [.ref (g 29)]) rfl ?_
          refine lv_astore (lv' := [(7, .ref (g 29)), (6, .ref (g 31)), (0, .ref (g 0)), (1, .int 2), (2, .int p2), (3, .int 1), (4, .int p4), (5, .int p5)]) hx hb dX8_paste_31 hl (by decide) rfl (fun ls hl => ?_)
          refine lv_aload hx hb dX8_paste_33 (lv_at hl 1 rfl) ?_
          refine va_get (D := D) (ci := 5) (v := .int 0) (C := RX5) (T := TX5) (N := 4) hx hb hts iX5 hown hK hP 4 rfl rfl 0 (by decide) (hts _ q417) (fun _ h9 => h9) rfl dX8_paste_35 ?_
          refine lv_if_eq (tgt := 49) hx hb dX8_paste_38 (by decide) (fun _ => ?_) (fun c9 => absurd c9 (by decide))
          refine lv_bipush (v := (-6)) hx hb dX8_paste_49 (by decide) ?_
          have hP9 := hP.sub (ws' := [(g 0, .inr (8, xF g)), (g 26, .inl (cy 5, 4, .inr (.inr (.inr (.inr (va_up (va_up (va_up (va_up (fun _ => none) 0 (some (g 27))) 1 (some (g 29))) 2 (some (g 31))) 3 (some (g 33)))))))), (g 27, .inr (5, [.int 0, .int 0, .int 0, .ref (g 28)])), (g 29, .inr (5, [.int 0, .int 0, .int 0, .ref (g 30)])), (g 31, .inr (5, [.int 0, .int 0, .int 0, .ref (g 32)])), (g 33, .inr (5, [.int 0, .int 0, .int 0, .ref (g 34)]))]) [0, 1, 2, 3, 4, 5] rfl
          have hD9 := hD.sub (ws' := [(g 0, .inr (8, xF g)), (g 26, .inl (cy 5, 4, .inr (.inr (.inr (.inr (va_up (va_up (va_up (va_up (fun _ => none) 0 (some (g 27))) 1 (some (g 29))) 2 (some (g 31))) 3 (some (g 33)))))))), (g 27, .inr (5, [.int 0, .int 0, .int 0, .ref (g 28)])), (g 29, .inr (5, [.int 0, .int 0, .int 0, .ref (g 30)])), (g 31, .inr (5, [.int 0, .int 0, .int 0, .ref (g 32)])), (g 33, .inr (5, [.int 0, .int 0, .int 0, .ref (g 34)]))]) [0, 1, 2, 3, 4, 5] (by decide) rfl
          exact W.iret (v := (-6)) hx hb hr (fun tS ht hW => ⟨⟨(-6), (), rfl, (by have f0 := bp32 hc_50; have f1 := bp32 hc_52; have z320 : (0 : Int32).toInt = 0 := (by decide); have z321 : (1 : Int32).toInt = 1 := (by decide); have z322 : (2 : Int32).toInt = 2 := (by decide); have z323 : (3 : Int32).toInt = 3 := (by decide); unfold sp_paste; (repeat' split) <;> first | rfl | (exfalso; omega)), by rw [ht]; exact hP9, va_K.moved hW.alike hK, hD9⟩, hS.F ht⟩) hS.2.2 dX8_paste_51
        ·
          rw [if_neg hc_52] at hw
          subst hw
          exact False.elim (by have f0 := bp32 hc_50; have f1 := bn32 hc_52; have z320 : (0 : Int32).toInt = 0 := (by decide); have z321 : (1 : Int32).toInt = 1 := (by decide); have z322 : (2 : Int32).toInt = 2 := (by decide); have z323 : (3 : Int32).toInt = 3 := (by decide); omega)
      ·
        rw [if_neg hc_50] at hw
        subst hw
        exact False.elim (by have f0 := bn32 hc_50; have z320 : (0 : Int32).toInt = 0 := (by decide); have z322 : (2 : Int32).toInt = 2 := (by decide); have z323 : (3 : Int32).toInt = 3 := (by decide); omega)
    ·
      refine lv_iload_n hx hb dX8_paste_0 rfl (lv_at hl 1 rfl) ?_
      have hPc := hP.sub (ws' := []) [] rfl
      have hDc := hD.sub (ws' := []) [] (by decide) rfl
      have hFc := va_free (wc := []) hD hS hA [] rfl
      refine va_calli (va_runS (As := [.int 2]) (rest := []) ⟨hx, hb, hml, hown, hts⟩ (c_X8_isSlot l D cy 2 s.heap.size) (va_cwS 1 hts (gd_S q1267 q1268 q125 q1269) rfl rfl rfl (by decide +kernel) ⟨Nat.le_of_ble_eq_true rfl, Nat.le_of_ble_eq_true rfl⟩) (pr_S hPc hK hDc) rfl rfl hl.1 rfl (lv_room (Nat.le_of_ble_eq_true rfl)) dX8_paste_1 ⟨Nat.le_of_ble_eq_true rfl, Nat.le_of_ble_eq_true rfl⟩) hS (fun q _ h => hFc q h) hFc (fun r_53 u tS H1 locs ht hvm hw hB hz1 hk1 hS => ?_)
      obtain ⟨hP1, hK1, hD1⟩ := hB
      rw [ht] at hP1
      try dsimp only at hw
      obtain ⟨hP, hD⟩ := va_join (wr := [(g 0, .inr (8, xF g)), (g 26, .inl (cy 5, 4, .inr (.inr (.inr (.inr (va_up (va_up (va_up (va_up (fun _ => none) 0 (some (g 27))) 1 (some (g 29))) 2 (some (g 31))) 3 (some (g 33)))))))), (g 27, .inr (5, [.int 0, .int 0, .int 0, .ref (g 28)])), (g 29, .inr (5, [.int 0, .int 0, .int 0, .ref (g 30)])), (g 31, .inr (5, [.int 0, .int 0, .int 0, .ref (g 32)])), (g 33, .inr (5, [.int 0, .int 0, .int 0, .ref (g 34)]))]) (w1 := []) hP hD [] [0, 1, 2, 3, 4, 5] rfl rfl (by decide) (by decide) hk1 hFc hP1 hD1
      generalize H1 = H at hP hS ⊢
      have hP : va_P D clz [(g 0, .inr (8, xF g)), (g 26, .inl (cy 5, 4, .inr (.inr (.inr (.inr (va_up (va_up (va_up (va_up (fun _ => none) 0 (some (g 27))) 1 (some (g 29))) 2 (some (g 31))) 3 (some (g 33)))))))), (g 27, .inr (5, [.int 0, .int 0, .int 0, .ref (g 28)])), (g 29, .inr (5, [.int 0, .int 0, .int 0, .ref (g 30)])), (g 31, .inr (5, [.int 0, .int 0, .int 0, .ref (g 32)])), (g 33, .inr (5, [.int 0, .int 0, .int 0, .ref (g 34)]))] H := hP
      have hD : va_D A [(g 0, .inr (8, xF g)), (g 26, .inl (cy 5, 4, .inr (.inr (.inr (.inr (va_up (va_up (va_up (va_up (fun _ => none) 0 (some (g 27))) 1 (some (g 29))) 2 (some (g 31))) 3 (some (g 33)))))))), (g 27, .inr (5, [.int 0, .int 0, .int 0, .ref (g 28)])), (g 29, .inr (5, [.int 0, .int 0, .int 0, .ref (g 30)])), (g 31, .inr (5, [.int 0, .int 0, .int 0, .ref (g 32)])), (g 33, .inr (5, [.int 0, .int 0, .int 0, .ref (g 34)]))] := hD
      by_cases hc_54 : ((0 : Int32) ≤ (2 : Int32) ∧ (2 : Int32) ≤ (3 : Int32))
      ·
        rw [if_pos hc_54] at hw
        subst hw
        refine lv_if_eq (tgt := 14) hx hb dX8_paste_4 (by decide) (fun c9 => absurd c9 (by decide)) (fun _ => ?_)
        refine lv_iload_n hx hb dX8_paste_7 rfl (lv_at hl 3 rfl) ?_
        have hPc := hP.sub (ws' := []) [] rfl
        have hDc := hD.sub (ws' := []) [] (by decide) rfl
        have hFc := va_free (wc := []) hD hS hA [] rfl
        refine va_calli (va_runS (As := [.int 2]) (rest := []) ⟨hx, hb, hml, hown, hts⟩ (c_X8_isSlot l D cy 2 H.size) (va_cwS 1 hts (gd_S q1267 q1268 q125 q1269) rfl rfl rfl (by decide +kernel) ⟨Nat.le_of_ble_eq_true rfl, Nat.le_of_ble_eq_true rfl⟩) (pr_S hPc hK hDc) rfl rfl hl.1 rfl (lv_room (Nat.le_of_ble_eq_true rfl)) dX8_paste_8 ⟨Nat.le_of_ble_eq_true rfl, Nat.le_of_ble_eq_true rfl⟩) hS (fun q _ h => hFc q h) hFc (fun r_55 u tS H1 locs ht hvm hw hB hz1 hk1 hS => ?_)
        obtain ⟨hP1, hK1, hD1⟩ := hB
        rw [ht] at hP1
        try dsimp only at hw
        obtain ⟨hP, hD⟩ := va_join (wr := [(g 0, .inr (8, xF g)), (g 26, .inl (cy 5, 4, .inr (.inr (.inr (.inr (va_up (va_up (va_up (va_up (fun _ => none) 0 (some (g 27))) 1 (some (g 29))) 2 (some (g 31))) 3 (some (g 33)))))))), (g 27, .inr (5, [.int 0, .int 0, .int 0, .ref (g 28)])), (g 29, .inr (5, [.int 0, .int 0, .int 0, .ref (g 30)])), (g 31, .inr (5, [.int 0, .int 0, .int 0, .ref (g 32)])), (g 33, .inr (5, [.int 0, .int 0, .int 0, .ref (g 34)]))]) (w1 := []) hP hD [] [0, 1, 2, 3, 4, 5] rfl rfl (by decide) (by decide) hk1 hFc hP1 hD1
        generalize H1 = H at hP hS ⊢
        have hP : va_P D clz [(g 0, .inr (8, xF g)), (g 26, .inl (cy 5, 4, .inr (.inr (.inr (.inr (va_up (va_up (va_up (va_up (fun _ => none) 0 (some (g 27))) 1 (some (g 29))) 2 (some (g 31))) 3 (some (g 33)))))))), (g 27, .inr (5, [.int 0, .int 0, .int 0, .ref (g 28)])), (g 29, .inr (5, [.int 0, .int 0, .int 0, .ref (g 30)])), (g 31, .inr (5, [.int 0, .int 0, .int 0, .ref (g 32)])), (g 33, .inr (5, [.int 0, .int 0, .int 0, .ref (g 34)]))] H := hP
        have hD : va_D A [(g 0, .inr (8, xF g)), (g 26, .inl (cy 5, 4, .inr (.inr (.inr (.inr (va_up (va_up (va_up (va_up (fun _ => none) 0 (some (g 27))) 1 (some (g 29))) 2 (some (g 31))) 3 (some (g 33)))))))), (g 27, .inr (5, [.int 0, .int 0, .int 0, .ref (g 28)])), (g 29, .inr (5, [.int 0, .int 0, .int 0, .ref (g 30)])), (g 31, .inr (5, [.int 0, .int 0, .int 0, .ref (g 32)])), (g 33, .inr (5, [.int 0, .int 0, .int 0, .ref (g 34)]))] := hD
        by_cases hc_56 : ((0 : Int32) ≤ (2 : Int32) ∧ (2 : Int32) ≤ (3 : Int32))
        ·
          rw [if_pos hc_56] at hw
          subst hw
          refine lv_if_ne (tgt := 17) hx hb dX8_paste_11 (by decide) (fun _ => ?_) (fun c9 => absurd c9 (by decide))
          refine lv_aload_n hx hb dX8_paste_17 rfl (lv_at hl 0 rfl) ?_
          refine va_get (D := D) (ci := 8) (v := .ref (g 26)) (C := RX8) (T := TX8) (N := 12) hx hb hts iX8 hown hK hP 0 rfl rfl 5 (by decide) (hts _ q439) (fun _ h9 => h9) rfl dX8_paste_18 ?_
          refine lv_iload_n hx hb dX8_paste_21 rfl (lv_at hl 1 rfl) ?_
          refine va_aldq hx hb hK hP 1 5 rfl rfl (vpi (by decide)) dX8_paste_22 ?_
          refine W.eq (g2 := F0 m 23 ls [.ref (g 31)]) rfl ?_
          refine lv_astore (lv' := [(6, .ref (g 31)), (0, .ref (g 0)), (1, .int 2), (2, .int p2), (3, .int 2), (4, .int p4), (5, .int p5)]) hx hb dX8_paste_23 hl (by decide) rfl (fun ls hl => ?_)
          refine lv_aload_n hx hb dX8_paste_25 rfl (lv_at hl 1 rfl) ?_
          refine va_get (D := D) (ci := 8) (v := .ref (g 26)) (C := RX8) (T := TX8) (N := 12) hx hb hts iX8 hown hK hP 0 rfl rfl 5 (by decide) (hts _ q439) (fun _ h9 => h9) rfl dX8_paste_26 ?_
          refine lv_iload_n hx hb dX8_paste_29 rfl (lv_at hl 4 rfl) ?_
          refine va_aldq hx hb hK hP 1 5 rfl rfl (vpi (by decide)) dX8_paste_30 ?_
          refine W.eq (g2 := F0 m 31 ls [.ref (g 31)]) rfl ?_
          refine lv_astore (lv' := [(7, .ref (g 31)), (6, .ref (g 31)), (0, .ref (g 0)), (1, .int 2), (2, .int p2), (3, .int 2), (4, .int p4), (5, .int p5)]) hx hb dX8_paste_31 hl (by decide) rfl (fun ls hl => ?_)
          refine lv_aload hx hb dX8_paste_33 (lv_at hl 1 rfl) ?_
          refine va_get (D := D) (ci := 5) (v := .int 0) (C := RX5) (T := TX5) (N := 4) hx hb hts iX5 hown hK hP 4 rfl rfl 0 (by decide) (hts _ q417) (fun _ h9 => h9) rfl dX8_paste_35 ?_
          refine lv_if_eq (tgt := 49) hx hb dX8_paste_38 (by decide) (fun _ => ?_) (fun c9 => absurd c9 (by decide))
          refine lv_bipush (v := (-6)) hx hb dX8_paste_49 (by decide) ?_
          have hP9 := hP.sub (ws' := [(g 0, .inr (8, xF g)), (g 26, .inl (cy 5, 4, .inr (.inr (.inr (.inr (va_up (va_up (va_up (va_up (fun _ => none) 0 (some (g 27))) 1 (some (g 29))) 2 (some (g 31))) 3 (some (g 33)))))))), (g 27, .inr (5, [.int 0, .int 0, .int 0, .ref (g 28)])), (g 29, .inr (5, [.int 0, .int 0, .int 0, .ref (g 30)])), (g 31, .inr (5, [.int 0, .int 0, .int 0, .ref (g 32)])), (g 33, .inr (5, [.int 0, .int 0, .int 0, .ref (g 34)]))]) [0, 1, 2, 3, 4, 5] rfl
          have hD9 := hD.sub (ws' := [(g 0, .inr (8, xF g)), (g 26, .inl (cy 5, 4, .inr (.inr (.inr (.inr (va_up (va_up (va_up (va_up (fun _ => none) 0 (some (g 27))) 1 (some (g 29))) 2 (some (g 31))) 3 (some (g 33)))))))), (g 27, .inr (5, [.int 0, .int 0, .int 0, .ref (g 28)])), (g 29, .inr (5, [.int 0, .int 0, .int 0, .ref (g 30)])), (g 31, .inr (5, [.int 0, .int 0, .int 0, .ref (g 32)])), (g 33, .inr (5, [.int 0, .int 0, .int 0, .ref (g 34)]))]) [0, 1, 2, 3, 4, 5] (by decide) rfl
          exact W.iret (v := (-6)) hx hb hr (fun tS ht hW => ⟨⟨(-6), (), rfl, (by have f0 := bp32 hc_54; have f1 := bp32 hc_56; have z320 : (0 : Int32).toInt = 0 := (by decide); have z322 : (2 : Int32).toInt = 2 := (by decide); have z323 : (3 : Int32).toInt = 3 := (by decide); unfold sp_paste; (repeat' split) <;> first | rfl | (exfalso; omega)), by rw [ht]; exact hP9, va_K.moved hW.alike hK, hD9⟩, hS.F ht⟩) hS.2.2 dX8_paste_51
        ·
          rw [if_neg hc_56] at hw
          subst hw
          exact False.elim (by have f0 := bp32 hc_54; have f1 := bn32 hc_56; have z320 : (0 : Int32).toInt = 0 := (by decide); have z322 : (2 : Int32).toInt = 2 := (by decide); have z323 : (3 : Int32).toInt = 3 := (by decide); omega)
      ·
        rw [if_neg hc_54] at hw
        subst hw
        exact False.elim (by have f0 := bn32 hc_54; have z320 : (0 : Int32).toInt = 0 := (by decide); have z322 : (2 : Int32).toInt = 2 := (by decide); have z323 : (3 : Int32).toInt = 3 := (by decide); omega)
    ·
      refine lv_iload_n hx hb dX8_paste_0 rfl (lv_at hl 1 rfl) ?_
      have hPc := hP.sub (ws' := []) [] rfl
      have hDc := hD.sub (ws' := []) [] (by decide) rfl
      have hFc := va_free (wc := []) hD hS hA [] rfl
      refine va_calli (va_runS (As := [.int 2]) (rest := []) ⟨hx, hb, hml, hown, hts⟩ (c_X8_isSlot l D cy 2 s.heap.size) (va_cwS 1 hts (gd_S q1267 q1268 q125 q1269) rfl rfl rfl (by decide +kernel) ⟨Nat.le_of_ble_eq_true rfl, Nat.le_of_ble_eq_true rfl⟩) (pr_S hPc hK hDc) rfl rfl hl.1 rfl (lv_room (Nat.le_of_ble_eq_true rfl)) dX8_paste_1 ⟨Nat.le_of_ble_eq_true rfl, Nat.le_of_ble_eq_true rfl⟩) hS (fun q _ h => hFc q h) hFc (fun r_57 u tS H1 locs ht hvm hw hB hz1 hk1 hS => ?_)
      obtain ⟨hP1, hK1, hD1⟩ := hB
      rw [ht] at hP1
      try dsimp only at hw
      obtain ⟨hP, hD⟩ := va_join (wr := [(g 0, .inr (8, xF g)), (g 26, .inl (cy 5, 4, .inr (.inr (.inr (.inr (va_up (va_up (va_up (va_up (fun _ => none) 0 (some (g 27))) 1 (some (g 29))) 2 (some (g 31))) 3 (some (g 33)))))))), (g 27, .inr (5, [.int 0, .int 0, .int 0, .ref (g 28)])), (g 29, .inr (5, [.int 0, .int 0, .int 0, .ref (g 30)])), (g 31, .inr (5, [.int 0, .int 0, .int 0, .ref (g 32)])), (g 33, .inr (5, [.int 0, .int 0, .int 0, .ref (g 34)]))]) (w1 := []) hP hD [] [0, 1, 2, 3, 4, 5] rfl rfl (by decide) (by decide) hk1 hFc hP1 hD1
      generalize H1 = H at hP hS ⊢
      have hP : va_P D clz [(g 0, .inr (8, xF g)), (g 26, .inl (cy 5, 4, .inr (.inr (.inr (.inr (va_up (va_up (va_up (va_up (fun _ => none) 0 (some (g 27))) 1 (some (g 29))) 2 (some (g 31))) 3 (some (g 33)))))))), (g 27, .inr (5, [.int 0, .int 0, .int 0, .ref (g 28)])), (g 29, .inr (5, [.int 0, .int 0, .int 0, .ref (g 30)])), (g 31, .inr (5, [.int 0, .int 0, .int 0, .ref (g 32)])), (g 33, .inr (5, [.int 0, .int 0, .int 0, .ref (g 34)]))] H := hP
      have hD : va_D A [(g 0, .inr (8, xF g)), (g 26, .inl (cy 5, 4, .inr (.inr (.inr (.inr (va_up (va_up (va_up (va_up (fun _ => none) 0 (some (g 27))) 1 (some (g 29))) 2 (some (g 31))) 3 (some (g 33)))))))), (g 27, .inr (5, [.int 0, .int 0, .int 0, .ref (g 28)])), (g 29, .inr (5, [.int 0, .int 0, .int 0, .ref (g 30)])), (g 31, .inr (5, [.int 0, .int 0, .int 0, .ref (g 32)])), (g 33, .inr (5, [.int 0, .int 0, .int 0, .ref (g 34)]))] := hD
      by_cases hc_58 : ((0 : Int32) ≤ (2 : Int32) ∧ (2 : Int32) ≤ (3 : Int32))
      ·
        rw [if_pos hc_58] at hw
        subst hw
        refine lv_if_eq (tgt := 14) hx hb dX8_paste_4 (by decide) (fun c9 => absurd c9 (by decide)) (fun _ => ?_)
        refine lv_iload_n hx hb dX8_paste_7 rfl (lv_at hl 3 rfl) ?_
        have hPc := hP.sub (ws' := []) [] rfl
        have hDc := hD.sub (ws' := []) [] (by decide) rfl
        have hFc := va_free (wc := []) hD hS hA [] rfl
        refine va_calli (va_runS (As := [.int 3]) (rest := []) ⟨hx, hb, hml, hown, hts⟩ (c_X8_isSlot l D cy 3 H.size) (va_cwS 1 hts (gd_S q1267 q1268 q125 q1269) rfl rfl rfl (by decide +kernel) ⟨Nat.le_of_ble_eq_true rfl, Nat.le_of_ble_eq_true rfl⟩) (pr_S hPc hK hDc) rfl rfl hl.1 rfl (lv_room (Nat.le_of_ble_eq_true rfl)) dX8_paste_8 ⟨Nat.le_of_ble_eq_true rfl, Nat.le_of_ble_eq_true rfl⟩) hS (fun q _ h => hFc q h) hFc (fun r_59 u tS H1 locs ht hvm hw hB hz1 hk1 hS => ?_)
        obtain ⟨hP1, hK1, hD1⟩ := hB
        rw [ht] at hP1
        try dsimp only at hw
        obtain ⟨hP, hD⟩ := va_join (wr := [(g 0, .inr (8, xF g)), (g 26, .inl (cy 5, 4, .inr (.inr (.inr (.inr (va_up (va_up (va_up (va_up (fun _ => none) 0 (some (g 27))) 1 (some (g 29))) 2 (some (g 31))) 3 (some (g 33)))))))), (g 27, .inr (5, [.int 0, .int 0, .int 0, .ref (g 28)])), (g 29, .inr (5, [.int 0, .int 0, .int 0, .ref (g 30)])), (g 31, .inr (5, [.int 0, .int 0, .int 0, .ref (g 32)])), (g 33, .inr (5, [.int 0, .int 0, .int 0, .ref (g 34)]))]) (w1 := []) hP hD [] [0, 1, 2, 3, 4, 5] rfl rfl (by decide) (by decide) hk1 hFc hP1 hD1
        generalize H1 = H at hP hS ⊢
        have hP : va_P D clz [(g 0, .inr (8, xF g)), (g 26, .inl (cy 5, 4, .inr (.inr (.inr (.inr (va_up (va_up (va_up (va_up (fun _ => none) 0 (some (g 27))) 1 (some (g 29))) 2 (some (g 31))) 3 (some (g 33)))))))), (g 27, .inr (5, [.int 0, .int 0, .int 0, .ref (g 28)])), (g 29, .inr (5, [.int 0, .int 0, .int 0, .ref (g 30)])), (g 31, .inr (5, [.int 0, .int 0, .int 0, .ref (g 32)])), (g 33, .inr (5, [.int 0, .int 0, .int 0, .ref (g 34)]))] H := hP
        have hD : va_D A [(g 0, .inr (8, xF g)), (g 26, .inl (cy 5, 4, .inr (.inr (.inr (.inr (va_up (va_up (va_up (va_up (fun _ => none) 0 (some (g 27))) 1 (some (g 29))) 2 (some (g 31))) 3 (some (g 33)))))))), (g 27, .inr (5, [.int 0, .int 0, .int 0, .ref (g 28)])), (g 29, .inr (5, [.int 0, .int 0, .int 0, .ref (g 30)])), (g 31, .inr (5, [.int 0, .int 0, .int 0, .ref (g 32)])), (g 33, .inr (5, [.int 0, .int 0, .int 0, .ref (g 34)]))] := hD
        by_cases hc_60 : ((0 : Int32) ≤ (3 : Int32) ∧ (3 : Int32) ≤ (3 : Int32))
        ·
          rw [if_pos hc_60] at hw
          subst hw
          refine lv_if_ne (tgt := 17) hx hb dX8_paste_11 (by decide) (fun _ => ?_) (fun c9 => absurd c9 (by decide))
          refine lv_aload_n hx hb dX8_paste_17 rfl (lv_at hl 0 rfl) ?_
          refine va_get (D := D) (ci := 8) (v := .ref (g 26)) (C := RX8) (T := TX8) (N := 12) hx hb hts iX8 hown hK hP 0 rfl rfl 5 (by decide) (hts _ q439) (fun _ h9 => h9) rfl dX8_paste_18 ?_
          refine lv_iload_n hx hb dX8_paste_21 rfl (lv_at hl 1 rfl) ?_
          refine va_aldq hx hb hK hP 1 5 rfl rfl (vpi (by decide)) dX8_paste_22 ?_
          refine W.eq (g2 := F0 m 23 ls [.ref (g 31)]) rfl ?_
          refine lv_astore (lv' := [(6, .ref (g 31)), (0, .ref (g 0)), (1, .int 2), (2, .int p2), (3, .int 3), (4, .int p4), (5, .int p5)]) hx hb dX8_paste_23 hl (by decide) rfl (fun ls hl => ?_)
          refine lv_aload_n hx hb dX8_paste_25 rfl (lv_at hl 1 rfl) ?_
          refine va_get (D := D) (ci := 8) (v := .ref (g 26)) (C := RX8) (T := TX8) (N := 12) hx hb hts iX8 hown hK hP 0 rfl rfl 5 (by decide) (hts _ q439) (fun _ h9 => h9) rfl dX8_paste_26 ?_
          refine lv_iload_n hx hb dX8_paste_29 rfl (lv_at hl 4 rfl) ?_
          refine va_aldq hx hb hK hP 1 5 rfl rfl (vpi (by decide)) dX8_paste_30 ?_
          refine W.eq (g2 := F0 m 31 ls [.ref (g 33)]) rfl ?_
          refine lv_astore (lv' := [(7, .ref (g 33)), (6, .ref (g 31)), (0, .ref (g 0)), (1, .int 2), (2, .int p2), (3, .int 3), (4, .int p4), (5, .int p5)]) hx hb dX8_paste_31 hl (by decide) rfl (fun ls hl => ?_)
          refine lv_aload hx hb dX8_paste_33 (lv_at hl 1 rfl) ?_
          refine va_get (D := D) (ci := 5) (v := .int 0) (C := RX5) (T := TX5) (N := 4) hx hb hts iX5 hown hK hP 4 rfl rfl 0 (by decide) (hts _ q417) (fun _ h9 => h9) rfl dX8_paste_35 ?_
          refine lv_if_eq (tgt := 49) hx hb dX8_paste_38 (by decide) (fun _ => ?_) (fun c9 => absurd c9 (by decide))
          refine lv_bipush (v := (-6)) hx hb dX8_paste_49 (by decide) ?_
          have hP9 := hP.sub (ws' := [(g 0, .inr (8, xF g)), (g 26, .inl (cy 5, 4, .inr (.inr (.inr (.inr (va_up (va_up (va_up (va_up (fun _ => none) 0 (some (g 27))) 1 (some (g 29))) 2 (some (g 31))) 3 (some (g 33)))))))), (g 27, .inr (5, [.int 0, .int 0, .int 0, .ref (g 28)])), (g 29, .inr (5, [.int 0, .int 0, .int 0, .ref (g 30)])), (g 31, .inr (5, [.int 0, .int 0, .int 0, .ref (g 32)])), (g 33, .inr (5, [.int 0, .int 0, .int 0, .ref (g 34)]))]) [0, 1, 2, 3, 4, 5] rfl
          have hD9 := hD.sub (ws' := [(g 0, .inr (8, xF g)), (g 26, .inl (cy 5, 4, .inr (.inr (.inr (.inr (va_up (va_up (va_up (va_up (fun _ => none) 0 (some (g 27))) 1 (some (g 29))) 2 (some (g 31))) 3 (some (g 33)))))))), (g 27, .inr (5, [.int 0, .int 0, .int 0, .ref (g 28)])), (g 29, .inr (5, [.int 0, .int 0, .int 0, .ref (g 30)])), (g 31, .inr (5, [.int 0, .int 0, .int 0, .ref (g 32)])), (g 33, .inr (5, [.int 0, .int 0, .int 0, .ref (g 34)]))]) [0, 1, 2, 3, 4, 5] (by decide) rfl
          exact W.iret (v := (-6)) hx hb hr (fun tS ht hW => ⟨⟨(-6), (), rfl, (by have f0 := bp32 hc_58; have f1 := bp32 hc_60; have z320 : (0 : Int32).toInt = 0 := (by decide); have z322 : (2 : Int32).toInt = 2 := (by decide); have z323 : (3 : Int32).toInt = 3 := (by decide); unfold sp_paste; (repeat' split) <;> first | rfl | (exfalso; omega)), by rw [ht]; exact hP9, va_K.moved hW.alike hK, hD9⟩, hS.F ht⟩) hS.2.2 dX8_paste_51
        ·
          rw [if_neg hc_60] at hw
          subst hw
          exact False.elim (by have f0 := bp32 hc_58; have f1 := bn32 hc_60; have z320 : (0 : Int32).toInt = 0 := (by decide); have z322 : (2 : Int32).toInt = 2 := (by decide); have z323 : (3 : Int32).toInt = 3 := (by decide); omega)
      ·
        rw [if_neg hc_58] at hw
        subst hw
        exact False.elim (by have f0 := bn32 hc_58; have z320 : (0 : Int32).toInt = 0 := (by decide); have z322 : (2 : Int32).toInt = 2 := (by decide); have z323 : (3 : Int32).toInt = 3 := (by decide); omega)
    ·
      refine lv_iload_n hx hb dX8_paste_0 rfl (lv_at hl 1 rfl) ?_
      have hPc := hP.sub (ws' := []) [] rfl
      have hDc := hD.sub (ws' := []) [] (by decide) rfl
      have hFc := va_free (wc := []) hD hS hA [] rfl
      refine va_calli (va_runS (As := [.int 2]) (rest := []) ⟨hx, hb, hml, hown, hts⟩ (c_X8_isSlot l D cy 2 s.heap.size) (va_cwS 1 hts (gd_S q1267 q1268 q125 q1269) rfl rfl rfl (by decide +kernel) ⟨Nat.le_of_ble_eq_true rfl, Nat.le_of_ble_eq_true rfl⟩) (pr_S hPc hK hDc) rfl rfl hl.1 rfl (lv_room (Nat.le_of_ble_eq_true rfl)) dX8_paste_1 ⟨Nat.le_of_ble_eq_true rfl, Nat.le_of_ble_eq_true rfl⟩) hS (fun q _ h => hFc q h) hFc (fun r_61 u tS H1 locs ht hvm hw hB hz1 hk1 hS => ?_)
      obtain ⟨hP1, hK1, hD1⟩ := hB
      rw [ht] at hP1
      try dsimp only at hw
      obtain ⟨hP, hD⟩ := va_join (wr := [(g 0, .inr (8, xF g)), (g 26, .inl (cy 5, 4, .inr (.inr (.inr (.inr (va_up (va_up (va_up (va_up (fun _ => none) 0 (some (g 27))) 1 (some (g 29))) 2 (some (g 31))) 3 (some (g 33)))))))), (g 27, .inr (5, [.int 0, .int 0, .int 0, .ref (g 28)])), (g 29, .inr (5, [.int 0, .int 0, .int 0, .ref (g 30)])), (g 31, .inr (5, [.int 0, .int 0, .int 0, .ref (g 32)])), (g 33, .inr (5, [.int 0, .int 0, .int 0, .ref (g 34)]))]) (w1 := []) hP hD [] [0, 1, 2, 3, 4, 5] rfl rfl (by decide) (by decide) hk1 hFc hP1 hD1
      generalize H1 = H at hP hS ⊢
      have hP : va_P D clz [(g 0, .inr (8, xF g)), (g 26, .inl (cy 5, 4, .inr (.inr (.inr (.inr (va_up (va_up (va_up (va_up (fun _ => none) 0 (some (g 27))) 1 (some (g 29))) 2 (some (g 31))) 3 (some (g 33)))))))), (g 27, .inr (5, [.int 0, .int 0, .int 0, .ref (g 28)])), (g 29, .inr (5, [.int 0, .int 0, .int 0, .ref (g 30)])), (g 31, .inr (5, [.int 0, .int 0, .int 0, .ref (g 32)])), (g 33, .inr (5, [.int 0, .int 0, .int 0, .ref (g 34)]))] H := hP
      have hD : va_D A [(g 0, .inr (8, xF g)), (g 26, .inl (cy 5, 4, .inr (.inr (.inr (.inr (va_up (va_up (va_up (va_up (fun _ => none) 0 (some (g 27))) 1 (some (g 29))) 2 (some (g 31))) 3 (some (g 33)))))))), (g 27, .inr (5, [.int 0, .int 0, .int 0, .ref (g 28)])), (g 29, .inr (5, [.int 0, .int 0, .int 0, .ref (g 30)])), (g 31, .inr (5, [.int 0, .int 0, .int 0, .ref (g 32)])), (g 33, .inr (5, [.int 0, .int 0, .int 0, .ref (g 34)]))] := hD
      by_cases hc_62 : ((0 : Int32) ≤ (2 : Int32) ∧ (2 : Int32) ≤ (3 : Int32))
      ·
        rw [if_pos hc_62] at hw
        subst hw
        refine lv_if_eq (tgt := 14) hx hb dX8_paste_4 (by decide) (fun c9 => absurd c9 (by decide)) (fun _ => ?_)
        refine lv_iload_n hx hb dX8_paste_7 rfl (lv_at hl 3 rfl) ?_
        have hPc := hP.sub (ws' := []) [] rfl
        have hDc := hD.sub (ws' := []) [] (by decide) rfl
        have hFc := va_free (wc := []) hD hS hA [] rfl
        refine va_calli (va_runS (As := [.int p3]) (rest := []) ⟨hx, hb, hml, hown, hts⟩ (c_X8_isSlot l D cy p3 H.size) (va_cwS 1 hts (gd_S q1267 q1268 q125 q1269) rfl rfl rfl (by decide +kernel) ⟨Nat.le_of_ble_eq_true rfl, Nat.le_of_ble_eq_true rfl⟩) (pr_S hPc hK hDc) rfl rfl hl.1 rfl (lv_room (Nat.le_of_ble_eq_true rfl)) dX8_paste_8 ⟨Nat.le_of_ble_eq_true rfl, Nat.le_of_ble_eq_true rfl⟩) hS (fun q _ h => hFc q h) hFc (fun r_63 u tS H1 locs ht hvm hw hB hz1 hk1 hS => ?_)
        obtain ⟨hP1, hK1, hD1⟩ := hB
        rw [ht] at hP1
        try dsimp only at hw
        obtain ⟨hP, hD⟩ := va_join (wr := [(g 0, .inr (8, xF g)), (g 26, .inl (cy 5, 4, .inr (.inr (.inr (.inr (va_up (va_up (va_up (va_up (fun _ => none) 0 (some (g 27))) 1 (some (g 29))) 2 (some (g 31))) 3 (some (g 33)))))))), (g 27, .inr (5, [.int 0, .int 0, .int 0, .ref (g 28)])), (g 29, .inr (5, [.int 0, .int 0, .int 0, .ref (g 30)])), (g 31, .inr (5, [.int 0, .int 0, .int 0, .ref (g 32)])), (g 33, .inr (5, [.int 0, .int 0, .int 0, .ref (g 34)]))]) (w1 := []) hP hD [] [0, 1, 2, 3, 4, 5] rfl rfl (by decide) (by decide) hk1 hFc hP1 hD1
        generalize H1 = H at hP hS ⊢
        have hP : va_P D clz [(g 0, .inr (8, xF g)), (g 26, .inl (cy 5, 4, .inr (.inr (.inr (.inr (va_up (va_up (va_up (va_up (fun _ => none) 0 (some (g 27))) 1 (some (g 29))) 2 (some (g 31))) 3 (some (g 33)))))))), (g 27, .inr (5, [.int 0, .int 0, .int 0, .ref (g 28)])), (g 29, .inr (5, [.int 0, .int 0, .int 0, .ref (g 30)])), (g 31, .inr (5, [.int 0, .int 0, .int 0, .ref (g 32)])), (g 33, .inr (5, [.int 0, .int 0, .int 0, .ref (g 34)]))] H := hP
        have hD : va_D A [(g 0, .inr (8, xF g)), (g 26, .inl (cy 5, 4, .inr (.inr (.inr (.inr (va_up (va_up (va_up (va_up (fun _ => none) 0 (some (g 27))) 1 (some (g 29))) 2 (some (g 31))) 3 (some (g 33)))))))), (g 27, .inr (5, [.int 0, .int 0, .int 0, .ref (g 28)])), (g 29, .inr (5, [.int 0, .int 0, .int 0, .ref (g 30)])), (g 31, .inr (5, [.int 0, .int 0, .int 0, .ref (g 32)])), (g 33, .inr (5, [.int 0, .int 0, .int 0, .ref (g 34)]))] := hD
        by_cases hc_64 : ((0 : Int32) ≤ p3 ∧ p3 ≤ (3 : Int32))
        ·
          rw [if_pos hc_64] at hw
          subst hw
          exact False.elim (by have f0 := hs_44; have f1 := bp32 hc_62; have f2 := bp32 hc_64; have z320 : (0 : Int32).toInt = 0 := (by decide); have z322 : (2 : Int32).toInt = 2 := (by decide); have z323 : (3 : Int32).toInt = 3 := (by decide); omega)
        ·
          rw [if_neg hc_64] at hw
          subst hw
          refine lv_if_ne (tgt := 17) hx hb dX8_paste_11 (by decide) (fun c9 => absurd c9 (by decide)) (fun _ => ?_)
          refine lv_bipush (v := (-2)) hx hb dX8_paste_14 (by decide) ?_
          have hP9 := hP.sub (ws' := [(g 0, .inr (8, xF g)), (g 26, .inl (cy 5, 4, .inr (.inr (.inr (.inr (va_up (va_up (va_up (va_up (fun _ => none) 0 (some (g 27))) 1 (some (g 29))) 2 (some (g 31))) 3 (some (g 33)))))))), (g 27, .inr (5, [.int 0, .int 0, .int 0, .ref (g 28)])), (g 29, .inr (5, [.int 0, .int 0, .int 0, .ref (g 30)])), (g 31, .inr (5, [.int 0, .int 0, .int 0, .ref (g 32)])), (g 33, .inr (5, [.int 0, .int 0, .int 0, .ref (g 34)]))]) [0, 1, 2, 3, 4, 5] rfl
          have hD9 := hD.sub (ws' := [(g 0, .inr (8, xF g)), (g 26, .inl (cy 5, 4, .inr (.inr (.inr (.inr (va_up (va_up (va_up (va_up (fun _ => none) 0 (some (g 27))) 1 (some (g 29))) 2 (some (g 31))) 3 (some (g 33)))))))), (g 27, .inr (5, [.int 0, .int 0, .int 0, .ref (g 28)])), (g 29, .inr (5, [.int 0, .int 0, .int 0, .ref (g 30)])), (g 31, .inr (5, [.int 0, .int 0, .int 0, .ref (g 32)])), (g 33, .inr (5, [.int 0, .int 0, .int 0, .ref (g 34)]))]) [0, 1, 2, 3, 4, 5] (by decide) rfl
          exact W.iret (v := (-2)) hx hb hr (fun tS ht hW => ⟨⟨(-2), (), rfl, (by have f0 := hs_44; have f1 := bp32 hc_62; have f2 := bn32 hc_64; have z320 : (0 : Int32).toInt = 0 := (by decide); have z322 : (2 : Int32).toInt = 2 := (by decide); have z323 : (3 : Int32).toInt = 3 := (by decide); unfold sp_paste; (repeat' split) <;> first | rfl | (exfalso; omega)), by rw [ht]; exact hP9, va_K.moved hW.alike hK, hD9⟩, hS.F ht⟩) hS.2.2 dX8_paste_16
      ·
        rw [if_neg hc_62] at hw
        subst hw
        exact False.elim (by have f0 := hs_44; have f1 := bn32 hc_62; have z320 : (0 : Int32).toInt = 0 := (by decide); have z322 : (2 : Int32).toInt = 2 := (by decide); have z323 : (3 : Int32).toInt = 3 := (by decide); omega)
  ·
    rcases sp4 p3 with rfl | rfl | rfl | rfl | hs_65
    ·
      refine lv_iload_n hx hb dX8_paste_0 rfl (lv_at hl 1 rfl) ?_
      have hPc := hP.sub (ws' := []) [] rfl
      have hDc := hD.sub (ws' := []) [] (by decide) rfl
      have hFc := va_free (wc := []) hD hS hA [] rfl
      refine va_calli (va_runS (As := [.int 3]) (rest := []) ⟨hx, hb, hml, hown, hts⟩ (c_X8_isSlot l D cy 3 s.heap.size) (va_cwS 1 hts (gd_S q1267 q1268 q125 q1269) rfl rfl rfl (by decide +kernel) ⟨Nat.le_of_ble_eq_true rfl, Nat.le_of_ble_eq_true rfl⟩) (pr_S hPc hK hDc) rfl rfl hl.1 rfl (lv_room (Nat.le_of_ble_eq_true rfl)) dX8_paste_1 ⟨Nat.le_of_ble_eq_true rfl, Nat.le_of_ble_eq_true rfl⟩) hS (fun q _ h => hFc q h) hFc (fun r_66 u tS H1 locs ht hvm hw hB hz1 hk1 hS => ?_)
      obtain ⟨hP1, hK1, hD1⟩ := hB
      rw [ht] at hP1
      try dsimp only at hw
      obtain ⟨hP, hD⟩ := va_join (wr := [(g 0, .inr (8, xF g)), (g 26, .inl (cy 5, 4, .inr (.inr (.inr (.inr (va_up (va_up (va_up (va_up (fun _ => none) 0 (some (g 27))) 1 (some (g 29))) 2 (some (g 31))) 3 (some (g 33)))))))), (g 27, .inr (5, [.int 0, .int 0, .int 0, .ref (g 28)])), (g 29, .inr (5, [.int 0, .int 0, .int 0, .ref (g 30)])), (g 31, .inr (5, [.int 0, .int 0, .int 0, .ref (g 32)])), (g 33, .inr (5, [.int 0, .int 0, .int 0, .ref (g 34)]))]) (w1 := []) hP hD [] [0, 1, 2, 3, 4, 5] rfl rfl (by decide) (by decide) hk1 hFc hP1 hD1
      generalize H1 = H at hP hS ⊢
      have hP : va_P D clz [(g 0, .inr (8, xF g)), (g 26, .inl (cy 5, 4, .inr (.inr (.inr (.inr (va_up (va_up (va_up (va_up (fun _ => none) 0 (some (g 27))) 1 (some (g 29))) 2 (some (g 31))) 3 (some (g 33)))))))), (g 27, .inr (5, [.int 0, .int 0, .int 0, .ref (g 28)])), (g 29, .inr (5, [.int 0, .int 0, .int 0, .ref (g 30)])), (g 31, .inr (5, [.int 0, .int 0, .int 0, .ref (g 32)])), (g 33, .inr (5, [.int 0, .int 0, .int 0, .ref (g 34)]))] H := hP
      have hD : va_D A [(g 0, .inr (8, xF g)), (g 26, .inl (cy 5, 4, .inr (.inr (.inr (.inr (va_up (va_up (va_up (va_up (fun _ => none) 0 (some (g 27))) 1 (some (g 29))) 2 (some (g 31))) 3 (some (g 33)))))))), (g 27, .inr (5, [.int 0, .int 0, .int 0, .ref (g 28)])), (g 29, .inr (5, [.int 0, .int 0, .int 0, .ref (g 30)])), (g 31, .inr (5, [.int 0, .int 0, .int 0, .ref (g 32)])), (g 33, .inr (5, [.int 0, .int 0, .int 0, .ref (g 34)]))] := hD
      by_cases hc_67 : ((0 : Int32) ≤ (3 : Int32) ∧ (3 : Int32) ≤ (3 : Int32))
      ·
        rw [if_pos hc_67] at hw
        subst hw
        refine lv_if_eq (tgt := 14) hx hb dX8_paste_4 (by decide) (fun c9 => absurd c9 (by decide)) (fun _ => ?_)
        refine lv_iload_n hx hb dX8_paste_7 rfl (lv_at hl 3 rfl) ?_
        have hPc := hP.sub (ws' := []) [] rfl
        have hDc := hD.sub (ws' := []) [] (by decide) rfl
        have hFc := va_free (wc := []) hD hS hA [] rfl
        refine va_calli (va_runS (As := [.int 0]) (rest := []) ⟨hx, hb, hml, hown, hts⟩ (c_X8_isSlot l D cy 0 H.size) (va_cwS 1 hts (gd_S q1267 q1268 q125 q1269) rfl rfl rfl (by decide +kernel) ⟨Nat.le_of_ble_eq_true rfl, Nat.le_of_ble_eq_true rfl⟩) (pr_S hPc hK hDc) rfl rfl hl.1 rfl (lv_room (Nat.le_of_ble_eq_true rfl)) dX8_paste_8 ⟨Nat.le_of_ble_eq_true rfl, Nat.le_of_ble_eq_true rfl⟩) hS (fun q _ h => hFc q h) hFc (fun r_68 u tS H1 locs ht hvm hw hB hz1 hk1 hS => ?_)
        obtain ⟨hP1, hK1, hD1⟩ := hB
        rw [ht] at hP1
        try dsimp only at hw
        obtain ⟨hP, hD⟩ := va_join (wr := [(g 0, .inr (8, xF g)), (g 26, .inl (cy 5, 4, .inr (.inr (.inr (.inr (va_up (va_up (va_up (va_up (fun _ => none) 0 (some (g 27))) 1 (some (g 29))) 2 (some (g 31))) 3 (some (g 33)))))))), (g 27, .inr (5, [.int 0, .int 0, .int 0, .ref (g 28)])), (g 29, .inr (5, [.int 0, .int 0, .int 0, .ref (g 30)])), (g 31, .inr (5, [.int 0, .int 0, .int 0, .ref (g 32)])), (g 33, .inr (5, [.int 0, .int 0, .int 0, .ref (g 34)]))]) (w1 := []) hP hD [] [0, 1, 2, 3, 4, 5] rfl rfl (by decide) (by decide) hk1 hFc hP1 hD1
        generalize H1 = H at hP hS ⊢
        have hP : va_P D clz [(g 0, .inr (8, xF g)), (g 26, .inl (cy 5, 4, .inr (.inr (.inr (.inr (va_up (va_up (va_up (va_up (fun _ => none) 0 (some (g 27))) 1 (some (g 29))) 2 (some (g 31))) 3 (some (g 33)))))))), (g 27, .inr (5, [.int 0, .int 0, .int 0, .ref (g 28)])), (g 29, .inr (5, [.int 0, .int 0, .int 0, .ref (g 30)])), (g 31, .inr (5, [.int 0, .int 0, .int 0, .ref (g 32)])), (g 33, .inr (5, [.int 0, .int 0, .int 0, .ref (g 34)]))] H := hP
        have hD : va_D A [(g 0, .inr (8, xF g)), (g 26, .inl (cy 5, 4, .inr (.inr (.inr (.inr (va_up (va_up (va_up (va_up (fun _ => none) 0 (some (g 27))) 1 (some (g 29))) 2 (some (g 31))) 3 (some (g 33)))))))), (g 27, .inr (5, [.int 0, .int 0, .int 0, .ref (g 28)])), (g 29, .inr (5, [.int 0, .int 0, .int 0, .ref (g 30)])), (g 31, .inr (5, [.int 0, .int 0, .int 0, .ref (g 32)])), (g 33, .inr (5, [.int 0, .int 0, .int 0, .ref (g 34)]))] := hD
        by_cases hc_69 : ((0 : Int32) ≤ (0 : Int32) ∧ (0 : Int32) ≤ (3 : Int32))
        ·
          rw [if_pos hc_69] at hw
          subst hw
          refine lv_if_ne (tgt := 17) hx hb dX8_paste_11 (by decide) (fun _ => ?_) (fun c9 => absurd c9 (by decide))
          refine lv_aload_n hx hb dX8_paste_17 rfl (lv_at hl 0 rfl) ?_
          refine va_get (D := D) (ci := 8) (v := .ref (g 26)) (C := RX8) (T := TX8) (N := 12) hx hb hts iX8 hown hK hP 0 rfl rfl 5 (by decide) (hts _ q439) (fun _ h9 => h9) rfl dX8_paste_18 ?_
          refine lv_iload_n hx hb dX8_paste_21 rfl (lv_at hl 1 rfl) ?_
          refine va_aldq hx hb hK hP 1 5 rfl rfl (vpi (by decide)) dX8_paste_22 ?_
          refine W.eq (g2 := F0 m 23 ls [.ref (g 33)]) rfl ?_
          refine lv_astore (lv' := [(6, .ref (g 33)), (0, .ref (g 0)), (1, .int 3), (2, .int p2), (3, .int 0), (4, .int p4), (5, .int p5)]) hx hb dX8_paste_23 hl (by decide) rfl (fun ls hl => ?_)
          refine lv_aload_n hx hb dX8_paste_25 rfl (lv_at hl 1 rfl) ?_
          refine va_get (D := D) (ci := 8) (v := .ref (g 26)) (C := RX8) (T := TX8) (N := 12) hx hb hts iX8 hown hK hP 0 rfl rfl 5 (by decide) (hts _ q439) (fun _ h9 => h9) rfl dX8_paste_26 ?_
          refine lv_iload_n hx hb dX8_paste_29 rfl (lv_at hl 4 rfl) ?_
          refine va_aldq hx hb hK hP 1 5 rfl rfl (vpi (by decide)) dX8_paste_30 ?_
          refine W.eq (g2 := F0 m 31 ls [.ref (g 27)]) rfl ?_
          refine lv_astore (lv' := [(7, .ref (g 27)), (6, .ref (g 33)), (0, .ref (g 0)), (1, .int 3), (2, .int p2), (3, .int 0), (4, .int p4), (5, .int p5)]) hx hb dX8_paste_31 hl (by decide) rfl (fun ls hl => ?_)
          refine lv_aload hx hb dX8_paste_33 (lv_at hl 1 rfl) ?_
          refine va_get (D := D) (ci := 5) (v := .int 0) (C := RX5) (T := TX5) (N := 4) hx hb hts iX5 hown hK hP 5 rfl rfl 0 (by decide) (hts _ q417) (fun _ h9 => h9) rfl dX8_paste_35 ?_
          refine lv_if_eq (tgt := 49) hx hb dX8_paste_38 (by decide) (fun _ => ?_) (fun c9 => absurd c9 (by decide))
          refine lv_bipush (v := (-6)) hx hb dX8_paste_49 (by decide) ?_
          have hP9 := hP.sub (ws' := [(g 0, .inr (8, xF g)), (g 26, .inl (cy 5, 4, .inr (.inr (.inr (.inr (va_up (va_up (va_up (va_up (fun _ => none) 0 (some (g 27))) 1 (some (g 29))) 2 (some (g 31))) 3 (some (g 33)))))))), (g 27, .inr (5, [.int 0, .int 0, .int 0, .ref (g 28)])), (g 29, .inr (5, [.int 0, .int 0, .int 0, .ref (g 30)])), (g 31, .inr (5, [.int 0, .int 0, .int 0, .ref (g 32)])), (g 33, .inr (5, [.int 0, .int 0, .int 0, .ref (g 34)]))]) [0, 1, 2, 3, 4, 5] rfl
          have hD9 := hD.sub (ws' := [(g 0, .inr (8, xF g)), (g 26, .inl (cy 5, 4, .inr (.inr (.inr (.inr (va_up (va_up (va_up (va_up (fun _ => none) 0 (some (g 27))) 1 (some (g 29))) 2 (some (g 31))) 3 (some (g 33)))))))), (g 27, .inr (5, [.int 0, .int 0, .int 0, .ref (g 28)])), (g 29, .inr (5, [.int 0, .int 0, .int 0, .ref (g 30)])), (g 31, .inr (5, [.int 0, .int 0, .int 0, .ref (g 32)])), (g 33, .inr (5, [.int 0, .int 0, .int 0, .ref (g 34)]))]) [0, 1, 2, 3, 4, 5] (by decide) rfl
          exact W.iret (v := (-6)) hx hb hr (fun tS ht hW => ⟨⟨(-6), (), rfl, (by have f0 := bp32 hc_67; have f1 := bp32 hc_69; have z320 : (0 : Int32).toInt = 0 := (by decide); have z323 : (3 : Int32).toInt = 3 := (by decide); unfold sp_paste; (repeat' split) <;> first | rfl | (exfalso; omega)), by rw [ht]; exact hP9, va_K.moved hW.alike hK, hD9⟩, hS.F ht⟩) hS.2.2 dX8_paste_51
        ·
          rw [if_neg hc_69] at hw
          subst hw
          exact False.elim (by have f0 := bp32 hc_67; have f1 := bn32 hc_69; have z320 : (0 : Int32).toInt = 0 := (by decide); have z323 : (3 : Int32).toInt = 3 := (by decide); omega)
      ·
        rw [if_neg hc_67] at hw
        subst hw
        exact False.elim (by have f0 := bn32 hc_67; have z320 : (0 : Int32).toInt = 0 := (by decide); have z323 : (3 : Int32).toInt = 3 := (by decide); omega)
    ·
      refine lv_iload_n hx hb dX8_paste_0 rfl (lv_at hl 1 rfl) ?_
      have hPc := hP.sub (ws' := []) [] rfl
      have hDc := hD.sub (ws' := []) [] (by decide) rfl
      have hFc := va_free (wc := []) hD hS hA [] rfl
      refine va_calli (va_runS (As := [.int 3]) (rest := []) ⟨hx, hb, hml, hown, hts⟩ (c_X8_isSlot l D cy 3 s.heap.size) (va_cwS 1 hts (gd_S q1267 q1268 q125 q1269) rfl rfl rfl (by decide +kernel) ⟨Nat.le_of_ble_eq_true rfl, Nat.le_of_ble_eq_true rfl⟩) (pr_S hPc hK hDc) rfl rfl hl.1 rfl (lv_room (Nat.le_of_ble_eq_true rfl)) dX8_paste_1 ⟨Nat.le_of_ble_eq_true rfl, Nat.le_of_ble_eq_true rfl⟩) hS (fun q _ h => hFc q h) hFc (fun r_70 u tS H1 locs ht hvm hw hB hz1 hk1 hS => ?_)
      obtain ⟨hP1, hK1, hD1⟩ := hB
      rw [ht] at hP1
      try dsimp only at hw
      obtain ⟨hP, hD⟩ := va_join (wr := [(g 0, .inr (8, xF g)), (g 26, .inl (cy 5, 4, .inr (.inr (.inr (.inr (va_up (va_up (va_up (va_up (fun _ => none) 0 (some (g 27))) 1 (some (g 29))) 2 (some (g 31))) 3 (some (g 33)))))))), (g 27, .inr (5, [.int 0, .int 0, .int 0, .ref (g 28)])), (g 29, .inr (5, [.int 0, .int 0, .int 0, .ref (g 30)])), (g 31, .inr (5, [.int 0, .int 0, .int 0, .ref (g 32)])), (g 33, .inr (5, [.int 0, .int 0, .int 0, .ref (g 34)]))]) (w1 := []) hP hD [] [0, 1, 2, 3, 4, 5] rfl rfl (by decide) (by decide) hk1 hFc hP1 hD1
      generalize H1 = H at hP hS ⊢
      have hP : va_P D clz [(g 0, .inr (8, xF g)), (g 26, .inl (cy 5, 4, .inr (.inr (.inr (.inr (va_up (va_up (va_up (va_up (fun _ => none) 0 (some (g 27))) 1 (some (g 29))) 2 (some (g 31))) 3 (some (g 33)))))))), (g 27, .inr (5, [.int 0, .int 0, .int 0, .ref (g 28)])), (g 29, .inr (5, [.int 0, .int 0, .int 0, .ref (g 30)])), (g 31, .inr (5, [.int 0, .int 0, .int 0, .ref (g 32)])), (g 33, .inr (5, [.int 0, .int 0, .int 0, .ref (g 34)]))] H := hP
      have hD : va_D A [(g 0, .inr (8, xF g)), (g 26, .inl (cy 5, 4, .inr (.inr (.inr (.inr (va_up (va_up (va_up (va_up (fun _ => none) 0 (some (g 27))) 1 (some (g 29))) 2 (some (g 31))) 3 (some (g 33)))))))), (g 27, .inr (5, [.int 0, .int 0, .int 0, .ref (g 28)])), (g 29, .inr (5, [.int 0, .int 0, .int 0, .ref (g 30)])), (g 31, .inr (5, [.int 0, .int 0, .int 0, .ref (g 32)])), (g 33, .inr (5, [.int 0, .int 0, .int 0, .ref (g 34)]))] := hD
      by_cases hc_71 : ((0 : Int32) ≤ (3 : Int32) ∧ (3 : Int32) ≤ (3 : Int32))
      ·
        rw [if_pos hc_71] at hw
        subst hw
        refine lv_if_eq (tgt := 14) hx hb dX8_paste_4 (by decide) (fun c9 => absurd c9 (by decide)) (fun _ => ?_)
        refine lv_iload_n hx hb dX8_paste_7 rfl (lv_at hl 3 rfl) ?_
        have hPc := hP.sub (ws' := []) [] rfl
        have hDc := hD.sub (ws' := []) [] (by decide) rfl
        have hFc := va_free (wc := []) hD hS hA [] rfl
        refine va_calli (va_runS (As := [.int 1]) (rest := []) ⟨hx, hb, hml, hown, hts⟩ (c_X8_isSlot l D cy 1 H.size) (va_cwS 1 hts (gd_S q1267 q1268 q125 q1269) rfl rfl rfl (by decide +kernel) ⟨Nat.le_of_ble_eq_true rfl, Nat.le_of_ble_eq_true rfl⟩) (pr_S hPc hK hDc) rfl rfl hl.1 rfl (lv_room (Nat.le_of_ble_eq_true rfl)) dX8_paste_8 ⟨Nat.le_of_ble_eq_true rfl, Nat.le_of_ble_eq_true rfl⟩) hS (fun q _ h => hFc q h) hFc (fun r_72 u tS H1 locs ht hvm hw hB hz1 hk1 hS => ?_)
        obtain ⟨hP1, hK1, hD1⟩ := hB
        rw [ht] at hP1
        try dsimp only at hw
        obtain ⟨hP, hD⟩ := va_join (wr := [(g 0, .inr (8, xF g)), (g 26, .inl (cy 5, 4, .inr (.inr (.inr (.inr (va_up (va_up (va_up (va_up (fun _ => none) 0 (some (g 27))) 1 (some (g 29))) 2 (some (g 31))) 3 (some (g 33)))))))), (g 27, .inr (5, [.int 0, .int 0, .int 0, .ref (g 28)])), (g 29, .inr (5, [.int 0, .int 0, .int 0, .ref (g 30)])), (g 31, .inr (5, [.int 0, .int 0, .int 0, .ref (g 32)])), (g 33, .inr (5, [.int 0, .int 0, .int 0, .ref (g 34)]))]) (w1 := []) hP hD [] [0, 1, 2, 3, 4, 5] rfl rfl (by decide) (by decide) hk1 hFc hP1 hD1
        generalize H1 = H at hP hS ⊢
        have hP : va_P D clz [(g 0, .inr (8, xF g)), (g 26, .inl (cy 5, 4, .inr (.inr (.inr (.inr (va_up (va_up (va_up (va_up (fun _ => none) 0 (some (g 27))) 1 (some (g 29))) 2 (some (g 31))) 3 (some (g 33)))))))), (g 27, .inr (5, [.int 0, .int 0, .int 0, .ref (g 28)])), (g 29, .inr (5, [.int 0, .int 0, .int 0, .ref (g 30)])), (g 31, .inr (5, [.int 0, .int 0, .int 0, .ref (g 32)])), (g 33, .inr (5, [.int 0, .int 0, .int 0, .ref (g 34)]))] H := hP
        have hD : va_D A [(g 0, .inr (8, xF g)), (g 26, .inl (cy 5, 4, .inr (.inr (.inr (.inr (va_up (va_up (va_up (va_up (fun _ => none) 0 (some (g 27))) 1 (some (g 29))) 2 (some (g 31))) 3 (some (g 33)))))))), (g 27, .inr (5, [.int 0, .int 0, .int 0, .ref (g 28)])), (g 29, .inr (5, [.int 0, .int 0, .int 0, .ref (g 30)])), (g 31, .inr (5, [.int 0, .int 0, .int 0, .ref (g 32)])), (g 33, .inr (5, [.int 0, .int 0, .int 0, .ref (g 34)]))] := hD
        by_cases hc_73 : ((0 : Int32) ≤ (1 : Int32) ∧ (1 : Int32) ≤ (3 : Int32))
        ·
          rw [if_pos hc_73] at hw
          subst hw
          refine lv_if_ne (tgt := 17) hx hb dX8_paste_11 (by decide) (fun _ => ?_) (fun c9 => absurd c9 (by decide))
          refine lv_aload_n hx hb dX8_paste_17 rfl (lv_at hl 0 rfl) ?_
          refine va_get (D := D) (ci := 8) (v := .ref (g 26)) (C := RX8) (T := TX8) (N := 12) hx hb hts iX8 hown hK hP 0 rfl rfl 5 (by decide) (hts _ q439) (fun _ h9 => h9) rfl dX8_paste_18 ?_
          refine lv_iload_n hx hb dX8_paste_21 rfl (lv_at hl 1 rfl) ?_
          refine va_aldq hx hb hK hP 1 5 rfl rfl (vpi (by decide)) dX8_paste_22 ?_
          refine W.eq (g2 := F0 m 23 ls [.ref (g 33)]) rfl ?_
          refine lv_astore (lv' := [(6, .ref (g 33)), (0, .ref (g 0)), (1, .int 3), (2, .int p2), (3, .int 1), (4, .int p4), (5, .int p5)]) hx hb dX8_paste_23 hl (by decide) rfl (fun ls hl => ?_)
          refine lv_aload_n hx hb dX8_paste_25 rfl (lv_at hl 1 rfl) ?_
          refine va_get (D := D) (ci := 8) (v := .ref (g 26)) (C := RX8) (T := TX8) (N := 12) hx hb hts iX8 hown hK hP 0 rfl rfl 5 (by decide) (hts _ q439) (fun _ h9 => h9) rfl dX8_paste_26 ?_
          refine lv_iload_n hx hb dX8_paste_29 rfl (lv_at hl 4 rfl) ?_
          refine va_aldq hx hb hK hP 1 5 rfl rfl (vpi (by decide)) dX8_paste_30 ?_
          refine W.eq (g2 := F0 m 31 ls [.ref (g 29)]) rfl ?_
          refine lv_astore (lv' := [(7, .ref (g 29)), (6, .ref (g 33)), (0, .ref (g 0)), (1, .int 3), (2, .int p2), (3, .int 1), (4, .int p4), (5, .int p5)]) hx hb dX8_paste_31 hl (by decide) rfl (fun ls hl => ?_)
          refine lv_aload hx hb dX8_paste_33 (lv_at hl 1 rfl) ?_
          refine va_get (D := D) (ci := 5) (v := .int 0) (C := RX5) (T := TX5) (N := 4) hx hb hts iX5 hown hK hP 5 rfl rfl 0 (by decide) (hts _ q417) (fun _ h9 => h9) rfl dX8_paste_35 ?_
          refine lv_if_eq (tgt := 49) hx hb dX8_paste_38 (by decide) (fun _ => ?_) (fun c9 => absurd c9 (by decide))
          refine lv_bipush (v := (-6)) hx hb dX8_paste_49 (by decide) ?_
          have hP9 := hP.sub (ws' := [(g 0, .inr (8, xF g)), (g 26, .inl (cy 5, 4, .inr (.inr (.inr (.inr (va_up (va_up (va_up (va_up (fun _ => none) 0 (some (g 27))) 1 (some (g 29))) 2 (some (g 31))) 3 (some (g 33)))))))), (g 27, .inr (5, [.int 0, .int 0, .int 0, .ref (g 28)])), (g 29, .inr (5, [.int 0, .int 0, .int 0, .ref (g 30)])), (g 31, .inr (5, [.int 0, .int 0, .int 0, .ref (g 32)])), (g 33, .inr (5, [.int 0, .int 0, .int 0, .ref (g 34)]))]) [0, 1, 2, 3, 4, 5] rfl
          have hD9 := hD.sub (ws' := [(g 0, .inr (8, xF g)), (g 26, .inl (cy 5, 4, .inr (.inr (.inr (.inr (va_up (va_up (va_up (va_up (fun _ => none) 0 (some (g 27))) 1 (some (g 29))) 2 (some (g 31))) 3 (some (g 33)))))))), (g 27, .inr (5, [.int 0, .int 0, .int 0, .ref (g 28)])), (g 29, .inr (5, [.int 0, .int 0, .int 0, .ref (g 30)])), (g 31, .inr (5, [.int 0, .int 0, .int 0, .ref (g 32)])), (g 33, .inr (5, [.int 0, .int 0, .int 0, .ref (g 34)]))]) [0, 1, 2, 3, 4, 5] (by decide) rfl
          exact W.iret (v := (-6)) hx hb hr (fun tS ht hW => ⟨⟨(-6), (), rfl, (by have f0 := bp32 hc_71; have f1 := bp32 hc_73; have z320 : (0 : Int32).toInt = 0 := (by decide); have z321 : (1 : Int32).toInt = 1 := (by decide); have z323 : (3 : Int32).toInt = 3 := (by decide); unfold sp_paste; (repeat' split) <;> first | rfl | (exfalso; omega)), by rw [ht]; exact hP9, va_K.moved hW.alike hK, hD9⟩, hS.F ht⟩) hS.2.2 dX8_paste_51
        ·
          rw [if_neg hc_73] at hw
          subst hw
          exact False.elim (by have f0 := bp32 hc_71; have f1 := bn32 hc_73; have z320 : (0 : Int32).toInt = 0 := (by decide); have z321 : (1 : Int32).toInt = 1 := (by decide); have z323 : (3 : Int32).toInt = 3 := (by decide); omega)
      ·
        rw [if_neg hc_71] at hw
        subst hw
        exact False.elim (by have f0 := bn32 hc_71; have z320 : (0 : Int32).toInt = 0 := (by decide); have z323 : (3 : Int32).toInt = 3 := (by decide); omega)
    ·
      refine lv_iload_n hx hb dX8_paste_0 rfl (lv_at hl 1 rfl) ?_
      have hPc := hP.sub (ws' := []) [] rfl
      have hDc := hD.sub (ws' := []) [] (by decide) rfl
      have hFc := va_free (wc := []) hD hS hA [] rfl
      refine va_calli (va_runS (As := [.int 3]) (rest := []) ⟨hx, hb, hml, hown, hts⟩ (c_X8_isSlot l D cy 3 s.heap.size) (va_cwS 1 hts (gd_S q1267 q1268 q125 q1269) rfl rfl rfl (by decide +kernel) ⟨Nat.le_of_ble_eq_true rfl, Nat.le_of_ble_eq_true rfl⟩) (pr_S hPc hK hDc) rfl rfl hl.1 rfl (lv_room (Nat.le_of_ble_eq_true rfl)) dX8_paste_1 ⟨Nat.le_of_ble_eq_true rfl, Nat.le_of_ble_eq_true rfl⟩) hS (fun q _ h => hFc q h) hFc (fun r_74 u tS H1 locs ht hvm hw hB hz1 hk1 hS => ?_)
      obtain ⟨hP1, hK1, hD1⟩ := hB
      rw [ht] at hP1
      try dsimp only at hw
      obtain ⟨hP, hD⟩ := va_join (wr := [(g 0, .inr (8, xF g)), (g 26, .inl (cy 5, 4, .inr (.inr (.inr (.inr (va_up (va_up (va_up (va_up (fun _ => none) 0 (some (g 27))) 1 (some (g 29))) 2 (some (g 31))) 3 (some (g 33)))))))), (g 27, .inr (5, [.int 0, .int 0, .int 0, .ref (g 28)])), (g 29, .inr (5, [.int 0, .int 0, .int 0, .ref (g 30)])), (g 31, .inr (5, [.int 0, .int 0, .int 0, .ref (g 32)])), (g 33, .inr (5, [.int 0, .int 0, .int 0, .ref (g 34)]))]) (w1 := []) hP hD [] [0, 1, 2, 3, 4, 5] rfl rfl (by decide) (by decide) hk1 hFc hP1 hD1
      generalize H1 = H at hP hS ⊢
      have hP : va_P D clz [(g 0, .inr (8, xF g)), (g 26, .inl (cy 5, 4, .inr (.inr (.inr (.inr (va_up (va_up (va_up (va_up (fun _ => none) 0 (some (g 27))) 1 (some (g 29))) 2 (some (g 31))) 3 (some (g 33)))))))), (g 27, .inr (5, [.int 0, .int 0, .int 0, .ref (g 28)])), (g 29, .inr (5, [.int 0, .int 0, .int 0, .ref (g 30)])), (g 31, .inr (5, [.int 0, .int 0, .int 0, .ref (g 32)])), (g 33, .inr (5, [.int 0, .int 0, .int 0, .ref (g 34)]))] H := hP
      have hD : va_D A [(g 0, .inr (8, xF g)), (g 26, .inl (cy 5, 4, .inr (.inr (.inr (.inr (va_up (va_up (va_up (va_up (fun _ => none) 0 (some (g 27))) 1 (some (g 29))) 2 (some (g 31))) 3 (some (g 33)))))))), (g 27, .inr (5, [.int 0, .int 0, .int 0, .ref (g 28)])), (g 29, .inr (5, [.int 0, .int 0, .int 0, .ref (g 30)])), (g 31, .inr (5, [.int 0, .int 0, .int 0, .ref (g 32)])), (g 33, .inr (5, [.int 0, .int 0, .int 0, .ref (g 34)]))] := hD
      by_cases hc_75 : ((0 : Int32) ≤ (3 : Int32) ∧ (3 : Int32) ≤ (3 : Int32))
      ·
        rw [if_pos hc_75] at hw
        subst hw
        refine lv_if_eq (tgt := 14) hx hb dX8_paste_4 (by decide) (fun c9 => absurd c9 (by decide)) (fun _ => ?_)
        refine lv_iload_n hx hb dX8_paste_7 rfl (lv_at hl 3 rfl) ?_
        have hPc := hP.sub (ws' := []) [] rfl
        have hDc := hD.sub (ws' := []) [] (by decide) rfl
        have hFc := va_free (wc := []) hD hS hA [] rfl
        refine va_calli (va_runS (As := [.int 2]) (rest := []) ⟨hx, hb, hml, hown, hts⟩ (c_X8_isSlot l D cy 2 H.size) (va_cwS 1 hts (gd_S q1267 q1268 q125 q1269) rfl rfl rfl (by decide +kernel) ⟨Nat.le_of_ble_eq_true rfl, Nat.le_of_ble_eq_true rfl⟩) (pr_S hPc hK hDc) rfl rfl hl.1 rfl (lv_room (Nat.le_of_ble_eq_true rfl)) dX8_paste_8 ⟨Nat.le_of_ble_eq_true rfl, Nat.le_of_ble_eq_true rfl⟩) hS (fun q _ h => hFc q h) hFc (fun r_76 u tS H1 locs ht hvm hw hB hz1 hk1 hS => ?_)
        obtain ⟨hP1, hK1, hD1⟩ := hB
        rw [ht] at hP1
        try dsimp only at hw
        obtain ⟨hP, hD⟩ := va_join (wr := [(g 0, .inr (8, xF g)), (g 26, .inl (cy 5, 4, .inr (.inr (.inr (.inr (va_up (va_up (va_up (va_up (fun _ => none) 0 (some (g 27))) 1 (some (g 29))) 2 (some (g 31))) 3 (some (g 33)))))))), (g 27, .inr (5, [.int 0, .int 0, .int 0, .ref (g 28)])), (g 29, .inr (5, [.int 0, .int 0, .int 0, .ref (g 30)])), (g 31, .inr (5, [.int 0, .int 0, .int 0, .ref (g 32)])), (g 33, .inr (5, [.int 0, .int 0, .int 0, .ref (g 34)]))]) (w1 := []) hP hD [] [0, 1, 2, 3, 4, 5] rfl rfl (by decide) (by decide) hk1 hFc hP1 hD1
        generalize H1 = H at hP hS ⊢
        have hP : va_P D clz [(g 0, .inr (8, xF g)), (g 26, .inl (cy 5, 4, .inr (.inr (.inr (.inr (va_up (va_up (va_up (va_up (fun _ => none) 0 (some (g 27))) 1 (some (g 29))) 2 (some (g 31))) 3 (some (g 33)))))))), (g 27, .inr (5, [.int 0, .int 0, .int 0, .ref (g 28)])), (g 29, .inr (5, [.int 0, .int 0, .int 0, .ref (g 30)])), (g 31, .inr (5, [.int 0, .int 0, .int 0, .ref (g 32)])), (g 33, .inr (5, [.int 0, .int 0, .int 0, .ref (g 34)]))] H := hP
        have hD : va_D A [(g 0, .inr (8, xF g)), (g 26, .inl (cy 5, 4, .inr (.inr (.inr (.inr (va_up (va_up (va_up (va_up (fun _ => none) 0 (some (g 27))) 1 (some (g 29))) 2 (some (g 31))) 3 (some (g 33)))))))), (g 27, .inr (5, [.int 0, .int 0, .int 0, .ref (g 28)])), (g 29, .inr (5, [.int 0, .int 0, .int 0, .ref (g 30)])), (g 31, .inr (5, [.int 0, .int 0, .int 0, .ref (g 32)])), (g 33, .inr (5, [.int 0, .int 0, .int 0, .ref (g 34)]))] := hD
        by_cases hc_77 : ((0 : Int32) ≤ (2 : Int32) ∧ (2 : Int32) ≤ (3 : Int32))
        ·
          rw [if_pos hc_77] at hw
          subst hw
          refine lv_if_ne (tgt := 17) hx hb dX8_paste_11 (by decide) (fun _ => ?_) (fun c9 => absurd c9 (by decide))
          refine lv_aload_n hx hb dX8_paste_17 rfl (lv_at hl 0 rfl) ?_
          refine va_get (D := D) (ci := 8) (v := .ref (g 26)) (C := RX8) (T := TX8) (N := 12) hx hb hts iX8 hown hK hP 0 rfl rfl 5 (by decide) (hts _ q439) (fun _ h9 => h9) rfl dX8_paste_18 ?_
          refine lv_iload_n hx hb dX8_paste_21 rfl (lv_at hl 1 rfl) ?_
          refine va_aldq hx hb hK hP 1 5 rfl rfl (vpi (by decide)) dX8_paste_22 ?_
          refine W.eq (g2 := F0 m 23 ls [.ref (g 33)]) rfl ?_
          refine lv_astore (lv' := [(6, .ref (g 33)), (0, .ref (g 0)), (1, .int 3), (2, .int p2), (3, .int 2), (4, .int p4), (5, .int p5)]) hx hb dX8_paste_23 hl (by decide) rfl (fun ls hl => ?_)
          refine lv_aload_n hx hb dX8_paste_25 rfl (lv_at hl 1 rfl) ?_
          refine va_get (D := D) (ci := 8) (v := .ref (g 26)) (C := RX8) (T := TX8) (N := 12) hx hb hts iX8 hown hK hP 0 rfl rfl 5 (by decide) (hts _ q439) (fun _ h9 => h9) rfl dX8_paste_26 ?_
          refine lv_iload_n hx hb dX8_paste_29 rfl (lv_at hl 4 rfl) ?_
          refine va_aldq hx hb hK hP 1 5 rfl rfl (vpi (by decide)) dX8_paste_30 ?_
          refine W.eq (g2 := F0 m 31 ls [.ref (g 31)]) rfl ?_
          refine lv_astore (lv' := [(7, .ref (g 31)), (6, .ref (g 33)), (0, .ref (g 0)), (1, .int 3), (2, .int p2), (3, .int 2), (4, .int p4), (5, .int p5)]) hx hb dX8_paste_31 hl (by decide) rfl (fun ls hl => ?_)
          refine lv_aload hx hb dX8_paste_33 (lv_at hl 1 rfl) ?_
          refine va_get (D := D) (ci := 5) (v := .int 0) (C := RX5) (T := TX5) (N := 4) hx hb hts iX5 hown hK hP 5 rfl rfl 0 (by decide) (hts _ q417) (fun _ h9 => h9) rfl dX8_paste_35 ?_
          refine lv_if_eq (tgt := 49) hx hb dX8_paste_38 (by decide) (fun _ => ?_) (fun c9 => absurd c9 (by decide))
          refine lv_bipush (v := (-6)) hx hb dX8_paste_49 (by decide) ?_
          have hP9 := hP.sub (ws' := [(g 0, .inr (8, xF g)), (g 26, .inl (cy 5, 4, .inr (.inr (.inr (.inr (va_up (va_up (va_up (va_up (fun _ => none) 0 (some (g 27))) 1 (some (g 29))) 2 (some (g 31))) 3 (some (g 33)))))))), (g 27, .inr (5, [.int 0, .int 0, .int 0, .ref (g 28)])), (g 29, .inr (5, [.int 0, .int 0, .int 0, .ref (g 30)])), (g 31, .inr (5, [.int 0, .int 0, .int 0, .ref (g 32)])), (g 33, .inr (5, [.int 0, .int 0, .int 0, .ref (g 34)]))]) [0, 1, 2, 3, 4, 5] rfl
          have hD9 := hD.sub (ws' := [(g 0, .inr (8, xF g)), (g 26, .inl (cy 5, 4, .inr (.inr (.inr (.inr (va_up (va_up (va_up (va_up (fun _ => none) 0 (some (g 27))) 1 (some (g 29))) 2 (some (g 31))) 3 (some (g 33)))))))), (g 27, .inr (5, [.int 0, .int 0, .int 0, .ref (g 28)])), (g 29, .inr (5, [.int 0, .int 0, .int 0, .ref (g 30)])), (g 31, .inr (5, [.int 0, .int 0, .int 0, .ref (g 32)])), (g 33, .inr (5, [.int 0, .int 0, .int 0, .ref (g 34)]))]) [0, 1, 2, 3, 4, 5] (by decide) rfl
          exact W.iret (v := (-6)) hx hb hr (fun tS ht hW => ⟨⟨(-6), (), rfl, (by have f0 := bp32 hc_75; have f1 := bp32 hc_77; have z320 : (0 : Int32).toInt = 0 := (by decide); have z322 : (2 : Int32).toInt = 2 := (by decide); have z323 : (3 : Int32).toInt = 3 := (by decide); unfold sp_paste; (repeat' split) <;> first | rfl | (exfalso; omega)), by rw [ht]; exact hP9, va_K.moved hW.alike hK, hD9⟩, hS.F ht⟩) hS.2.2 dX8_paste_51
        ·
          rw [if_neg hc_77] at hw
          subst hw
          exact False.elim (by have f0 := bp32 hc_75; have f1 := bn32 hc_77; have z320 : (0 : Int32).toInt = 0 := (by decide); have z322 : (2 : Int32).toInt = 2 := (by decide); have z323 : (3 : Int32).toInt = 3 := (by decide); omega)
      ·
        rw [if_neg hc_75] at hw
        subst hw
        exact False.elim (by have f0 := bn32 hc_75; have z320 : (0 : Int32).toInt = 0 := (by decide); have z323 : (3 : Int32).toInt = 3 := (by decide); omega)
    ·
      refine lv_iload_n hx hb dX8_paste_0 rfl (lv_at hl 1 rfl) ?_
      have hPc := hP.sub (ws' := []) [] rfl
      have hDc := hD.sub (ws' := []) [] (by decide) rfl
      have hFc := va_free (wc := []) hD hS hA [] rfl
      refine va_calli (va_runS (As := [.int 3]) (rest := []) ⟨hx, hb, hml, hown, hts⟩ (c_X8_isSlot l D cy 3 s.heap.size) (va_cwS 1 hts (gd_S q1267 q1268 q125 q1269) rfl rfl rfl (by decide +kernel) ⟨Nat.le_of_ble_eq_true rfl, Nat.le_of_ble_eq_true rfl⟩) (pr_S hPc hK hDc) rfl rfl hl.1 rfl (lv_room (Nat.le_of_ble_eq_true rfl)) dX8_paste_1 ⟨Nat.le_of_ble_eq_true rfl, Nat.le_of_ble_eq_true rfl⟩) hS (fun q _ h => hFc q h) hFc (fun r_78 u tS H1 locs ht hvm hw hB hz1 hk1 hS => ?_)
      obtain ⟨hP1, hK1, hD1⟩ := hB
      rw [ht] at hP1
      try dsimp only at hw
      obtain ⟨hP, hD⟩ := va_join (wr := [(g 0, .inr (8, xF g)), (g 26, .inl (cy 5, 4, .inr (.inr (.inr (.inr (va_up (va_up (va_up (va_up (fun _ => none) 0 (some (g 27))) 1 (some (g 29))) 2 (some (g 31))) 3 (some (g 33)))))))), (g 27, .inr (5, [.int 0, .int 0, .int 0, .ref (g 28)])), (g 29, .inr (5, [.int 0, .int 0, .int 0, .ref (g 30)])), (g 31, .inr (5, [.int 0, .int 0, .int 0, .ref (g 32)])), (g 33, .inr (5, [.int 0, .int 0, .int 0, .ref (g 34)]))]) (w1 := []) hP hD [] [0, 1, 2, 3, 4, 5] rfl rfl (by decide) (by decide) hk1 hFc hP1 hD1
      generalize H1 = H at hP hS ⊢
      have hP : va_P D clz [(g 0, .inr (8, xF g)), (g 26, .inl (cy 5, 4, .inr (.inr (.inr (.inr (va_up (va_up (va_up (va_up (fun _ => none) 0 (some (g 27))) 1 (some (g 29))) 2 (some (g 31))) 3 (some (g 33)))))))), (g 27, .inr (5, [.int 0, .int 0, .int 0, .ref (g 28)])), (g 29, .inr (5, [.int 0, .int 0, .int 0, .ref (g 30)])), (g 31, .inr (5, [.int 0, .int 0, .int 0, .ref (g 32)])), (g 33, .inr (5, [.int 0, .int 0, .int 0, .ref (g 34)]))] H := hP
      have hD : va_D A [(g 0, .inr (8, xF g)), (g 26, .inl (cy 5, 4, .inr (.inr (.inr (.inr (va_up (va_up (va_up (va_up (fun _ => none) 0 (some (g 27))) 1 (some (g 29))) 2 (some (g 31))) 3 (some (g 33)))))))), (g 27, .inr (5, [.int 0, .int 0, .int 0, .ref (g 28)])), (g 29, .inr (5, [.int 0, .int 0, .int 0, .ref (g 30)])), (g 31, .inr (5, [.int 0, .int 0, .int 0, .ref (g 32)])), (g 33, .inr (5, [.int 0, .int 0, .int 0, .ref (g 34)]))] := hD
      by_cases hc_79 : ((0 : Int32) ≤ (3 : Int32) ∧ (3 : Int32) ≤ (3 : Int32))
      ·
        rw [if_pos hc_79] at hw
        subst hw
        refine lv_if_eq (tgt := 14) hx hb dX8_paste_4 (by decide) (fun c9 => absurd c9 (by decide)) (fun _ => ?_)
        refine lv_iload_n hx hb dX8_paste_7 rfl (lv_at hl 3 rfl) ?_
        have hPc := hP.sub (ws' := []) [] rfl
        have hDc := hD.sub (ws' := []) [] (by decide) rfl
        have hFc := va_free (wc := []) hD hS hA [] rfl
        refine va_calli (va_runS (As := [.int 3]) (rest := []) ⟨hx, hb, hml, hown, hts⟩ (c_X8_isSlot l D cy 3 H.size) (va_cwS 1 hts (gd_S q1267 q1268 q125 q1269) rfl rfl rfl (by decide +kernel) ⟨Nat.le_of_ble_eq_true rfl, Nat.le_of_ble_eq_true rfl⟩) (pr_S hPc hK hDc) rfl rfl hl.1 rfl (lv_room (Nat.le_of_ble_eq_true rfl)) dX8_paste_8 ⟨Nat.le_of_ble_eq_true rfl, Nat.le_of_ble_eq_true rfl⟩) hS (fun q _ h => hFc q h) hFc (fun r_80 u tS H1 locs ht hvm hw hB hz1 hk1 hS => ?_)
        obtain ⟨hP1, hK1, hD1⟩ := hB
        rw [ht] at hP1
        try dsimp only at hw
        obtain ⟨hP, hD⟩ := va_join (wr := [(g 0, .inr (8, xF g)), (g 26, .inl (cy 5, 4, .inr (.inr (.inr (.inr (va_up (va_up (va_up (va_up (fun _ => none) 0 (some (g 27))) 1 (some (g 29))) 2 (some (g 31))) 3 (some (g 33)))))))), (g 27, .inr (5, [.int 0, .int 0, .int 0, .ref (g 28)])), (g 29, .inr (5, [.int 0, .int 0, .int 0, .ref (g 30)])), (g 31, .inr (5, [.int 0, .int 0, .int 0, .ref (g 32)])), (g 33, .inr (5, [.int 0, .int 0, .int 0, .ref (g 34)]))]) (w1 := []) hP hD [] [0, 1, 2, 3, 4, 5] rfl rfl (by decide) (by decide) hk1 hFc hP1 hD1
        generalize H1 = H at hP hS ⊢
        have hP : va_P D clz [(g 0, .inr (8, xF g)), (g 26, .inl (cy 5, 4, .inr (.inr (.inr (.inr (va_up (va_up (va_up (va_up (fun _ => none) 0 (some (g 27))) 1 (some (g 29))) 2 (some (g 31))) 3 (some (g 33)))))))), (g 27, .inr (5, [.int 0, .int 0, .int 0, .ref (g 28)])), (g 29, .inr (5, [.int 0, .int 0, .int 0, .ref (g 30)])), (g 31, .inr (5, [.int 0, .int 0, .int 0, .ref (g 32)])), (g 33, .inr (5, [.int 0, .int 0, .int 0, .ref (g 34)]))] H := hP
        have hD : va_D A [(g 0, .inr (8, xF g)), (g 26, .inl (cy 5, 4, .inr (.inr (.inr (.inr (va_up (va_up (va_up (va_up (fun _ => none) 0 (some (g 27))) 1 (some (g 29))) 2 (some (g 31))) 3 (some (g 33)))))))), (g 27, .inr (5, [.int 0, .int 0, .int 0, .ref (g 28)])), (g 29, .inr (5, [.int 0, .int 0, .int 0, .ref (g 30)])), (g 31, .inr (5, [.int 0, .int 0, .int 0, .ref (g 32)])), (g 33, .inr (5, [.int 0, .int 0, .int 0, .ref (g 34)]))] := hD
        by_cases hc_81 : ((0 : Int32) ≤ (3 : Int32) ∧ (3 : Int32) ≤ (3 : Int32))
        ·
          rw [if_pos hc_81] at hw
          subst hw
          refine lv_if_ne (tgt := 17) hx hb dX8_paste_11 (by decide) (fun _ => ?_) (fun c9 => absurd c9 (by decide))
          refine lv_aload_n hx hb dX8_paste_17 rfl (lv_at hl 0 rfl) ?_
          refine va_get (D := D) (ci := 8) (v := .ref (g 26)) (C := RX8) (T := TX8) (N := 12) hx hb hts iX8 hown hK hP 0 rfl rfl 5 (by decide) (hts _ q439) (fun _ h9 => h9) rfl dX8_paste_18 ?_
          refine lv_iload_n hx hb dX8_paste_21 rfl (lv_at hl 1 rfl) ?_
          refine va_aldq hx hb hK hP 1 5 rfl rfl (vpi (by decide)) dX8_paste_22 ?_
          refine W.eq (g2 := F0 m 23 ls [.ref (g 33)]) rfl ?_
          refine lv_astore (lv' := [(6, .ref (g 33)), (0, .ref (g 0)), (1, .int 3), (2, .int p2), (3, .int 3), (4, .int p4), (5, .int p5)]) hx hb dX8_paste_23 hl (by decide) rfl (fun ls hl => ?_)
          refine lv_aload_n hx hb dX8_paste_25 rfl (lv_at hl 1 rfl) ?_
          refine va_get (D := D) (ci := 8) (v := .ref (g 26)) (C := RX8) (T := TX8) (N := 12) hx hb hts iX8 hown hK hP 0 rfl rfl 5 (by decide) (hts _ q439) (fun _ h9 => h9) rfl dX8_paste_26 ?_
          refine lv_iload_n hx hb dX8_paste_29 rfl (lv_at hl 4 rfl) ?_
          refine va_aldq hx hb hK hP 1 5 rfl rfl (vpi (by decide)) dX8_paste_30 ?_
          refine W.eq (g2 := F0 m 31 ls [.ref (g 33)]) rfl ?_
          refine lv_astore (lv' := [(7, .ref (g 33)), (6, .ref (g 33)), (0, .ref (g 0)), (1, .int 3), (2, .int p2), (3, .int 3), (4, .int p4), (5, .int p5)]) hx hb dX8_paste_31 hl (by decide) rfl (fun ls hl => ?_)
          refine lv_aload hx hb dX8_paste_33 (lv_at hl 1 rfl) ?_
          refine va_get (D := D) (ci := 5) (v := .int 0) (C := RX5) (T := TX5) (N := 4) hx hb hts iX5 hown hK hP 5 rfl rfl 0 (by decide) (hts _ q417) (fun _ h9 => h9) rfl dX8_paste_35 ?_
          refine lv_if_eq (tgt := 49) hx hb dX8_paste_38 (by decide) (fun _ => ?_) (fun c9 => absurd c9 (by decide))
          refine lv_bipush (v := (-6)) hx hb dX8_paste_49 (by decide) ?_
          have hP9 := hP.sub (ws' := [(g 0, .inr (8, xF g)), (g 26, .inl (cy 5, 4, .inr (.inr (.inr (.inr (va_up (va_up (va_up (va_up (fun _ => none) 0 (some (g 27))) 1 (some (g 29))) 2 (some (g 31))) 3 (some (g 33)))))))), (g 27, .inr (5, [.int 0, .int 0, .int 0, .ref (g 28)])), (g 29, .inr (5, [.int 0, .int 0, .int 0, .ref (g 30)])), (g 31, .inr (5, [.int 0, .int 0, .int 0, .ref (g 32)])), (g 33, .inr (5, [.int 0, .int 0, .int 0, .ref (g 34)]))]) [0, 1, 2, 3, 4, 5] rfl
          have hD9 := hD.sub (ws' := [(g 0, .inr (8, xF g)), (g 26, .inl (cy 5, 4, .inr (.inr (.inr (.inr (va_up (va_up (va_up (va_up (fun _ => none) 0 (some (g 27))) 1 (some (g 29))) 2 (some (g 31))) 3 (some (g 33)))))))), (g 27, .inr (5, [.int 0, .int 0, .int 0, .ref (g 28)])), (g 29, .inr (5, [.int 0, .int 0, .int 0, .ref (g 30)])), (g 31, .inr (5, [.int 0, .int 0, .int 0, .ref (g 32)])), (g 33, .inr (5, [.int 0, .int 0, .int 0, .ref (g 34)]))]) [0, 1, 2, 3, 4, 5] (by decide) rfl
          exact W.iret (v := (-6)) hx hb hr (fun tS ht hW => ⟨⟨(-6), (), rfl, (by have f0 := bp32 hc_79; have f1 := bp32 hc_81; have z320 : (0 : Int32).toInt = 0 := (by decide); have z323 : (3 : Int32).toInt = 3 := (by decide); unfold sp_paste; (repeat' split) <;> first | rfl | (exfalso; omega)), by rw [ht]; exact hP9, va_K.moved hW.alike hK, hD9⟩, hS.F ht⟩) hS.2.2 dX8_paste_51
        ·
          rw [if_neg hc_81] at hw
          subst hw
          exact False.elim (by have f0 := bp32 hc_79; have f1 := bn32 hc_81; have z320 : (0 : Int32).toInt = 0 := (by decide); have z323 : (3 : Int32).toInt = 3 := (by decide); omega)
      ·
        rw [if_neg hc_79] at hw
        subst hw
        exact False.elim (by have f0 := bn32 hc_79; have z320 : (0 : Int32).toInt = 0 := (by decide); have z323 : (3 : Int32).toInt = 3 := (by decide); omega)
    ·
      refine lv_iload_n hx hb dX8_paste_0 rfl (lv_at hl 1 rfl) ?_
      have hPc := hP.sub (ws' := []) [] rfl
      have hDc := hD.sub (ws' := []) [] (by decide) rfl
      have hFc := va_free (wc := []) hD hS hA [] rfl
      refine va_calli (va_runS (As := [.int 3]) (rest := []) ⟨hx, hb, hml, hown, hts⟩ (c_X8_isSlot l D cy 3 s.heap.size) (va_cwS 1 hts (gd_S q1267 q1268 q125 q1269) rfl rfl rfl (by decide +kernel) ⟨Nat.le_of_ble_eq_true rfl, Nat.le_of_ble_eq_true rfl⟩) (pr_S hPc hK hDc) rfl rfl hl.1 rfl (lv_room (Nat.le_of_ble_eq_true rfl)) dX8_paste_1 ⟨Nat.le_of_ble_eq_true rfl, Nat.le_of_ble_eq_true rfl⟩) hS (fun q _ h => hFc q h) hFc (fun r_82 u tS H1 locs ht hvm hw hB hz1 hk1 hS => ?_)
      obtain ⟨hP1, hK1, hD1⟩ := hB
      rw [ht] at hP1
      try dsimp only at hw
      obtain ⟨hP, hD⟩ := va_join (wr := [(g 0, .inr (8, xF g)), (g 26, .inl (cy 5, 4, .inr (.inr (.inr (.inr (va_up (va_up (va_up (va_up (fun _ => none) 0 (some (g 27))) 1 (some (g 29))) 2 (some (g 31))) 3 (some (g 33)))))))), (g 27, .inr (5, [.int 0, .int 0, .int 0, .ref (g 28)])), (g 29, .inr (5, [.int 0, .int 0, .int 0, .ref (g 30)])), (g 31, .inr (5, [.int 0, .int 0, .int 0, .ref (g 32)])), (g 33, .inr (5, [.int 0, .int 0, .int 0, .ref (g 34)]))]) (w1 := []) hP hD [] [0, 1, 2, 3, 4, 5] rfl rfl (by decide) (by decide) hk1 hFc hP1 hD1
      generalize H1 = H at hP hS ⊢
      have hP : va_P D clz [(g 0, .inr (8, xF g)), (g 26, .inl (cy 5, 4, .inr (.inr (.inr (.inr (va_up (va_up (va_up (va_up (fun _ => none) 0 (some (g 27))) 1 (some (g 29))) 2 (some (g 31))) 3 (some (g 33)))))))), (g 27, .inr (5, [.int 0, .int 0, .int 0, .ref (g 28)])), (g 29, .inr (5, [.int 0, .int 0, .int 0, .ref (g 30)])), (g 31, .inr (5, [.int 0, .int 0, .int 0, .ref (g 32)])), (g 33, .inr (5, [.int 0, .int 0, .int 0, .ref (g 34)]))] H := hP
      have hD : va_D A [(g 0, .inr (8, xF g)), (g 26, .inl (cy 5, 4, .inr (.inr (.inr (.inr (va_up (va_up (va_up (va_up (fun _ => none) 0 (some (g 27))) 1 (some (g 29))) 2 (some (g 31))) 3 (some (g 33)))))))), (g 27, .inr (5, [.int 0, .int 0, .int 0, .ref (g 28)])), (g 29, .inr (5, [.int 0, .int 0, .int 0, .ref (g 30)])), (g 31, .inr (5, [.int 0, .int 0, .int 0, .ref (g 32)])), (g 33, .inr (5, [.int 0, .int 0, .int 0, .ref (g 34)]))] := hD
      by_cases hc_83 : ((0 : Int32) ≤ (3 : Int32) ∧ (3 : Int32) ≤ (3 : Int32))
      ·
        rw [if_pos hc_83] at hw
        subst hw
        refine lv_if_eq (tgt := 14) hx hb dX8_paste_4 (by decide) (fun c9 => absurd c9 (by decide)) (fun _ => ?_)
        refine lv_iload_n hx hb dX8_paste_7 rfl (lv_at hl 3 rfl) ?_
        have hPc := hP.sub (ws' := []) [] rfl
        have hDc := hD.sub (ws' := []) [] (by decide) rfl
        have hFc := va_free (wc := []) hD hS hA [] rfl
        refine va_calli (va_runS (As := [.int p3]) (rest := []) ⟨hx, hb, hml, hown, hts⟩ (c_X8_isSlot l D cy p3 H.size) (va_cwS 1 hts (gd_S q1267 q1268 q125 q1269) rfl rfl rfl (by decide +kernel) ⟨Nat.le_of_ble_eq_true rfl, Nat.le_of_ble_eq_true rfl⟩) (pr_S hPc hK hDc) rfl rfl hl.1 rfl (lv_room (Nat.le_of_ble_eq_true rfl)) dX8_paste_8 ⟨Nat.le_of_ble_eq_true rfl, Nat.le_of_ble_eq_true rfl⟩) hS (fun q _ h => hFc q h) hFc (fun r_84 u tS H1 locs ht hvm hw hB hz1 hk1 hS => ?_)
        obtain ⟨hP1, hK1, hD1⟩ := hB
        rw [ht] at hP1
        try dsimp only at hw
        obtain ⟨hP, hD⟩ := va_join (wr := [(g 0, .inr (8, xF g)), (g 26, .inl (cy 5, 4, .inr (.inr (.inr (.inr (va_up (va_up (va_up (va_up (fun _ => none) 0 (some (g 27))) 1 (some (g 29))) 2 (some (g 31))) 3 (some (g 33)))))))), (g 27, .inr (5, [.int 0, .int 0, .int 0, .ref (g 28)])), (g 29, .inr (5, [.int 0, .int 0, .int 0, .ref (g 30)])), (g 31, .inr (5, [.int 0, .int 0, .int 0, .ref (g 32)])), (g 33, .inr (5, [.int 0, .int 0, .int 0, .ref (g 34)]))]) (w1 := []) hP hD [] [0, 1, 2, 3, 4, 5] rfl rfl (by decide) (by decide) hk1 hFc hP1 hD1
        generalize H1 = H at hP hS ⊢
        have hP : va_P D clz [(g 0, .inr (8, xF g)), (g 26, .inl (cy 5, 4, .inr (.inr (.inr (.inr (va_up (va_up (va_up (va_up (fun _ => none) 0 (some (g 27))) 1 (some (g 29))) 2 (some (g 31))) 3 (some (g 33)))))))), (g 27, .inr (5, [.int 0, .int 0, .int 0, .ref (g 28)])), (g 29, .inr (5, [.int 0, .int 0, .int 0, .ref (g 30)])), (g 31, .inr (5, [.int 0, .int 0, .int 0, .ref (g 32)])), (g 33, .inr (5, [.int 0, .int 0, .int 0, .ref (g 34)]))] H := hP
        have hD : va_D A [(g 0, .inr (8, xF g)), (g 26, .inl (cy 5, 4, .inr (.inr (.inr (.inr (va_up (va_up (va_up (va_up (fun _ => none) 0 (some (g 27))) 1 (some (g 29))) 2 (some (g 31))) 3 (some (g 33)))))))), (g 27, .inr (5, [.int 0, .int 0, .int 0, .ref (g 28)])), (g 29, .inr (5, [.int 0, .int 0, .int 0, .ref (g 30)])), (g 31, .inr (5, [.int 0, .int 0, .int 0, .ref (g 32)])), (g 33, .inr (5, [.int 0, .int 0, .int 0, .ref (g 34)]))] := hD
        by_cases hc_85 : ((0 : Int32) ≤ p3 ∧ p3 ≤ (3 : Int32))
        ·
          rw [if_pos hc_85] at hw
          subst hw
          exact False.elim (by have f0 := hs_65; have f1 := bp32 hc_83; have f2 := bp32 hc_85; have z320 : (0 : Int32).toInt = 0 := (by decide); have z323 : (3 : Int32).toInt = 3 := (by decide); omega)
        ·
          rw [if_neg hc_85] at hw
          subst hw
          refine lv_if_ne (tgt := 17) hx hb dX8_paste_11 (by decide) (fun c9 => absurd c9 (by decide)) (fun _ => ?_)
          refine lv_bipush (v := (-2)) hx hb dX8_paste_14 (by decide) ?_
          have hP9 := hP.sub (ws' := [(g 0, .inr (8, xF g)), (g 26, .inl (cy 5, 4, .inr (.inr (.inr (.inr (va_up (va_up (va_up (va_up (fun _ => none) 0 (some (g 27))) 1 (some (g 29))) 2 (some (g 31))) 3 (some (g 33)))))))), (g 27, .inr (5, [.int 0, .int 0, .int 0, .ref (g 28)])), (g 29, .inr (5, [.int 0, .int 0, .int 0, .ref (g 30)])), (g 31, .inr (5, [.int 0, .int 0, .int 0, .ref (g 32)])), (g 33, .inr (5, [.int 0, .int 0, .int 0, .ref (g 34)]))]) [0, 1, 2, 3, 4, 5] rfl
          have hD9 := hD.sub (ws' := [(g 0, .inr (8, xF g)), (g 26, .inl (cy 5, 4, .inr (.inr (.inr (.inr (va_up (va_up (va_up (va_up (fun _ => none) 0 (some (g 27))) 1 (some (g 29))) 2 (some (g 31))) 3 (some (g 33)))))))), (g 27, .inr (5, [.int 0, .int 0, .int 0, .ref (g 28)])), (g 29, .inr (5, [.int 0, .int 0, .int 0, .ref (g 30)])), (g 31, .inr (5, [.int 0, .int 0, .int 0, .ref (g 32)])), (g 33, .inr (5, [.int 0, .int 0, .int 0, .ref (g 34)]))]) [0, 1, 2, 3, 4, 5] (by decide) rfl
          exact W.iret (v := (-2)) hx hb hr (fun tS ht hW => ⟨⟨(-2), (), rfl, (by have f0 := hs_65; have f1 := bp32 hc_83; have f2 := bn32 hc_85; have z320 : (0 : Int32).toInt = 0 := (by decide); have z323 : (3 : Int32).toInt = 3 := (by decide); unfold sp_paste; (repeat' split) <;> first | rfl | (exfalso; omega)), by rw [ht]; exact hP9, va_K.moved hW.alike hK, hD9⟩, hS.F ht⟩) hS.2.2 dX8_paste_16
      ·
        rw [if_neg hc_83] at hw
        subst hw
        exact False.elim (by have f0 := hs_65; have f1 := bn32 hc_83; have z320 : (0 : Int32).toInt = 0 := (by decide); have z323 : (3 : Int32).toInt = 3 := (by decide); omega)
  ·
    rcases sp4 p3 with rfl | rfl | rfl | rfl | hs_86
    ·
      refine lv_iload_n hx hb dX8_paste_0 rfl (lv_at hl 1 rfl) ?_
      have hPc := hP.sub (ws' := []) [] rfl
      have hDc := hD.sub (ws' := []) [] (by decide) rfl
      have hFc := va_free (wc := []) hD hS hA [] rfl
      refine va_calli (va_runS (As := [.int p1]) (rest := []) ⟨hx, hb, hml, hown, hts⟩ (c_X8_isSlot l D cy p1 s.heap.size) (va_cwS 1 hts (gd_S q1267 q1268 q125 q1269) rfl rfl rfl (by decide +kernel) ⟨Nat.le_of_ble_eq_true rfl, Nat.le_of_ble_eq_true rfl⟩) (pr_S hPc hK hDc) rfl rfl hl.1 rfl (lv_room (Nat.le_of_ble_eq_true rfl)) dX8_paste_1 ⟨Nat.le_of_ble_eq_true rfl, Nat.le_of_ble_eq_true rfl⟩) hS (fun q _ h => hFc q h) hFc (fun r_87 u tS H1 locs ht hvm hw hB hz1 hk1 hS => ?_)
      obtain ⟨hP1, hK1, hD1⟩ := hB
      rw [ht] at hP1
      try dsimp only at hw
      obtain ⟨hP, hD⟩ := va_join (wr := [(g 0, .inr (8, xF g)), (g 26, .inl (cy 5, 4, .inr (.inr (.inr (.inr (va_up (va_up (va_up (va_up (fun _ => none) 0 (some (g 27))) 1 (some (g 29))) 2 (some (g 31))) 3 (some (g 33)))))))), (g 27, .inr (5, [.int 0, .int 0, .int 0, .ref (g 28)])), (g 29, .inr (5, [.int 0, .int 0, .int 0, .ref (g 30)])), (g 31, .inr (5, [.int 0, .int 0, .int 0, .ref (g 32)])), (g 33, .inr (5, [.int 0, .int 0, .int 0, .ref (g 34)]))]) (w1 := []) hP hD [] [0, 1, 2, 3, 4, 5] rfl rfl (by decide) (by decide) hk1 hFc hP1 hD1
      generalize H1 = H at hP hS ⊢
      have hP : va_P D clz [(g 0, .inr (8, xF g)), (g 26, .inl (cy 5, 4, .inr (.inr (.inr (.inr (va_up (va_up (va_up (va_up (fun _ => none) 0 (some (g 27))) 1 (some (g 29))) 2 (some (g 31))) 3 (some (g 33)))))))), (g 27, .inr (5, [.int 0, .int 0, .int 0, .ref (g 28)])), (g 29, .inr (5, [.int 0, .int 0, .int 0, .ref (g 30)])), (g 31, .inr (5, [.int 0, .int 0, .int 0, .ref (g 32)])), (g 33, .inr (5, [.int 0, .int 0, .int 0, .ref (g 34)]))] H := hP
      have hD : va_D A [(g 0, .inr (8, xF g)), (g 26, .inl (cy 5, 4, .inr (.inr (.inr (.inr (va_up (va_up (va_up (va_up (fun _ => none) 0 (some (g 27))) 1 (some (g 29))) 2 (some (g 31))) 3 (some (g 33)))))))), (g 27, .inr (5, [.int 0, .int 0, .int 0, .ref (g 28)])), (g 29, .inr (5, [.int 0, .int 0, .int 0, .ref (g 30)])), (g 31, .inr (5, [.int 0, .int 0, .int 0, .ref (g 32)])), (g 33, .inr (5, [.int 0, .int 0, .int 0, .ref (g 34)]))] := hD
      by_cases hc_88 : ((0 : Int32) ≤ p1 ∧ p1 ≤ (3 : Int32))
      ·
        rw [if_pos hc_88] at hw
        subst hw
        exact False.elim (by have f0 := hs_1; have f1 := bp32 hc_88; have z320 : (0 : Int32).toInt = 0 := (by decide); have z323 : (3 : Int32).toInt = 3 := (by decide); omega)
      ·
        rw [if_neg hc_88] at hw
        subst hw
        refine lv_if_eq (tgt := 14) hx hb dX8_paste_4 (by decide) (fun _ => ?_) (fun c9 => absurd c9 (by decide))
        refine lv_bipush (v := (-2)) hx hb dX8_paste_14 (by decide) ?_
        have hP9 := hP.sub (ws' := [(g 0, .inr (8, xF g)), (g 26, .inl (cy 5, 4, .inr (.inr (.inr (.inr (va_up (va_up (va_up (va_up (fun _ => none) 0 (some (g 27))) 1 (some (g 29))) 2 (some (g 31))) 3 (some (g 33)))))))), (g 27, .inr (5, [.int 0, .int 0, .int 0, .ref (g 28)])), (g 29, .inr (5, [.int 0, .int 0, .int 0, .ref (g 30)])), (g 31, .inr (5, [.int 0, .int 0, .int 0, .ref (g 32)])), (g 33, .inr (5, [.int 0, .int 0, .int 0, .ref (g 34)]))]) [0, 1, 2, 3, 4, 5] rfl
        have hD9 := hD.sub (ws' := [(g 0, .inr (8, xF g)), (g 26, .inl (cy 5, 4, .inr (.inr (.inr (.inr (va_up (va_up (va_up (va_up (fun _ => none) 0 (some (g 27))) 1 (some (g 29))) 2 (some (g 31))) 3 (some (g 33)))))))), (g 27, .inr (5, [.int 0, .int 0, .int 0, .ref (g 28)])), (g 29, .inr (5, [.int 0, .int 0, .int 0, .ref (g 30)])), (g 31, .inr (5, [.int 0, .int 0, .int 0, .ref (g 32)])), (g 33, .inr (5, [.int 0, .int 0, .int 0, .ref (g 34)]))]) [0, 1, 2, 3, 4, 5] (by decide) rfl
        exact W.iret (v := (-2)) hx hb hr (fun tS ht hW => ⟨⟨(-2), (), rfl, (by have f0 := hs_1; have f1 := bn32 hc_88; have z320 : (0 : Int32).toInt = 0 := (by decide); have z323 : (3 : Int32).toInt = 3 := (by decide); unfold sp_paste; (repeat' split) <;> first | rfl | (exfalso; omega)), by rw [ht]; exact hP9, va_K.moved hW.alike hK, hD9⟩, hS.F ht⟩) hS.2.2 dX8_paste_16
    ·
      refine lv_iload_n hx hb dX8_paste_0 rfl (lv_at hl 1 rfl) ?_
      have hPc := hP.sub (ws' := []) [] rfl
      have hDc := hD.sub (ws' := []) [] (by decide) rfl
      have hFc := va_free (wc := []) hD hS hA [] rfl
      refine va_calli (va_runS (As := [.int p1]) (rest := []) ⟨hx, hb, hml, hown, hts⟩ (c_X8_isSlot l D cy p1 s.heap.size) (va_cwS 1 hts (gd_S q1267 q1268 q125 q1269) rfl rfl rfl (by decide +kernel) ⟨Nat.le_of_ble_eq_true rfl, Nat.le_of_ble_eq_true rfl⟩) (pr_S hPc hK hDc) rfl rfl hl.1 rfl (lv_room (Nat.le_of_ble_eq_true rfl)) dX8_paste_1 ⟨Nat.le_of_ble_eq_true rfl, Nat.le_of_ble_eq_true rfl⟩) hS (fun q _ h => hFc q h) hFc (fun r_89 u tS H1 locs ht hvm hw hB hz1 hk1 hS => ?_)
      obtain ⟨hP1, hK1, hD1⟩ := hB
      rw [ht] at hP1
      try dsimp only at hw
      obtain ⟨hP, hD⟩ := va_join (wr := [(g 0, .inr (8, xF g)), (g 26, .inl (cy 5, 4, .inr (.inr (.inr (.inr (va_up (va_up (va_up (va_up (fun _ => none) 0 (some (g 27))) 1 (some (g 29))) 2 (some (g 31))) 3 (some (g 33)))))))), (g 27, .inr (5, [.int 0, .int 0, .int 0, .ref (g 28)])), (g 29, .inr (5, [.int 0, .int 0, .int 0, .ref (g 30)])), (g 31, .inr (5, [.int 0, .int 0, .int 0, .ref (g 32)])), (g 33, .inr (5, [.int 0, .int 0, .int 0, .ref (g 34)]))]) (w1 := []) hP hD [] [0, 1, 2, 3, 4, 5] rfl rfl (by decide) (by decide) hk1 hFc hP1 hD1
      generalize H1 = H at hP hS ⊢
      have hP : va_P D clz [(g 0, .inr (8, xF g)), (g 26, .inl (cy 5, 4, .inr (.inr (.inr (.inr (va_up (va_up (va_up (va_up (fun _ => none) 0 (some (g 27))) 1 (some (g 29))) 2 (some (g 31))) 3 (some (g 33)))))))), (g 27, .inr (5, [.int 0, .int 0, .int 0, .ref (g 28)])), (g 29, .inr (5, [.int 0, .int 0, .int 0, .ref (g 30)])), (g 31, .inr (5, [.int 0, .int 0, .int 0, .ref (g 32)])), (g 33, .inr (5, [.int 0, .int 0, .int 0, .ref (g 34)]))] H := hP
      have hD : va_D A [(g 0, .inr (8, xF g)), (g 26, .inl (cy 5, 4, .inr (.inr (.inr (.inr (va_up (va_up (va_up (va_up (fun _ => none) 0 (some (g 27))) 1 (some (g 29))) 2 (some (g 31))) 3 (some (g 33)))))))), (g 27, .inr (5, [.int 0, .int 0, .int 0, .ref (g 28)])), (g 29, .inr (5, [.int 0, .int 0, .int 0, .ref (g 30)])), (g 31, .inr (5, [.int 0, .int 0, .int 0, .ref (g 32)])), (g 33, .inr (5, [.int 0, .int 0, .int 0, .ref (g 34)]))] := hD
      by_cases hc_90 : ((0 : Int32) ≤ p1 ∧ p1 ≤ (3 : Int32))
      ·
        rw [if_pos hc_90] at hw
        subst hw
        exact False.elim (by have f0 := hs_1; have f1 := bp32 hc_90; have z320 : (0 : Int32).toInt = 0 := (by decide); have z323 : (3 : Int32).toInt = 3 := (by decide); omega)
      ·
        rw [if_neg hc_90] at hw
        subst hw
        refine lv_if_eq (tgt := 14) hx hb dX8_paste_4 (by decide) (fun _ => ?_) (fun c9 => absurd c9 (by decide))
        refine lv_bipush (v := (-2)) hx hb dX8_paste_14 (by decide) ?_
        have hP9 := hP.sub (ws' := [(g 0, .inr (8, xF g)), (g 26, .inl (cy 5, 4, .inr (.inr (.inr (.inr (va_up (va_up (va_up (va_up (fun _ => none) 0 (some (g 27))) 1 (some (g 29))) 2 (some (g 31))) 3 (some (g 33)))))))), (g 27, .inr (5, [.int 0, .int 0, .int 0, .ref (g 28)])), (g 29, .inr (5, [.int 0, .int 0, .int 0, .ref (g 30)])), (g 31, .inr (5, [.int 0, .int 0, .int 0, .ref (g 32)])), (g 33, .inr (5, [.int 0, .int 0, .int 0, .ref (g 34)]))]) [0, 1, 2, 3, 4, 5] rfl
        have hD9 := hD.sub (ws' := [(g 0, .inr (8, xF g)), (g 26, .inl (cy 5, 4, .inr (.inr (.inr (.inr (va_up (va_up (va_up (va_up (fun _ => none) 0 (some (g 27))) 1 (some (g 29))) 2 (some (g 31))) 3 (some (g 33)))))))), (g 27, .inr (5, [.int 0, .int 0, .int 0, .ref (g 28)])), (g 29, .inr (5, [.int 0, .int 0, .int 0, .ref (g 30)])), (g 31, .inr (5, [.int 0, .int 0, .int 0, .ref (g 32)])), (g 33, .inr (5, [.int 0, .int 0, .int 0, .ref (g 34)]))]) [0, 1, 2, 3, 4, 5] (by decide) rfl
        exact W.iret (v := (-2)) hx hb hr (fun tS ht hW => ⟨⟨(-2), (), rfl, (by have f0 := hs_1; have f1 := bn32 hc_90; have z320 : (0 : Int32).toInt = 0 := (by decide); have z321 : (1 : Int32).toInt = 1 := (by decide); have z323 : (3 : Int32).toInt = 3 := (by decide); unfold sp_paste; (repeat' split) <;> first | rfl | (exfalso; omega)), by rw [ht]; exact hP9, va_K.moved hW.alike hK, hD9⟩, hS.F ht⟩) hS.2.2 dX8_paste_16
    ·
      refine lv_iload_n hx hb dX8_paste_0 rfl (lv_at hl 1 rfl) ?_
      have hPc := hP.sub (ws' := []) [] rfl
      have hDc := hD.sub (ws' := []) [] (by decide) rfl
      have hFc := va_free (wc := []) hD hS hA [] rfl
      refine va_calli (va_runS (As := [.int p1]) (rest := []) ⟨hx, hb, hml, hown, hts⟩ (c_X8_isSlot l D cy p1 s.heap.size) (va_cwS 1 hts (gd_S q1267 q1268 q125 q1269) rfl rfl rfl (by decide +kernel) ⟨Nat.le_of_ble_eq_true rfl, Nat.le_of_ble_eq_true rfl⟩) (pr_S hPc hK hDc) rfl rfl hl.1 rfl (lv_room (Nat.le_of_ble_eq_true rfl)) dX8_paste_1 ⟨Nat.le_of_ble_eq_true rfl, Nat.le_of_ble_eq_true rfl⟩) hS (fun q _ h => hFc q h) hFc (fun r_91 u tS H1 locs ht hvm hw hB hz1 hk1 hS => ?_)
      obtain ⟨hP1, hK1, hD1⟩ := hB
      rw [ht] at hP1
      try dsimp only at hw
      obtain ⟨hP, hD⟩ := va_join (wr := [(g 0, .inr (8, xF g)), (g 26, .inl (cy 5, 4, .inr (.inr (.inr (.inr (va_up (va_up (va_up (va_up (fun _ => none) 0 (some (g 27))) 1 (some (g 29))) 2 (some (g 31))) 3 (some (g 33)))))))), (g 27, .inr (5, [.int 0, .int 0, .int 0, .ref (g 28)])), (g 29, .inr (5, [.int 0, .int 0, .int 0, .ref (g 30)])), (g 31, .inr (5, [.int 0, .int 0, .int 0, .ref (g 32)])), (g 33, .inr (5, [.int 0, .int 0, .int 0, .ref (g 34)]))]) (w1 := []) hP hD [] [0, 1, 2, 3, 4, 5] rfl rfl (by decide) (by decide) hk1 hFc hP1 hD1
      generalize H1 = H at hP hS ⊢
      have hP : va_P D clz [(g 0, .inr (8, xF g)), (g 26, .inl (cy 5, 4, .inr (.inr (.inr (.inr (va_up (va_up (va_up (va_up (fun _ => none) 0 (some (g 27))) 1 (some (g 29))) 2 (some (g 31))) 3 (some (g 33)))))))), (g 27, .inr (5, [.int 0, .int 0, .int 0, .ref (g 28)])), (g 29, .inr (5, [.int 0, .int 0, .int 0, .ref (g 30)])), (g 31, .inr (5, [.int 0, .int 0, .int 0, .ref (g 32)])), (g 33, .inr (5, [.int 0, .int 0, .int 0, .ref (g 34)]))] H := hP
      have hD : va_D A [(g 0, .inr (8, xF g)), (g 26, .inl (cy 5, 4, .inr (.inr (.inr (.inr (va_up (va_up (va_up (va_up (fun _ => none) 0 (some (g 27))) 1 (some (g 29))) 2 (some (g 31))) 3 (some (g 33)))))))), (g 27, .inr (5, [.int 0, .int 0, .int 0, .ref (g 28)])), (g 29, .inr (5, [.int 0, .int 0, .int 0, .ref (g 30)])), (g 31, .inr (5, [.int 0, .int 0, .int 0, .ref (g 32)])), (g 33, .inr (5, [.int 0, .int 0, .int 0, .ref (g 34)]))] := hD
      by_cases hc_92 : ((0 : Int32) ≤ p1 ∧ p1 ≤ (3 : Int32))
      ·
        rw [if_pos hc_92] at hw
        subst hw
        exact False.elim (by have f0 := hs_1; have f1 := bp32 hc_92; have z320 : (0 : Int32).toInt = 0 := (by decide); have z323 : (3 : Int32).toInt = 3 := (by decide); omega)
      ·
        rw [if_neg hc_92] at hw
        subst hw
        refine lv_if_eq (tgt := 14) hx hb dX8_paste_4 (by decide) (fun _ => ?_) (fun c9 => absurd c9 (by decide))
        refine lv_bipush (v := (-2)) hx hb dX8_paste_14 (by decide) ?_
        have hP9 := hP.sub (ws' := [(g 0, .inr (8, xF g)), (g 26, .inl (cy 5, 4, .inr (.inr (.inr (.inr (va_up (va_up (va_up (va_up (fun _ => none) 0 (some (g 27))) 1 (some (g 29))) 2 (some (g 31))) 3 (some (g 33)))))))), (g 27, .inr (5, [.int 0, .int 0, .int 0, .ref (g 28)])), (g 29, .inr (5, [.int 0, .int 0, .int 0, .ref (g 30)])), (g 31, .inr (5, [.int 0, .int 0, .int 0, .ref (g 32)])), (g 33, .inr (5, [.int 0, .int 0, .int 0, .ref (g 34)]))]) [0, 1, 2, 3, 4, 5] rfl
        have hD9 := hD.sub (ws' := [(g 0, .inr (8, xF g)), (g 26, .inl (cy 5, 4, .inr (.inr (.inr (.inr (va_up (va_up (va_up (va_up (fun _ => none) 0 (some (g 27))) 1 (some (g 29))) 2 (some (g 31))) 3 (some (g 33)))))))), (g 27, .inr (5, [.int 0, .int 0, .int 0, .ref (g 28)])), (g 29, .inr (5, [.int 0, .int 0, .int 0, .ref (g 30)])), (g 31, .inr (5, [.int 0, .int 0, .int 0, .ref (g 32)])), (g 33, .inr (5, [.int 0, .int 0, .int 0, .ref (g 34)]))]) [0, 1, 2, 3, 4, 5] (by decide) rfl
        exact W.iret (v := (-2)) hx hb hr (fun tS ht hW => ⟨⟨(-2), (), rfl, (by have f0 := hs_1; have f1 := bn32 hc_92; have z320 : (0 : Int32).toInt = 0 := (by decide); have z322 : (2 : Int32).toInt = 2 := (by decide); have z323 : (3 : Int32).toInt = 3 := (by decide); unfold sp_paste; (repeat' split) <;> first | rfl | (exfalso; omega)), by rw [ht]; exact hP9, va_K.moved hW.alike hK, hD9⟩, hS.F ht⟩) hS.2.2 dX8_paste_16
    ·
      refine lv_iload_n hx hb dX8_paste_0 rfl (lv_at hl 1 rfl) ?_
      have hPc := hP.sub (ws' := []) [] rfl
      have hDc := hD.sub (ws' := []) [] (by decide) rfl
      have hFc := va_free (wc := []) hD hS hA [] rfl
      refine va_calli (va_runS (As := [.int p1]) (rest := []) ⟨hx, hb, hml, hown, hts⟩ (c_X8_isSlot l D cy p1 s.heap.size) (va_cwS 1 hts (gd_S q1267 q1268 q125 q1269) rfl rfl rfl (by decide +kernel) ⟨Nat.le_of_ble_eq_true rfl, Nat.le_of_ble_eq_true rfl⟩) (pr_S hPc hK hDc) rfl rfl hl.1 rfl (lv_room (Nat.le_of_ble_eq_true rfl)) dX8_paste_1 ⟨Nat.le_of_ble_eq_true rfl, Nat.le_of_ble_eq_true rfl⟩) hS (fun q _ h => hFc q h) hFc (fun r_93 u tS H1 locs ht hvm hw hB hz1 hk1 hS => ?_)
      obtain ⟨hP1, hK1, hD1⟩ := hB
      rw [ht] at hP1
      try dsimp only at hw
      obtain ⟨hP, hD⟩ := va_join (wr := [(g 0, .inr (8, xF g)), (g 26, .inl (cy 5, 4, .inr (.inr (.inr (.inr (va_up (va_up (va_up (va_up (fun _ => none) 0 (some (g 27))) 1 (some (g 29))) 2 (some (g 31))) 3 (some (g 33)))))))), (g 27, .inr (5, [.int 0, .int 0, .int 0, .ref (g 28)])), (g 29, .inr (5, [.int 0, .int 0, .int 0, .ref (g 30)])), (g 31, .inr (5, [.int 0, .int 0, .int 0, .ref (g 32)])), (g 33, .inr (5, [.int 0, .int 0, .int 0, .ref (g 34)]))]) (w1 := []) hP hD [] [0, 1, 2, 3, 4, 5] rfl rfl (by decide) (by decide) hk1 hFc hP1 hD1
      generalize H1 = H at hP hS ⊢
      have hP : va_P D clz [(g 0, .inr (8, xF g)), (g 26, .inl (cy 5, 4, .inr (.inr (.inr (.inr (va_up (va_up (va_up (va_up (fun _ => none) 0 (some (g 27))) 1 (some (g 29))) 2 (some (g 31))) 3 (some (g 33)))))))), (g 27, .inr (5, [.int 0, .int 0, .int 0, .ref (g 28)])), (g 29, .inr (5, [.int 0, .int 0, .int 0, .ref (g 30)])), (g 31, .inr (5, [.int 0, .int 0, .int 0, .ref (g 32)])), (g 33, .inr (5, [.int 0, .int 0, .int 0, .ref (g 34)]))] H := hP
      have hD : va_D A [(g 0, .inr (8, xF g)), (g 26, .inl (cy 5, 4, .inr (.inr (.inr (.inr (va_up (va_up (va_up (va_up (fun _ => none) 0 (some (g 27))) 1 (some (g 29))) 2 (some (g 31))) 3 (some (g 33)))))))), (g 27, .inr (5, [.int 0, .int 0, .int 0, .ref (g 28)])), (g 29, .inr (5, [.int 0, .int 0, .int 0, .ref (g 30)])), (g 31, .inr (5, [.int 0, .int 0, .int 0, .ref (g 32)])), (g 33, .inr (5, [.int 0, .int 0, .int 0, .ref (g 34)]))] := hD
      by_cases hc_94 : ((0 : Int32) ≤ p1 ∧ p1 ≤ (3 : Int32))
      ·
        rw [if_pos hc_94] at hw
        subst hw
        exact False.elim (by have f0 := hs_1; have f1 := bp32 hc_94; have z320 : (0 : Int32).toInt = 0 := (by decide); have z323 : (3 : Int32).toInt = 3 := (by decide); omega)
      ·
        rw [if_neg hc_94] at hw
        subst hw
        refine lv_if_eq (tgt := 14) hx hb dX8_paste_4 (by decide) (fun _ => ?_) (fun c9 => absurd c9 (by decide))
        refine lv_bipush (v := (-2)) hx hb dX8_paste_14 (by decide) ?_
        have hP9 := hP.sub (ws' := [(g 0, .inr (8, xF g)), (g 26, .inl (cy 5, 4, .inr (.inr (.inr (.inr (va_up (va_up (va_up (va_up (fun _ => none) 0 (some (g 27))) 1 (some (g 29))) 2 (some (g 31))) 3 (some (g 33)))))))), (g 27, .inr (5, [.int 0, .int 0, .int 0, .ref (g 28)])), (g 29, .inr (5, [.int 0, .int 0, .int 0, .ref (g 30)])), (g 31, .inr (5, [.int 0, .int 0, .int 0, .ref (g 32)])), (g 33, .inr (5, [.int 0, .int 0, .int 0, .ref (g 34)]))]) [0, 1, 2, 3, 4, 5] rfl
        have hD9 := hD.sub (ws' := [(g 0, .inr (8, xF g)), (g 26, .inl (cy 5, 4, .inr (.inr (.inr (.inr (va_up (va_up (va_up (va_up (fun _ => none) 0 (some (g 27))) 1 (some (g 29))) 2 (some (g 31))) 3 (some (g 33)))))))), (g 27, .inr (5, [.int 0, .int 0, .int 0, .ref (g 28)])), (g 29, .inr (5, [.int 0, .int 0, .int 0, .ref (g 30)])), (g 31, .inr (5, [.int 0, .int 0, .int 0, .ref (g 32)])), (g 33, .inr (5, [.int 0, .int 0, .int 0, .ref (g 34)]))]) [0, 1, 2, 3, 4, 5] (by decide) rfl
        exact W.iret (v := (-2)) hx hb hr (fun tS ht hW => ⟨⟨(-2), (), rfl, (by have f0 := hs_1; have f1 := bn32 hc_94; have z320 : (0 : Int32).toInt = 0 := (by decide); have z323 : (3 : Int32).toInt = 3 := (by decide); unfold sp_paste; (repeat' split) <;> first | rfl | (exfalso; omega)), by rw [ht]; exact hP9, va_K.moved hW.alike hK, hD9⟩, hS.F ht⟩) hS.2.2 dX8_paste_16
    ·
      refine lv_iload_n hx hb dX8_paste_0 rfl (lv_at hl 1 rfl) ?_
      have hPc := hP.sub (ws' := []) [] rfl
      have hDc := hD.sub (ws' := []) [] (by decide) rfl
      have hFc := va_free (wc := []) hD hS hA [] rfl
      refine va_calli (va_runS (As := [.int p1]) (rest := []) ⟨hx, hb, hml, hown, hts⟩ (c_X8_isSlot l D cy p1 s.heap.size) (va_cwS 1 hts (gd_S q1267 q1268 q125 q1269) rfl rfl rfl (by decide +kernel) ⟨Nat.le_of_ble_eq_true rfl, Nat.le_of_ble_eq_true rfl⟩) (pr_S hPc hK hDc) rfl rfl hl.1 rfl (lv_room (Nat.le_of_ble_eq_true rfl)) dX8_paste_1 ⟨Nat.le_of_ble_eq_true rfl, Nat.le_of_ble_eq_true rfl⟩) hS (fun q _ h => hFc q h) hFc (fun r_95 u tS H1 locs ht hvm hw hB hz1 hk1 hS => ?_)
      obtain ⟨hP1, hK1, hD1⟩ := hB
      rw [ht] at hP1
      try dsimp only at hw
      obtain ⟨hP, hD⟩ := va_join (wr := [(g 0, .inr (8, xF g)), (g 26, .inl (cy 5, 4, .inr (.inr (.inr (.inr (va_up (va_up (va_up (va_up (fun _ => none) 0 (some (g 27))) 1 (some (g 29))) 2 (some (g 31))) 3 (some (g 33)))))))), (g 27, .inr (5, [.int 0, .int 0, .int 0, .ref (g 28)])), (g 29, .inr (5, [.int 0, .int 0, .int 0, .ref (g 30)])), (g 31, .inr (5, [.int 0, .int 0, .int 0, .ref (g 32)])), (g 33, .inr (5, [.int 0, .int 0, .int 0, .ref (g 34)]))]) (w1 := []) hP hD [] [0, 1, 2, 3, 4, 5] rfl rfl (by decide) (by decide) hk1 hFc hP1 hD1
      generalize H1 = H at hP hS ⊢
      have hP : va_P D clz [(g 0, .inr (8, xF g)), (g 26, .inl (cy 5, 4, .inr (.inr (.inr (.inr (va_up (va_up (va_up (va_up (fun _ => none) 0 (some (g 27))) 1 (some (g 29))) 2 (some (g 31))) 3 (some (g 33)))))))), (g 27, .inr (5, [.int 0, .int 0, .int 0, .ref (g 28)])), (g 29, .inr (5, [.int 0, .int 0, .int 0, .ref (g 30)])), (g 31, .inr (5, [.int 0, .int 0, .int 0, .ref (g 32)])), (g 33, .inr (5, [.int 0, .int 0, .int 0, .ref (g 34)]))] H := hP
      have hD : va_D A [(g 0, .inr (8, xF g)), (g 26, .inl (cy 5, 4, .inr (.inr (.inr (.inr (va_up (va_up (va_up (va_up (fun _ => none) 0 (some (g 27))) 1 (some (g 29))) 2 (some (g 31))) 3 (some (g 33)))))))), (g 27, .inr (5, [.int 0, .int 0, .int 0, .ref (g 28)])), (g 29, .inr (5, [.int 0, .int 0, .int 0, .ref (g 30)])), (g 31, .inr (5, [.int 0, .int 0, .int 0, .ref (g 32)])), (g 33, .inr (5, [.int 0, .int 0, .int 0, .ref (g 34)]))] := hD
      by_cases hc_96 : ((0 : Int32) ≤ p1 ∧ p1 ≤ (3 : Int32))
      ·
        rw [if_pos hc_96] at hw
        subst hw
        exact False.elim (by have f0 := hs_1; have f1 := hs_86; have f2 := bp32 hc_96; have z320 : (0 : Int32).toInt = 0 := (by decide); have z323 : (3 : Int32).toInt = 3 := (by decide); omega)
      ·
        rw [if_neg hc_96] at hw
        subst hw
        refine lv_if_eq (tgt := 14) hx hb dX8_paste_4 (by decide) (fun _ => ?_) (fun c9 => absurd c9 (by decide))
        refine lv_bipush (v := (-2)) hx hb dX8_paste_14 (by decide) ?_
        have hP9 := hP.sub (ws' := [(g 0, .inr (8, xF g)), (g 26, .inl (cy 5, 4, .inr (.inr (.inr (.inr (va_up (va_up (va_up (va_up (fun _ => none) 0 (some (g 27))) 1 (some (g 29))) 2 (some (g 31))) 3 (some (g 33)))))))), (g 27, .inr (5, [.int 0, .int 0, .int 0, .ref (g 28)])), (g 29, .inr (5, [.int 0, .int 0, .int 0, .ref (g 30)])), (g 31, .inr (5, [.int 0, .int 0, .int 0, .ref (g 32)])), (g 33, .inr (5, [.int 0, .int 0, .int 0, .ref (g 34)]))]) [0, 1, 2, 3, 4, 5] rfl
        have hD9 := hD.sub (ws' := [(g 0, .inr (8, xF g)), (g 26, .inl (cy 5, 4, .inr (.inr (.inr (.inr (va_up (va_up (va_up (va_up (fun _ => none) 0 (some (g 27))) 1 (some (g 29))) 2 (some (g 31))) 3 (some (g 33)))))))), (g 27, .inr (5, [.int 0, .int 0, .int 0, .ref (g 28)])), (g 29, .inr (5, [.int 0, .int 0, .int 0, .ref (g 30)])), (g 31, .inr (5, [.int 0, .int 0, .int 0, .ref (g 32)])), (g 33, .inr (5, [.int 0, .int 0, .int 0, .ref (g 34)]))]) [0, 1, 2, 3, 4, 5] (by decide) rfl
        exact W.iret (v := (-2)) hx hb hr (fun tS ht hW => ⟨⟨(-2), (), rfl, (by have f0 := hs_1; have f1 := hs_86; have f2 := bn32 hc_96; have z320 : (0 : Int32).toInt = 0 := (by decide); have z323 : (3 : Int32).toInt = 3 := (by decide); unfold sp_paste; (repeat' split) <;> first | rfl | (exfalso; omega)), by rw [ht]; exact hP9, va_K.moved hW.alike hK, hD9⟩, hS.F ht⟩) hS.2.2 dX8_paste_16

