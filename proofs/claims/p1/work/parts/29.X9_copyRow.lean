theorem q1696 : Cond.code yX9_copyRow cX9_copyRow 5 none ∈ lw_g := lw_gm (List.mem_of_getElem? (i := 1696) (by decide +kernel)) rfl
theorem dX9_copyRow_0 : decode cX9_copyRow 0 = .ok (.iconst 0, 1) := by decide +kernel
theorem dX9_copyRow_1 : decode cX9_copyRow 1 = .ok (.istore 4, 2) := by decide +kernel
theorem dX9_copyRow_3 : decode cX9_copyRow 3 = .ok (.iload 4, 2) := by decide +kernel
theorem dX9_copyRow_5 : decode cX9_copyRow 5 = .ok (.iload_n 1, 1) := by decide +kernel
theorem dX9_copyRow_6 : decode cX9_copyRow 6 = .ok (.if_icmp .ge 25, 3) := by decide +kernel
theorem dX9_copyRow_9 : decode cX9_copyRow 9 = .ok (.aload_n 0, 1) := by decide +kernel
theorem dX9_copyRow_10 : decode cX9_copyRow 10 = .ok (.iload_n 1, 1) := by decide +kernel
theorem dX9_copyRow_11 : decode cX9_copyRow 11 = .ok (.iload_n 3, 1) := by decide +kernel
theorem dX9_copyRow_12 : decode cX9_copyRow 12 = .ok (.imul, 1) := by decide +kernel
theorem dX9_copyRow_13 : decode cX9_copyRow 13 = .ok (.iload 4, 2) := by decide +kernel
theorem dX9_copyRow_15 : decode cX9_copyRow 15 = .ok (.iadd, 1) := by decide +kernel
theorem dX9_copyRow_16 : decode cX9_copyRow 16 = .ok (.aload_n 0, 1) := by decide +kernel
theorem dX9_copyRow_17 : decode cX9_copyRow 17 = .ok (.iload_n 1, 1) := by decide +kernel
theorem dX9_copyRow_18 : decode cX9_copyRow 18 = .ok (.iload_n 2, 1) := by decide +kernel
theorem dX9_copyRow_19 : decode cX9_copyRow 19 = .ok (.imul, 1) := by decide +kernel
theorem dX9_copyRow_20 : decode cX9_copyRow 20 = .ok (.iload 4, 2) := by decide +kernel
theorem dX9_copyRow_22 : decode cX9_copyRow 22 = .ok (.iadd, 1) := by decide +kernel
theorem dX9_copyRow_23 : decode cX9_copyRow 23 = .ok (.iaload, 1) := by decide +kernel
theorem dX9_copyRow_24 : decode cX9_copyRow 24 = .ok (.iastore, 1) := by decide +kernel
theorem dX9_copyRow_25 : decode cX9_copyRow 25 = .ok (.iinc 4 1, 3) := by decide +kernel
theorem dX9_copyRow_28 : decode cX9_copyRow 28 = .ok (.goto (-25), 3) := by decide +kernel
theorem dX9_copyRow_31 : decode cX9_copyRow 31 = .ok (.return_, 1) := by decide +kernel
set_option maxHeartbeats 4000000 in
set_option maxRecDepth 100000 in
theorem c_X9_copyRow (l : Launch) (D : va_G) (cy : Nat → ClassId) (h : Nat) (n0 : Nat) (m0 : Nat) (a0 : Nat) (b0 : Nat) (sz : Nat) (ha0 : m0 * a0 + m0 ≤ n0) (hb0 : m0 * b0 + m0 ≤ n0) (hn0 : n0 ≤ 1000) : Met l yX9_copyRow (ww yX9_copyRow cX9_copyRow 5 none) ({ frames := 1, cells := 0, slots := 0, locals := 64 }) (va_Pc [.ref h, .int (nI m0), .int (nI a0), .int (nI b0)] (pre D cy [(h, .inl (cy 0, n0, .inl (fun _ => 0)))] sz)) (qv D cy (va_A [(h, .inl (cy 0, n0, .inl (fun _ => 0)))] sz) (fun (_ : Unit) => True) (fun (_ : Unit) => [(h, .inl (cy 0, n0, .inl (fun _ => 0)))])) 0 0 (va_A [(h, .inl (cy 0, n0, .inl (fun _ => 0)))] sz) := by
  refine Met.ofW (cc := cX9_copyRow) (maxL := 5) (ret := none) (by decide) rfl ?_
  intro p e s m args below meth c s₁ B hml hv
  obtain ⟨rfl, hsz, hP, hK, hD0⟩ := hv
  have hx := B.exec
  have hb := B.bytes
  have hr := B.returns
  have hts := hts_g (atoms_spec (ws := ww yX9_copyRow cX9_copyRow 5 none) B.pre)
  have hown : s.vm.findClass RX9 = some m.cls := findClass_of_methodNamed B.named
  have hlocks := B.notSynchronized
  subst hsz
  have hD := hD0.self (sz := s.heap.size)
  generalize hAe : va_A [(h, .inl (cy 0, n0, .inl (fun _ => 0)))] s.heap.size = A at hD ⊢
  have hA : ∀ q : Nat, s.heap.size ≤ q → A q := fun q h => by rw [← hAe]; exact Or.inr h
  have hS : va_S A s.heap s.heap [] := va_S.rf
  have hl := lv_entry ([.ref h, .int (nI m0), .int (nI a0), .int (nI b0)]) (n := 5) (Nat.le_of_ble_eq_true rfl)
  rw [lg_entry_eq]
  generalize (lg_sl ([.ref h, .int (nI m0), .int (nI a0), .int (nI b0)]) ++ List.replicate (5 - (lg_sl ([.ref h, .int (nI m0), .int (nI a0), .int (nI b0)])).length) Slot.unset).toArray = ls at hl ⊢
  have hl : lv_has ls 5 [(0, .ref h), (1, .int (nI m0)), (2, .int (nI a0)), (3, .int (nI b0))] := hl
  refine lv_iconst (v := 0) hx hb dX9_copyRow_0 (by decide) ?_
  refine lv_istore (lv' := [(4, .int 0), (0, .ref h), (1, .int (nI m0)), (2, .int (nI a0)), (3, .int (nI b0))]) hx hb dX9_copyRow_1 hl (by decide) rfl (fun ls hl => ?_)
  refine loopW (pc := 3) (fun i => [(4, .int (nI i)), (0, .ref h), (1, .int (nI m0)), (2, .int (nI a0)), (3, .int (nI b0))]) m0 ?_ m0 0 (Nat.zero_add _) _ _ _ hP hS hl
  intro i hi next H locs ls hP hS hl
  have hl : lv_has ls 5 [(4, .int (nI i)), (0, .ref h), (1, .int (nI m0)), (2, .int (nI a0)), (3, .int (nI b0))] := hl
  refine lv_iload hx hb dX9_copyRow_3 (lv_at hl 0 rfl) ?_
  refine lv_iload_n hx hb dX9_copyRow_5 rfl (lv_at hl 2 rfl) ?_
  refine lv_icmp_ge (tgt := 31) hx hb dX9_copyRow_6 (by decide) (fun c9 => ?_) (fun c9 => ?_)
  ·
    have hP9 := hP.sub (ws' := [(h, .inl (cy 0, n0, .inl (fun _ => 0)))]) [0] rfl
    have hD9 := hD.sub (ws' := [(h, .inl (cy 0, n0, .inl (fun _ => 0)))]) [0] (by decide) rfl
    exact W.vret hx hb hr (fun tS ht hW => ⟨⟨(), rfl, trivial, by rw [ht]; exact hP9, va_K.moved hW.alike hK, hD9⟩, hS.F ht⟩) hS.2.2 dX9_copyRow_31
  ·
    have hm0 : m0 ≤ 1000 := by omega
    have hlt : i < m0 := lt_nle c9 (by omega)
    refine lv_aload_n hx hb dX9_copyRow_9 rfl (lv_at hl 1 rfl) ?_
    refine lv_iload_n hx hb dX9_copyRow_10 rfl (lv_at hl 2 rfl) ?_
    refine lv_iload_n hx hb dX9_copyRow_11 rfl (lv_at hl 4 rfl) ?_
    refine lv_imul hx hb dX9_copyRow_12 ?_
    refine lv_topi (fun x_1 ex_1 => ?_)
    refine lv_iload hx hb dX9_copyRow_13 (lv_at hl 0 rfl) ?_
    refine lv_iadd hx hb dX9_copyRow_15 ?_
    refine lv_topi (fun x_2 ex_2 => ?_)
    refine lv_aload_n hx hb dX9_copyRow_16 rfl (lv_at hl 1 rfl) ?_
    refine lv_iload_n hx hb dX9_copyRow_17 rfl (lv_at hl 2 rfl) ?_
    refine lv_iload_n hx hb dX9_copyRow_18 rfl (lv_at hl 3 rfl) ?_
    refine lv_imul hx hb dX9_copyRow_19 ?_
    refine lv_topi (fun x_3 ex_3 => ?_)
    refine lv_iload hx hb dX9_copyRow_20 (lv_at hl 0 rfl) ?_
    refine lv_iadd hx hb dX9_copyRow_22 ?_
    refine lv_topi (fun x_4 ex_4 => ?_)
    refine va_iald hx hb hK hP 0 0 rfl rfl (ix_add (a := m0 * a0) ex_4 (ex_3.trans (pk_mul m0 a0)) rfl (by omega) (by omega)) dX9_copyRow_23 ?_
    refine lv_topi (fun x_5 ex_5 => ?_)
    obtain rfl : x_5 = 0 := ex_5.trans rfl
    refine va_iast hx hb hK hP hD hS 0 0 rfl rfl (ix_add (a := m0 * b0) ex_2 (ex_1.trans (pk_mul m0 b0)) rfl (by omega) (by omega)) dX9_copyRow_24 (fun H locs hP hD hS => ?_)
    rw [upd_z] at hP hD
    have hP : va_P D clz [(h, .inl (cy 0, n0, .inl (fun _ => 0)))] H := hP
    have hD : va_D A [(h, .inl (cy 0, n0, .inl (fun _ => 0)))] := hD
    refine lv_iinc (v := nI (i + 1)) (lv' := [(4, .int (nI (i + 1))), (0, .ref h), (1, .int (nI m0)), (2, .int (nI a0)), (3, .int (nI b0))]) hx hb dX9_copyRow_25 hl (k := 0) rfl (nI_1 i) (by decide) rfl (fun ls hl => ?_)
    refine lv_goto (tgt := 3) hx hb dX9_copyRow_28 (by decide) ?_
    exact next _ _ _ hP hS (lv_sub hl [0, 1, 2, 3, 4] rfl) hlt

theorem q1693 : Cond.code yX9_copyDesk cX9_copyDesk 3 none ∈ lw_g := lw_gm (List.mem_of_getElem? (i := 1693) (by decide +kernel)) rfl
theorem q1694 : Cond.methodLink RX9 299 yX9_copyRow ∈ lw_g := lw_gm (List.mem_of_getElem? (i := 1694) (by decide +kernel)) rfl
theorem q1695 : Cond.static yX9_copyRow ∈ lw_g := lw_gm (List.mem_of_getElem? (i := 1695) (by decide +kernel)) rfl
theorem dX9_copyDesk_0 : decode cX9_copyDesk 0 = .ok (.aload_n 0, 1) := by decide +kernel
theorem dX9_copyDesk_1 : decode cX9_copyDesk 1 = .ok (.getfield 31, 3) := by decide +kernel
theorem dX9_copyDesk_4 : decode cX9_copyDesk 4 = .ok (.iconst 1, 1) := by decide +kernel
theorem dX9_copyDesk_5 : decode cX9_copyDesk 5 = .ok (.iload_n 1, 1) := by decide +kernel
theorem dX9_copyDesk_6 : decode cX9_copyDesk 6 = .ok (.iload_n 2, 1) := by decide +kernel
theorem dX9_copyDesk_7 : decode cX9_copyDesk 7 = .ok (.invokestatic 299, 3) := by decide +kernel
theorem dX9_copyDesk_10 : decode cX9_copyDesk 10 = .ok (.aload_n 0, 1) := by decide +kernel
theorem dX9_copyDesk_11 : decode cX9_copyDesk 11 = .ok (.getfield 34, 3) := by decide +kernel
theorem dX9_copyDesk_14 : decode cX9_copyDesk 14 = .ok (.iconst 5, 1) := by decide +kernel
theorem dX9_copyDesk_15 : decode cX9_copyDesk 15 = .ok (.iload_n 1, 1) := by decide +kernel
theorem dX9_copyDesk_16 : decode cX9_copyDesk 16 = .ok (.iload_n 2, 1) := by decide +kernel
theorem dX9_copyDesk_17 : decode cX9_copyDesk 17 = .ok (.invokestatic 299, 3) := by decide +kernel
theorem dX9_copyDesk_20 : decode cX9_copyDesk 20 = .ok (.aload_n 0, 1) := by decide +kernel
theorem dX9_copyDesk_21 : decode cX9_copyDesk 21 = .ok (.getfield 37, 3) := by decide +kernel
theorem dX9_copyDesk_24 : decode cX9_copyDesk 24 = .ok (.bipush 28, 2) := by decide +kernel
theorem dX9_copyDesk_26 : decode cX9_copyDesk 26 = .ok (.iload_n 1, 1) := by decide +kernel
theorem dX9_copyDesk_27 : decode cX9_copyDesk 27 = .ok (.iload_n 2, 1) := by decide +kernel
theorem dX9_copyDesk_28 : decode cX9_copyDesk 28 = .ok (.invokestatic 299, 3) := by decide +kernel
theorem dX9_copyDesk_31 : decode cX9_copyDesk 31 = .ok (.aload_n 0, 1) := by decide +kernel
theorem dX9_copyDesk_32 : decode cX9_copyDesk 32 = .ok (.getfield 40, 3) := by decide +kernel
theorem dX9_copyDesk_35 : decode cX9_copyDesk 35 = .ok (.bipush 36, 2) := by decide +kernel
theorem dX9_copyDesk_37 : decode cX9_copyDesk 37 = .ok (.iload_n 1, 1) := by decide +kernel
theorem dX9_copyDesk_38 : decode cX9_copyDesk 38 = .ok (.iload_n 2, 1) := by decide +kernel
theorem dX9_copyDesk_39 : decode cX9_copyDesk 39 = .ok (.invokestatic 299, 3) := by decide +kernel
theorem dX9_copyDesk_42 : decode cX9_copyDesk 42 = .ok (.aload_n 0, 1) := by decide +kernel
theorem dX9_copyDesk_43 : decode cX9_copyDesk 43 = .ok (.getfield 43, 3) := by decide +kernel
theorem dX9_copyDesk_46 : decode cX9_copyDesk 46 = .ok (.iconst 3, 1) := by decide +kernel
theorem dX9_copyDesk_47 : decode cX9_copyDesk 47 = .ok (.iload_n 1, 1) := by decide +kernel
theorem dX9_copyDesk_48 : decode cX9_copyDesk 48 = .ok (.iload_n 2, 1) := by decide +kernel
theorem dX9_copyDesk_49 : decode cX9_copyDesk 49 = .ok (.invokestatic 299, 3) := by decide +kernel
theorem dX9_copyDesk_52 : decode cX9_copyDesk 52 = .ok (.aload_n 0, 1) := by decide +kernel
theorem dX9_copyDesk_53 : decode cX9_copyDesk 53 = .ok (.getfield 46, 3) := by decide +kernel
theorem dX9_copyDesk_56 : decode cX9_copyDesk 56 = .ok (.sipush 192, 3) := by decide +kernel
theorem dX9_copyDesk_59 : decode cX9_copyDesk 59 = .ok (.iload_n 1, 1) := by decide +kernel
theorem dX9_copyDesk_60 : decode cX9_copyDesk 60 = .ok (.iload_n 2, 1) := by decide +kernel
theorem dX9_copyDesk_61 : decode cX9_copyDesk 61 = .ok (.invokestatic 299, 3) := by decide +kernel
theorem dX9_copyDesk_64 : decode cX9_copyDesk 64 = .ok (.return_, 1) := by decide +kernel
set_option maxHeartbeats 4000000 in
set_option maxRecDepth 100000 in
theorem c_X9_copyDesk_40 (l : Launch) (D : va_G) (cy : Nat → ClassId) (g : Nat → Nat) (sz : Nat) : Met l yX9_copyDesk (ww yX9_copyDesk cX9_copyDesk 3 none) ({ frames := 2, cells := 0, slots := 0, locals := 128 }) (va_Pc [.ref (g 60), .int 4, .int 0] (pre D cy [(g 60, .inr (9, [.int 0, .ref (g 1), .ref (g 2), .ref (g 3), .ref (g 4), .ref (g 5), .int 0, .int 0, .int 0, .int 0, .int 0, .long 0, .int 0, .int (-1), .int 0, .int (-1), .ref (g 16), .ref (g 17), .ref (g 18), .ref (g 19), .ref (g 20), .ref (g 21), .ref (g 22), .int 0, .ref (g 24), .ref (g 25), .ref (g 26), .ref (g 27), .int 0, .int 0, .int 0, .int 0, .ref (g 32), .ref (g 33), .ref (g 34), .ref (g 35), .ref (g 36), .ref (g 37), .ref (g 38), .int 0, .int 0, .long 0, .ref (g 42), .ref (g 43), .ref (g 44), .ref (g 45), .ref (g 46), .ref (g 47), .ref (g 48), .ref (g 49), .ref (g 50), .int 0, .int 0, .ref (g 53), .ref (g 54), .ref (g 55), .ref (g 56), .ref (g 57), .int 0, .int 0])), (g 16, .inl (cy 0, 5, .inl (fun _ => 0))), (g 17, .inl (cy 0, 25, .inl (fun _ => 0))), (g 18, .inl (cy 0, 140, .inl (fun _ => 0))), (g 19, .inl (cy 0, 180, .inl (fun _ => 0))), (g 20, .inl (cy 0, 15, .inl (fun _ => 0))), (g 21, .inl (cy 0, 960, .inl (fun _ => 0)))] sz)) (qv D cy (va_A [(g 60, .inr (9, [.int 0, .ref (g 1), .ref (g 2), .ref (g 3), .ref (g 4), .ref (g 5), .int 0, .int 0, .int 0, .int 0, .int 0, .long 0, .int 0, .int (-1), .int 0, .int (-1), .ref (g 16), .ref (g 17), .ref (g 18), .ref (g 19), .ref (g 20), .ref (g 21), .ref (g 22), .int 0, .ref (g 24), .ref (g 25), .ref (g 26), .ref (g 27), .int 0, .int 0, .int 0, .int 0, .ref (g 32), .ref (g 33), .ref (g 34), .ref (g 35), .ref (g 36), .ref (g 37), .ref (g 38), .int 0, .int 0, .long 0, .ref (g 42), .ref (g 43), .ref (g 44), .ref (g 45), .ref (g 46), .ref (g 47), .ref (g 48), .ref (g 49), .ref (g 50), .int 0, .int 0, .ref (g 53), .ref (g 54), .ref (g 55), .ref (g 56), .ref (g 57), .int 0, .int 0])), (g 16, .inl (cy 0, 5, .inl (fun _ => 0))), (g 17, .inl (cy 0, 25, .inl (fun _ => 0))), (g 18, .inl (cy 0, 140, .inl (fun _ => 0))), (g 19, .inl (cy 0, 180, .inl (fun _ => 0))), (g 20, .inl (cy 0, 15, .inl (fun _ => 0))), (g 21, .inl (cy 0, 960, .inl (fun _ => 0)))] sz) (fun (_ : Unit) => True) (fun (_ : Unit) => [(g 60, .inr (9, [.int 0, .ref (g 1), .ref (g 2), .ref (g 3), .ref (g 4), .ref (g 5), .int 0, .int 0, .int 0, .int 0, .int 0, .long 0, .int 0, .int (-1), .int 0, .int (-1), .ref (g 16), .ref (g 17), .ref (g 18), .ref (g 19), .ref (g 20), .ref (g 21), .ref (g 22), .int 0, .ref (g 24), .ref (g 25), .ref (g 26), .ref (g 27), .int 0, .int 0, .int 0, .int 0, .ref (g 32), .ref (g 33), .ref (g 34), .ref (g 35), .ref (g 36), .ref (g 37), .ref (g 38), .int 0, .int 0, .long 0, .ref (g 42), .ref (g 43), .ref (g 44), .ref (g 45), .ref (g 46), .ref (g 47), .ref (g 48), .ref (g 49), .ref (g 50), .int 0, .int 0, .ref (g 53), .ref (g 54), .ref (g 55), .ref (g 56), .ref (g 57), .int 0, .int 0])), (g 16, .inl (cy 0, 5, .inl (fun _ => 0))), (g 17, .inl (cy 0, 25, .inl (fun _ => 0))), (g 18, .inl (cy 0, 140, .inl (fun _ => 0))), (g 19, .inl (cy 0, 180, .inl (fun _ => 0))), (g 20, .inl (cy 0, 15, .inl (fun _ => 0))), (g 21, .inl (cy 0, 960, .inl (fun _ => 0)))])) 0 0 (va_A [(g 60, .inr (9, [.int 0, .ref (g 1), .ref (g 2), .ref (g 3), .ref (g 4), .ref (g 5), .int 0, .int 0, .int 0, .int 0, .int 0, .long 0, .int 0, .int (-1), .int 0, .int (-1), .ref (g 16), .ref (g 17), .ref (g 18), .ref (g 19), .ref (g 20), .ref (g 21), .ref (g 22), .int 0, .ref (g 24), .ref (g 25), .ref (g 26), .ref (g 27), .int 0, .int 0, .int 0, .int 0, .ref (g 32), .ref (g 33), .ref (g 34), .ref (g 35), .ref (g 36), .ref (g 37), .ref (g 38), .int 0, .int 0, .long 0, .ref (g 42), .ref (g 43), .ref (g 44), .ref (g 45), .ref (g 46), .ref (g 47), .ref (g 48), .ref (g 49), .ref (g 50), .int 0, .int 0, .ref (g 53), .ref (g 54), .ref (g 55), .ref (g 56), .ref (g 57), .int 0, .int 0])), (g 16, .inl (cy 0, 5, .inl (fun _ => 0))), (g 17, .inl (cy 0, 25, .inl (fun _ => 0))), (g 18, .inl (cy 0, 140, .inl (fun _ => 0))), (g 19, .inl (cy 0, 180, .inl (fun _ => 0))), (g 20, .inl (cy 0, 15, .inl (fun _ => 0))), (g 21, .inl (cy 0, 960, .inl (fun _ => 0)))] sz) := by
  refine Met.ofW (cc := cX9_copyDesk) (maxL := 3) (ret := none) (by decide) rfl ?_
  intro p e s m args below meth c s₁ B hml hv
  obtain ⟨rfl, hsz, hP, hK, hD0⟩ := hv
  have hx := B.exec
  have hb := B.bytes
  have hr := B.returns
  have hts := hts_g (atoms_spec (ws := ww yX9_copyDesk cX9_copyDesk 3 none) B.pre)
  have hown : s.vm.findClass RX9 = some m.cls := findClass_of_methodNamed B.named
  have hlocks := B.notSynchronized
  subst hsz
  have hD := hD0.self (sz := s.heap.size)
  generalize hAe : va_A [(g 60, .inr (9, [.int 0, .ref (g 1), .ref (g 2), .ref (g 3), .ref (g 4), .ref (g 5), .int 0, .int 0, .int 0, .int 0, .int 0, .long 0, .int 0, .int (-1), .int 0, .int (-1), .ref (g 16), .ref (g 17), .ref (g 18), .ref (g 19), .ref (g 20), .ref (g 21), .ref (g 22), .int 0, .ref (g 24), .ref (g 25), .ref (g 26), .ref (g 27), .int 0, .int 0, .int 0, .int 0, .ref (g 32), .ref (g 33), .ref (g 34), .ref (g 35), .ref (g 36), .ref (g 37), .ref (g 38), .int 0, .int 0, .long 0, .ref (g 42), .ref (g 43), .ref (g 44), .ref (g 45), .ref (g 46), .ref (g 47), .ref (g 48), .ref (g 49), .ref (g 50), .int 0, .int 0, .ref (g 53), .ref (g 54), .ref (g 55), .ref (g 56), .ref (g 57), .int 0, .int 0])), (g 16, .inl (cy 0, 5, .inl (fun _ => 0))), (g 17, .inl (cy 0, 25, .inl (fun _ => 0))), (g 18, .inl (cy 0, 140, .inl (fun _ => 0))), (g 19, .inl (cy 0, 180, .inl (fun _ => 0))), (g 20, .inl (cy 0, 15, .inl (fun _ => 0))), (g 21, .inl (cy 0, 960, .inl (fun _ => 0)))] s.heap.size = A at hD ⊢
  have hA : ∀ q : Nat, s.heap.size ≤ q → A q := fun q h => by rw [← hAe]; exact Or.inr h
  have hS : va_S A s.heap s.heap [] := va_S.rf
  have hl := lv_entry ([.ref (g 60), .int 4, .int 0]) (n := 3) (Nat.le_of_ble_eq_true rfl)
  rw [lg_entry_eq]
  generalize (lg_sl ([.ref (g 60), .int 4, .int 0]) ++ List.replicate (3 - (lg_sl ([.ref (g 60), .int 4, .int 0])).length) Slot.unset).toArray = ls at hl ⊢
  have hl : lv_has ls 3 [(0, .ref (g 60)), (1, .int 4), (2, .int 0)] := hl
  refine lv_aload_n hx hb dX9_copyDesk_0 rfl (lv_at hl 0 rfl) ?_
  refine va_get (D := D) (ci := 9) (v := .ref (g 16)) (C := RX9) (T := TX9) (N := 60) hx hb hts iX9 hown hK hP 0 rfl rfl 16 (by decide) (hts _ q1376) (fun _ h9 => h9) rfl dX9_copyDesk_1 ?_
  refine lv_iconst (v := 1) hx hb dX9_copyDesk_4 (by decide) ?_
  refine lv_iload_n hx hb dX9_copyDesk_5 rfl (lv_at hl 1 rfl) ?_
  refine lv_iload_n hx hb dX9_copyDesk_6 rfl (lv_at hl 2 rfl) ?_
  have hPc := hP.sub (ws' := [(g 16, .inl (cy 0, 5, .inl (fun _ => 0)))]) [1] rfl
  have hDc := hD.sub (ws' := [(g 16, .inl (cy 0, 5, .inl (fun _ => 0)))]) [1] (by decide) rfl
  have hFc := va_free (wc := [(g 16, .inl (cy 0, 5, .inl (fun _ => 0)))]) hD hS hA [1] rfl
  refine va_callv (va_runS (As := [.ref (g 16), .int 1, .int 4, .int 0]) (rest := []) ⟨hx, hb, hml, hown, hts⟩ (c_X9_copyRow l D cy (g 16) 5 1 4 0 s.heap.size (by decide) (by decide) (by decide)) (va_cwS 4 hts (gd_S q1694 q1695 q134 q1696) rfl rfl rfl (by decide +kernel) ⟨Nat.le_of_ble_eq_true rfl, Nat.le_of_ble_eq_true rfl⟩) (pr_S hPc hK hDc) rfl rfl hl.1 rfl (lv_room (Nat.le_of_ble_eq_true rfl)) dX9_copyDesk_7 ⟨Nat.le_of_ble_eq_true rfl, Nat.le_of_ble_eq_true rfl⟩) hS (fun q _ h => hFc q h) hFc (fun u tS H1 locs ht hvm hw hB hz1 hk1 hS => ?_)
  obtain ⟨hP1, hK1, hD1⟩ := hB
  rw [ht] at hP1
  try dsimp only at hw
  obtain ⟨hP, hD⟩ := va_join (wr := [(g 60, .inr (9, [.int 0, .ref (g 1), .ref (g 2), .ref (g 3), .ref (g 4), .ref (g 5), .int 0, .int 0, .int 0, .int 0, .int 0, .long 0, .int 0, .int (-1), .int 0, .int (-1), .ref (g 16), .ref (g 17), .ref (g 18), .ref (g 19), .ref (g 20), .ref (g 21), .ref (g 22), .int 0, .ref (g 24), .ref (g 25), .ref (g 26), .ref (g 27), .int 0, .int 0, .int 0, .int 0, .ref (g 32), .ref (g 33), .ref (g 34), .ref (g 35), .ref (g 36), .ref (g 37), .ref (g 38), .int 0, .int 0, .long 0, .ref (g 42), .ref (g 43), .ref (g 44), .ref (g 45), .ref (g 46), .ref (g 47), .ref (g 48), .ref (g 49), .ref (g 50), .int 0, .int 0, .ref (g 53), .ref (g 54), .ref (g 55), .ref (g 56), .ref (g 57), .int 0, .int 0])), (g 17, .inl (cy 0, 25, .inl (fun _ => 0))), (g 18, .inl (cy 0, 140, .inl (fun _ => 0))), (g 19, .inl (cy 0, 180, .inl (fun _ => 0))), (g 20, .inl (cy 0, 15, .inl (fun _ => 0))), (g 21, .inl (cy 0, 960, .inl (fun _ => 0)))]) (w1 := [(g 16, .inl (cy 0, 5, .inl (fun _ => 0)))]) hP hD [1] [0, 2, 3, 4, 5, 6] rfl rfl (by decide) (by decide) hk1 hFc hP1 hD1
  generalize H1 = H at hP hS ⊢
  have hP : va_P D clz [(g 60, .inr (9, [.int 0, .ref (g 1), .ref (g 2), .ref (g 3), .ref (g 4), .ref (g 5), .int 0, .int 0, .int 0, .int 0, .int 0, .long 0, .int 0, .int (-1), .int 0, .int (-1), .ref (g 16), .ref (g 17), .ref (g 18), .ref (g 19), .ref (g 20), .ref (g 21), .ref (g 22), .int 0, .ref (g 24), .ref (g 25), .ref (g 26), .ref (g 27), .int 0, .int 0, .int 0, .int 0, .ref (g 32), .ref (g 33), .ref (g 34), .ref (g 35), .ref (g 36), .ref (g 37), .ref (g 38), .int 0, .int 0, .long 0, .ref (g 42), .ref (g 43), .ref (g 44), .ref (g 45), .ref (g 46), .ref (g 47), .ref (g 48), .ref (g 49), .ref (g 50), .int 0, .int 0, .ref (g 53), .ref (g 54), .ref (g 55), .ref (g 56), .ref (g 57), .int 0, .int 0])), (g 17, .inl (cy 0, 25, .inl (fun _ => 0))), (g 18, .inl (cy 0, 140, .inl (fun _ => 0))), (g 19, .inl (cy 0, 180, .inl (fun _ => 0))), (g 20, .inl (cy 0, 15, .inl (fun _ => 0))), (g 21, .inl (cy 0, 960, .inl (fun _ => 0))), (g 16, .inl (cy 0, 5, .inl (fun _ => 0)))] H := hP
  have hD : va_D A [(g 60, .inr (9, [.int 0, .ref (g 1), .ref (g 2), .ref (g 3), .ref (g 4), .ref (g 5), .int 0, .int 0, .int 0, .int 0, .int 0, .long 0, .int 0, .int (-1), .int 0, .int (-1), .ref (g 16), .ref (g 17), .ref (g 18), .ref (g 19), .ref (g 20), .ref (g 21), .ref (g 22), .int 0, .ref (g 24), .ref (g 25), .ref (g 26), .ref (g 27), .int 0, .int 0, .int 0, .int 0, .ref (g 32), .ref (g 33), .ref (g 34), .ref (g 35), .ref (g 36), .ref (g 37), .ref (g 38), .int 0, .int 0, .long 0, .ref (g 42), .ref (g 43), .ref (g 44), .ref (g 45), .ref (g 46), .ref (g 47), .ref (g 48), .ref (g 49), .ref (g 50), .int 0, .int 0, .ref (g 53), .ref (g 54), .ref (g 55), .ref (g 56), .ref (g 57), .int 0, .int 0])), (g 17, .inl (cy 0, 25, .inl (fun _ => 0))), (g 18, .inl (cy 0, 140, .inl (fun _ => 0))), (g 19, .inl (cy 0, 180, .inl (fun _ => 0))), (g 20, .inl (cy 0, 15, .inl (fun _ => 0))), (g 21, .inl (cy 0, 960, .inl (fun _ => 0))), (g 16, .inl (cy 0, 5, .inl (fun _ => 0)))] := hD
  refine lv_aload_n hx hb dX9_copyDesk_10 rfl (lv_at hl 0 rfl) ?_
  refine va_get (D := D) (ci := 9) (v := .ref (g 17)) (C := RX9) (T := TX9) (N := 60) hx hb hts iX9 hown hK hP 0 rfl rfl 17 (by decide) (hts _ q1377) (fun _ h9 => h9) rfl dX9_copyDesk_11 ?_
  refine lv_iconst (v := 5) hx hb dX9_copyDesk_14 (by decide) ?_
  refine lv_iload_n hx hb dX9_copyDesk_15 rfl (lv_at hl 1 rfl) ?_
  refine lv_iload_n hx hb dX9_copyDesk_16 rfl (lv_at hl 2 rfl) ?_
  have hPc := hP.sub (ws' := [(g 17, .inl (cy 0, 25, .inl (fun _ => 0)))]) [1] rfl
  have hDc := hD.sub (ws' := [(g 17, .inl (cy 0, 25, .inl (fun _ => 0)))]) [1] (by decide) rfl
  have hFc := va_free (wc := [(g 17, .inl (cy 0, 25, .inl (fun _ => 0)))]) hD hS hA [1] rfl
  refine va_callv (va_runS (As := [.ref (g 17), .int 5, .int 4, .int 0]) (rest := []) ⟨hx, hb, hml, hown, hts⟩ (c_X9_copyRow l D cy (g 17) 25 5 4 0 H.size (by decide) (by decide) (by decide)) (va_cwS 4 hts (gd_S q1694 q1695 q134 q1696) rfl rfl rfl (by decide +kernel) ⟨Nat.le_of_ble_eq_true rfl, Nat.le_of_ble_eq_true rfl⟩) (pr_S hPc hK hDc) rfl rfl hl.1 rfl (lv_room (Nat.le_of_ble_eq_true rfl)) dX9_copyDesk_17 ⟨Nat.le_of_ble_eq_true rfl, Nat.le_of_ble_eq_true rfl⟩) hS (fun q _ h => hFc q h) hFc (fun u tS H1 locs ht hvm hw hB hz1 hk1 hS => ?_)
  obtain ⟨hP1, hK1, hD1⟩ := hB
  rw [ht] at hP1
  try dsimp only at hw
  obtain ⟨hP, hD⟩ := va_join (wr := [(g 60, .inr (9, [.int 0, .ref (g 1), .ref (g 2), .ref (g 3), .ref (g 4), .ref (g 5), .int 0, .int 0, .int 0, .int 0, .int 0, .long 0, .int 0, .int (-1), .int 0, .int (-1), .ref (g 16), .ref (g 17), .ref (g 18), .ref (g 19), .ref (g 20), .ref (g 21), .ref (g 22), .int 0, .ref (g 24), .ref (g 25), .ref (g 26), .ref (g 27), .int 0, .int 0, .int 0, .int 0, .ref (g 32), .ref (g 33), .ref (g 34), .ref (g 35), .ref (g 36), .ref (g 37), .ref (g 38), .int 0, .int 0, .long 0, .ref (g 42), .ref (g 43), .ref (g 44), .ref (g 45), .ref (g 46), .ref (g 47), .ref (g 48), .ref (g 49), .ref (g 50), .int 0, .int 0, .ref (g 53), .ref (g 54), .ref (g 55), .ref (g 56), .ref (g 57), .int 0, .int 0])), (g 18, .inl (cy 0, 140, .inl (fun _ => 0))), (g 19, .inl (cy 0, 180, .inl (fun _ => 0))), (g 20, .inl (cy 0, 15, .inl (fun _ => 0))), (g 21, .inl (cy 0, 960, .inl (fun _ => 0))), (g 16, .inl (cy 0, 5, .inl (fun _ => 0)))]) (w1 := [(g 17, .inl (cy 0, 25, .inl (fun _ => 0)))]) hP hD [1] [0, 2, 3, 4, 5, 6] rfl rfl (by decide) (by decide) hk1 hFc hP1 hD1
  generalize H1 = H at hP hS ⊢
  have hP : va_P D clz [(g 60, .inr (9, [.int 0, .ref (g 1), .ref (g 2), .ref (g 3), .ref (g 4), .ref (g 5), .int 0, .int 0, .int 0, .int 0, .int 0, .long 0, .int 0, .int (-1), .int 0, .int (-1), .ref (g 16), .ref (g 17), .ref (g 18), .ref (g 19), .ref (g 20), .ref (g 21), .ref (g 22), .int 0, .ref (g 24), .ref (g 25), .ref (g 26), .ref (g 27), .int 0, .int 0, .int 0, .int 0, .ref (g 32), .ref (g 33), .ref (g 34), .ref (g 35), .ref (g 36), .ref (g 37), .ref (g 38), .int 0, .int 0, .long 0, .ref (g 42), .ref (g 43), .ref (g 44), .ref (g 45), .ref (g 46), .ref (g 47), .ref (g 48), .ref (g 49), .ref (g 50), .int 0, .int 0, .ref (g 53), .ref (g 54), .ref (g 55), .ref (g 56), .ref (g 57), .int 0, .int 0])), (g 18, .inl (cy 0, 140, .inl (fun _ => 0))), (g 19, .inl (cy 0, 180, .inl (fun _ => 0))), (g 20, .inl (cy 0, 15, .inl (fun _ => 0))), (g 21, .inl (cy 0, 960, .inl (fun _ => 0))), (g 16, .inl (cy 0, 5, .inl (fun _ => 0))), (g 17, .inl (cy 0, 25, .inl (fun _ => 0)))] H := hP
  have hD : va_D A [(g 60, .inr (9, [.int 0, .ref (g 1), .ref (g 2), .ref (g 3), .ref (g 4), .ref (g 5), .int 0, .int 0, .int 0, .int 0, .int 0, .long 0, .int 0, .int (-1), .int 0, .int (-1), .ref (g 16), .ref (g 17), .ref (g 18), .ref (g 19), .ref (g 20), .ref (g 21), .ref (g 22), .int 0, .ref (g 24), .ref (g 25), .ref (g 26), .ref (g 27), .int 0, .int 0, .int 0, .int 0, .ref (g 32), .ref (g 33), .ref (g 34), .ref (g 35), .ref (g 36), .ref (g 37), .ref (g 38), .int 0, .int 0, .long 0, .ref (g 42), .ref (g 43), .ref (g 44), .ref (g 45), .ref (g 46), .ref (g 47), .ref (g 48), .ref (g 49), .ref (g 50), .int 0, .int 0, .ref (g 53), .ref (g 54), .ref (g 55), .ref (g 56), .ref (g 57), .int 0, .int 0])), (g 18, .inl (cy 0, 140, .inl (fun _ => 0))), (g 19, .inl (cy 0, 180, .inl (fun _ => 0))), (g 20, .inl (cy 0, 15, .inl (fun _ => 0))), (g 21, .inl (cy 0, 960, .inl (fun _ => 0))), (g 16, .inl (cy 0, 5, .inl (fun _ => 0))), (g 17, .inl (cy 0, 25, .inl (fun _ => 0)))] := hD
  refine lv_aload_n hx hb dX9_copyDesk_20 rfl (lv_at hl 0 rfl) ?_
  refine va_get (D := D) (ci := 9) (v := .ref (g 18)) (C := RX9) (T := TX9) (N := 60) hx hb hts iX9 hown hK hP 0 rfl rfl 18 (by decide) (hts _ q1378) (fun _ h9 => h9) rfl dX9_copyDesk_21 ?_
  refine lv_bipush (v := 28) hx hb dX9_copyDesk_24 (by decide) ?_
  refine lv_iload_n hx hb dX9_copyDesk_26 rfl (lv_at hl 1 rfl) ?_
  refine lv_iload_n hx hb dX9_copyDesk_27 rfl (lv_at hl 2 rfl) ?_
  have hPc := hP.sub (ws' := [(g 18, .inl (cy 0, 140, .inl (fun _ => 0)))]) [1] rfl
  have hDc := hD.sub (ws' := [(g 18, .inl (cy 0, 140, .inl (fun _ => 0)))]) [1] (by decide) rfl
  have hFc := va_free (wc := [(g 18, .inl (cy 0, 140, .inl (fun _ => 0)))]) hD hS hA [1] rfl
  refine va_callv (va_runS (As := [.ref (g 18), .int 28, .int 4, .int 0]) (rest := []) ⟨hx, hb, hml, hown, hts⟩ (c_X9_copyRow l D cy (g 18) 140 28 4 0 H.size (by decide) (by decide) (by decide)) (va_cwS 4 hts (gd_S q1694 q1695 q134 q1696) rfl rfl rfl (by decide +kernel) ⟨Nat.le_of_ble_eq_true rfl, Nat.le_of_ble_eq_true rfl⟩) (pr_S hPc hK hDc) rfl rfl hl.1 rfl (lv_room (Nat.le_of_ble_eq_true rfl)) dX9_copyDesk_28 ⟨Nat.le_of_ble_eq_true rfl, Nat.le_of_ble_eq_true rfl⟩) hS (fun q _ h => hFc q h) hFc (fun u tS H1 locs ht hvm hw hB hz1 hk1 hS => ?_)
  obtain ⟨hP1, hK1, hD1⟩ := hB
  rw [ht] at hP1
  try dsimp only at hw
  obtain ⟨hP, hD⟩ := va_join (wr := [(g 60, .inr (9, [.int 0, .ref (g 1), .ref (g 2), .ref (g 3), .ref (g 4), .ref (g 5), .int 0, .int 0, .int 0, .int 0, .int 0, .long 0, .int 0, .int (-1), .int 0, .int (-1), .ref (g 16), .ref (g 17), .ref (g 18), .ref (g 19), .ref (g 20), .ref (g 21), .ref (g 22), .int 0, .ref (g 24), .ref (g 25), .ref (g 26), .ref (g 27), .int 0, .int 0, .int 0, .int 0, .ref (g 32), .ref (g 33), .ref (g 34), .ref (g 35), .ref (g 36), .ref (g 37), .ref (g 38), .int 0, .int 0, .long 0, .ref (g 42), .ref (g 43), .ref (g 44), .ref (g 45), .ref (g 46), .ref (g 47), .ref (g 48), .ref (g 49), .ref (g 50), .int 0, .int 0, .ref (g 53), .ref (g 54), .ref (g 55), .ref (g 56), .ref (g 57), .int 0, .int 0])), (g 19, .inl (cy 0, 180, .inl (fun _ => 0))), (g 20, .inl (cy 0, 15, .inl (fun _ => 0))), (g 21, .inl (cy 0, 960, .inl (fun _ => 0))), (g 16, .inl (cy 0, 5, .inl (fun _ => 0))), (g 17, .inl (cy 0, 25, .inl (fun _ => 0)))]) (w1 := [(g 18, .inl (cy 0, 140, .inl (fun _ => 0)))]) hP hD [1] [0, 2, 3, 4, 5, 6] rfl rfl (by decide) (by decide) hk1 hFc hP1 hD1
  generalize H1 = H at hP hS ⊢
  have hP : va_P D clz [(g 60, .inr (9, [.int 0, .ref (g 1), .ref (g 2), .ref (g 3), .ref (g 4), .ref (g 5), .int 0, .int 0, .int 0, .int 0, .int 0, .long 0, .int 0, .int (-1), .int 0, .int (-1), .ref (g 16), .ref (g 17), .ref (g 18), .ref (g 19), .ref (g 20), .ref (g 21), .ref (g 22), .int 0, .ref (g 24), .ref (g 25), .ref (g 26), .ref (g 27), .int 0, .int 0, .int 0, .int 0, .ref (g 32), .ref (g 33), .ref (g 34), .ref (g 35), .ref (g 36), .ref (g 37), .ref (g 38), .int 0, .int 0, .long 0, .ref (g 42), .ref (g 43), .ref (g 44), .ref (g 45), .ref (g 46), .ref (g 47), .ref (g 48), .ref (g 49), .ref (g 50), .int 0, .int 0, .ref (g 53), .ref (g 54), .ref (g 55), .ref (g 56), .ref (g 57), .int 0, .int 0])), (g 19, .inl (cy 0, 180, .inl (fun _ => 0))), (g 20, .inl (cy 0, 15, .inl (fun _ => 0))), (g 21, .inl (cy 0, 960, .inl (fun _ => 0))), (g 16, .inl (cy 0, 5, .inl (fun _ => 0))), (g 17, .inl (cy 0, 25, .inl (fun _ => 0))), (g 18, .inl (cy 0, 140, .inl (fun _ => 0)))] H := hP
  have hD : va_D A [(g 60, .inr (9, [.int 0, .ref (g 1), .ref (g 2), .ref (g 3), .ref (g 4), .ref (g 5), .int 0, .int 0, .int 0, .int 0, .int 0, .long 0, .int 0, .int (-1), .int 0, .int (-1), .ref (g 16), .ref (g 17), .ref (g 18), .ref (g 19), .ref (g 20), .ref (g 21), .ref (g 22), .int 0, .ref (g 24), .ref (g 25), .ref (g 26), .ref (g 27), .int 0, .int 0, .int 0, .int 0, .ref (g 32), .ref (g 33), .ref (g 34), .ref (g 35), .ref (g 36), .ref (g 37), .ref (g 38), .int 0, .int 0, .long 0, .ref (g 42), .ref (g 43), .ref (g 44), .ref (g 45), .ref (g 46), .ref (g 47), .ref (g 48), .ref (g 49), .ref (g 50), .int 0, .int 0, .ref (g 53), .ref (g 54), .ref (g 55), .ref (g 56), .ref (g 57), .int 0, .int 0])), (g 19, .inl (cy 0, 180, .inl (fun _ => 0))), (g 20, .inl (cy 0, 15, .inl (fun _ => 0))), (g 21, .inl (cy 0, 960, .inl (fun _ => 0))), (g 16, .inl (cy 0, 5, .inl (fun _ => 0))), (g 17, .inl (cy 0, 25, .inl (fun _ => 0))), (g 18, .inl (cy 0, 140, .inl (fun _ => 0)))] := hD
  refine lv_aload_n hx hb dX9_copyDesk_31 rfl (lv_at hl 0 rfl) ?_
  refine va_get (D := D) (ci := 9) (v := .ref (g 19)) (C := RX9) (T := TX9) (N := 60) hx hb hts iX9 hown hK hP 0 rfl rfl 19 (by decide) (hts _ q1379) (fun _ h9 => h9) rfl dX9_copyDesk_32 ?_
  refine lv_bipush (v := 36) hx hb dX9_copyDesk_35 (by decide) ?_
  refine lv_iload_n hx hb dX9_copyDesk_37 rfl (lv_at hl 1 rfl) ?_
  refine lv_iload_n hx hb dX9_copyDesk_38 rfl (lv_at hl 2 rfl) ?_
  have hPc := hP.sub (ws' := [(g 19, .inl (cy 0, 180, .inl (fun _ => 0)))]) [1] rfl
  have hDc := hD.sub (ws' := [(g 19, .inl (cy 0, 180, .inl (fun _ => 0)))]) [1] (by decide) rfl
  have hFc := va_free (wc := [(g 19, .inl (cy 0, 180, .inl (fun _ => 0)))]) hD hS hA [1] rfl
  refine va_callv (va_runS (As := [.ref (g 19), .int 36, .int 4, .int 0]) (rest := []) ⟨hx, hb, hml, hown, hts⟩ (c_X9_copyRow l D cy (g 19) 180 36 4 0 H.size (by decide) (by decide) (by decide)) (va_cwS 4 hts (gd_S q1694 q1695 q134 q1696) rfl rfl rfl (by decide +kernel) ⟨Nat.le_of_ble_eq_true rfl, Nat.le_of_ble_eq_true rfl⟩) (pr_S hPc hK hDc) rfl rfl hl.1 rfl (lv_room (Nat.le_of_ble_eq_true rfl)) dX9_copyDesk_39 ⟨Nat.le_of_ble_eq_true rfl, Nat.le_of_ble_eq_true rfl⟩) hS (fun q _ h => hFc q h) hFc (fun u tS H1 locs ht hvm hw hB hz1 hk1 hS => ?_)
  obtain ⟨hP1, hK1, hD1⟩ := hB
  rw [ht] at hP1
  try dsimp only at hw
  obtain ⟨hP, hD⟩ := va_join (wr := [(g 60, .inr (9, [.int 0, .ref (g 1), .ref (g 2), .ref (g 3), .ref (g 4), .ref (g 5), .int 0, .int 0, .int 0, .int 0, .int 0, .long 0, .int 0, .int (-1), .int 0, .int (-1), .ref (g 16), .ref (g 17), .ref (g 18), .ref (g 19), .ref (g 20), .ref (g 21), .ref (g 22), .int 0, .ref (g 24), .ref (g 25), .ref (g 26), .ref (g 27), .int 0, .int 0, .int 0, .int 0, .ref (g 32), .ref (g 33), .ref (g 34), .ref (g 35), .ref (g 36), .ref (g 37), .ref (g 38), .int 0, .int 0, .long 0, .ref (g 42), .ref (g 43), .ref (g 44), .ref (g 45), .ref (g 46), .ref (g 47), .ref (g 48), .ref (g 49), .ref (g 50), .int 0, .int 0, .ref (g 53), .ref (g 54), .ref (g 55), .ref (g 56), .ref (g 57), .int 0, .int 0])), (g 20, .inl (cy 0, 15, .inl (fun _ => 0))), (g 21, .inl (cy 0, 960, .inl (fun _ => 0))), (g 16, .inl (cy 0, 5, .inl (fun _ => 0))), (g 17, .inl (cy 0, 25, .inl (fun _ => 0))), (g 18, .inl (cy 0, 140, .inl (fun _ => 0)))]) (w1 := [(g 19, .inl (cy 0, 180, .inl (fun _ => 0)))]) hP hD [1] [0, 2, 3, 4, 5, 6] rfl rfl (by decide) (by decide) hk1 hFc hP1 hD1
  generalize H1 = H at hP hS ⊢
  have hP : va_P D clz [(g 60, .inr (9, [.int 0, .ref (g 1), .ref (g 2), .ref (g 3), .ref (g 4), .ref (g 5), .int 0, .int 0, .int 0, .int 0, .int 0, .long 0, .int 0, .int (-1), .int 0, .int (-1), .ref (g 16), .ref (g 17), .ref (g 18), .ref (g 19), .ref (g 20), .ref (g 21), .ref (g 22), .int 0, .ref (g 24), .ref (g 25), .ref (g 26), .ref (g 27), .int 0, .int 0, .int 0, .int 0, .ref (g 32), .ref (g 33), .ref (g 34), .ref (g 35), .ref (g 36), .ref (g 37), .ref (g 38), .int 0, .int 0, .long 0, .ref (g 42), .ref (g 43), .ref (g 44), .ref (g 45), .ref (g 46), .ref (g 47), .ref (g 48), .ref (g 49), .ref (g 50), .int 0, .int 0, .ref (g 53), .ref (g 54), .ref (g 55), .ref (g 56), .ref (g 57), .int 0, .int 0])), (g 20, .inl (cy 0, 15, .inl (fun _ => 0))), (g 21, .inl (cy 0, 960, .inl (fun _ => 0))), (g 16, .inl (cy 0, 5, .inl (fun _ => 0))), (g 17, .inl (cy 0, 25, .inl (fun _ => 0))), (g 18, .inl (cy 0, 140, .inl (fun _ => 0))), (g 19, .inl (cy 0, 180, .inl (fun _ => 0)))] H := hP
  have hD : va_D A [(g 60, .inr (9, [.int 0, .ref (g 1), .ref (g 2), .ref (g 3), .ref (g 4), .ref (g 5), .int 0, .int 0, .int 0, .int 0, .int 0, .long 0, .int 0, .int (-1), .int 0, .int (-1), .ref (g 16), .ref (g 17), .ref (g 18), .ref (g 19), .ref (g 20), .ref (g 21), .ref (g 22), .int 0, .ref (g 24), .ref (g 25), .ref (g 26), .ref (g 27), .int 0, .int 0, .int 0, .int 0, .ref (g 32), .ref (g 33), .ref (g 34), .ref (g 35), .ref (g 36), .ref (g 37), .ref (g 38), .int 0, .int 0, .long 0, .ref (g 42), .ref (g 43), .ref (g 44), .ref (g 45), .ref (g 46), .ref (g 47), .ref (g 48), .ref (g 49), .ref (g 50), .int 0, .int 0, .ref (g 53), .ref (g 54), .ref (g 55), .ref (g 56), .ref (g 57), .int 0, .int 0])), (g 20, .inl (cy 0, 15, .inl (fun _ => 0))), (g 21, .inl (cy 0, 960, .inl (fun _ => 0))), (g 16, .inl (cy 0, 5, .inl (fun _ => 0))), (g 17, .inl (cy 0, 25, .inl (fun _ => 0))), (g 18, .inl (cy 0, 140, .inl (fun _ => 0))), (g 19, .inl (cy 0, 180, .inl (fun _ => 0)))] := hD
  refine lv_aload_n hx hb dX9_copyDesk_42 rfl (lv_at hl 0 rfl) ?_
  refine va_get (D := D) (ci := 9) (v := .ref (g 20)) (C := RX9) (T := TX9) (N := 60) hx hb hts iX9 hown hK hP 0 rfl rfl 20 (by decide) (hts _ q1380) (fun _ h9 => h9) rfl dX9_copyDesk_43 ?_
  refine lv_iconst (v := 3) hx hb dX9_copyDesk_46 (by decide) ?_
  refine lv_iload_n hx hb dX9_copyDesk_47 rfl (lv_at hl 1 rfl) ?_
  refine lv_iload_n hx hb dX9_copyDesk_48 rfl (lv_at hl 2 rfl) ?_
  have hPc := hP.sub (ws' := [(g 20, .inl (cy 0, 15, .inl (fun _ => 0)))]) [1] rfl
  have hDc := hD.sub (ws' := [(g 20, .inl (cy 0, 15, .inl (fun _ => 0)))]) [1] (by decide) rfl
  have hFc := va_free (wc := [(g 20, .inl (cy 0, 15, .inl (fun _ => 0)))]) hD hS hA [1] rfl
  refine va_callv (va_runS (As := [.ref (g 20), .int 3, .int 4, .int 0]) (rest := []) ⟨hx, hb, hml, hown, hts⟩ (c_X9_copyRow l D cy (g 20) 15 3 4 0 H.size (by decide) (by decide) (by decide)) (va_cwS 4 hts (gd_S q1694 q1695 q134 q1696) rfl rfl rfl (by decide +kernel) ⟨Nat.le_of_ble_eq_true rfl, Nat.le_of_ble_eq_true rfl⟩) (pr_S hPc hK hDc) rfl rfl hl.1 rfl (lv_room (Nat.le_of_ble_eq_true rfl)) dX9_copyDesk_49 ⟨Nat.le_of_ble_eq_true rfl, Nat.le_of_ble_eq_true rfl⟩) hS (fun q _ h => hFc q h) hFc (fun u tS H1 locs ht hvm hw hB hz1 hk1 hS => ?_)
  obtain ⟨hP1, hK1, hD1⟩ := hB
  rw [ht] at hP1
  try dsimp only at hw
  obtain ⟨hP, hD⟩ := va_join (wr := [(g 60, .inr (9, [.int 0, .ref (g 1), .ref (g 2), .ref (g 3), .ref (g 4), .ref (g 5), .int 0, .int 0, .int 0, .int 0, .int 0, .long 0, .int 0, .int (-1), .int 0, .int (-1), .ref (g 16), .ref (g 17), .ref (g 18), .ref (g 19), .ref (g 20), .ref (g 21), .ref (g 22), .int 0, .ref (g 24), .ref (g 25), .ref (g 26), .ref (g 27), .int 0, .int 0, .int 0, .int 0, .ref (g 32), .ref (g 33), .ref (g 34), .ref (g 35), .ref (g 36), .ref (g 37), .ref (g 38), .int 0, .int 0, .long 0, .ref (g 42), .ref (g 43), .ref (g 44), .ref (g 45), .ref (g 46), .ref (g 47), .ref (g 48), .ref (g 49), .ref (g 50), .int 0, .int 0, .ref (g 53), .ref (g 54), .ref (g 55), .ref (g 56), .ref (g 57), .int 0, .int 0])), (g 21, .inl (cy 0, 960, .inl (fun _ => 0))), (g 16, .inl (cy 0, 5, .inl (fun _ => 0))), (g 17, .inl (cy 0, 25, .inl (fun _ => 0))), (g 18, .inl (cy 0, 140, .inl (fun _ => 0))), (g 19, .inl (cy 0, 180, .inl (fun _ => 0)))]) (w1 := [(g 20, .inl (cy 0, 15, .inl (fun _ => 0)))]) hP hD [1] [0, 2, 3, 4, 5, 6] rfl rfl (by decide) (by decide) hk1 hFc hP1 hD1
  generalize H1 = H at hP hS ⊢
  have hP : va_P D clz [(g 60, .inr (9, [.int 0, .ref (g 1), .ref (g 2), .ref (g 3), .ref (g 4), .ref (g 5), .int 0, .int 0, .int 0, .int 0, .int 0, .long 0, .int 0, .int (-1), .int 0, .int (-1), .ref (g 16), .ref (g 17), .ref (g 18), .ref (g 19), .ref (g 20), .ref (g 21), .ref (g 22), .int 0, .ref (g 24), .ref (g 25), .ref (g 26), .ref (g 27), .int 0, .int 0, .int 0, .int 0, .ref (g 32), .ref (g 33), .ref (g 34), .ref (g 35), .ref (g 36), .ref (g 37), .ref (g 38), .int 0, .int 0, .long 0, .ref (g 42), .ref (g 43), .ref (g 44), .ref (g 45), .ref (g 46), .ref (g 47), .ref (g 48), .ref (g 49), .ref (g 50), .int 0, .int 0, .ref (g 53), .ref (g 54), .ref (g 55), .ref (g 56), .ref (g 57), .int 0, .int 0])), (g 21, .inl (cy 0, 960, .inl (fun _ => 0))), (g 16, .inl (cy 0, 5, .inl (fun _ => 0))), (g 17, .inl (cy 0, 25, .inl (fun _ => 0))), (g 18, .inl (cy 0, 140, .inl (fun _ => 0))), (g 19, .inl (cy 0, 180, .inl (fun _ => 0))), (g 20, .inl (cy 0, 15, .inl (fun _ => 0)))] H := hP
  have hD : va_D A [(g 60, .inr (9, [.int 0, .ref (g 1), .ref (g 2), .ref (g 3), .ref (g 4), .ref (g 5), .int 0, .int 0, .int 0, .int 0, .int 0, .long 0, .int 0, .int (-1), .int 0, .int (-1), .ref (g 16), .ref (g 17), .ref (g 18), .ref (g 19), .ref (g 20), .ref (g 21), .ref (g 22), .int 0, .ref (g 24), .ref (g 25), .ref (g 26), .ref (g 27), .int 0, .int 0, .int 0, .int 0, .ref (g 32), .ref (g 33), .ref (g 34), .ref (g 35), .ref (g 36), .ref (g 37), .ref (g 38), .int 0, .int 0, .long 0, .ref (g 42), .ref (g 43), .ref (g 44), .ref (g 45), .ref (g 46), .ref (g 47), .ref (g 48), .ref (g 49), .ref (g 50), .int 0, .int 0, .ref (g 53), .ref (g 54), .ref (g 55), .ref (g 56), .ref (g 57), .int 0, .int 0])), (g 21, .inl (cy 0, 960, .inl (fun _ => 0))), (g 16, .inl (cy 0, 5, .inl (fun _ => 0))), (g 17, .inl (cy 0, 25, .inl (fun _ => 0))), (g 18, .inl (cy 0, 140, .inl (fun _ => 0))), (g 19, .inl (cy 0, 180, .inl (fun _ => 0))), (g 20, .inl (cy 0, 15, .inl (fun _ => 0)))] := hD
  refine lv_aload_n hx hb dX9_copyDesk_52 rfl (lv_at hl 0 rfl) ?_
  refine va_get (D := D) (ci := 9) (v := .ref (g 21)) (C := RX9) (T := TX9) (N := 60) hx hb hts iX9 hown hK hP 0 rfl rfl 21 (by decide) (hts _ q1381) (fun _ h9 => h9) rfl dX9_copyDesk_53 ?_
  refine lv_sipush (v := 192) hx hb dX9_copyDesk_56 (by decide) ?_
  refine lv_iload_n hx hb dX9_copyDesk_59 rfl (lv_at hl 1 rfl) ?_
  refine lv_iload_n hx hb dX9_copyDesk_60 rfl (lv_at hl 2 rfl) ?_
  have hPc := hP.sub (ws' := [(g 21, .inl (cy 0, 960, .inl (fun _ => 0)))]) [1] rfl
  have hDc := hD.sub (ws' := [(g 21, .inl (cy 0, 960, .inl (fun _ => 0)))]) [1] (by decide) rfl
  have hFc := va_free (wc := [(g 21, .inl (cy 0, 960, .inl (fun _ => 0)))]) hD hS hA [1] rfl
  refine va_callv (va_runS (As := [.ref (g 21), .int 192, .int 4, .int 0]) (rest := []) ⟨hx, hb, hml, hown, hts⟩ (c_X9_copyRow l D cy (g 21) 960 192 4 0 H.size (by decide) (by decide) (by decide)) (va_cwS 4 hts (gd_S q1694 q1695 q134 q1696) rfl rfl rfl (by decide +kernel) ⟨Nat.le_of_ble_eq_true rfl, Nat.le_of_ble_eq_true rfl⟩) (pr_S hPc hK hDc) rfl rfl hl.1 rfl (lv_room (Nat.le_of_ble_eq_true rfl)) dX9_copyDesk_61 ⟨Nat.le_of_ble_eq_true rfl, Nat.le_of_ble_eq_true rfl⟩) hS (fun q _ h => hFc q h) hFc (fun u tS H1 locs ht hvm hw hB hz1 hk1 hS => ?_)
  obtain ⟨hP1, hK1, hD1⟩ := hB
  rw [ht] at hP1
  try dsimp only at hw
  obtain ⟨hP, hD⟩ := va_join (wr := [(g 60, .inr (9, [.int 0, .ref (g 1), .ref (g 2), .ref (g 3), .ref (g 4), .ref (g 5), .int 0, .int 0, .int 0, .int 0, .int 0, .long 0, .int 0, .int (-1), .int 0, .int (-1), .ref (g 16), .ref (g 17), .ref (g 18), .ref (g 19), .ref (g 20), .ref (g 21), .ref (g 22), .int 0, .ref (g 24), .ref (g 25), .ref (g 26), .ref (g 27), .int 0, .int 0, .int 0, .int 0, .ref (g 32), .ref (g 33), .ref (g 34), .ref (g 35), .ref (g 36), .ref (g 37), .ref (g 38), .int 0, .int 0, .long 0, .ref (g 42), .ref (g 43), .ref (g 44), .ref (g 45), .ref (g 46), .ref (g 47), .ref (g 48), .ref (g 49), .ref (g 50), .int 0, .int 0, .ref (g 53), .ref (g 54), .ref (g 55), .ref (g 56), .ref (g 57), .int 0, .int 0])), (g 16, .inl (cy 0, 5, .inl (fun _ => 0))), (g 17, .inl (cy 0, 25, .inl (fun _ => 0))), (g 18, .inl (cy 0, 140, .inl (fun _ => 0))), (g 19, .inl (cy 0, 180, .inl (fun _ => 0))), (g 20, .inl (cy 0, 15, .inl (fun _ => 0)))]) (w1 := [(g 21, .inl (cy 0, 960, .inl (fun _ => 0)))]) hP hD [1] [0, 2, 3, 4, 5, 6] rfl rfl (by decide) (by decide) hk1 hFc hP1 hD1
  generalize H1 = H at hP hS ⊢
  have hP : va_P D clz [(g 60, .inr (9, [.int 0, .ref (g 1), .ref (g 2), .ref (g 3), .ref (g 4), .ref (g 5), .int 0, .int 0, .int 0, .int 0, .int 0, .long 0, .int 0, .int (-1), .int 0, .int (-1), .ref (g 16), .ref (g 17), .ref (g 18), .ref (g 19), .ref (g 20), .ref (g 21), .ref (g 22), .int 0, .ref (g 24), .ref (g 25), .ref (g 26), .ref (g 27), .int 0, .int 0, .int 0, .int 0, .ref (g 32), .ref (g 33), .ref (g 34), .ref (g 35), .ref (g 36), .ref (g 37), .ref (g 38), .int 0, .int 0, .long 0, .ref (g 42), .ref (g 43), .ref (g 44), .ref (g 45), .ref (g 46), .ref (g 47), .ref (g 48), .ref (g 49), .ref (g 50), .int 0, .int 0, .ref (g 53), .ref (g 54), .ref (g 55), .ref (g 56), .ref (g 57), .int 0, .int 0])), (g 16, .inl (cy 0, 5, .inl (fun _ => 0))), (g 17, .inl (cy 0, 25, .inl (fun _ => 0))), (g 18, .inl (cy 0, 140, .inl (fun _ => 0))), (g 19, .inl (cy 0, 180, .inl (fun _ => 0))), (g 20, .inl (cy 0, 15, .inl (fun _ => 0))), (g 21, .inl (cy 0, 960, .inl (fun _ => 0)))] H := hP
  have hD : va_D A [(g 60, .inr (9, [.int 0, .ref (g 1), .ref (g 2), .ref (g 3), .ref (g 4), .ref (g 5), .int 0, .int 0, .int 0, .int 0, .int 0, .long 0, .int 0, .int (-1), .int 0, .int (-1), .ref (g 16), .ref (g 17), .ref (g 18), .ref (g 19), .ref (g 20), .ref (g 21), .ref (g 22), .int 0, .ref (g 24), .ref (g 25), .ref (g 26), .ref (g 27), .int 0, .int 0, .int 0, .int 0, .ref (g 32), .ref (g 33), .ref (g 34), .ref (g 35), .ref (g 36), .ref (g 37), .ref (g 38), .int 0, .int 0, .long 0, .ref (g 42), .ref (g 43), .ref (g 44), .ref (g 45), .ref (g 46), .ref (g 47), .ref (g 48), .ref (g 49), .ref (g 50), .int 0, .int 0, .ref (g 53), .ref (g 54), .ref (g 55), .ref (g 56), .ref (g 57), .int 0, .int 0])), (g 16, .inl (cy 0, 5, .inl (fun _ => 0))), (g 17, .inl (cy 0, 25, .inl (fun _ => 0))), (g 18, .inl (cy 0, 140, .inl (fun _ => 0))), (g 19, .inl (cy 0, 180, .inl (fun _ => 0))), (g 20, .inl (cy 0, 15, .inl (fun _ => 0))), (g 21, .inl (cy 0, 960, .inl (fun _ => 0)))] := hD
  have hP9 := hP.sub (ws' := [(g 60, .inr (9, [.int 0, .ref (g 1), .ref (g 2), .ref (g 3), .ref (g 4), .ref (g 5), .int 0, .int 0, .int 0, .int 0, .int 0, .long 0, .int 0, .int (-1), .int 0, .int (-1), .ref (g 16), .ref (g 17), .ref (g 18), .ref (g 19), .ref (g 20), .ref (g 21), .ref (g 22), .int 0, .ref (g 24), .ref (g 25), .ref (g 26), .ref (g 27), .int 0, .int 0, .int 0, .int 0, .ref (g 32), .ref (g 33), .ref (g 34), .ref (g 35), .ref (g 36), .ref (g 37), .ref (g 38), .int 0, .int 0, .long 0, .ref (g 42), .ref (g 43), .ref (g 44), .ref (g 45), .ref (g 46), .ref (g 47), .ref (g 48), .ref (g 49), .ref (g 50), .int 0, .int 0, .ref (g 53), .ref (g 54), .ref (g 55), .ref (g 56), .ref (g 57), .int 0, .int 0])), (g 16, .inl (cy 0, 5, .inl (fun _ => 0))), (g 17, .inl (cy 0, 25, .inl (fun _ => 0))), (g 18, .inl (cy 0, 140, .inl (fun _ => 0))), (g 19, .inl (cy 0, 180, .inl (fun _ => 0))), (g 20, .inl (cy 0, 15, .inl (fun _ => 0))), (g 21, .inl (cy 0, 960, .inl (fun _ => 0)))]) [0, 1, 2, 3, 4, 5, 6] rfl
  have hD9 := hD.sub (ws' := [(g 60, .inr (9, [.int 0, .ref (g 1), .ref (g 2), .ref (g 3), .ref (g 4), .ref (g 5), .int 0, .int 0, .int 0, .int 0, .int 0, .long 0, .int 0, .int (-1), .int 0, .int (-1), .ref (g 16), .ref (g 17), .ref (g 18), .ref (g 19), .ref (g 20), .ref (g 21), .ref (g 22), .int 0, .ref (g 24), .ref (g 25), .ref (g 26), .ref (g 27), .int 0, .int 0, .int 0, .int 0, .ref (g 32), .ref (g 33), .ref (g 34), .ref (g 35), .ref (g 36), .ref (g 37), .ref (g 38), .int 0, .int 0, .long 0, .ref (g 42), .ref (g 43), .ref (g 44), .ref (g 45), .ref (g 46), .ref (g 47), .ref (g 48), .ref (g 49), .ref (g 50), .int 0, .int 0, .ref (g 53), .ref (g 54), .ref (g 55), .ref (g 56), .ref (g 57), .int 0, .int 0])), (g 16, .inl (cy 0, 5, .inl (fun _ => 0))), (g 17, .inl (cy 0, 25, .inl (fun _ => 0))), (g 18, .inl (cy 0, 140, .inl (fun _ => 0))), (g 19, .inl (cy 0, 180, .inl (fun _ => 0))), (g 20, .inl (cy 0, 15, .inl (fun _ => 0))), (g 21, .inl (cy 0, 960, .inl (fun _ => 0)))]) [0, 1, 2, 3, 4, 5, 6] (by decide) rfl
  exact W.vret hx hb hr (fun tS ht hW => ⟨⟨(), rfl, trivial, by rw [ht]; exact hP9, va_K.moved hW.alike hK, hD9⟩, hS.F ht⟩) hS.2.2 dX9_copyDesk_64

set_option maxHeartbeats 4000000 in
set_option maxRecDepth 100000 in
theorem c_X9_copyDesk_01 (l : Launch) (D : va_G) (cy : Nat → ClassId) (g : Nat → Nat) (sz : Nat) : Met l yX9_copyDesk (ww yX9_copyDesk cX9_copyDesk 3 none) ({ frames := 2, cells := 0, slots := 0, locals := 128 }) (va_Pc [.ref (g 60), .int 0, .int 1] (pre D cy [(g 60, .inr (9, mF g)), (g 16, .inl (cy 0, 5, .inl (fun _ => 0))), (g 17, .inl (cy 0, 25, .inl (fun _ => 0))), (g 18, .inl (cy 0, 140, .inl (fun _ => 0))), (g 19, .inl (cy 0, 180, .inl (fun _ => 0))), (g 20, .inl (cy 0, 15, .inl (fun _ => 0))), (g 21, .inl (cy 0, 960, .inl (fun _ => 0)))] sz)) (qv D cy (va_A [(g 60, .inr (9, mF g)), (g 16, .inl (cy 0, 5, .inl (fun _ => 0))), (g 17, .inl (cy 0, 25, .inl (fun _ => 0))), (g 18, .inl (cy 0, 140, .inl (fun _ => 0))), (g 19, .inl (cy 0, 180, .inl (fun _ => 0))), (g 20, .inl (cy 0, 15, .inl (fun _ => 0))), (g 21, .inl (cy 0, 960, .inl (fun _ => 0)))] sz) (fun (_ : Unit) => True) (fun (_ : Unit) => [(g 60, .inr (9, mF g)), (g 16, .inl (cy 0, 5, .inl (fun _ => 0))), (g 17, .inl (cy 0, 25, .inl (fun _ => 0))), (g 18, .inl (cy 0, 140, .inl (fun _ => 0))), (g 19, .inl (cy 0, 180, .inl (fun _ => 0))), (g 20, .inl (cy 0, 15, .inl (fun _ => 0))), (g 21, .inl (cy 0, 960, .inl (fun _ => 0)))])) 0 0 (va_A [(g 60, .inr (9, mF g)), (g 16, .inl (cy 0, 5, .inl (fun _ => 0))), (g 17, .inl (cy 0, 25, .inl (fun _ => 0))), (g 18, .inl (cy 0, 140, .inl (fun _ => 0))), (g 19, .inl (cy 0, 180, .inl (fun _ => 0))), (g 20, .inl (cy 0, 15, .inl (fun _ => 0))), (g 21, .inl (cy 0, 960, .inl (fun _ => 0)))] sz) := by
  refine Met.ofW (cc := cX9_copyDesk) (maxL := 3) (ret := none) (by decide) rfl ?_
  intro p e s m args below meth c s₁ B hml hv
  obtain ⟨rfl, hsz, hP, hK, hD0⟩ := hv
  have hx := B.exec
  have hb := B.bytes
  have hr := B.returns
  have hts := hts_g (atoms_spec (ws := ww yX9_copyDesk cX9_copyDesk 3 none) B.pre)
  have hown : s.vm.findClass RX9 = some m.cls := findClass_of_methodNamed B.named
  have hlocks := B.notSynchronized
  subst hsz
  have hD := hD0.self (sz := s.heap.size)
  generalize hAe : va_A [(g 60, .inr (9, mF g)), (g 16, .inl (cy 0, 5, .inl (fun _ => 0))), (g 17, .inl (cy 0, 25, .inl (fun _ => 0))), (g 18, .inl (cy 0, 140, .inl (fun _ => 0))), (g 19, .inl (cy 0, 180, .inl (fun _ => 0))), (g 20, .inl (cy 0, 15, .inl (fun _ => 0))), (g 21, .inl (cy 0, 960, .inl (fun _ => 0)))] s.heap.size = A at hD ⊢
  have hA : ∀ q : Nat, s.heap.size ≤ q → A q := fun q h => by rw [← hAe]; exact Or.inr h
  have hS : va_S A s.heap s.heap [] := va_S.rf
  have hl := lv_entry ([.ref (g 60), .int 0, .int 1]) (n := 3) (Nat.le_of_ble_eq_true rfl)
  rw [lg_entry_eq]
  generalize (lg_sl ([.ref (g 60), .int 0, .int 1]) ++ List.replicate (3 - (lg_sl ([.ref (g 60), .int 0, .int 1])).length) Slot.unset).toArray = ls at hl ⊢
  have hl : lv_has ls 3 [(0, .ref (g 60)), (1, .int 0), (2, .int 1)] := hl
  refine lv_aload_n hx hb dX9_copyDesk_0 rfl (lv_at hl 0 rfl) ?_
  refine va_get (D := D) (ci := 9) (v := .ref (g 16)) (C := RX9) (T := TX9) (N := 60) hx hb hts iX9 hown hK hP 0 rfl rfl 16 (by decide) (hts _ q1376) (fun _ h9 => h9) rfl dX9_copyDesk_1 ?_
  refine lv_iconst (v := 1) hx hb dX9_copyDesk_4 (by decide) ?_
  refine lv_iload_n hx hb dX9_copyDesk_5 rfl (lv_at hl 1 rfl) ?_
  refine lv_iload_n hx hb dX9_copyDesk_6 rfl (lv_at hl 2 rfl) ?_
  have hPc := hP.sub (ws' := [(g 16, .inl (cy 0, 5, .inl (fun _ => 0)))]) [1] rfl
  have hDc := hD.sub (ws' := [(g 16, .inl (cy 0, 5, .inl (fun _ => 0)))]) [1] (by decide) rfl
  have hFc := va_free (wc := [(g 16, .inl (cy 0, 5, .inl (fun _ => 0)))]) hD hS hA [1] rfl
  refine va_callv (va_runS (As := [.ref (g 16), .int 1, .int 0, .int 1]) (rest := []) ⟨hx, hb, hml, hown, hts⟩ (c_X9_copyRow l D cy (g 16) 5 1 0 1 s.heap.size (by decide) (by decide) (by decide)) (va_cwS 4 hts (gd_S q1694 q1695 q134 q1696) rfl rfl rfl (by decide +kernel) ⟨Nat.le_of_ble_eq_true rfl, Nat.le_of_ble_eq_true rfl⟩) (pr_S hPc hK hDc) rfl rfl hl.1 rfl (lv_room (Nat.le_of_ble_eq_true rfl)) dX9_copyDesk_7 ⟨Nat.le_of_ble_eq_true rfl, Nat.le_of_ble_eq_true rfl⟩) hS (fun q _ h => hFc q h) hFc (fun u tS H1 locs ht hvm hw hB hz1 hk1 hS => ?_)
  obtain ⟨hP1, hK1, hD1⟩ := hB
  rw [ht] at hP1
  try dsimp only at hw
  obtain ⟨hP, hD⟩ := va_join (wr := [(g 60, .inr (9, mF g)), (g 17, .inl (cy 0, 25, .inl (fun _ => 0))), (g 18, .inl (cy 0, 140, .inl (fun _ => 0))), (g 19, .inl (cy 0, 180, .inl (fun _ => 0))), (g 20, .inl (cy 0, 15, .inl (fun _ => 0))), (g 21, .inl (cy 0, 960, .inl (fun _ => 0)))]) (w1 := [(g 16, .inl (cy 0, 5, .inl (fun _ => 0)))]) hP hD [1] [0, 2, 3, 4, 5, 6] rfl rfl (by decide) (by decide) hk1 hFc hP1 hD1
  generalize H1 = H at hP hS ⊢
  have hP : va_P D clz [(g 60, .inr (9, mF g)), (g 17, .inl (cy 0, 25, .inl (fun _ => 0))), (g 18, .inl (cy 0, 140, .inl (fun _ => 0))), (g 19, .inl (cy 0, 180, .inl (fun _ => 0))), (g 20, .inl (cy 0, 15, .inl (fun _ => 0))), (g 21, .inl (cy 0, 960, .inl (fun _ => 0))), (g 16, .inl (cy 0, 5, .inl (fun _ => 0)))] H := hP
  have hD : va_D A [(g 60, .inr (9, mF g)), (g 17, .inl (cy 0, 25, .inl (fun _ => 0))), (g 18, .inl (cy 0, 140, .inl (fun _ => 0))), (g 19, .inl (cy 0, 180, .inl (fun _ => 0))), (g 20, .inl (cy 0, 15, .inl (fun _ => 0))), (g 21, .inl (cy 0, 960, .inl (fun _ => 0))), (g 16, .inl (cy 0, 5, .inl (fun _ => 0)))] := hD
  refine lv_aload_n hx hb dX9_copyDesk_10 rfl (lv_at hl 0 rfl) ?_
  refine va_get (D := D) (ci := 9) (v := .ref (g 17)) (C := RX9) (T := TX9) (N := 60) hx hb hts iX9 hown hK hP 0 rfl rfl 17 (by decide) (hts _ q1377) (fun _ h9 => h9) rfl dX9_copyDesk_11 ?_
  refine lv_iconst (v := 5) hx hb dX9_copyDesk_14 (by decide) ?_
  refine lv_iload_n hx hb dX9_copyDesk_15 rfl (lv_at hl 1 rfl) ?_
  refine lv_iload_n hx hb dX9_copyDesk_16 rfl (lv_at hl 2 rfl) ?_
  have hPc := hP.sub (ws' := [(g 17, .inl (cy 0, 25, .inl (fun _ => 0)))]) [1] rfl
  have hDc := hD.sub (ws' := [(g 17, .inl (cy 0, 25, .inl (fun _ => 0)))]) [1] (by decide) rfl
  have hFc := va_free (wc := [(g 17, .inl (cy 0, 25, .inl (fun _ => 0)))]) hD hS hA [1] rfl
  refine va_callv (va_runS (As := [.ref (g 17), .int 5, .int 0, .int 1]) (rest := []) ⟨hx, hb, hml, hown, hts⟩ (c_X9_copyRow l D cy (g 17) 25 5 0 1 H.size (by decide) (by decide) (by decide)) (va_cwS 4 hts (gd_S q1694 q1695 q134 q1696) rfl rfl rfl (by decide +kernel) ⟨Nat.le_of_ble_eq_true rfl, Nat.le_of_ble_eq_true rfl⟩) (pr_S hPc hK hDc) rfl rfl hl.1 rfl (lv_room (Nat.le_of_ble_eq_true rfl)) dX9_copyDesk_17 ⟨Nat.le_of_ble_eq_true rfl, Nat.le_of_ble_eq_true rfl⟩) hS (fun q _ h => hFc q h) hFc (fun u tS H1 locs ht hvm hw hB hz1 hk1 hS => ?_)
  obtain ⟨hP1, hK1, hD1⟩ := hB
  rw [ht] at hP1
  try dsimp only at hw
  obtain ⟨hP, hD⟩ := va_join (wr := [(g 60, .inr (9, mF g)), (g 18, .inl (cy 0, 140, .inl (fun _ => 0))), (g 19, .inl (cy 0, 180, .inl (fun _ => 0))), (g 20, .inl (cy 0, 15, .inl (fun _ => 0))), (g 21, .inl (cy 0, 960, .inl (fun _ => 0))), (g 16, .inl (cy 0, 5, .inl (fun _ => 0)))]) (w1 := [(g 17, .inl (cy 0, 25, .inl (fun _ => 0)))]) hP hD [1] [0, 2, 3, 4, 5, 6] rfl rfl (by decide) (by decide) hk1 hFc hP1 hD1
  generalize H1 = H at hP hS ⊢
  have hP : va_P D clz [(g 60, .inr (9, mF g)), (g 18, .inl (cy 0, 140, .inl (fun _ => 0))), (g 19, .inl (cy 0, 180, .inl (fun _ => 0))), (g 20, .inl (cy 0, 15, .inl (fun _ => 0))), (g 21, .inl (cy 0, 960, .inl (fun _ => 0))), (g 16, .inl (cy 0, 5, .inl (fun _ => 0))), (g 17, .inl (cy 0, 25, .inl (fun _ => 0)))] H := hP
  have hD : va_D A [(g 60, .inr (9, mF g)), (g 18, .inl (cy 0, 140, .inl (fun _ => 0))), (g 19, .inl (cy 0, 180, .inl (fun _ => 0))), (g 20, .inl (cy 0, 15, .inl (fun _ => 0))), (g 21, .inl (cy 0, 960, .inl (fun _ => 0))), (g 16, .inl (cy 0, 5, .inl (fun _ => 0))), (g 17, .inl (cy 0, 25, .inl (fun _ => 0)))] := hD
  refine lv_aload_n hx hb dX9_copyDesk_20 rfl (lv_at hl 0 rfl) ?_
  refine va_get (D := D) (ci := 9) (v := .ref (g 18)) (C := RX9) (T := TX9) (N := 60) hx hb hts iX9 hown hK hP 0 rfl rfl 18 (by decide) (hts _ q1378) (fun _ h9 => h9) rfl dX9_copyDesk_21 ?_
  refine lv_bipush (v := 28) hx hb dX9_copyDesk_24 (by decide) ?_
  refine lv_iload_n hx hb dX9_copyDesk_26 rfl (lv_at hl 1 rfl) ?_
  refine lv_iload_n hx hb dX9_copyDesk_27 rfl (lv_at hl 2 rfl) ?_
  have hPc := hP.sub (ws' := [(g 18, .inl (cy 0, 140, .inl (fun _ => 0)))]) [1] rfl
  have hDc := hD.sub (ws' := [(g 18, .inl (cy 0, 140, .inl (fun _ => 0)))]) [1] (by decide) rfl
  have hFc := va_free (wc := [(g 18, .inl (cy 0, 140, .inl (fun _ => 0)))]) hD hS hA [1] rfl
  refine va_callv (va_runS (As := [.ref (g 18), .int 28, .int 0, .int 1]) (rest := []) ⟨hx, hb, hml, hown, hts⟩ (c_X9_copyRow l D cy (g 18) 140 28 0 1 H.size (by decide) (by decide) (by decide)) (va_cwS 4 hts (gd_S q1694 q1695 q134 q1696) rfl rfl rfl (by decide +kernel) ⟨Nat.le_of_ble_eq_true rfl, Nat.le_of_ble_eq_true rfl⟩) (pr_S hPc hK hDc) rfl rfl hl.1 rfl (lv_room (Nat.le_of_ble_eq_true rfl)) dX9_copyDesk_28 ⟨Nat.le_of_ble_eq_true rfl, Nat.le_of_ble_eq_true rfl⟩) hS (fun q _ h => hFc q h) hFc (fun u tS H1 locs ht hvm hw hB hz1 hk1 hS => ?_)
  obtain ⟨hP1, hK1, hD1⟩ := hB
  rw [ht] at hP1
  try dsimp only at hw
  obtain ⟨hP, hD⟩ := va_join (wr := [(g 60, .inr (9, mF g)), (g 19, .inl (cy 0, 180, .inl (fun _ => 0))), (g 20, .inl (cy 0, 15, .inl (fun _ => 0))), (g 21, .inl (cy 0, 960, .inl (fun _ => 0))), (g 16, .inl (cy 0, 5, .inl (fun _ => 0))), (g 17, .inl (cy 0, 25, .inl (fun _ => 0)))]) (w1 := [(g 18, .inl (cy 0, 140, .inl (fun _ => 0)))]) hP hD [1] [0, 2, 3, 4, 5, 6] rfl rfl (by decide) (by decide) hk1 hFc hP1 hD1
  generalize H1 = H at hP hS ⊢
  have hP : va_P D clz [(g 60, .inr (9, mF g)), (g 19, .inl (cy 0, 180, .inl (fun _ => 0))), (g 20, .inl (cy 0, 15, .inl (fun _ => 0))), (g 21, .inl (cy 0, 960, .inl (fun _ => 0))), (g 16, .inl (cy 0, 5, .inl (fun _ => 0))), (g 17, .inl (cy 0, 25, .inl (fun _ => 0))), (g 18, .inl (cy 0, 140, .inl (fun _ => 0)))] H := hP
  have hD : va_D A [(g 60, .inr (9, mF g)), (g 19, .inl (cy 0, 180, .inl (fun _ => 0))), (g 20, .inl (cy 0, 15, .inl (fun _ => 0))), (g 21, .inl (cy 0, 960, .inl (fun _ => 0))), (g 16, .inl (cy 0, 5, .inl (fun _ => 0))), (g 17, .inl (cy 0, 25, .inl (fun _ => 0))), (g 18, .inl (cy 0, 140, .inl (fun _ => 0)))] := hD
  refine lv_aload_n hx hb dX9_copyDesk_31 rfl (lv_at hl 0 rfl) ?_
  refine va_get (D := D) (ci := 9) (v := .ref (g 19)) (C := RX9) (T := TX9) (N := 60) hx hb hts iX9 hown hK hP 0 rfl rfl 19 (by decide) (hts _ q1379) (fun _ h9 => h9) rfl dX9_copyDesk_32 ?_
  refine lv_bipush (v := 36) hx hb dX9_copyDesk_35 (by decide) ?_
  refine lv_iload_n hx hb dX9_copyDesk_37 rfl (lv_at hl 1 rfl) ?_
  refine lv_iload_n hx hb dX9_copyDesk_38 rfl (lv_at hl 2 rfl) ?_
  have hPc := hP.sub (ws' := [(g 19, .inl (cy 0, 180, .inl (fun _ => 0)))]) [1] rfl
  have hDc := hD.sub (ws' := [(g 19, .inl (cy 0, 180, .inl (fun _ => 0)))]) [1] (by decide) rfl
  have hFc := va_free (wc := [(g 19, .inl (cy 0, 180, .inl (fun _ => 0)))]) hD hS hA [1] rfl
  refine va_callv (va_runS (As := [.ref (g 19), .int 36, .int 0, .int 1]) (rest := []) ⟨hx, hb, hml, hown, hts⟩ (c_X9_copyRow l D cy (g 19) 180 36 0 1 H.size (by decide) (by decide) (by decide)) (va_cwS 4 hts (gd_S q1694 q1695 q134 q1696) rfl rfl rfl (by decide +kernel) ⟨Nat.le_of_ble_eq_true rfl, Nat.le_of_ble_eq_true rfl⟩) (pr_S hPc hK hDc) rfl rfl hl.1 rfl (lv_room (Nat.le_of_ble_eq_true rfl)) dX9_copyDesk_39 ⟨Nat.le_of_ble_eq_true rfl, Nat.le_of_ble_eq_true rfl⟩) hS (fun q _ h => hFc q h) hFc (fun u tS H1 locs ht hvm hw hB hz1 hk1 hS => ?_)
  obtain ⟨hP1, hK1, hD1⟩ := hB
  rw [ht] at hP1
  try dsimp only at hw
  obtain ⟨hP, hD⟩ := va_join (wr := [(g 60, .inr (9, mF g)), (g 20, .inl (cy 0, 15, .inl (fun _ => 0))), (g 21, .inl (cy 0, 960, .inl (fun _ => 0))), (g 16, .inl (cy 0, 5, .inl (fun _ => 0))), (g 17, .inl (cy 0, 25, .inl (fun _ => 0))), (g 18, .inl (cy 0, 140, .inl (fun _ => 0)))]) (w1 := [(g 19, .inl (cy 0, 180, .inl (fun _ => 0)))]) hP hD [1] [0, 2, 3, 4, 5, 6] rfl rfl (by decide) (by decide) hk1 hFc hP1 hD1
  generalize H1 = H at hP hS ⊢
  have hP : va_P D clz [(g 60, .inr (9, mF g)), (g 20, .inl (cy 0, 15, .inl (fun _ => 0))), (g 21, .inl (cy 0, 960, .inl (fun _ => 0))), (g 16, .inl (cy 0, 5, .inl (fun _ => 0))), (g 17, .inl (cy 0, 25, .inl (fun _ => 0))), (g 18, .inl (cy 0, 140, .inl (fun _ => 0))), (g 19, .inl (cy 0, 180, .inl (fun _ => 0)))] H := hP
  have hD : va_D A [(g 60, .inr (9, mF g)), (g 20, .inl (cy 0, 15, .inl (fun _ => 0))), (g 21, .inl (cy 0, 960, .inl (fun _ => 0))), (g 16, .inl (cy 0, 5, .inl (fun _ => 0))), (g 17, .inl (cy 0, 25, .inl (fun _ => 0))), (g 18, .inl (cy 0, 140, .inl (fun _ => 0))), (g 19, .inl (cy 0, 180, .inl (fun _ => 0)))] := hD
  refine lv_aload_n hx hb dX9_copyDesk_42 rfl (lv_at hl 0 rfl) ?_
  refine va_get (D := D) (ci := 9) (v := .ref (g 20)) (C := RX9) (T := TX9) (N := 60) hx hb hts iX9 hown hK hP 0 rfl rfl 20 (by decide) (hts _ q1380) (fun _ h9 => h9) rfl dX9_copyDesk_43 ?_
  refine lv_iconst (v := 3) hx hb dX9_copyDesk_46 (by decide) ?_
  refine lv_iload_n hx hb dX9_copyDesk_47 rfl (lv_at hl 1 rfl) ?_
  refine lv_iload_n hx hb dX9_copyDesk_48 rfl (lv_at hl 2 rfl) ?_
  have hPc := hP.sub (ws' := [(g 20, .inl (cy 0, 15, .inl (fun _ => 0)))]) [1] rfl
  have hDc := hD.sub (ws' := [(g 20, .inl (cy 0, 15, .inl (fun _ => 0)))]) [1] (by decide) rfl
  have hFc := va_free (wc := [(g 20, .inl (cy 0, 15, .inl (fun _ => 0)))]) hD hS hA [1] rfl
  refine va_callv (va_runS (As := [.ref (g 20), .int 3, .int 0, .int 1]) (rest := []) ⟨hx, hb, hml, hown, hts⟩ (c_X9_copyRow l D cy (g 20) 15 3 0 1 H.size (by decide) (by decide) (by decide)) (va_cwS 4 hts (gd_S q1694 q1695 q134 q1696) rfl rfl rfl (by decide +kernel) ⟨Nat.le_of_ble_eq_true rfl, Nat.le_of_ble_eq_true rfl⟩) (pr_S hPc hK hDc) rfl rfl hl.1 rfl (lv_room (Nat.le_of_ble_eq_true rfl)) dX9_copyDesk_49 ⟨Nat.le_of_ble_eq_true rfl, Nat.le_of_ble_eq_true rfl⟩) hS (fun q _ h => hFc q h) hFc (fun u tS H1 locs ht hvm hw hB hz1 hk1 hS => ?_)
  obtain ⟨hP1, hK1, hD1⟩ := hB
  rw [ht] at hP1
  try dsimp only at hw
  obtain ⟨hP, hD⟩ := va_join (wr := [(g 60, .inr (9, mF g)), (g 21, .inl (cy 0, 960, .inl (fun _ => 0))), (g 16, .inl (cy 0, 5, .inl (fun _ => 0))), (g 17, .inl (cy 0, 25, .inl (fun _ => 0))), (g 18, .inl (cy 0, 140, .inl (fun _ => 0))), (g 19, .inl (cy 0, 180, .inl (fun _ => 0)))]) (w1 := [(g 20, .inl (cy 0, 15, .inl (fun _ => 0)))]) hP hD [1] [0, 2, 3, 4, 5, 6] rfl rfl (by decide) (by decide) hk1 hFc hP1 hD1
  generalize H1 = H at hP hS ⊢
  have hP : va_P D clz [(g 60, .inr (9, mF g)), (g 21, .inl (cy 0, 960, .inl (fun _ => 0))), (g 16, .inl (cy 0, 5, .inl (fun _ => 0))), (g 17, .inl (cy 0, 25, .inl (fun _ => 0))), (g 18, .inl (cy 0, 140, .inl (fun _ => 0))), (g 19, .inl (cy 0, 180, .inl (fun _ => 0))), (g 20, .inl (cy 0, 15, .inl (fun _ => 0)))] H := hP
  have hD : va_D A [(g 60, .inr (9, mF g)), (g 21, .inl (cy 0, 960, .inl (fun _ => 0))), (g 16, .inl (cy 0, 5, .inl (fun _ => 0))), (g 17, .inl (cy 0, 25, .inl (fun _ => 0))), (g 18, .inl (cy 0, 140, .inl (fun _ => 0))), (g 19, .inl (cy 0, 180, .inl (fun _ => 0))), (g 20, .inl (cy 0, 15, .inl (fun _ => 0)))] := hD
  refine lv_aload_n hx hb dX9_copyDesk_52 rfl (lv_at hl 0 rfl) ?_
  refine va_get (D := D) (ci := 9) (v := .ref (g 21)) (C := RX9) (T := TX9) (N := 60) hx hb hts iX9 hown hK hP 0 rfl rfl 21 (by decide) (hts _ q1381) (fun _ h9 => h9) rfl dX9_copyDesk_53 ?_
  refine lv_sipush (v := 192) hx hb dX9_copyDesk_56 (by decide) ?_
  refine lv_iload_n hx hb dX9_copyDesk_59 rfl (lv_at hl 1 rfl) ?_
  refine lv_iload_n hx hb dX9_copyDesk_60 rfl (lv_at hl 2 rfl) ?_
  have hPc := hP.sub (ws' := [(g 21, .inl (cy 0, 960, .inl (fun _ => 0)))]) [1] rfl
  have hDc := hD.sub (ws' := [(g 21, .inl (cy 0, 960, .inl (fun _ => 0)))]) [1] (by decide) rfl
  have hFc := va_free (wc := [(g 21, .inl (cy 0, 960, .inl (fun _ => 0)))]) hD hS hA [1] rfl
  refine va_callv (va_runS (As := [.ref (g 21), .int 192, .int 0, .int 1]) (rest := []) ⟨hx, hb, hml, hown, hts⟩ (c_X9_copyRow l D cy (g 21) 960 192 0 1 H.size (by decide) (by decide) (by decide)) (va_cwS 4 hts (gd_S q1694 q1695 q134 q1696) rfl rfl rfl (by decide +kernel) ⟨Nat.le_of_ble_eq_true rfl, Nat.le_of_ble_eq_true rfl⟩) (pr_S hPc hK hDc) rfl rfl hl.1 rfl (lv_room (Nat.le_of_ble_eq_true rfl)) dX9_copyDesk_61 ⟨Nat.le_of_ble_eq_true rfl, Nat.le_of_ble_eq_true rfl⟩) hS (fun q _ h => hFc q h) hFc (fun u tS H1 locs ht hvm hw hB hz1 hk1 hS => ?_)
  obtain ⟨hP1, hK1, hD1⟩ := hB
  rw [ht] at hP1
  try dsimp only at hw
  obtain ⟨hP, hD⟩ := va_join (wr := [(g 60, .inr (9, mF g)), (g 16, .inl (cy 0, 5, .inl (fun _ => 0))), (g 17, .inl (cy 0, 25, .inl (fun _ => 0))), (g 18, .inl (cy 0, 140, .inl (fun _ => 0))), (g 19, .inl (cy 0, 180, .inl (fun _ => 0))), (g 20, .inl (cy 0, 15, .inl (fun _ => 0)))]) (w1 := [(g 21, .inl (cy 0, 960, .inl (fun _ => 0)))]) hP hD [1] [0, 2, 3, 4, 5, 6] rfl rfl (by decide) (by decide) hk1 hFc hP1 hD1
  generalize H1 = H at hP hS ⊢
  have hP : va_P D clz [(g 60, .inr (9, mF g)), (g 16, .inl (cy 0, 5, .inl (fun _ => 0))), (g 17, .inl (cy 0, 25, .inl (fun _ => 0))), (g 18, .inl (cy 0, 140, .inl (fun _ => 0))), (g 19, .inl (cy 0, 180, .inl (fun _ => 0))), (g 20, .inl (cy 0, 15, .inl (fun _ => 0))), (g 21, .inl (cy 0, 960, .inl (fun _ => 0)))] H := hP
  have hD : va_D A [(g 60, .inr (9, mF g)), (g 16, .inl (cy 0, 5, .inl (fun _ => 0))), (g 17, .inl (cy 0, 25, .inl (fun _ => 0))), (g 18, .inl (cy 0, 140, .inl (fun _ => 0))), (g 19, .inl (cy 0, 180, .inl (fun _ => 0))), (g 20, .inl (cy 0, 15, .inl (fun _ => 0))), (g 21, .inl (cy 0, 960, .inl (fun _ => 0)))] := hD
  have hP9 := hP.sub (ws' := [(g 60, .inr (9, mF g)), (g 16, .inl (cy 0, 5, .inl (fun _ => 0))), (g 17, .inl (cy 0, 25, .inl (fun _ => 0))), (g 18, .inl (cy 0, 140, .inl (fun _ => 0))), (g 19, .inl (cy 0, 180, .inl (fun _ => 0))), (g 20, .inl (cy 0, 15, .inl (fun _ => 0))), (g 21, .inl (cy 0, 960, .inl (fun _ => 0)))]) [0, 1, 2, 3, 4, 5, 6] rfl
  have hD9 := hD.sub (ws' := [(g 60, .inr (9, mF g)), (g 16, .inl (cy 0, 5, .inl (fun _ => 0))), (g 17, .inl (cy 0, 25, .inl (fun _ => 0))), (g 18, .inl (cy 0, 140, .inl (fun _ => 0))), (g 19, .inl (cy 0, 180, .inl (fun _ => 0))), (g 20, .inl (cy 0, 15, .inl (fun _ => 0))), (g 21, .inl (cy 0, 960, .inl (fun _ => 0)))]) [0, 1, 2, 3, 4, 5, 6] (by decide) rfl
  exact W.vret hx hb hr (fun tS ht hW => ⟨⟨(), rfl, trivial, by rw [ht]; exact hP9, va_K.moved hW.alike hK, hD9⟩, hS.F ht⟩) hS.2.2 dX9_copyDesk_64

set_option maxHeartbeats 4000000 in
set_option maxRecDepth 100000 in
theorem c_X9_copyDesk_02 (l : Launch) (D : va_G) (cy : Nat → ClassId) (g : Nat → Nat) (sz : Nat) : Met l yX9_copyDesk (ww yX9_copyDesk cX9_copyDesk 3 none) ({ frames := 2, cells := 0, slots := 0, locals := 128 }) (va_Pc [.ref (g 60), .int 0, .int 2] (pre D cy [(g 60, .inr (9, mF g)), (g 16, .inl (cy 0, 5, .inl (fun _ => 0))), (g 17, .inl (cy 0, 25, .inl (fun _ => 0))), (g 18, .inl (cy 0, 140, .inl (fun _ => 0))), (g 19, .inl (cy 0, 180, .inl (fun _ => 0))), (g 20, .inl (cy 0, 15, .inl (fun _ => 0))), (g 21, .inl (cy 0, 960, .inl (fun _ => 0)))] sz)) (qv D cy (va_A [(g 60, .inr (9, mF g)), (g 16, .inl (cy 0, 5, .inl (fun _ => 0))), (g 17, .inl (cy 0, 25, .inl (fun _ => 0))), (g 18, .inl (cy 0, 140, .inl (fun _ => 0))), (g 19, .inl (cy 0, 180, .inl (fun _ => 0))), (g 20, .inl (cy 0, 15, .inl (fun _ => 0))), (g 21, .inl (cy 0, 960, .inl (fun _ => 0)))] sz) (fun (_ : Unit) => True) (fun (_ : Unit) => [(g 60, .inr (9, mF g)), (g 16, .inl (cy 0, 5, .inl (fun _ => 0))), (g 17, .inl (cy 0, 25, .inl (fun _ => 0))), (g 18, .inl (cy 0, 140, .inl (fun _ => 0))), (g 19, .inl (cy 0, 180, .inl (fun _ => 0))), (g 20, .inl (cy 0, 15, .inl (fun _ => 0))), (g 21, .inl (cy 0, 960, .inl (fun _ => 0)))])) 0 0 (va_A [(g 60, .inr (9, mF g)), (g 16, .inl (cy 0, 5, .inl (fun _ => 0))), (g 17, .inl (cy 0, 25, .inl (fun _ => 0))), (g 18, .inl (cy 0, 140, .inl (fun _ => 0))), (g 19, .inl (cy 0, 180, .inl (fun _ => 0))), (g 20, .inl (cy 0, 15, .inl (fun _ => 0))), (g 21, .inl (cy 0, 960, .inl (fun _ => 0)))] sz) := by
  refine Met.ofW (cc := cX9_copyDesk) (maxL := 3) (ret := none) (by decide) rfl ?_
  intro p e s m args below meth c s₁ B hml hv
  obtain ⟨rfl, hsz, hP, hK, hD0⟩ := hv
  have hx := B.exec
  have hb := B.bytes
  have hr := B.returns
  have hts := hts_g (atoms_spec (ws := ww yX9_copyDesk cX9_copyDesk 3 none) B.pre)
  have hown : s.vm.findClass RX9 = some m.cls := findClass_of_methodNamed B.named
  have hlocks := B.notSynchronized
  subst hsz
  have hD := hD0.self (sz := s.heap.size)
  generalize hAe : va_A [(g 60, .inr (9, mF g)), (g 16, .inl (cy 0, 5, .inl (fun _ => 0))), (g 17, .inl (cy 0, 25, .inl (fun _ => 0))), (g 18, .inl (cy 0, 140, .inl (fun _ => 0))), (g 19, .inl (cy 0, 180, .inl (fun _ => 0))), (g 20, .inl (cy 0, 15, .inl (fun _ => 0))), (g 21, .inl (cy 0, 960, .inl (fun _ => 0)))] s.heap.size = A at hD ⊢
  have hA : ∀ q : Nat, s.heap.size ≤ q → A q := fun q h => by rw [← hAe]; exact Or.inr h
  have hS : va_S A s.heap s.heap [] := va_S.rf
  have hl := lv_entry ([.ref (g 60), .int 0, .int 2]) (n := 3) (Nat.le_of_ble_eq_true rfl)
  rw [lg_entry_eq]
  generalize (lg_sl ([.ref (g 60), .int 0, .int 2]) ++ List.replicate (3 - (lg_sl ([.ref (g 60), .int 0, .int 2])).length) Slot.unset).toArray = ls at hl ⊢
  have hl : lv_has ls 3 [(0, .ref (g 60)), (1, .int 0), (2, .int 2)] := hl
  refine lv_aload_n hx hb dX9_copyDesk_0 rfl (lv_at hl 0 rfl) ?_
  refine va_get (D := D) (ci := 9) (v := .ref (g 16)) (C := RX9) (T := TX9) (N := 60) hx hb hts iX9 hown hK hP 0 rfl rfl 16 (by decide) (hts _ q1376) (fun _ h9 => h9) rfl dX9_copyDesk_1 ?_
  refine lv_iconst (v := 1) hx hb dX9_copyDesk_4 (by decide) ?_
  refine lv_iload_n hx hb dX9_copyDesk_5 rfl (lv_at hl 1 rfl) ?_
  refine lv_iload_n hx hb dX9_copyDesk_6 rfl (lv_at hl 2 rfl) ?_
  have hPc := hP.sub (ws' := [(g 16, .inl (cy 0, 5, .inl (fun _ => 0)))]) [1] rfl
  have hDc := hD.sub (ws' := [(g 16, .inl (cy 0, 5, .inl (fun _ => 0)))]) [1] (by decide) rfl
  have hFc := va_free (wc := [(g 16, .inl (cy 0, 5, .inl (fun _ => 0)))]) hD hS hA [1] rfl
  refine va_callv (va_runS (As := [.ref (g 16), .int 1, .int 0, .int 2]) (rest := []) ⟨hx, hb, hml, hown, hts⟩ (c_X9_copyRow l D cy (g 16) 5 1 0 2 s.heap.size (by decide) (by decide) (by decide)) (va_cwS 4 hts (gd_S q1694 q1695 q134 q1696) rfl rfl rfl (by decide +kernel) ⟨Nat.le_of_ble_eq_true rfl, Nat.le_of_ble_eq_true rfl⟩) (pr_S hPc hK hDc) rfl rfl hl.1 rfl (lv_room (Nat.le_of_ble_eq_true rfl)) dX9_copyDesk_7 ⟨Nat.le_of_ble_eq_true rfl, Nat.le_of_ble_eq_true rfl⟩) hS (fun q _ h => hFc q h) hFc (fun u tS H1 locs ht hvm hw hB hz1 hk1 hS => ?_)
  obtain ⟨hP1, hK1, hD1⟩ := hB
  rw [ht] at hP1
  try dsimp only at hw
  obtain ⟨hP, hD⟩ := va_join (wr := [(g 60, .inr (9, mF g)), (g 17, .inl (cy 0, 25, .inl (fun _ => 0))), (g 18, .inl (cy 0, 140, .inl (fun _ => 0))), (g 19, .inl (cy 0, 180, .inl (fun _ => 0))), (g 20, .inl (cy 0, 15, .inl (fun _ => 0))), (g 21, .inl (cy 0, 960, .inl (fun _ => 0)))]) (w1 := [(g 16, .inl (cy 0, 5, .inl (fun _ => 0)))]) hP hD [1] [0, 2, 3, 4, 5, 6] rfl rfl (by decide) (by decide) hk1 hFc hP1 hD1
  generalize H1 = H at hP hS ⊢
  have hP : va_P D clz [(g 60, .inr (9, mF g)), (g 17, .inl (cy 0, 25, .inl (fun _ => 0))), (g 18, .inl (cy 0, 140, .inl (fun _ => 0))), (g 19, .inl (cy 0, 180, .inl (fun _ => 0))), (g 20, .inl (cy 0, 15, .inl (fun _ => 0))), (g 21, .inl (cy 0, 960, .inl (fun _ => 0))), (g 16, .inl (cy 0, 5, .inl (fun _ => 0)))] H := hP
  have hD : va_D A [(g 60, .inr (9, mF g)), (g 17, .inl (cy 0, 25, .inl (fun _ => 0))), (g 18, .inl (cy 0, 140, .inl (fun _ => 0))), (g 19, .inl (cy 0, 180, .inl (fun _ => 0))), (g 20, .inl (cy 0, 15, .inl (fun _ => 0))), (g 21, .inl (cy 0, 960, .inl (fun _ => 0))), (g 16, .inl (cy 0, 5, .inl (fun _ => 0)))] := hD
  refine lv_aload_n hx hb dX9_copyDesk_10 rfl (lv_at hl 0 rfl) ?_
  refine va_get (D := D) (ci := 9) (v := .ref (g 17)) (C := RX9) (T := TX9) (N := 60) hx hb hts iX9 hown hK hP 0 rfl rfl 17 (by decide) (hts _ q1377) (fun _ h9 => h9) rfl dX9_copyDesk_11 ?_
  refine lv_iconst (v := 5) hx hb dX9_copyDesk_14 (by decide) ?_
  refine lv_iload_n hx hb dX9_copyDesk_15 rfl (lv_at hl 1 rfl) ?_
  refine lv_iload_n hx hb dX9_copyDesk_16 rfl (lv_at hl 2 rfl) ?_
  have hPc := hP.sub (ws' := [(g 17, .inl (cy 0, 25, .inl (fun _ => 0)))]) [1] rfl
  have hDc := hD.sub (ws' := [(g 17, .inl (cy 0, 25, .inl (fun _ => 0)))]) [1] (by decide) rfl
  have hFc := va_free (wc := [(g 17, .inl (cy 0, 25, .inl (fun _ => 0)))]) hD hS hA [1] rfl
  refine va_callv (va_runS (As := [.ref (g 17), .int 5, .int 0, .int 2]) (rest := []) ⟨hx, hb, hml, hown, hts⟩ (c_X9_copyRow l D cy (g 17) 25 5 0 2 H.size (by decide) (by decide) (by decide)) (va_cwS 4 hts (gd_S q1694 q1695 q134 q1696) rfl rfl rfl (by decide +kernel) ⟨Nat.le_of_ble_eq_true rfl, Nat.le_of_ble_eq_true rfl⟩) (pr_S hPc hK hDc) rfl rfl hl.1 rfl (lv_room (Nat.le_of_ble_eq_true rfl)) dX9_copyDesk_17 ⟨Nat.le_of_ble_eq_true rfl, Nat.le_of_ble_eq_true rfl⟩) hS (fun q _ h => hFc q h) hFc (fun u tS H1 locs ht hvm hw hB hz1 hk1 hS => ?_)
  obtain ⟨hP1, hK1, hD1⟩ := hB
  rw [ht] at hP1
  try dsimp only at hw
  obtain ⟨hP, hD⟩ := va_join (wr := [(g 60, .inr (9, mF g)), (g 18, .inl (cy 0, 140, .inl (fun _ => 0))), (g 19, .inl (cy 0, 180, .inl (fun _ => 0))), (g 20, .inl (cy 0, 15, .inl (fun _ => 0))), (g 21, .inl (cy 0, 960, .inl (fun _ => 0))), (g 16, .inl (cy 0, 5, .inl (fun _ => 0)))]) (w1 := [(g 17, .inl (cy 0, 25, .inl (fun _ => 0)))]) hP hD [1] [0, 2, 3, 4, 5, 6] rfl rfl (by decide) (by decide) hk1 hFc hP1 hD1
  generalize H1 = H at hP hS ⊢
  have hP : va_P D clz [(g 60, .inr (9, mF g)), (g 18, .inl (cy 0, 140, .inl (fun _ => 0))), (g 19, .inl (cy 0, 180, .inl (fun _ => 0))), (g 20, .inl (cy 0, 15, .inl (fun _ => 0))), (g 21, .inl (cy 0, 960, .inl (fun _ => 0))), (g 16, .inl (cy 0, 5, .inl (fun _ => 0))), (g 17, .inl (cy 0, 25, .inl (fun _ => 0)))] H := hP
  have hD : va_D A [(g 60, .inr (9, mF g)), (g 18, .inl (cy 0, 140, .inl (fun _ => 0))), (g 19, .inl (cy 0, 180, .inl (fun _ => 0))), (g 20, .inl (cy 0, 15, .inl (fun _ => 0))), (g 21, .inl (cy 0, 960, .inl (fun _ => 0))), (g 16, .inl (cy 0, 5, .inl (fun _ => 0))), (g 17, .inl (cy 0, 25, .inl (fun _ => 0)))] := hD
  refine lv_aload_n hx hb dX9_copyDesk_20 rfl (lv_at hl 0 rfl) ?_
  refine va_get (D := D) (ci := 9) (v := .ref (g 18)) (C := RX9) (T := TX9) (N := 60) hx hb hts iX9 hown hK hP 0 rfl rfl 18 (by decide) (hts _ q1378) (fun _ h9 => h9) rfl dX9_copyDesk_21 ?_
  refine lv_bipush (v := 28) hx hb dX9_copyDesk_24 (by decide) ?_
  refine lv_iload_n hx hb dX9_copyDesk_26 rfl (lv_at hl 1 rfl) ?_
  refine lv_iload_n hx hb dX9_copyDesk_27 rfl (lv_at hl 2 rfl) ?_
  have hPc := hP.sub (ws' := [(g 18, .inl (cy 0, 140, .inl (fun _ => 0)))]) [1] rfl
  have hDc := hD.sub (ws' := [(g 18, .inl (cy 0, 140, .inl (fun _ => 0)))]) [1] (by decide) rfl
  have hFc := va_free (wc := [(g 18, .inl (cy 0, 140, .inl (fun _ => 0)))]) hD hS hA [1] rfl
  refine va_callv (va_runS (As := [.ref (g 18), .int 28, .int 0, .int 2]) (rest := []) ⟨hx, hb, hml, hown, hts⟩ (c_X9_copyRow l D cy (g 18) 140 28 0 2 H.size (by decide) (by decide) (by decide)) (va_cwS 4 hts (gd_S q1694 q1695 q134 q1696) rfl rfl rfl (by decide +kernel) ⟨Nat.le_of_ble_eq_true rfl, Nat.le_of_ble_eq_true rfl⟩) (pr_S hPc hK hDc) rfl rfl hl.1 rfl (lv_room (Nat.le_of_ble_eq_true rfl)) dX9_copyDesk_28 ⟨Nat.le_of_ble_eq_true rfl, Nat.le_of_ble_eq_true rfl⟩) hS (fun q _ h => hFc q h) hFc (fun u tS H1 locs ht hvm hw hB hz1 hk1 hS => ?_)
  obtain ⟨hP1, hK1, hD1⟩ := hB
  rw [ht] at hP1
  try dsimp only at hw
  obtain ⟨hP, hD⟩ := va_join (wr := [(g 60, .inr (9, mF g)), (g 19, .inl (cy 0, 180, .inl (fun _ => 0))), (g 20, .inl (cy 0, 15, .inl (fun _ => 0))), (g 21, .inl (cy 0, 960, .inl (fun _ => 0))), (g 16, .inl (cy 0, 5, .inl (fun _ => 0))), (g 17, .inl (cy 0, 25, .inl (fun _ => 0)))]) (w1 := [(g 18, .inl (cy 0, 140, .inl (fun _ => 0)))]) hP hD [1] [0, 2, 3, 4, 5, 6] rfl rfl (by decide) (by decide) hk1 hFc hP1 hD1
  generalize H1 = H at hP hS ⊢
  have hP : va_P D clz [(g 60, .inr (9, mF g)), (g 19, .inl (cy 0, 180, .inl (fun _ => 0))), (g 20, .inl (cy 0, 15, .inl (fun _ => 0))), (g 21, .inl (cy 0, 960, .inl (fun _ => 0))), (g 16, .inl (cy 0, 5, .inl (fun _ => 0))), (g 17, .inl (cy 0, 25, .inl (fun _ => 0))), (g 18, .inl (cy 0, 140, .inl (fun _ => 0)))] H := hP
  have hD : va_D A [(g 60, .inr (9, mF g)), (g 19, .inl (cy 0, 180, .inl (fun _ => 0))), (g 20, .inl (cy 0, 15, .inl (fun _ => 0))), (g 21, .inl (cy 0, 960, .inl (fun _ => 0))), (g 16, .inl (cy 0, 5, .inl (fun _ => 0))), (g 17, .inl (cy 0, 25, .inl (fun _ => 0))), (g 18, .inl (cy 0, 140, .inl (fun _ => 0)))] := hD
  refine lv_aload_n hx hb dX9_copyDesk_31 rfl (lv_at hl 0 rfl) ?_
  refine va_get (D := D) (ci := 9) (v := .ref (g 19)) (C := RX9) (T := TX9) (N := 60) hx hb hts iX9 hown hK hP 0 rfl rfl 19 (by decide) (hts _ q1379) (fun _ h9 => h9) rfl dX9_copyDesk_32 ?_
  refine lv_bipush (v := 36) hx hb dX9_copyDesk_35 (by decide) ?_
  refine lv_iload_n hx hb dX9_copyDesk_37 rfl (lv_at hl 1 rfl) ?_
  refine lv_iload_n hx hb dX9_copyDesk_38 rfl (lv_at hl 2 rfl) ?_
  have hPc := hP.sub (ws' := [(g 19, .inl (cy 0, 180, .inl (fun _ => 0)))]) [1] rfl
  have hDc := hD.sub (ws' := [(g 19, .inl (cy 0, 180, .inl (fun _ => 0)))]) [1] (by decide) rfl
  have hFc := va_free (wc := [(g 19, .inl (cy 0, 180, .inl (fun _ => 0)))]) hD hS hA [1] rfl
  refine va_callv (va_runS (As := [.ref (g 19), .int 36, .int 0, .int 2]) (rest := []) ⟨hx, hb, hml, hown, hts⟩ (c_X9_copyRow l D cy (g 19) 180 36 0 2 H.size (by decide) (by decide) (by decide)) (va_cwS 4 hts (gd_S q1694 q1695 q134 q1696) rfl rfl rfl (by decide +kernel) ⟨Nat.le_of_ble_eq_true rfl, Nat.le_of_ble_eq_true rfl⟩) (pr_S hPc hK hDc) rfl rfl hl.1 rfl (lv_room (Nat.le_of_ble_eq_true rfl)) dX9_copyDesk_39 ⟨Nat.le_of_ble_eq_true rfl, Nat.le_of_ble_eq_true rfl⟩) hS (fun q _ h => hFc q h) hFc (fun u tS H1 locs ht hvm hw hB hz1 hk1 hS => ?_)
  obtain ⟨hP1, hK1, hD1⟩ := hB
  rw [ht] at hP1
  try dsimp only at hw
  obtain ⟨hP, hD⟩ := va_join (wr := [(g 60, .inr (9, mF g)), (g 20, .inl (cy 0, 15, .inl (fun _ => 0))), (g 21, .inl (cy 0, 960, .inl (fun _ => 0))), (g 16, .inl (cy 0, 5, .inl (fun _ => 0))), (g 17, .inl (cy 0, 25, .inl (fun _ => 0))), (g 18, .inl (cy 0, 140, .inl (fun _ => 0)))]) (w1 := [(g 19, .inl (cy 0, 180, .inl (fun _ => 0)))]) hP hD [1] [0, 2, 3, 4, 5, 6] rfl rfl (by decide) (by decide) hk1 hFc hP1 hD1
  generalize H1 = H at hP hS ⊢
  have hP : va_P D clz [(g 60, .inr (9, mF g)), (g 20, .inl (cy 0, 15, .inl (fun _ => 0))), (g 21, .inl (cy 0, 960, .inl (fun _ => 0))), (g 16, .inl (cy 0, 5, .inl (fun _ => 0))), (g 17, .inl (cy 0, 25, .inl (fun _ => 0))), (g 18, .inl (cy 0, 140, .inl (fun _ => 0))), (g 19, .inl (cy 0, 180, .inl (fun _ => 0)))] H := hP
  have hD : va_D A [(g 60, .inr (9, mF g)), (g 20, .inl (cy 0, 15, .inl (fun _ => 0))), (g 21, .inl (cy 0, 960, .inl (fun _ => 0))), (g 16, .inl (cy 0, 5, .inl (fun _ => 0))), (g 17, .inl (cy 0, 25, .inl (fun _ => 0))), (g 18, .inl (cy 0, 140, .inl (fun _ => 0))), (g 19, .inl (cy 0, 180, .inl (fun _ => 0)))] := hD
  refine lv_aload_n hx hb dX9_copyDesk_42 rfl (lv_at hl 0 rfl) ?_
  refine va_get (D := D) (ci := 9) (v := .ref (g 20)) (C := RX9) (T := TX9) (N := 60) hx hb hts iX9 hown hK hP 0 rfl rfl 20 (by decide) (hts _ q1380) (fun _ h9 => h9) rfl dX9_copyDesk_43 ?_
  refine lv_iconst (v := 3) hx hb dX9_copyDesk_46 (by decide) ?_
  refine lv_iload_n hx hb dX9_copyDesk_47 rfl (lv_at hl 1 rfl) ?_
  refine lv_iload_n hx hb dX9_copyDesk_48 rfl (lv_at hl 2 rfl) ?_
  have hPc := hP.sub (ws' := [(g 20, .inl (cy 0, 15, .inl (fun _ => 0)))]) [1] rfl
  have hDc := hD.sub (ws' := [(g 20, .inl (cy 0, 15, .inl (fun _ => 0)))]) [1] (by decide) rfl
  have hFc := va_free (wc := [(g 20, .inl (cy 0, 15, .inl (fun _ => 0)))]) hD hS hA [1] rfl
  refine va_callv (va_runS (As := [.ref (g 20), .int 3, .int 0, .int 2]) (rest := []) ⟨hx, hb, hml, hown, hts⟩ (c_X9_copyRow l D cy (g 20) 15 3 0 2 H.size (by decide) (by decide) (by decide)) (va_cwS 4 hts (gd_S q1694 q1695 q134 q1696) rfl rfl rfl (by decide +kernel) ⟨Nat.le_of_ble_eq_true rfl, Nat.le_of_ble_eq_true rfl⟩) (pr_S hPc hK hDc) rfl rfl hl.1 rfl (lv_room (Nat.le_of_ble_eq_true rfl)) dX9_copyDesk_49 ⟨Nat.le_of_ble_eq_true rfl, Nat.le_of_ble_eq_true rfl⟩) hS (fun q _ h => hFc q h) hFc (fun u tS H1 locs ht hvm hw hB hz1 hk1 hS => ?_)
  obtain ⟨hP1, hK1, hD1⟩ := hB
  rw [ht] at hP1
  try dsimp only at hw
  obtain ⟨hP, hD⟩ := va_join (wr := [(g 60, .inr (9, mF g)), (g 21, .inl (cy 0, 960, .inl (fun _ => 0))), (g 16, .inl (cy 0, 5, .inl (fun _ => 0))), (g 17, .inl (cy 0, 25, .inl (fun _ => 0))), (g 18, .inl (cy 0, 140, .inl (fun _ => 0))), (g 19, .inl (cy 0, 180, .inl (fun _ => 0)))]) (w1 := [(g 20, .inl (cy 0, 15, .inl (fun _ => 0)))]) hP hD [1] [0, 2, 3, 4, 5, 6] rfl rfl (by decide) (by decide) hk1 hFc hP1 hD1
  generalize H1 = H at hP hS ⊢
  have hP : va_P D clz [(g 60, .inr (9, mF g)), (g 21, .inl (cy 0, 960, .inl (fun _ => 0))), (g 16, .inl (cy 0, 5, .inl (fun _ => 0))), (g 17, .inl (cy 0, 25, .inl (fun _ => 0))), (g 18, .inl (cy 0, 140, .inl (fun _ => 0))), (g 19, .inl (cy 0, 180, .inl (fun _ => 0))), (g 20, .inl (cy 0, 15, .inl (fun _ => 0)))] H := hP
  have hD : va_D A [(g 60, .inr (9, mF g)), (g 21, .inl (cy 0, 960, .inl (fun _ => 0))), (g 16, .inl (cy 0, 5, .inl (fun _ => 0))), (g 17, .inl (cy 0, 25, .inl (fun _ => 0))), (g 18, .inl (cy 0, 140, .inl (fun _ => 0))), (g 19, .inl (cy 0, 180, .inl (fun _ => 0))), (g 20, .inl (cy 0, 15, .inl (fun _ => 0)))] := hD
  refine lv_aload_n hx hb dX9_copyDesk_52 rfl (lv_at hl 0 rfl) ?_
  refine va_get (D := D) (ci := 9) (v := .ref (g 21)) (C := RX9) (T := TX9) (N := 60) hx hb hts iX9 hown hK hP 0 rfl rfl 21 (by decide) (hts _ q1381) (fun _ h9 => h9) rfl dX9_copyDesk_53 ?_
  refine lv_sipush (v := 192) hx hb dX9_copyDesk_56 (by decide) ?_
  refine lv_iload_n hx hb dX9_copyDesk_59 rfl (lv_at hl 1 rfl) ?_
  refine lv_iload_n hx hb dX9_copyDesk_60 rfl (lv_at hl 2 rfl) ?_
  have hPc := hP.sub (ws' := [(g 21, .inl (cy 0, 960, .inl (fun _ => 0)))]) [1] rfl
  have hDc := hD.sub (ws' := [(g 21, .inl (cy 0, 960, .inl (fun _ => 0)))]) [1] (by decide) rfl
  have hFc := va_free (wc := [(g 21, .inl (cy 0, 960, .inl (fun _ => 0)))]) hD hS hA [1] rfl
  refine va_callv (va_runS (As := [.ref (g 21), .int 192, .int 0, .int 2]) (rest := []) ⟨hx, hb, hml, hown, hts⟩ (c_X9_copyRow l D cy (g 21) 960 192 0 2 H.size (by decide) (by decide) (by decide)) (va_cwS 4 hts (gd_S q1694 q1695 q134 q1696) rfl rfl rfl (by decide +kernel) ⟨Nat.le_of_ble_eq_true rfl, Nat.le_of_ble_eq_true rfl⟩) (pr_S hPc hK hDc) rfl rfl hl.1 rfl (lv_room (Nat.le_of_ble_eq_true rfl)) dX9_copyDesk_61 ⟨Nat.le_of_ble_eq_true rfl, Nat.le_of_ble_eq_true rfl⟩) hS (fun q _ h => hFc q h) hFc (fun u tS H1 locs ht hvm hw hB hz1 hk1 hS => ?_)
  obtain ⟨hP1, hK1, hD1⟩ := hB
  rw [ht] at hP1
  try dsimp only at hw
  obtain ⟨hP, hD⟩ := va_join (wr := [(g 60, .inr (9, mF g)), (g 16, .inl (cy 0, 5, .inl (fun _ => 0))), (g 17, .inl (cy 0, 25, .inl (fun _ => 0))), (g 18, .inl (cy 0, 140, .inl (fun _ => 0))), (g 19, .inl (cy 0, 180, .inl (fun _ => 0))), (g 20, .inl (cy 0, 15, .inl (fun _ => 0)))]) (w1 := [(g 21, .inl (cy 0, 960, .inl (fun _ => 0)))]) hP hD [1] [0, 2, 3, 4, 5, 6] rfl rfl (by decide) (by decide) hk1 hFc hP1 hD1
  generalize H1 = H at hP hS ⊢
  have hP : va_P D clz [(g 60, .inr (9, mF g)), (g 16, .inl (cy 0, 5, .inl (fun _ => 0))), (g 17, .inl (cy 0, 25, .inl (fun _ => 0))), (g 18, .inl (cy 0, 140, .inl (fun _ => 0))), (g 19, .inl (cy 0, 180, .inl (fun _ => 0))), (g 20, .inl (cy 0, 15, .inl (fun _ => 0))), (g 21, .inl (cy 0, 960, .inl (fun _ => 0)))] H := hP
  have hD : va_D A [(g 60, .inr (9, mF g)), (g 16, .inl (cy 0, 5, .inl (fun _ => 0))), (g 17, .inl (cy 0, 25, .inl (fun _ => 0))), (g 18, .inl (cy 0, 140, .inl (fun _ => 0))), (g 19, .inl (cy 0, 180, .inl (fun _ => 0))), (g 20, .inl (cy 0, 15, .inl (fun _ => 0))), (g 21, .inl (cy 0, 960, .inl (fun _ => 0)))] := hD
  have hP9 := hP.sub (ws' := [(g 60, .inr (9, mF g)), (g 16, .inl (cy 0, 5, .inl (fun _ => 0))), (g 17, .inl (cy 0, 25, .inl (fun _ => 0))), (g 18, .inl (cy 0, 140, .inl (fun _ => 0))), (g 19, .inl (cy 0, 180, .inl (fun _ => 0))), (g 20, .inl (cy 0, 15, .inl (fun _ => 0))), (g 21, .inl (cy 0, 960, .inl (fun _ => 0)))]) [0, 1, 2, 3, 4, 5, 6] rfl
  have hD9 := hD.sub (ws' := [(g 60, .inr (9, mF g)), (g 16, .inl (cy 0, 5, .inl (fun _ => 0))), (g 17, .inl (cy 0, 25, .inl (fun _ => 0))), (g 18, .inl (cy 0, 140, .inl (fun _ => 0))), (g 19, .inl (cy 0, 180, .inl (fun _ => 0))), (g 20, .inl (cy 0, 15, .inl (fun _ => 0))), (g 21, .inl (cy 0, 960, .inl (fun _ => 0)))]) [0, 1, 2, 3, 4, 5, 6] (by decide) rfl
  exact W.vret hx hb hr (fun tS ht hW => ⟨⟨(), rfl, trivial, by rw [ht]; exact hP9, va_K.moved hW.alike hK, hD9⟩, hS.F ht⟩) hS.2.2 dX9_copyDesk_64

set_option maxHeartbeats 4000000 in
set_option maxRecDepth 100000 in
theorem c_X9_copyDesk_03 (l : Launch) (D : va_G) (cy : Nat → ClassId) (g : Nat → Nat) (sz : Nat) : Met l yX9_copyDesk (ww yX9_copyDesk cX9_copyDesk 3 none) ({ frames := 2, cells := 0, slots := 0, locals := 128 }) (va_Pc [.ref (g 60), .int 0, .int 3] (pre D cy [(g 60, .inr (9, mF g)), (g 16, .inl (cy 0, 5, .inl (fun _ => 0))), (g 17, .inl (cy 0, 25, .inl (fun _ => 0))), (g 18, .inl (cy 0, 140, .inl (fun _ => 0))), (g 19, .inl (cy 0, 180, .inl (fun _ => 0))), (g 20, .inl (cy 0, 15, .inl (fun _ => 0))), (g 21, .inl (cy 0, 960, .inl (fun _ => 0)))] sz)) (qv D cy (va_A [(g 60, .inr (9, mF g)), (g 16, .inl (cy 0, 5, .inl (fun _ => 0))), (g 17, .inl (cy 0, 25, .inl (fun _ => 0))), (g 18, .inl (cy 0, 140, .inl (fun _ => 0))), (g 19, .inl (cy 0, 180, .inl (fun _ => 0))), (g 20, .inl (cy 0, 15, .inl (fun _ => 0))), (g 21, .inl (cy 0, 960, .inl (fun _ => 0)))] sz) (fun (_ : Unit) => True) (fun (_ : Unit) => [(g 60, .inr (9, mF g)), (g 16, .inl (cy 0, 5, .inl (fun _ => 0))), (g 17, .inl (cy 0, 25, .inl (fun _ => 0))), (g 18, .inl (cy 0, 140, .inl (fun _ => 0))), (g 19, .inl (cy 0, 180, .inl (fun _ => 0))), (g 20, .inl (cy 0, 15, .inl (fun _ => 0))), (g 21, .inl (cy 0, 960, .inl (fun _ => 0)))])) 0 0 (va_A [(g 60, .inr (9, mF g)), (g 16, .inl (cy 0, 5, .inl (fun _ => 0))), (g 17, .inl (cy 0, 25, .inl (fun _ => 0))), (g 18, .inl (cy 0, 140, .inl (fun _ => 0))), (g 19, .inl (cy 0, 180, .inl (fun _ => 0))), (g 20, .inl (cy 0, 15, .inl (fun _ => 0))), (g 21, .inl (cy 0, 960, .inl (fun _ => 0)))] sz) := by
  refine Met.ofW (cc := cX9_copyDesk) (maxL := 3) (ret := none) (by decide) rfl ?_
  intro p e s m args below meth c s₁ B hml hv
  obtain ⟨rfl, hsz, hP, hK, hD0⟩ := hv
  have hx := B.exec
  have hb := B.bytes
  have hr := B.returns
  have hts := hts_g (atoms_spec (ws := ww yX9_copyDesk cX9_copyDesk 3 none) B.pre)
  have hown : s.vm.findClass RX9 = some m.cls := findClass_of_methodNamed B.named
  have hlocks := B.notSynchronized
  subst hsz
  have hD := hD0.self (sz := s.heap.size)
  generalize hAe : va_A [(g 60, .inr (9, mF g)), (g 16, .inl (cy 0, 5, .inl (fun _ => 0))), (g 17, .inl (cy 0, 25, .inl (fun _ => 0))), (g 18, .inl (cy 0, 140, .inl (fun _ => 0))), (g 19, .inl (cy 0, 180, .inl (fun _ => 0))), (g 20, .inl (cy 0, 15, .inl (fun _ => 0))), (g 21, .inl (cy 0, 960, .inl (fun _ => 0)))] s.heap.size = A at hD ⊢
  have hA : ∀ q : Nat, s.heap.size ≤ q → A q := fun q h => by rw [← hAe]; exact Or.inr h
  have hS : va_S A s.heap s.heap [] := va_S.rf
  have hl := lv_entry ([.ref (g 60), .int 0, .int 3]) (n := 3) (Nat.le_of_ble_eq_true rfl)
  rw [lg_entry_eq]
  generalize (lg_sl ([.ref (g 60), .int 0, .int 3]) ++ List.replicate (3 - (lg_sl ([.ref (g 60), .int 0, .int 3])).length) Slot.unset).toArray = ls at hl ⊢
  have hl : lv_has ls 3 [(0, .ref (g 60)), (1, .int 0), (2, .int 3)] := hl
  refine lv_aload_n hx hb dX9_copyDesk_0 rfl (lv_at hl 0 rfl) ?_
  refine va_get (D := D) (ci := 9) (v := .ref (g 16)) (C := RX9) (T := TX9) (N := 60) hx hb hts iX9 hown hK hP 0 rfl rfl 16 (by decide) (hts _ q1376) (fun _ h9 => h9) rfl dX9_copyDesk_1 ?_
  refine lv_iconst (v := 1) hx hb dX9_copyDesk_4 (by decide) ?_
  refine lv_iload_n hx hb dX9_copyDesk_5 rfl (lv_at hl 1 rfl) ?_
  refine lv_iload_n hx hb dX9_copyDesk_6 rfl (lv_at hl 2 rfl) ?_
  have hPc := hP.sub (ws' := [(g 16, .inl (cy 0, 5, .inl (fun _ => 0)))]) [1] rfl
  have hDc := hD.sub (ws' := [(g 16, .inl (cy 0, 5, .inl (fun _ => 0)))]) [1] (by decide) rfl
  have hFc := va_free (wc := [(g 16, .inl (cy 0, 5, .inl (fun _ => 0)))]) hD hS hA [1] rfl
  refine va_callv (va_runS (As := [.ref (g 16), .int 1, .int 0, .int 3]) (rest := []) ⟨hx, hb, hml, hown, hts⟩ (c_X9_copyRow l D cy (g 16) 5 1 0 3 s.heap.size (by decide) (by decide) (by decide)) (va_cwS 4 hts (gd_S q1694 q1695 q134 q1696) rfl rfl rfl (by decide +kernel) ⟨Nat.le_of_ble_eq_true rfl, Nat.le_of_ble_eq_true rfl⟩) (pr_S hPc hK hDc) rfl rfl hl.1 rfl (lv_room (Nat.le_of_ble_eq_true rfl)) dX9_copyDesk_7 ⟨Nat.le_of_ble_eq_true rfl, Nat.le_of_ble_eq_true rfl⟩) hS (fun q _ h => hFc q h) hFc (fun u tS H1 locs ht hvm hw hB hz1 hk1 hS => ?_)
  obtain ⟨hP1, hK1, hD1⟩ := hB
  rw [ht] at hP1
  try dsimp only at hw
  obtain ⟨hP, hD⟩ := va_join (wr := [(g 60, .inr (9, mF g)), (g 17, .inl (cy 0, 25, .inl (fun _ => 0))), (g 18, .inl (cy 0, 140, .inl (fun _ => 0))), (g 19, .inl (cy 0, 180, .inl (fun _ => 0))), (g 20, .inl (cy 0, 15, .inl (fun _ => 0))), (g 21, .inl (cy 0, 960, .inl (fun _ => 0)))]) (w1 := [(g 16, .inl (cy 0, 5, .inl (fun _ => 0)))]) hP hD [1] [0, 2, 3, 4, 5, 6] rfl rfl (by decide) (by decide) hk1 hFc hP1 hD1
  generalize H1 = H at hP hS ⊢
  have hP : va_P D clz [(g 60, .inr (9, mF g)), (g 17, .inl (cy 0, 25, .inl (fun _ => 0))), (g 18, .inl (cy 0, 140, .inl (fun _ => 0))), (g 19, .inl (cy 0, 180, .inl (fun _ => 0))), (g 20, .inl (cy 0, 15, .inl (fun _ => 0))), (g 21, .inl (cy 0, 960, .inl (fun _ => 0))), (g 16, .inl (cy 0, 5, .inl (fun _ => 0)))] H := hP
  have hD : va_D A [(g 60, .inr (9, mF g)), (g 17, .inl (cy 0, 25, .inl (fun _ => 0))), (g 18, .inl (cy 0, 140, .inl (fun _ => 0))), (g 19, .inl (cy 0, 180, .inl (fun _ => 0))), (g 20, .inl (cy 0, 15, .inl (fun _ => 0))), (g 21, .inl (cy 0, 960, .inl (fun _ => 0))), (g 16, .inl (cy 0, 5, .inl (fun _ => 0)))] := hD
  refine lv_aload_n hx hb dX9_copyDesk_10 rfl (lv_at hl 0 rfl) ?_
  refine va_get (D := D) (ci := 9) (v := .ref (g 17)) (C := RX9) (T := TX9) (N := 60) hx hb hts iX9 hown hK hP 0 rfl rfl 17 (by decide) (hts _ q1377) (fun _ h9 => h9) rfl dX9_copyDesk_11 ?_
  refine lv_iconst (v := 5) hx hb dX9_copyDesk_14 (by decide) ?_
  refine lv_iload_n hx hb dX9_copyDesk_15 rfl (lv_at hl 1 rfl) ?_
  refine lv_iload_n hx hb dX9_copyDesk_16 rfl (lv_at hl 2 rfl) ?_
  have hPc := hP.sub (ws' := [(g 17, .inl (cy 0, 25, .inl (fun _ => 0)))]) [1] rfl
  have hDc := hD.sub (ws' := [(g 17, .inl (cy 0, 25, .inl (fun _ => 0)))]) [1] (by decide) rfl
  have hFc := va_free (wc := [(g 17, .inl (cy 0, 25, .inl (fun _ => 0)))]) hD hS hA [1] rfl
  refine va_callv (va_runS (As := [.ref (g 17), .int 5, .int 0, .int 3]) (rest := []) ⟨hx, hb, hml, hown, hts⟩ (c_X9_copyRow l D cy (g 17) 25 5 0 3 H.size (by decide) (by decide) (by decide)) (va_cwS 4 hts (gd_S q1694 q1695 q134 q1696) rfl rfl rfl (by decide +kernel) ⟨Nat.le_of_ble_eq_true rfl, Nat.le_of_ble_eq_true rfl⟩) (pr_S hPc hK hDc) rfl rfl hl.1 rfl (lv_room (Nat.le_of_ble_eq_true rfl)) dX9_copyDesk_17 ⟨Nat.le_of_ble_eq_true rfl, Nat.le_of_ble_eq_true rfl⟩) hS (fun q _ h => hFc q h) hFc (fun u tS H1 locs ht hvm hw hB hz1 hk1 hS => ?_)
  obtain ⟨hP1, hK1, hD1⟩ := hB
  rw [ht] at hP1
  try dsimp only at hw
  obtain ⟨hP, hD⟩ := va_join (wr := [(g 60, .inr (9, mF g)), (g 18, .inl (cy 0, 140, .inl (fun _ => 0))), (g 19, .inl (cy 0, 180, .inl (fun _ => 0))), (g 20, .inl (cy 0, 15, .inl (fun _ => 0))), (g 21, .inl (cy 0, 960, .inl (fun _ => 0))), (g 16, .inl (cy 0, 5, .inl (fun _ => 0)))]) (w1 := [(g 17, .inl (cy 0, 25, .inl (fun _ => 0)))]) hP hD [1] [0, 2, 3, 4, 5, 6] rfl rfl (by decide) (by decide) hk1 hFc hP1 hD1
  generalize H1 = H at hP hS ⊢
  have hP : va_P D clz [(g 60, .inr (9, mF g)), (g 18, .inl (cy 0, 140, .inl (fun _ => 0))), (g 19, .inl (cy 0, 180, .inl (fun _ => 0))), (g 20, .inl (cy 0, 15, .inl (fun _ => 0))), (g 21, .inl (cy 0, 960, .inl (fun _ => 0))), (g 16, .inl (cy 0, 5, .inl (fun _ => 0))), (g 17, .inl (cy 0, 25, .inl (fun _ => 0)))] H := hP
  have hD : va_D A [(g 60, .inr (9, mF g)), (g 18, .inl (cy 0, 140, .inl (fun _ => 0))), (g 19, .inl (cy 0, 180, .inl (fun _ => 0))), (g 20, .inl (cy 0, 15, .inl (fun _ => 0))), (g 21, .inl (cy 0, 960, .inl (fun _ => 0))), (g 16, .inl (cy 0, 5, .inl (fun _ => 0))), (g 17, .inl (cy 0, 25, .inl (fun _ => 0)))] := hD
  refine lv_aload_n hx hb dX9_copyDesk_20 rfl (lv_at hl 0 rfl) ?_
  refine va_get (D := D) (ci := 9) (v := .ref (g 18)) (C := RX9) (T := TX9) (N := 60) hx hb hts iX9 hown hK hP 0 rfl rfl 18 (by decide) (hts _ q1378) (fun _ h9 => h9) rfl dX9_copyDesk_21 ?_
  refine lv_bipush (v := 28) hx hb dX9_copyDesk_24 (by decide) ?_
  refine lv_iload_n hx hb dX9_copyDesk_26 rfl (lv_at hl 1 rfl) ?_
  refine lv_iload_n hx hb dX9_copyDesk_27 rfl (lv_at hl 2 rfl) ?_
  have hPc := hP.sub (ws' := [(g 18, .inl (cy 0, 140, .inl (fun _ => 0)))]) [1] rfl
  have hDc := hD.sub (ws' := [(g 18, .inl (cy 0, 140, .inl (fun _ => 0)))]) [1] (by decide) rfl
  have hFc := va_free (wc := [(g 18, .inl (cy 0, 140, .inl (fun _ => 0)))]) hD hS hA [1] rfl
  refine va_callv (va_runS (As := [.ref (g 18), .int 28, .int 0, .int 3]) (rest := []) ⟨hx, hb, hml, hown, hts⟩ (c_X9_copyRow l D cy (g 18) 140 28 0 3 H.size (by decide) (by decide) (by decide)) (va_cwS 4 hts (gd_S q1694 q1695 q134 q1696) rfl rfl rfl (by decide +kernel) ⟨Nat.le_of_ble_eq_true rfl, Nat.le_of_ble_eq_true rfl⟩) (pr_S hPc hK hDc) rfl rfl hl.1 rfl (lv_room (Nat.le_of_ble_eq_true rfl)) dX9_copyDesk_28 ⟨Nat.le_of_ble_eq_true rfl, Nat.le_of_ble_eq_true rfl⟩) hS (fun q _ h => hFc q h) hFc (fun u tS H1 locs ht hvm hw hB hz1 hk1 hS => ?_)
  obtain ⟨hP1, hK1, hD1⟩ := hB
  rw [ht] at hP1
  try dsimp only at hw
  obtain ⟨hP, hD⟩ := va_join (wr := [(g 60, .inr (9, mF g)), (g 19, .inl (cy 0, 180, .inl (fun _ => 0))), (g 20, .inl (cy 0, 15, .inl (fun _ => 0))), (g 21, .inl (cy 0, 960, .inl (fun _ => 0))), (g 16, .inl (cy 0, 5, .inl (fun _ => 0))), (g 17, .inl (cy 0, 25, .inl (fun _ => 0)))]) (w1 := [(g 18, .inl (cy 0, 140, .inl (fun _ => 0)))]) hP hD [1] [0, 2, 3, 4, 5, 6] rfl rfl (by decide) (by decide) hk1 hFc hP1 hD1
  generalize H1 = H at hP hS ⊢
  have hP : va_P D clz [(g 60, .inr (9, mF g)), (g 19, .inl (cy 0, 180, .inl (fun _ => 0))), (g 20, .inl (cy 0, 15, .inl (fun _ => 0))), (g 21, .inl (cy 0, 960, .inl (fun _ => 0))), (g 16, .inl (cy 0, 5, .inl (fun _ => 0))), (g 17, .inl (cy 0, 25, .inl (fun _ => 0))), (g 18, .inl (cy 0, 140, .inl (fun _ => 0)))] H := hP
  have hD : va_D A [(g 60, .inr (9, mF g)), (g 19, .inl (cy 0, 180, .inl (fun _ => 0))), (g 20, .inl (cy 0, 15, .inl (fun _ => 0))), (g 21, .inl (cy 0, 960, .inl (fun _ => 0))), (g 16, .inl (cy 0, 5, .inl (fun _ => 0))), (g 17, .inl (cy 0, 25, .inl (fun _ => 0))), (g 18, .inl (cy 0, 140, .inl (fun _ => 0)))] := hD
  refine lv_aload_n hx hb dX9_copyDesk_31 rfl (lv_at hl 0 rfl) ?_
  refine va_get (D := D) (ci := 9) (v := .ref (g 19)) (C := RX9) (T := TX9) (N := 60) hx hb hts iX9 hown hK hP 0 rfl rfl 19 (by decide) (hts _ q1379) (fun _ h9 => h9) rfl dX9_copyDesk_32 ?_
  refine lv_bipush (v := 36) hx hb dX9_copyDesk_35 (by decide) ?_
  refine lv_iload_n hx hb dX9_copyDesk_37 rfl (lv_at hl 1 rfl) ?_
  refine lv_iload_n hx hb dX9_copyDesk_38 rfl (lv_at hl 2 rfl) ?_
  have hPc := hP.sub (ws' := [(g 19, .inl (cy 0, 180, .inl (fun _ => 0)))]) [1] rfl
  have hDc := hD.sub (ws' := [(g 19, .inl (cy 0, 180, .inl (fun _ => 0)))]) [1] (by decide) rfl
  have hFc := va_free (wc := [(g 19, .inl (cy 0, 180, .inl (fun _ => 0)))]) hD hS hA [1] rfl
  refine va_callv (va_runS (As := [.ref (g 19), .int 36, .int 0, .int 3]) (rest := []) ⟨hx, hb, hml, hown, hts⟩ (c_X9_copyRow l D cy (g 19) 180 36 0 3 H.size (by decide) (by decide) (by decide)) (va_cwS 4 hts (gd_S q1694 q1695 q134 q1696) rfl rfl rfl (by decide +kernel) ⟨Nat.le_of_ble_eq_true rfl, Nat.le_of_ble_eq_true rfl⟩) (pr_S hPc hK hDc) rfl rfl hl.1 rfl (lv_room (Nat.le_of_ble_eq_true rfl)) dX9_copyDesk_39 ⟨Nat.le_of_ble_eq_true rfl, Nat.le_of_ble_eq_true rfl⟩) hS (fun q _ h => hFc q h) hFc (fun u tS H1 locs ht hvm hw hB hz1 hk1 hS => ?_)
  obtain ⟨hP1, hK1, hD1⟩ := hB
  rw [ht] at hP1
  try dsimp only at hw
  obtain ⟨hP, hD⟩ := va_join (wr := [(g 60, .inr (9, mF g)), (g 20, .inl (cy 0, 15, .inl (fun _ => 0))), (g 21, .inl (cy 0, 960, .inl (fun _ => 0))), (g 16, .inl (cy 0, 5, .inl (fun _ => 0))), (g 17, .inl (cy 0, 25, .inl (fun _ => 0))), (g 18, .inl (cy 0, 140, .inl (fun _ => 0)))]) (w1 := [(g 19, .inl (cy 0, 180, .inl (fun _ => 0)))]) hP hD [1] [0, 2, 3, 4, 5, 6] rfl rfl (by decide) (by decide) hk1 hFc hP1 hD1
  generalize H1 = H at hP hS ⊢
  have hP : va_P D clz [(g 60, .inr (9, mF g)), (g 20, .inl (cy 0, 15, .inl (fun _ => 0))), (g 21, .inl (cy 0, 960, .inl (fun _ => 0))), (g 16, .inl (cy 0, 5, .inl (fun _ => 0))), (g 17, .inl (cy 0, 25, .inl (fun _ => 0))), (g 18, .inl (cy 0, 140, .inl (fun _ => 0))), (g 19, .inl (cy 0, 180, .inl (fun _ => 0)))] H := hP
  have hD : va_D A [(g 60, .inr (9, mF g)), (g 20, .inl (cy 0, 15, .inl (fun _ => 0))), (g 21, .inl (cy 0, 960, .inl (fun _ => 0))), (g 16, .inl (cy 0, 5, .inl (fun _ => 0))), (g 17, .inl (cy 0, 25, .inl (fun _ => 0))), (g 18, .inl (cy 0, 140, .inl (fun _ => 0))), (g 19, .inl (cy 0, 180, .inl (fun _ => 0)))] := hD
  refine lv_aload_n hx hb dX9_copyDesk_42 rfl (lv_at hl 0 rfl) ?_
  refine va_get (D := D) (ci := 9) (v := .ref (g 20)) (C := RX9) (T := TX9) (N := 60) hx hb hts iX9 hown hK hP 0 rfl rfl 20 (by decide) (hts _ q1380) (fun _ h9 => h9) rfl dX9_copyDesk_43 ?_
  refine lv_iconst (v := 3) hx hb dX9_copyDesk_46 (by decide) ?_
  refine lv_iload_n hx hb dX9_copyDesk_47 rfl (lv_at hl 1 rfl) ?_
  refine lv_iload_n hx hb dX9_copyDesk_48 rfl (lv_at hl 2 rfl) ?_
  have hPc := hP.sub (ws' := [(g 20, .inl (cy 0, 15, .inl (fun _ => 0)))]) [1] rfl
  have hDc := hD.sub (ws' := [(g 20, .inl (cy 0, 15, .inl (fun _ => 0)))]) [1] (by decide) rfl
  have hFc := va_free (wc := [(g 20, .inl (cy 0, 15, .inl (fun _ => 0)))]) hD hS hA [1] rfl
  refine va_callv (va_runS (As := [.ref (g 20), .int 3, .int 0, .int 3]) (rest := []) ⟨hx, hb, hml, hown, hts⟩ (c_X9_copyRow l D cy (g 20) 15 3 0 3 H.size (by decide) (by decide) (by decide)) (va_cwS 4 hts (gd_S q1694 q1695 q134 q1696) rfl rfl rfl (by decide +kernel) ⟨Nat.le_of_ble_eq_true rfl, Nat.le_of_ble_eq_true rfl⟩) (pr_S hPc hK hDc) rfl rfl hl.1 rfl (lv_room (Nat.le_of_ble_eq_true rfl)) dX9_copyDesk_49 ⟨Nat.le_of_ble_eq_true rfl, Nat.le_of_ble_eq_true rfl⟩) hS (fun q _ h => hFc q h) hFc (fun u tS H1 locs ht hvm hw hB hz1 hk1 hS => ?_)
  obtain ⟨hP1, hK1, hD1⟩ := hB
  rw [ht] at hP1
  try dsimp only at hw
  obtain ⟨hP, hD⟩ := va_join (wr := [(g 60, .inr (9, mF g)), (g 21, .inl (cy 0, 960, .inl (fun _ => 0))), (g 16, .inl (cy 0, 5, .inl (fun _ => 0))), (g 17, .inl (cy 0, 25, .inl (fun _ => 0))), (g 18, .inl (cy 0, 140, .inl (fun _ => 0))), (g 19, .inl (cy 0, 180, .inl (fun _ => 0)))]) (w1 := [(g 20, .inl (cy 0, 15, .inl (fun _ => 0)))]) hP hD [1] [0, 2, 3, 4, 5, 6] rfl rfl (by decide) (by decide) hk1 hFc hP1 hD1
  generalize H1 = H at hP hS ⊢
  have hP : va_P D clz [(g 60, .inr (9, mF g)), (g 21, .inl (cy 0, 960, .inl (fun _ => 0))), (g 16, .inl (cy 0, 5, .inl (fun _ => 0))), (g 17, .inl (cy 0, 25, .inl (fun _ => 0))), (g 18, .inl (cy 0, 140, .inl (fun _ => 0))), (g 19, .inl (cy 0, 180, .inl (fun _ => 0))), (g 20, .inl (cy 0, 15, .inl (fun _ => 0)))] H := hP
  have hD : va_D A [(g 60, .inr (9, mF g)), (g 21, .inl (cy 0, 960, .inl (fun _ => 0))), (g 16, .inl (cy 0, 5, .inl (fun _ => 0))), (g 17, .inl (cy 0, 25, .inl (fun _ => 0))), (g 18, .inl (cy 0, 140, .inl (fun _ => 0))), (g 19, .inl (cy 0, 180, .inl (fun _ => 0))), (g 20, .inl (cy 0, 15, .inl (fun _ => 0)))] := hD
  refine lv_aload_n hx hb dX9_copyDesk_52 rfl (lv_at hl 0 rfl) ?_
  refine va_get (D := D) (ci := 9) (v := .ref (g 21)) (C := RX9) (T := TX9) (N := 60) hx hb hts iX9 hown hK hP 0 rfl rfl 21 (by decide) (hts _ q1381) (fun _ h9 => h9) rfl dX9_copyDesk_53 ?_
  refine lv_sipush (v := 192) hx hb dX9_copyDesk_56 (by decide) ?_
  refine lv_iload_n hx hb dX9_copyDesk_59 rfl (lv_at hl 1 rfl) ?_
  refine lv_iload_n hx hb dX9_copyDesk_60 rfl (lv_at hl 2 rfl) ?_
  have hPc := hP.sub (ws' := [(g 21, .inl (cy 0, 960, .inl (fun _ => 0)))]) [1] rfl
  have hDc := hD.sub (ws' := [(g 21, .inl (cy 0, 960, .inl (fun _ => 0)))]) [1] (by decide) rfl
  have hFc := va_free (wc := [(g 21, .inl (cy 0, 960, .inl (fun _ => 0)))]) hD hS hA [1] rfl
  refine va_callv (va_runS (As := [.ref (g 21), .int 192, .int 0, .int 3]) (rest := []) ⟨hx, hb, hml, hown, hts⟩ (c_X9_copyRow l D cy (g 21) 960 192 0 3 H.size (by decide) (by decide) (by decide)) (va_cwS 4 hts (gd_S q1694 q1695 q134 q1696) rfl rfl rfl (by decide +kernel) ⟨Nat.le_of_ble_eq_true rfl, Nat.le_of_ble_eq_true rfl⟩) (pr_S hPc hK hDc) rfl rfl hl.1 rfl (lv_room (Nat.le_of_ble_eq_true rfl)) dX9_copyDesk_61 ⟨Nat.le_of_ble_eq_true rfl, Nat.le_of_ble_eq_true rfl⟩) hS (fun q _ h => hFc q h) hFc (fun u tS H1 locs ht hvm hw hB hz1 hk1 hS => ?_)
  obtain ⟨hP1, hK1, hD1⟩ := hB
  rw [ht] at hP1
  try dsimp only at hw
  obtain ⟨hP, hD⟩ := va_join (wr := [(g 60, .inr (9, mF g)), (g 16, .inl (cy 0, 5, .inl (fun _ => 0))), (g 17, .inl (cy 0, 25, .inl (fun _ => 0))), (g 18, .inl (cy 0, 140, .inl (fun _ => 0))), (g 19, .inl (cy 0, 180, .inl (fun _ => 0))), (g 20, .inl (cy 0, 15, .inl (fun _ => 0)))]) (w1 := [(g 21, .inl (cy 0, 960, .inl (fun _ => 0)))]) hP hD [1] [0, 2, 3, 4, 5, 6] rfl rfl (by decide) (by decide) hk1 hFc hP1 hD1
  generalize H1 = H at hP hS ⊢
  have hP : va_P D clz [(g 60, .inr (9, mF g)), (g 16, .inl (cy 0, 5, .inl (fun _ => 0))), (g 17, .inl (cy 0, 25, .inl (fun _ => 0))), (g 18, .inl (cy 0, 140, .inl (fun _ => 0))), (g 19, .inl (cy 0, 180, .inl (fun _ => 0))), (g 20, .inl (cy 0, 15, .inl (fun _ => 0))), (g 21, .inl (cy 0, 960, .inl (fun _ => 0)))] H := hP
  have hD : va_D A [(g 60, .inr (9, mF g)), (g 16, .inl (cy 0, 5, .inl (fun _ => 0))), (g 17, .inl (cy 0, 25, .inl (fun _ => 0))), (g 18, .inl (cy 0, 140, .inl (fun _ => 0))), (g 19, .inl (cy 0, 180, .inl (fun _ => 0))), (g 20, .inl (cy 0, 15, .inl (fun _ => 0))), (g 21, .inl (cy 0, 960, .inl (fun _ => 0)))] := hD
  have hP9 := hP.sub (ws' := [(g 60, .inr (9, mF g)), (g 16, .inl (cy 0, 5, .inl (fun _ => 0))), (g 17, .inl (cy 0, 25, .inl (fun _ => 0))), (g 18, .inl (cy 0, 140, .inl (fun _ => 0))), (g 19, .inl (cy 0, 180, .inl (fun _ => 0))), (g 20, .inl (cy 0, 15, .inl (fun _ => 0))), (g 21, .inl (cy 0, 960, .inl (fun _ => 0)))]) [0, 1, 2, 3, 4, 5, 6] rfl
  have hD9 := hD.sub (ws' := [(g 60, .inr (9, mF g)), (g 16, .inl (cy 0, 5, .inl (fun _ => 0))), (g 17, .inl (cy 0, 25, .inl (fun _ => 0))), (g 18, .inl (cy 0, 140, .inl (fun _ => 0))), (g 19, .inl (cy 0, 180, .inl (fun _ => 0))), (g 20, .inl (cy 0, 15, .inl (fun _ => 0))), (g 21, .inl (cy 0, 960, .inl (fun _ => 0)))]) [0, 1, 2, 3, 4, 5, 6] (by decide) rfl
  exact W.vret hx hb hr (fun tS ht hW => ⟨⟨(), rfl, trivial, by rw [ht]; exact hP9, va_K.moved hW.alike hK, hD9⟩, hS.F ht⟩) hS.2.2 dX9_copyDesk_64

