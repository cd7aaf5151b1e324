theorem q601 : Cond.code yX0_hasBrass cX0_hasBrass 2 (some .boolean) ∈ lw_g := lw_gm (List.mem_of_getElem? (i := 601) (by decide +kernel)) rfl
theorem q202 : Cond.fieldLink RX0 34 "LipsAndSlides$Desk" "brasses" "I" ∈ lw_g := lw_gm (List.mem_of_getElem? (i := 202) (by decide +kernel)) rfl
theorem dX0_hasBrass_0 : decode cX0_hasBrass 0 = .ok (.iload_n 1, 1) := by decide +kernel
theorem dX0_hasBrass_1 : decode cX0_hasBrass 1 = .ok (.ifCond .lt 15, 3) := by decide +kernel
theorem dX0_hasBrass_4 : decode cX0_hasBrass 4 = .ok (.iload_n 1, 1) := by decide +kernel
theorem dX0_hasBrass_5 : decode cX0_hasBrass 5 = .ok (.aload_n 0, 1) := by decide +kernel
theorem dX0_hasBrass_6 : decode cX0_hasBrass 6 = .ok (.getfield 34, 3) := by decide +kernel
theorem dX0_hasBrass_9 : decode cX0_hasBrass 9 = .ok (.if_icmp .ge 7, 3) := by decide +kernel
theorem dX0_hasBrass_16 : decode cX0_hasBrass 16 = .ok (.iconst 0, 1) := by decide +kernel
theorem dX0_hasBrass_17 : decode cX0_hasBrass 17 = .ok (.ireturn, 1) := by decide +kernel
set_option maxHeartbeats 4000000 in
set_option maxRecDepth 100000 in
theorem c_X0_hasBrass (l : Launch) (D : va_G) (cy : Nat → ClassId) (h : Nat) (a : Nat) (b : Nat) (c1 : Nat) (d : Nat) (p1 : Int32) (sz : Nat) : Met l yX0_hasBrass (ww yX0_hasBrass cX0_hasBrass 2 (some .boolean)) ({ frames := 1, cells := 0, slots := 0, locals := 64 }) (va_Pc [.ref h, .int p1] (pre D cy [(h, .inr (0, [.int 0, .int 0, .int 0, .int 0, .int 0, .int 0, .ref a, .ref b, .ref c1, .ref d]))] sz)) (qi D cy (va_A [(h, .inr (0, [.int 0, .int 0, .int 0, .int 0, .int 0, .int 0, .ref a, .ref b, .ref c1, .ref d]))] sz) (fun (r : Int32) (_ : Unit) => r = 0) (fun (_ : Unit) => [(h, .inr (0, [.int 0, .int 0, .int 0, .int 0, .int 0, .int 0, .ref a, .ref b, .ref c1, .ref d]))])) 0 0 (va_A [(h, .inr (0, [.int 0, .int 0, .int 0, .int 0, .int 0, .int 0, .ref a, .ref b, .ref c1, .ref d]))] sz) := by
  refine Met.ofW (cc := cX0_hasBrass) (maxL := 2) (ret := (some .boolean)) (by decide) rfl ?_
  intro p e s m args below meth c s₁ B hml hv
  obtain ⟨rfl, hsz, hP, hK, hD0⟩ := hv
  have hx := B.exec
  have hb := B.bytes
  have hr := B.returns
  have hts := hts_g (atoms_spec (ws := ww yX0_hasBrass cX0_hasBrass 2 (some .boolean)) B.pre)
  have hown : s.vm.findClass RX0 = some m.cls := findClass_of_methodNamed B.named
  have hlocks := B.notSynchronized
  subst hsz
  have hD := hD0.self (sz := s.heap.size)
  generalize hAe : va_A [(h, .inr (0, [.int 0, .int 0, .int 0, .int 0, .int 0, .int 0, .ref a, .ref b, .ref c1, .ref d]))] s.heap.size = A at hD ⊢
  have hA : ∀ q : Nat, s.heap.size ≤ q → A q := fun q h => by rw [← hAe]; exact Or.inr h
  have hS : va_S A s.heap s.heap [] := va_S.rf
  have hl := lv_entry ([.ref h, .int p1]) (n := 2) (Nat.le_of_ble_eq_true rfl)
  rw [lg_entry_eq]
  generalize (lg_sl ([.ref h, .int p1]) ++ List.replicate (2 - (lg_sl ([.ref h, .int p1])).length) Slot.unset).toArray = ls at hl ⊢
  have hl : lv_has ls 2 [(0, .ref h), (1, .int p1)] := hl
  refine lv_iload_n hx hb dX0_hasBrass_0 rfl (lv_at hl 1 rfl) ?_
  refine lv_if_lt (tgt := 16) hx hb dX0_hasBrass_1 (by decide) (fun c_1 => ?_) (fun c_1 => ?_)
  ·
    refine lv_iconst (v := 0) hx hb dX0_hasBrass_16 (by decide) ?_
    have hP9 := hP.sub (ws' := [(h, .inr (0, [.int 0, .int 0, .int 0, .int 0, .int 0, .int 0, .ref a, .ref b, .ref c1, .ref d]))]) [0] rfl
    have hD9 := hD.sub (ws' := [(h, .inr (0, [.int 0, .int 0, .int 0, .int 0, .int 0, .int 0, .ref a, .ref b, .ref c1, .ref d]))]) [0] (by decide) rfl
    exact W.zret (v := 0) hx hb hr rfl (fun tS ht hW => ⟨⟨0, (), rfl, rfl, by rw [ht]; exact hP9, va_K.moved hW.alike hK, hD9⟩, hS.F ht⟩) hS.2.2 dX0_hasBrass_17
  ·
    refine lv_iload_n hx hb dX0_hasBrass_4 rfl (lv_at hl 1 rfl) ?_
    refine lv_aload_n hx hb dX0_hasBrass_5 rfl (lv_at hl 0 rfl) ?_
    refine va_get (D := D) (ci := 0) (v := .int 0) (C := RX0) (T := TX0) (N := 10) hx hb hts iX0 hown hK hP 0 rfl rfl 3 (by decide) (hts _ q202) (fun _ h9 => h9) rfl dX0_hasBrass_6 ?_
    refine lv_icmp_ge (tgt := 16) hx hb dX0_hasBrass_9 (by decide) (fun c_2 => ?_) (fun c_2 => ?_)
    ·
      refine lv_iconst (v := 0) hx hb dX0_hasBrass_16 (by decide) ?_
      have hP9 := hP.sub (ws' := [(h, .inr (0, [.int 0, .int 0, .int 0, .int 0, .int 0, .int 0, .ref a, .ref b, .ref c1, .ref d]))]) [0] rfl
      have hD9 := hD.sub (ws' := [(h, .inr (0, [.int 0, .int 0, .int 0, .int 0, .int 0, .int 0, .ref a, .ref b, .ref c1, .ref d]))]) [0] (by decide) rfl
      exact W.zret (v := 0) hx hb hr rfl (fun tS ht hW => ⟨⟨0, (), rfl, rfl, by rw [ht]; exact hP9, va_K.moved hW.alike hK, hD9⟩, hS.F ht⟩) hS.2.2 dX0_hasBrass_17
    ·
      exact False.elim (by have f0 := nlt32 c_1; have f1 := nle32 c_2; have z320 : (0 : Int32).toInt = 0 := (by decide); omega)

theorem q630 : Cond.code yX0_hasPlayer cX0_hasPlayer 2 (some .boolean) ∈ lw_g := lw_gm (List.mem_of_getElem? (i := 630) (by decide +kernel)) rfl
theorem q206 : Cond.fieldLink RX0 37 "LipsAndSlides$Desk" "players" "I" ∈ lw_g := lw_gm (List.mem_of_getElem? (i := 206) (by decide +kernel)) rfl
theorem dX0_hasPlayer_0 : decode cX0_hasPlayer 0 = .ok (.iload_n 1, 1) := by decide +kernel
theorem dX0_hasPlayer_1 : decode cX0_hasPlayer 1 = .ok (.ifCond .lt 15, 3) := by decide +kernel
theorem dX0_hasPlayer_4 : decode cX0_hasPlayer 4 = .ok (.iload_n 1, 1) := by decide +kernel
theorem dX0_hasPlayer_5 : decode cX0_hasPlayer 5 = .ok (.aload_n 0, 1) := by decide +kernel
theorem dX0_hasPlayer_6 : decode cX0_hasPlayer 6 = .ok (.getfield 37, 3) := by decide +kernel
theorem dX0_hasPlayer_9 : decode cX0_hasPlayer 9 = .ok (.if_icmp .ge 7, 3) := by decide +kernel
theorem dX0_hasPlayer_16 : decode cX0_hasPlayer 16 = .ok (.iconst 0, 1) := by decide +kernel
theorem dX0_hasPlayer_17 : decode cX0_hasPlayer 17 = .ok (.ireturn, 1) := by decide +kernel
set_option maxHeartbeats 4000000 in
set_option maxRecDepth 100000 in
theorem c_X0_hasPlayer (l : Launch) (D : va_G) (cy : Nat → ClassId) (h : Nat) (a : Nat) (b : Nat) (c1 : Nat) (d : Nat) (p1 : Int32) (sz : Nat) : Met l yX0_hasPlayer (ww yX0_hasPlayer cX0_hasPlayer 2 (some .boolean)) ({ frames := 1, cells := 0, slots := 0, locals := 64 }) (va_Pc [.ref h, .int p1] (pre D cy [(h, .inr (0, [.int 0, .int 0, .int 0, .int 0, .int 0, .int 0, .ref a, .ref b, .ref c1, .ref d]))] sz)) (qi D cy (va_A [(h, .inr (0, [.int 0, .int 0, .int 0, .int 0, .int 0, .int 0, .ref a, .ref b, .ref c1, .ref d]))] sz) (fun (r : Int32) (_ : Unit) => r = 0) (fun (_ : Unit) => [(h, .inr (0, [.int 0, .int 0, .int 0, .int 0, .int 0, .int 0, .ref a, .ref b, .ref c1, .ref d]))])) 0 0 (va_A [(h, .inr (0, [.int 0, .int 0, .int 0, .int 0, .int 0, .int 0, .ref a, .ref b, .ref c1, .ref d]))] sz) := by
  refine Met.ofW (cc := cX0_hasPlayer) (maxL := 2) (ret := (some .boolean)) (by decide) rfl ?_
  intro p e s m args below meth c s₁ B hml hv
  obtain ⟨rfl, hsz, hP, hK, hD0⟩ := hv
  have hx := B.exec
  have hb := B.bytes
  have hr := B.returns
  have hts := hts_g (atoms_spec (ws := ww yX0_hasPlayer cX0_hasPlayer 2 (some .boolean)) B.pre)
  have hown : s.vm.findClass RX0 = some m.cls := findClass_of_methodNamed B.named
  have hlocks := B.notSynchronized
  subst hsz
  have hD := hD0.self (sz := s.heap.size)
  generalize hAe : va_A [(h, .inr (0, [.int 0, .int 0, .int 0, .int 0, .int 0, .int 0, .ref a, .ref b, .ref c1, .ref d]))] s.heap.size = A at hD ⊢
  have hA : ∀ q : Nat, s.heap.size ≤ q → A q := fun q h => by rw [← hAe]; exact Or.inr h
  have hS : va_S A s.heap s.heap [] := va_S.rf
  have hl := lv_entry ([.ref h, .int p1]) (n := 2) (Nat.le_of_ble_eq_true rfl)
  rw [lg_entry_eq]
  generalize (lg_sl ([.ref h, .int p1]) ++ List.replicate (2 - (lg_sl ([.ref h, .int p1])).length) Slot.unset).toArray = ls at hl ⊢
  have hl : lv_has ls 2 [(0, .ref h), (1, .int p1)] := hl
  refine lv_iload_n hx hb dX0_hasPlayer_0 rfl (lv_at hl 1 rfl) ?_
  refine lv_if_lt (tgt := 16) hx hb dX0_hasPlayer_1 (by decide) (fun c_1 => ?_) (fun c_1 => ?_)
  ·
    refine lv_iconst (v := 0) hx hb dX0_hasPlayer_16 (by decide) ?_
    have hP9 := hP.sub (ws' := [(h, .inr (0, [.int 0, .int 0, .int 0, .int 0, .int 0, .int 0, .ref a, .ref b, .ref c1, .ref d]))]) [0] rfl
    have hD9 := hD.sub (ws' := [(h, .inr (0, [.int 0, .int 0, .int 0, .int 0, .int 0, .int 0, .ref a, .ref b, .ref c1, .ref d]))]) [0] (by decide) rfl
    exact W.zret (v := 0) hx hb hr rfl (fun tS ht hW => ⟨⟨0, (), rfl, rfl, by rw [ht]; exact hP9, va_K.moved hW.alike hK, hD9⟩, hS.F ht⟩) hS.2.2 dX0_hasPlayer_17
  ·
    refine lv_iload_n hx hb dX0_hasPlayer_4 rfl (lv_at hl 1 rfl) ?_
    refine lv_aload_n hx hb dX0_hasPlayer_5 rfl (lv_at hl 0 rfl) ?_
    refine va_get (D := D) (ci := 0) (v := .int 0) (C := RX0) (T := TX0) (N := 10) hx hb hts iX0 hown hK hP 0 rfl rfl 4 (by decide) (hts _ q206) (fun _ h9 => h9) rfl dX0_hasPlayer_6 ?_
    refine lv_icmp_ge (tgt := 16) hx hb dX0_hasPlayer_9 (by decide) (fun c_2 => ?_) (fun c_2 => ?_)
    ·
      refine lv_iconst (v := 0) hx hb dX0_hasPlayer_16 (by decide) ?_
      have hP9 := hP.sub (ws' := [(h, .inr (0, [.int 0, .int 0, .int 0, .int 0, .int 0, .int 0, .ref a, .ref b, .ref c1, .ref d]))]) [0] rfl
      have hD9 := hD.sub (ws' := [(h, .inr (0, [.int 0, .int 0, .int 0, .int 0, .int 0, .int 0, .ref a, .ref b, .ref c1, .ref d]))]) [0] (by decide) rfl
      exact W.zret (v := 0) hx hb hr rfl (fun tS ht hW => ⟨⟨0, (), rfl, rfl, by rw [ht]; exact hP9, va_K.moved hW.alike hK, hD9⟩, hS.F ht⟩) hS.2.2 dX0_hasPlayer_17
    ·
      exact False.elim (by have f0 := nlt32 c_1; have f1 := nle32 c_2; have z320 : (0 : Int32).toInt = 0 := (by decide); omega)

theorem q651 : Cond.code yX0_hasPart cX0_hasPart 2 (some .boolean) ∈ lw_g := lw_gm (List.mem_of_getElem? (i := 651) (by decide +kernel)) rfl
theorem q209 : Cond.fieldLink RX0 40 "LipsAndSlides$Desk" "parts" "I" ∈ lw_g := lw_gm (List.mem_of_getElem? (i := 209) (by decide +kernel)) rfl
theorem dX0_hasPart_0 : decode cX0_hasPart 0 = .ok (.iload_n 1, 1) := by decide +kernel
theorem dX0_hasPart_1 : decode cX0_hasPart 1 = .ok (.ifCond .lt 15, 3) := by decide +kernel
theorem dX0_hasPart_4 : decode cX0_hasPart 4 = .ok (.iload_n 1, 1) := by decide +kernel
theorem dX0_hasPart_5 : decode cX0_hasPart 5 = .ok (.aload_n 0, 1) := by decide +kernel
theorem dX0_hasPart_6 : decode cX0_hasPart 6 = .ok (.getfield 40, 3) := by decide +kernel
theorem dX0_hasPart_9 : decode cX0_hasPart 9 = .ok (.if_icmp .ge 7, 3) := by decide +kernel
theorem dX0_hasPart_16 : decode cX0_hasPart 16 = .ok (.iconst 0, 1) := by decide +kernel
theorem dX0_hasPart_17 : decode cX0_hasPart 17 = .ok (.ireturn, 1) := by decide +kernel
set_option maxHeartbeats 4000000 in
set_option maxRecDepth 100000 in
theorem c_X0_hasPart (l : Launch) (D : va_G) (cy : Nat → ClassId) (h : Nat) (a : Nat) (b : Nat) (c1 : Nat) (d : Nat) (p1 : Int32) (sz : Nat) : Met l yX0_hasPart (ww yX0_hasPart cX0_hasPart 2 (some .boolean)) ({ frames := 1, cells := 0, slots := 0, locals := 64 }) (va_Pc [.ref h, .int p1] (pre D cy [(h, .inr (0, [.int 0, .int 0, .int 0, .int 0, .int 0, .int 0, .ref a, .ref b, .ref c1, .ref d]))] sz)) (qi D cy (va_A [(h, .inr (0, [.int 0, .int 0, .int 0, .int 0, .int 0, .int 0, .ref a, .ref b, .ref c1, .ref d]))] sz) (fun (r : Int32) (_ : Unit) => r = 0) (fun (_ : Unit) => [(h, .inr (0, [.int 0, .int 0, .int 0, .int 0, .int 0, .int 0, .ref a, .ref b, .ref c1, .ref d]))])) 0 0 (va_A [(h, .inr (0, [.int 0, .int 0, .int 0, .int 0, .int 0, .int 0, .ref a, .ref b, .ref c1, .ref d]))] sz) := by
  refine Met.ofW (cc := cX0_hasPart) (maxL := 2) (ret := (some .boolean)) (by decide) rfl ?_
  intro p e s m args below meth c s₁ B hml hv
  obtain ⟨rfl, hsz, hP, hK, hD0⟩ := hv
  have hx := B.exec
  have hb := B.bytes
  have hr := B.returns
  have hts := hts_g (atoms_spec (ws := ww yX0_hasPart cX0_hasPart 2 (some .boolean)) B.pre)
  have hown : s.vm.findClass RX0 = some m.cls := findClass_of_methodNamed B.named
  have hlocks := B.notSynchronized
  subst hsz
  have hD := hD0.self (sz := s.heap.size)
  generalize hAe : va_A [(h, .inr (0, [.int 0, .int 0, .int 0, .int 0, .int 0, .int 0, .ref a, .ref b, .ref c1, .ref d]))] s.heap.size = A at hD ⊢
  have hA : ∀ q : Nat, s.heap.size ≤ q → A q := fun q h => by rw [← hAe]; exact Or.inr h
  have hS : va_S A s.heap s.heap [] := va_S.rf
  have hl := lv_entry ([.ref h, .int p1]) (n := 2) (Nat.le_of_ble_eq_true rfl)
  rw [lg_entry_eq]
  generalize (lg_sl ([.ref h, .int p1]) ++ List.replicate (2 - (lg_sl ([.ref h, .int p1])).length) Slot.unset).toArray = ls at hl ⊢
  have hl : lv_has ls 2 [(0, .ref h), (1, .int p1)] := hl
  refine lv_iload_n hx hb dX0_hasPart_0 rfl (lv_at hl 1 rfl) ?_
  refine lv_if_lt (tgt := 16) hx hb dX0_hasPart_1 (by decide) (fun c_1 => ?_) (fun c_1 => ?_)
  ·
    refine lv_iconst (v := 0) hx hb dX0_hasPart_16 (by decide) ?_
    have hP9 := hP.sub (ws' := [(h, .inr (0, [.int 0, .int 0, .int 0, .int 0, .int 0, .int 0, .ref a, .ref b, .ref c1, .ref d]))]) [0] rfl
    have hD9 := hD.sub (ws' := [(h, .inr (0, [.int 0, .int 0, .int 0, .int 0, .int 0, .int 0, .ref a, .ref b, .ref c1, .ref d]))]) [0] (by decide) rfl
    exact W.zret (v := 0) hx hb hr rfl (fun tS ht hW => ⟨⟨0, (), rfl, rfl, by rw [ht]; exact hP9, va_K.moved hW.alike hK, hD9⟩, hS.F ht⟩) hS.2.2 dX0_hasPart_17
  ·
    refine lv_iload_n hx hb dX0_hasPart_4 rfl (lv_at hl 1 rfl) ?_
    refine lv_aload_n hx hb dX0_hasPart_5 rfl (lv_at hl 0 rfl) ?_
    refine va_get (D := D) (ci := 0) (v := .int 0) (C := RX0) (T := TX0) (N := 10) hx hb hts iX0 hown hK hP 0 rfl rfl 5 (by decide) (hts _ q209) (fun _ h9 => h9) rfl dX0_hasPart_6 ?_
    refine lv_icmp_ge (tgt := 16) hx hb dX0_hasPart_9 (by decide) (fun c_2 => ?_) (fun c_2 => ?_)
    ·
      refine lv_iconst (v := 0) hx hb dX0_hasPart_16 (by decide) ?_
      have hP9 := hP.sub (ws' := [(h, .inr (0, [.int 0, .int 0, .int 0, .int 0, .int 0, .int 0, .ref a, .ref b, .ref c1, .ref d]))]) [0] rfl
      have hD9 := hD.sub (ws' := [(h, .inr (0, [.int 0, .int 0, .int 0, .int 0, .int 0, .int 0, .ref a, .ref b, .ref c1, .ref d]))]) [0] (by decide) rfl
      exact W.zret (v := 0) hx hb hr rfl (fun tS ht hW => ⟨⟨0, (), rfl, rfl, by rw [ht]; exact hP9, va_K.moved hW.alike hK, hD9⟩, hS.F ht⟩) hS.2.2 dX0_hasPart_17
    ·
      exact False.elim (by have f0 := nlt32 c_1; have f1 := nle32 c_2; have z320 : (0 : Int32).toInt = 0 := (by decide); omega)

theorem q667 : Cond.code yX0_hasTone cX0_hasTone 3 (some .boolean) ∈ lw_g := lw_gm (List.mem_of_getElem? (i := 667) (by decide +kernel)) rfl
theorem dX0_hasTone_0 : decode cX0_hasTone 0 = .ok (.iload_n 1, 1) := by decide +kernel
theorem dX0_hasTone_1 : decode cX0_hasTone 1 = .ok (.ifCond .lt 29, 3) := by decide +kernel
theorem dX0_hasTone_4 : decode cX0_hasTone 4 = .ok (.iload_n 1, 1) := by decide +kernel
theorem dX0_hasTone_5 : decode cX0_hasTone 5 = .ok (.aload_n 0, 1) := by decide +kernel
theorem dX0_hasTone_6 : decode cX0_hasTone 6 = .ok (.getfield 40, 3) := by decide +kernel
theorem dX0_hasTone_9 : decode cX0_hasTone 9 = .ok (.if_icmp .ge 21, 3) := by decide +kernel
theorem dX0_hasTone_30 : decode cX0_hasTone 30 = .ok (.iconst 0, 1) := by decide +kernel
theorem dX0_hasTone_31 : decode cX0_hasTone 31 = .ok (.ireturn, 1) := by decide +kernel
set_option maxHeartbeats 4000000 in
set_option maxRecDepth 100000 in
theorem c_X0_hasTone (l : Launch) (D : va_G) (cy : Nat → ClassId) (h : Nat) (a : Nat) (b : Nat) (c1 : Nat) (d : Nat) (p1 : Int32) (p2 : Int32) (sz : Nat) : Met l yX0_hasTone (ww yX0_hasTone cX0_hasTone 3 (some .boolean)) ({ frames := 1, cells := 0, slots := 0, locals := 64 }) (va_Pc [.ref h, .int p1, .int p2] (pre D cy [(h, .inr (0, [.int 0, .int 0, .int 0, .int 0, .int 0, .int 0, .ref a, .ref b, .ref c1, .ref d]))] sz)) (qi D cy (va_A [(h, .inr (0, [.int 0, .int 0, .int 0, .int 0, .int 0, .int 0, .ref a, .ref b, .ref c1, .ref d]))] sz) (fun (r : Int32) (_ : Unit) => r = 0) (fun (_ : Unit) => [(h, .inr (0, [.int 0, .int 0, .int 0, .int 0, .int 0, .int 0, .ref a, .ref b, .ref c1, .ref d]))])) 0 0 (va_A [(h, .inr (0, [.int 0, .int 0, .int 0, .int 0, .int 0, .int 0, .ref a, .ref b, .ref c1, .ref d]))] sz) := by
  refine Met.ofW (cc := cX0_hasTone) (maxL := 3) (ret := (some .boolean)) (by decide) rfl ?_
  intro p e s m args below meth c s₁ B hml hv
  obtain ⟨rfl, hsz, hP, hK, hD0⟩ := hv
  have hx := B.exec
  have hb := B.bytes
  have hr := B.returns
  have hts := hts_g (atoms_spec (ws := ww yX0_hasTone cX0_hasTone 3 (some .boolean)) B.pre)
  have hown : s.vm.findClass RX0 = some m.cls := findClass_of_methodNamed B.named
  have hlocks := B.notSynchronized
  subst hsz
  have hD := hD0.self (sz := s.heap.size)
  generalize hAe : va_A [(h, .inr (0, [.int 0, .int 0, .int 0, .int 0, .int 0, .int 0, .ref a, .ref b, .ref c1, .ref d]))] s.heap.size = A at hD ⊢
  have hA : ∀ q : Nat, s.heap.size ≤ q → A q := fun q h => by rw [← hAe]; exact Or.inr h
  have hS : va_S A s.heap s.heap [] := va_S.rf
  have hl := lv_entry ([.ref h, .int p1, .int p2]) (n := 3) (Nat.le_of_ble_eq_true rfl)
  rw [lg_entry_eq]
  generalize (lg_sl ([.ref h, .int p1, .int p2]) ++ List.replicate (3 - (lg_sl ([.ref h, .int p1, .int p2])).length) Slot.unset).toArray = ls at hl ⊢
  have hl : lv_has ls 3 [(0, .ref h), (1, .int p1), (2, .int p2)] := hl
  refine lv_iload_n hx hb dX0_hasTone_0 rfl (lv_at hl 1 rfl) ?_
  refine lv_if_lt (tgt := 30) hx hb dX0_hasTone_1 (by decide) (fun c_1 => ?_) (fun c_1 => ?_)
  ·
    refine lv_iconst (v := 0) hx hb dX0_hasTone_30 (by decide) ?_
    have hP9 := hP.sub (ws' := [(h, .inr (0, [.int 0, .int 0, .int 0, .int 0, .int 0, .int 0, .ref a, .ref b, .ref c1, .ref d]))]) [0] rfl
    have hD9 := hD.sub (ws' := [(h, .inr (0, [.int 0, .int 0, .int 0, .int 0, .int 0, .int 0, .ref a, .ref b, .ref c1, .ref d]))]) [0] (by decide) rfl
    exact W.zret (v := 0) hx hb hr rfl (fun tS ht hW => ⟨⟨0, (), rfl, rfl, by rw [ht]; exact hP9, va_K.moved hW.alike hK, hD9⟩, hS.F ht⟩) hS.2.2 dX0_hasTone_31
  ·
    refine lv_iload_n hx hb dX0_hasTone_4 rfl (lv_at hl 1 rfl) ?_
    refine lv_aload_n hx hb dX0_hasTone_5 rfl (lv_at hl 0 rfl) ?_
    refine va_get (D := D) (ci := 0) (v := .int 0) (C := RX0) (T := TX0) (N := 10) hx hb hts iX0 hown hK hP 0 rfl rfl 5 (by decide) (hts _ q209) (fun _ h9 => h9) rfl dX0_hasTone_6 ?_
    refine lv_icmp_ge (tgt := 30) hx hb dX0_hasTone_9 (by decide) (fun c_2 => ?_) (fun c_2 => ?_)
    ·
      refine lv_iconst (v := 0) hx hb dX0_hasTone_30 (by decide) ?_
      have hP9 := hP.sub (ws' := [(h, .inr (0, [.int 0, .int 0, .int 0, .int 0, .int 0, .int 0, .ref a, .ref b, .ref c1, .ref d]))]) [0] rfl
      have hD9 := hD.sub (ws' := [(h, .inr (0, [.int 0, .int 0, .int 0, .int 0, .int 0, .int 0, .ref a, .ref b, .ref c1, .ref d]))]) [0] (by decide) rfl
      exact W.zret (v := 0) hx hb hr rfl (fun tS ht hW => ⟨⟨0, (), rfl, rfl, by rw [ht]; exact hP9, va_K.moved hW.alike hK, hD9⟩, hS.F ht⟩) hS.2.2 dX0_hasTone_31
    ·
      exact False.elim (by have f0 := nlt32 c_1; have f1 := nle32 c_2; have z320 : (0 : Int32).toInt = 0 := (by decide); omega)

theorem q785 : Cond.code yX0_isSounding cX0_isSounding 3 (some .boolean) ∈ lw_g := lw_gm (List.mem_of_getElem? (i := 785) (by decide +kernel)) rfl
theorem q664 : Cond.methodLink RX0 53 yX0_hasTone ∈ lw_g := lw_gm (List.mem_of_getElem? (i := 664) (by decide +kernel)) rfl
theorem q665 : Cond.instanceMethod yX0_hasTone ∈ lw_g := lw_gm (List.mem_of_getElem? (i := 665) (by decide +kernel)) rfl
theorem q666 : Cond.selects RX0 yX0_hasTone yX0_hasTone ∈ lw_g := lw_gm (List.mem_of_getElem? (i := 666) (by decide +kernel)) rfl
theorem q127 : Cond.initialized RX0 ∈ lw_g := lw_gm (List.mem_of_getElem? (i := 127) (by decide +kernel)) rfl
theorem dX0_isSounding_0 : decode cX0_isSounding 0 = .ok (.aload_n 0, 1) := by decide +kernel
theorem dX0_isSounding_1 : decode cX0_isSounding 1 = .ok (.iload_n 1, 1) := by decide +kernel
theorem dX0_isSounding_2 : decode cX0_isSounding 2 = .ok (.iload_n 2, 1) := by decide +kernel
theorem dX0_isSounding_3 : decode cX0_isSounding 3 = .ok (.invokevirtual 53, 3) := by decide +kernel
theorem dX0_isSounding_6 : decode cX0_isSounding 6 = .ok (.ifCond .eq 16, 3) := by decide +kernel
theorem dX0_isSounding_22 : decode cX0_isSounding 22 = .ok (.iconst 0, 1) := by decide +kernel
theorem dX0_isSounding_23 : decode cX0_isSounding 23 = .ok (.ireturn, 1) := by decide +kernel
set_option maxHeartbeats 4000000 in
set_option maxRecDepth 100000 in
theorem c_X0_isSounding (l : Launch) (D : va_G) (cy : Nat → ClassId) (h : Nat) (a : Nat) (b : Nat) (c1 : Nat) (d : Nat) (p1 : Int32) (p2 : Int32) (sz : Nat) : Met l yX0_isSounding (ww yX0_isSounding cX0_isSounding 3 (some .boolean)) ({ frames := 2, cells := 0, slots := 0, locals := 128 }) (va_Pc [.ref h, .int p1, .int p2] (pre D cy [(h, .inr (0, [.int 0, .int 0, .int 0, .int 0, .int 0, .int 0, .ref a, .ref b, .ref c1, .ref d]))] sz)) (qi D cy (va_A [(h, .inr (0, [.int 0, .int 0, .int 0, .int 0, .int 0, .int 0, .ref a, .ref b, .ref c1, .ref d]))] sz) (fun (r : Int32) (_ : Unit) => r = 0) (fun (_ : Unit) => [(h, .inr (0, [.int 0, .int 0, .int 0, .int 0, .int 0, .int 0, .ref a, .ref b, .ref c1, .ref d]))])) 0 0 (va_A [(h, .inr (0, [.int 0, .int 0, .int 0, .int 0, .int 0, .int 0, .ref a, .ref b, .ref c1, .ref d]))] sz) := by
  refine Met.ofW (cc := cX0_isSounding) (maxL := 3) (ret := (some .boolean)) (by decide) rfl ?_
  intro p e s m args below meth c s₁ B hml hv
  obtain ⟨rfl, hsz, hP, hK, hD0⟩ := hv
  have hx := B.exec
  have hb := B.bytes
  have hr := B.returns
  have hts := hts_g (atoms_spec (ws := ww yX0_isSounding cX0_isSounding 3 (some .boolean)) B.pre)
  have hown : s.vm.findClass RX0 = some m.cls := findClass_of_methodNamed B.named
  have hlocks := B.notSynchronized
  subst hsz
  have hD := hD0.self (sz := s.heap.size)
  generalize hAe : va_A [(h, .inr (0, [.int 0, .int 0, .int 0, .int 0, .int 0, .int 0, .ref a, .ref b, .ref c1, .ref d]))] s.heap.size = A at hD ⊢
  have hA : ∀ q : Nat, s.heap.size ≤ q → A q := fun q h => by rw [← hAe]; exact Or.inr h
  have hS : va_S A s.heap s.heap [] := va_S.rf
  have hl := lv_entry ([.ref h, .int p1, .int p2]) (n := 3) (Nat.le_of_ble_eq_true rfl)
  rw [lg_entry_eq]
  generalize (lg_sl ([.ref h, .int p1, .int p2]) ++ List.replicate (3 - (lg_sl ([.ref h, .int p1, .int p2])).length) Slot.unset).toArray = ls at hl ⊢
  have hl : lv_has ls 3 [(0, .ref h), (1, .int p1), (2, .int p2)] := hl
  refine lv_aload_n hx hb dX0_isSounding_0 rfl (lv_at hl 0 rfl) ?_
  refine lv_iload_n hx hb dX0_isSounding_1 rfl (lv_at hl 1 rfl) ?_
  refine lv_iload_n hx hb dX0_isSounding_2 rfl (lv_at hl 2 rfl) ?_
  have hPc := hP.sub (ws' := [(h, .inr (0, [.int 0, .int 0, .int 0, .int 0, .int 0, .int 0, .ref a, .ref b, .ref c1, .ref d]))]) [0] rfl
  have hDc := hD.sub (ws' := [(h, .inr (0, [.int 0, .int 0, .int 0, .int 0, .int 0, .int 0, .ref a, .ref b, .ref c1, .ref d]))]) [0] (by decide) rfl
  have hFc := va_free (wc := [(h, .inr (0, [.int 0, .int 0, .int 0, .int 0, .int 0, .int 0, .ref a, .ref b, .ref c1, .ref d]))]) hD hS hA [0] rfl
  refine va_calli (va_runV (As := [.int p1, .int p2]) (rest := []) ⟨hx, hb, hml, hown, hts⟩ (c_X0_hasTone l D cy h a b c1 d p1 p2 s.heap.size) (cwV 2 hts (gd_V q664 q665 q666 q127 q667) rfl rfl rfl (by decide +kernel) ⟨Nat.le_of_ble_eq_true rfl, Nat.le_of_ble_eq_true rfl⟩) (pr_V hPc hK hDc (va_recv hK hPc (ci := 0) (q0 := 0) rfl rfl)) rfl rfl hl.1 rfl (lv_room (Nat.le_of_ble_eq_true rfl)) dX0_isSounding_3 ⟨Nat.le_of_ble_eq_true rfl, Nat.le_of_ble_eq_true rfl⟩) hS (fun q _ h => hFc q h) hFc (fun r_1 u tS H1 locs ht hvm hw hB hz1 hk1 hS => ?_)
  obtain ⟨hP1, hK1, hD1⟩ := hB
  rw [ht] at hP1
  try dsimp only at hw
  obtain ⟨hP, hD⟩ := va_join (wr := []) (w1 := [(h, .inr (0, [.int 0, .int 0, .int 0, .int 0, .int 0, .int 0, .ref a, .ref b, .ref c1, .ref d]))]) hP hD [0] [] rfl rfl (by decide) (by decide) hk1 hFc hP1 hD1
  generalize H1 = H at hP hS ⊢
  have hP : va_P D clz [(h, .inr (0, [.int 0, .int 0, .int 0, .int 0, .int 0, .int 0, .ref a, .ref b, .ref c1, .ref d]))] H := hP
  have hD : va_D A [(h, .inr (0, [.int 0, .int 0, .int 0, .int 0, .int 0, .int 0, .ref a, .ref b, .ref c1, .ref d]))] := hD
  subst hw
  refine lv_if_eq (tgt := 22) hx hb dX0_isSounding_6 (by decide) (fun _ => ?_) (fun c9 => absurd c9 (by decide))
  refine lv_iconst (v := 0) hx hb dX0_isSounding_22 (by decide) ?_
  have hP9 := hP.sub (ws' := [(h, .inr (0, [.int 0, .int 0, .int 0, .int 0, .int 0, .int 0, .ref a, .ref b, .ref c1, .ref d]))]) [0] rfl
  have hD9 := hD.sub (ws' := [(h, .inr (0, [.int 0, .int 0, .int 0, .int 0, .int 0, .int 0, .ref a, .ref b, .ref c1, .ref d]))]) [0] (by decide) rfl
  exact W.zret (v := 0) hx hb hr rfl (fun tS ht hW => ⟨⟨0, (), rfl, rfl, by rw [ht]; exact hP9, va_K.moved hW.alike hK, hD9⟩, hS.F ht⟩) hS.2.2 dX0_isSounding_23

theorem q720 : Cond.code yX0_brassField cX0_brassField 3 (some .int) ∈ lw_g := lw_gm (List.mem_of_getElem? (i := 720) (by decide +kernel)) rfl
theorem q598 : Cond.methodLink RX0 64 yX0_hasBrass ∈ lw_g := lw_gm (List.mem_of_getElem? (i := 598) (by decide +kernel)) rfl
theorem q599 : Cond.instanceMethod yX0_hasBrass ∈ lw_g := lw_gm (List.mem_of_getElem? (i := 599) (by decide +kernel)) rfl
theorem q600 : Cond.selects RX0 yX0_hasBrass yX0_hasBrass ∈ lw_g := lw_gm (List.mem_of_getElem? (i := 600) (by decide +kernel)) rfl
theorem dX0_brassField_0 : decode cX0_brassField 0 = .ok (.aload_n 0, 1) := by decide +kernel
theorem dX0_brassField_1 : decode cX0_brassField 1 = .ok (.iload_n 1, 1) := by decide +kernel
theorem dX0_brassField_2 : decode cX0_brassField 2 = .ok (.invokevirtual 64, 3) := by decide +kernel
theorem dX0_brassField_5 : decode cX0_brassField 5 = .ok (.ifCond .eq 13, 3) := by decide +kernel
theorem dX0_brassField_18 : decode cX0_brassField 18 = .ok (.bipush (-2), 2) := by decide +kernel
theorem dX0_brassField_20 : decode cX0_brassField 20 = .ok (.ireturn, 1) := by decide +kernel
set_option maxHeartbeats 4000000 in
set_option maxRecDepth 100000 in
theorem c_X0_brassField (l : Launch) (D : va_G) (cy : Nat → ClassId) (h : Nat) (a : Nat) (b : Nat) (c1 : Nat) (d : Nat) (p1 : Int32) (p2 : Int32) (sz : Nat) : Met l yX0_brassField (ww yX0_brassField cX0_brassField 3 (some .int)) ({ frames := 2, cells := 0, slots := 0, locals := 128 }) (va_Pc [.ref h, .int p1, .int p2] (pre D cy [(h, .inr (0, [.int 0, .int 0, .int 0, .int 0, .int 0, .int 0, .ref a, .ref b, .ref c1, .ref d]))] sz)) (qi D cy (va_A [(h, .inr (0, [.int 0, .int 0, .int 0, .int 0, .int 0, .int 0, .ref a, .ref b, .ref c1, .ref d]))] sz) (fun (r : Int32) (_ : Unit) => r = (-2)) (fun (_ : Unit) => [(h, .inr (0, [.int 0, .int 0, .int 0, .int 0, .int 0, .int 0, .ref a, .ref b, .ref c1, .ref d]))])) 0 0 (va_A [(h, .inr (0, [.int 0, .int 0, .int 0, .int 0, .int 0, .int 0, .ref a, .ref b, .ref c1, .ref d]))] sz) := by
  refine Met.ofW (cc := cX0_brassField) (maxL := 3) (ret := (some .int)) (by decide) rfl ?_
  intro p e s m args below meth c s₁ B hml hv
  obtain ⟨rfl, hsz, hP, hK, hD0⟩ := hv
  have hx := B.exec
  have hb := B.bytes
  have hr := B.returns
  have hts := hts_g (atoms_spec (ws := ww yX0_brassField cX0_brassField 3 (some .int)) B.pre)
  have hown : s.vm.findClass RX0 = some m.cls := findClass_of_methodNamed B.named
  have hlocks := B.notSynchronized
  subst hsz
  have hD := hD0.self (sz := s.heap.size)
  generalize hAe : va_A [(h, .inr (0, [.int 0, .int 0, .int 0, .int 0, .int 0, .int 0, .ref a, .ref b, .ref c1, .ref d]))] s.heap.size = A at hD ⊢
  have hA : ∀ q : Nat, s.heap.size ≤ q → A q := fun q h => by rw [← hAe]; exact Or.inr h
  have hS : va_S A s.heap s.heap [] := va_S.rf
  have hl := lv_entry ([.ref h, .int p1, .int p2]) (n := 3) (Nat.le_of_ble_eq_true rfl)
  rw [lg_entry_eq]
  generalize (lg_sl ([.ref h, .int p1, .int p2]) ++ List.replicate (3 - (lg_sl ([.ref h, .int p1, .int p2])).length) Slot.unset).toArray = ls at hl ⊢
  have hl : lv_has ls 3 [(0, .ref h), (1, .int p1), (2, .int p2)] := hl
  refine lv_aload_n hx hb dX0_brassField_0 rfl (lv_at hl 0 rfl) ?_
  refine lv_iload_n hx hb dX0_brassField_1 rfl (lv_at hl 1 rfl) ?_
  have hPc := hP.sub (ws' := [(h, .inr (0, [.int 0, .int 0, .int 0, .int 0, .int 0, .int 0, .ref a, .ref b, .ref c1, .ref d]))]) [0] rfl
  have hDc := hD.sub (ws' := [(h, .inr (0, [.int 0, .int 0, .int 0, .int 0, .int 0, .int 0, .ref a, .ref b, .ref c1, .ref d]))]) [0] (by decide) rfl
  have hFc := va_free (wc := [(h, .inr (0, [.int 0, .int 0, .int 0, .int 0, .int 0, .int 0, .ref a, .ref b, .ref c1, .ref d]))]) hD hS hA [0] rfl
  refine va_calli (va_runV (As := [.int p1]) (rest := []) ⟨hx, hb, hml, hown, hts⟩ (c_X0_hasBrass l D cy h a b c1 d p1 s.heap.size) (cwV 1 hts (gd_V q598 q599 q600 q127 q601) rfl rfl rfl (by decide +kernel) ⟨Nat.le_of_ble_eq_true rfl, Nat.le_of_ble_eq_true rfl⟩) (pr_V hPc hK hDc (va_recv hK hPc (ci := 0) (q0 := 0) rfl rfl)) rfl rfl hl.1 rfl (lv_room (Nat.le_of_ble_eq_true rfl)) dX0_brassField_2 ⟨Nat.le_of_ble_eq_true rfl, Nat.le_of_ble_eq_true rfl⟩) hS (fun q _ h => hFc q h) hFc (fun r_1 u tS H1 locs ht hvm hw hB hz1 hk1 hS => ?_)
  obtain ⟨hP1, hK1, hD1⟩ := hB
  rw [ht] at hP1
  try dsimp only at hw
  obtain ⟨hP, hD⟩ := va_join (wr := []) (w1 := [(h, .inr (0, [.int 0, .int 0, .int 0, .int 0, .int 0, .int 0, .ref a, .ref b, .ref c1, .ref d]))]) hP hD [0] [] rfl rfl (by decide) (by decide) hk1 hFc hP1 hD1
  generalize H1 = H at hP hS ⊢
  have hP : va_P D clz [(h, .inr (0, [.int 0, .int 0, .int 0, .int 0, .int 0, .int 0, .ref a, .ref b, .ref c1, .ref d]))] H := hP
  have hD : va_D A [(h, .inr (0, [.int 0, .int 0, .int 0, .int 0, .int 0, .int 0, .ref a, .ref b, .ref c1, .ref d]))] := hD
  subst hw
  refine lv_if_eq (tgt := 18) hx hb dX0_brassField_5 (by decide) (fun _ => ?_) (fun c9 => absurd c9 (by decide))
  refine lv_bipush (v := (-2)) hx hb dX0_brassField_18 (by decide) ?_
  have hP9 := hP.sub (ws' := [(h, .inr (0, [.int 0, .int 0, .int 0, .int 0, .int 0, .int 0, .ref a, .ref b, .ref c1, .ref d]))]) [0] rfl
  have hD9 := hD.sub (ws' := [(h, .inr (0, [.int 0, .int 0, .int 0, .int 0, .int 0, .int 0, .ref a, .ref b, .ref c1, .ref d]))]) [0] (by decide) rfl
  exact W.iret (v := (-2)) hx hb hr (fun tS ht hW => ⟨⟨(-2), (), rfl, rfl, by rw [ht]; exact hP9, va_K.moved hW.alike hK, hD9⟩, hS.F ht⟩) hS.2.2 dX0_brassField_20

theorem q728 : Cond.code yX0_playerField cX0_playerField 3 (some .int) ∈ lw_g := lw_gm (List.mem_of_getElem? (i := 728) (by decide +kernel)) rfl
theorem q627 : Cond.methodLink RX0 67 yX0_hasPlayer ∈ lw_g := lw_gm (List.mem_of_getElem? (i := 627) (by decide +kernel)) rfl
theorem q628 : Cond.instanceMethod yX0_hasPlayer ∈ lw_g := lw_gm (List.mem_of_getElem? (i := 628) (by decide +kernel)) rfl
theorem q629 : Cond.selects RX0 yX0_hasPlayer yX0_hasPlayer ∈ lw_g := lw_gm (List.mem_of_getElem? (i := 629) (by decide +kernel)) rfl
theorem dX0_playerField_0 : decode cX0_playerField 0 = .ok (.aload_n 0, 1) := by decide +kernel
theorem dX0_playerField_1 : decode cX0_playerField 1 = .ok (.iload_n 1, 1) := by decide +kernel
theorem dX0_playerField_2 : decode cX0_playerField 2 = .ok (.invokevirtual 67, 3) := by decide +kernel
theorem dX0_playerField_5 : decode cX0_playerField 5 = .ok (.ifCond .eq 12, 3) := by decide +kernel
theorem dX0_playerField_17 : decode cX0_playerField 17 = .ok (.bipush (-2), 2) := by decide +kernel
theorem dX0_playerField_19 : decode cX0_playerField 19 = .ok (.ireturn, 1) := by decide +kernel
set_option maxHeartbeats 4000000 in
set_option maxRecDepth 100000 in
theorem c_X0_playerField (l : Launch) (D : va_G) (cy : Nat → ClassId) (h : Nat) (a : Nat) (b : Nat) (c1 : Nat) (d : Nat) (p1 : Int32) (p2 : Int32) (sz : Nat) : Met l yX0_playerField (ww yX0_playerField cX0_playerField 3 (some .int)) ({ frames := 2, cells := 0, slots := 0, locals := 128 }) (va_Pc [.ref h, .int p1, .int p2] (pre D cy [(h, .inr (0, [.int 0, .int 0, .int 0, .int 0, .int 0, .int 0, .ref a, .ref b, .ref c1, .ref d]))] sz)) (qi D cy (va_A [(h, .inr (0, [.int 0, .int 0, .int 0, .int 0, .int 0, .int 0, .ref a, .ref b, .ref c1, .ref d]))] sz) (fun (r : Int32) (_ : Unit) => r = (-2)) (fun (_ : Unit) => [(h, .inr (0, [.int 0, .int 0, .int 0, .int 0, .int 0, .int 0, .ref a, .ref b, .ref c1, .ref d]))])) 0 0 (va_A [(h, .inr (0, [.int 0, .int 0, .int 0, .int 0, .int 0, .int 0, .ref a, .ref b, .ref c1, .ref d]))] sz) := by
  refine Met.ofW (cc := cX0_playerField) (maxL := 3) (ret := (some .int)) (by decide) rfl ?_
  intro p e s m args below meth c s₁ B hml hv
  obtain ⟨rfl, hsz, hP, hK, hD0⟩ := hv
  have hx := B.exec
  have hb := B.bytes
  have hr := B.returns
  have hts := hts_g (atoms_spec (ws := ww yX0_playerField cX0_playerField 3 (some .int)) B.pre)
  have hown : s.vm.findClass RX0 = some m.cls := findClass_of_methodNamed B.named
  have hlocks := B.notSynchronized
  subst hsz
  have hD := hD0.self (sz := s.heap.size)
  generalize hAe : va_A [(h, .inr (0, [.int 0, .int 0, .int 0, .int 0, .int 0, .int 0, .ref a, .ref b, .ref c1, .ref d]))] s.heap.size = A at hD ⊢
  have hA : ∀ q : Nat, s.heap.size ≤ q → A q := fun q h => by rw [← hAe]; exact Or.inr h
  have hS : va_S A s.heap s.heap [] := va_S.rf
  have hl := lv_entry ([.ref h, .int p1, .int p2]) (n := 3) (Nat.le_of_ble_eq_true rfl)
  rw [lg_entry_eq]
  generalize (lg_sl ([.ref h, .int p1, .int p2]) ++ List.replicate (3 - (lg_sl ([.ref h, .int p1, .int p2])).length) Slot.unset).toArray = ls at hl ⊢
  have hl : lv_has ls 3 [(0, .ref h), (1, .int p1), (2, .int p2)] := hl
  refine lv_aload_n hx hb dX0_playerField_0 rfl (lv_at hl 0 rfl) ?_
  refine lv_iload_n hx hb dX0_playerField_1 rfl (lv_at hl 1 rfl) ?_
  have hPc := hP.sub (ws' := [(h, .inr (0, [.int 0, .int 0, .int 0, .int 0, .int 0, .int 0, .ref a, .ref b, .ref c1, .ref d]))]) [0] rfl
  have hDc := hD.sub (ws' := [(h, .inr (0, [.int 0, .int 0, .int 0, .int 0, .int 0, .int 0, .ref a, .ref b, .ref c1, .ref d]))]) [0] (by decide) rfl
  have hFc := va_free (wc := [(h, .inr (0, [.int 0, .int 0, .int 0, .int 0, .int 0, .int 0, .ref a, .ref b, .ref c1, .ref d]))]) hD hS hA [0] rfl
  refine va_calli (va_runV (As := [.int p1]) (rest := []) ⟨hx, hb, hml, hown, hts⟩ (c_X0_hasPlayer l D cy h a b c1 d p1 s.heap.size) (cwV 1 hts (gd_V q627 q628 q629 q127 q630) rfl rfl rfl (by decide +kernel) ⟨Nat.le_of_ble_eq_true rfl, Nat.le_of_ble_eq_true rfl⟩) (pr_V hPc hK hDc (va_recv hK hPc (ci := 0) (q0 := 0) rfl rfl)) rfl rfl hl.1 rfl (lv_room (Nat.le_of_ble_eq_true rfl)) dX0_playerField_2 ⟨Nat.le_of_ble_eq_true rfl, Nat.le_of_ble_eq_true rfl⟩) hS (fun q _ h => hFc q h) hFc (fun r_1 u tS H1 locs ht hvm hw hB hz1 hk1 hS => ?_)
  obtain ⟨hP1, hK1, hD1⟩ := hB
  rw [ht] at hP1
  try dsimp only at hw
  obtain ⟨hP, hD⟩ := va_join (wr := []) (w1 := [(h, .inr (0, [.int 0, .int 0, .int 0, .int 0, .int 0, .int 0, .ref a, .ref b, .ref c1, .ref d]))]) hP hD [0] [] rfl rfl (by decide) (by decide) hk1 hFc hP1 hD1
  generalize H1 = H at hP hS ⊢
  have hP : va_P D clz [(h, .inr (0, [.int 0, .int 0, .int 0, .int 0, .int 0, .int 0, .ref a, .ref b, .ref c1, .ref d]))] H := hP
  have hD : va_D A [(h, .inr (0, [.int 0, .int 0, .int 0, .int 0, .int 0, .int 0, .ref a, .ref b, .ref c1, .ref d]))] := hD
  subst hw
  refine lv_if_eq (tgt := 17) hx hb dX0_playerField_5 (by decide) (fun _ => ?_) (fun c9 => absurd c9 (by decide))
  refine lv_bipush (v := (-2)) hx hb dX0_playerField_17 (by decide) ?_
  have hP9 := hP.sub (ws' := [(h, .inr (0, [.int 0, .int 0, .int 0, .int 0, .int 0, .int 0, .ref a, .ref b, .ref c1, .ref d]))]) [0] rfl
  have hD9 := hD.sub (ws' := [(h, .inr (0, [.int 0, .int 0, .int 0, .int 0, .int 0, .int 0, .ref a, .ref b, .ref c1, .ref d]))]) [0] (by decide) rfl
  exact W.iret (v := (-2)) hx hb hr (fun tS ht hW => ⟨⟨(-2), (), rfl, rfl, by rw [ht]; exact hP9, va_K.moved hW.alike hK, hD9⟩, hS.F ht⟩) hS.2.2 dX0_playerField_19

theorem q663 : Cond.code yX0_toneField cX0_toneField 4 (some .int) ∈ lw_g := lw_gm (List.mem_of_getElem? (i := 663) (by decide +kernel)) rfl
theorem dX0_toneField_0 : decode cX0_toneField 0 = .ok (.aload_n 0, 1) := by decide +kernel
theorem dX0_toneField_1 : decode cX0_toneField 1 = .ok (.iload_n 1, 1) := by decide +kernel
theorem dX0_toneField_2 : decode cX0_toneField 2 = .ok (.iload_n 2, 1) := by decide +kernel
theorem dX0_toneField_3 : decode cX0_toneField 3 = .ok (.invokevirtual 53, 3) := by decide +kernel
theorem dX0_toneField_6 : decode cX0_toneField 6 = .ok (.ifCond .eq 12, 3) := by decide +kernel
theorem dX0_toneField_18 : decode cX0_toneField 18 = .ok (.bipush (-2), 2) := by decide +kernel
theorem dX0_toneField_20 : decode cX0_toneField 20 = .ok (.ireturn, 1) := by decide +kernel
set_option maxHeartbeats 4000000 in
set_option maxRecDepth 100000 in
theorem c_X0_toneField (l : Launch) (D : va_G) (cy : Nat → ClassId) (h : Nat) (a : Nat) (b : Nat) (c1 : Nat) (d : Nat) (p1 : Int32) (p2 : Int32) (p3 : Int32) (sz : Nat) : Met l yX0_toneField (ww yX0_toneField cX0_toneField 4 (some .int)) ({ frames := 2, cells := 0, slots := 0, locals := 128 }) (va_Pc [.ref h, .int p1, .int p2, .int p3] (pre D cy [(h, .inr (0, [.int 0, .int 0, .int 0, .int 0, .int 0, .int 0, .ref a, .ref b, .ref c1, .ref d]))] sz)) (qi D cy (va_A [(h, .inr (0, [.int 0, .int 0, .int 0, .int 0, .int 0, .int 0, .ref a, .ref b, .ref c1, .ref d]))] sz) (fun (r : Int32) (_ : Unit) => r = (-2)) (fun (_ : Unit) => [(h, .inr (0, [.int 0, .int 0, .int 0, .int 0, .int 0, .int 0, .ref a, .ref b, .ref c1, .ref d]))])) 0 0 (va_A [(h, .inr (0, [.int 0, .int 0, .int 0, .int 0, .int 0, .int 0, .ref a, .ref b, .ref c1, .ref d]))] sz) := by
  refine Met.ofW (cc := cX0_toneField) (maxL := 4) (ret := (some .int)) (by decide) rfl ?_
  intro p e s m args below meth c s₁ B hml hv
  obtain ⟨rfl, hsz, hP, hK, hD0⟩ := hv
  have hx := B.exec
  have hb := B.bytes
  have hr := B.returns
  have hts := hts_g (atoms_spec (ws := ww yX0_toneField cX0_toneField 4 (some .int)) B.pre)
  have hown : s.vm.findClass RX0 = some m.cls := findClass_of_methodNamed B.named
  have hlocks := B.notSynchronized
  subst hsz
  have hD := hD0.self (sz := s.heap.size)
  generalize hAe : va_A [(h, .inr (0, [.int 0, .int 0, .int 0, .int 0, .int 0, .int 0, .ref a, .ref b, .ref c1, .ref d]))] s.heap.size = A at hD ⊢
  have hA : ∀ q : Nat, s.heap.size ≤ q → A q := fun q h => by rw [← hAe]; exact Or.inr h
  have hS : va_S A s.heap s.heap [] := va_S.rf
  have hl := lv_entry ([.ref h, .int p1, .int p2, .int p3]) (n := 4) (Nat.le_of_ble_eq_true rfl)
  rw [lg_entry_eq]
  generalize (lg_sl ([.ref h, .int p1, .int p2, .int p3]) ++ List.replicate (4 - (lg_sl ([.ref h, .int p1, .int p2, .int p3])).length) Slot.unset).toArray = ls at hl ⊢
  have hl : lv_has ls 4 [(0, .ref h), (1, .int p1), (2, .int p2), (3, .int p3)] := hl
  refine lv_aload_n hx hb dX0_toneField_0 rfl (lv_at hl 0 rfl) ?_
  refine lv_iload_n hx hb dX0_toneField_1 rfl (lv_at hl 1 rfl) ?_
  refine lv_iload_n hx hb dX0_toneField_2 rfl (lv_at hl 2 rfl) ?_
  have hPc := hP.sub (ws' := [(h, .inr (0, [.int 0, .int 0, .int 0, .int 0, .int 0, .int 0, .ref a, .ref b, .ref c1, .ref d]))]) [0] rfl
  have hDc := hD.sub (ws' := [(h, .inr (0, [.int 0, .int 0, .int 0, .int 0, .int 0, .int 0, .ref a, .ref b, .ref c1, .ref d]))]) [0] (by decide) rfl
  have hFc := va_free (wc := [(h, .inr (0, [.int 0, .int 0, .int 0, .int 0, .int 0, .int 0, .ref a, .ref b, .ref c1, .ref d]))]) hD hS hA [0] rfl
  refine va_calli (va_runV (As := [.int p1, .int p2]) (rest := []) ⟨hx, hb, hml, hown, hts⟩ (c_X0_hasTone l D cy h a b c1 d p1 p2 s.heap.size) (cwV 2 hts (gd_V q664 q665 q666 q127 q667) rfl rfl rfl (by decide +kernel) ⟨Nat.le_of_ble_eq_true rfl, Nat.le_of_ble_eq_true rfl⟩) (pr_V hPc hK hDc (va_recv hK hPc (ci := 0) (q0 := 0) rfl rfl)) rfl rfl hl.1 rfl (lv_room (Nat.le_of_ble_eq_true rfl)) dX0_toneField_3 ⟨Nat.le_of_ble_eq_true rfl, Nat.le_of_ble_eq_true rfl⟩) hS (fun q _ h => hFc q h) hFc (fun r_1 u tS H1 locs ht hvm hw hB hz1 hk1 hS => ?_)
  obtain ⟨hP1, hK1, hD1⟩ := hB
  rw [ht] at hP1
  try dsimp only at hw
  obtain ⟨hP, hD⟩ := va_join (wr := []) (w1 := [(h, .inr (0, [.int 0, .int 0, .int 0, .int 0, .int 0, .int 0, .ref a, .ref b, .ref c1, .ref d]))]) hP hD [0] [] rfl rfl (by decide) (by decide) hk1 hFc hP1 hD1
  generalize H1 = H at hP hS ⊢
  have hP : va_P D clz [(h, .inr (0, [.int 0, .int 0, .int 0, .int 0, .int 0, .int 0, .ref a, .ref b, .ref c1, .ref d]))] H := hP
  have hD : va_D A [(h, .inr (0, [.int 0, .int 0, .int 0, .int 0, .int 0, .int 0, .ref a, .ref b, .ref c1, .ref d]))] := hD
  subst hw
  refine lv_if_eq (tgt := 18) hx hb dX0_toneField_6 (by decide) (fun _ => ?_) (fun c9 => absurd c9 (by decide))
  refine lv_bipush (v := (-2)) hx hb dX0_toneField_18 (by decide) ?_
  have hP9 := hP.sub (ws' := [(h, .inr (0, [.int 0, .int 0, .int 0, .int 0, .int 0, .int 0, .ref a, .ref b, .ref c1, .ref d]))]) [0] rfl
  have hD9 := hD.sub (ws' := [(h, .inr (0, [.int 0, .int 0, .int 0, .int 0, .int 0, .int 0, .ref a, .ref b, .ref c1, .ref d]))]) [0] (by decide) rfl
  exact W.iret (v := (-2)) hx hb hr (fun tS ht hW => ⟨⟨(-2), (), rfl, rfl, by rw [ht]; exact hP9, va_K.moved hW.alike hK, hD9⟩, hS.F ht⟩) hS.2.2 dX0_toneField_20

theorem q498 : Cond.code yX0_clear cX0_clear 1 none ∈ lw_g := lw_gm (List.mem_of_getElem? (i := 498) (by decide +kernel)) rfl
theorem q192 : Cond.fieldLink RX0 24 "LipsAndSlides$Desk" "cents" "I" ∈ lw_g := lw_gm (List.mem_of_getElem? (i := 192) (by decide +kernel)) rfl
theorem q195 : Cond.fieldLink RX0 28 "LipsAndSlides$Desk" "highest" "I" ∈ lw_g := lw_gm (List.mem_of_getElem? (i := 195) (by decide +kernel)) rfl
theorem q199 : Cond.fieldLink RX0 31 "LipsAndSlides$Desk" "lines" "I" ∈ lw_g := lw_gm (List.mem_of_getElem? (i := 199) (by decide +kernel)) rfl
theorem dX0_clear_0 : decode cX0_clear 0 = .ok (.aload_n 0, 1) := by decide +kernel
theorem dX0_clear_1 : decode cX0_clear 1 = .ok (.iconst 0, 1) := by decide +kernel
theorem dX0_clear_2 : decode cX0_clear 2 = .ok (.putfield 24, 3) := by decide +kernel
theorem dX0_clear_5 : decode cX0_clear 5 = .ok (.aload_n 0, 1) := by decide +kernel
theorem dX0_clear_6 : decode cX0_clear 6 = .ok (.iconst 0, 1) := by decide +kernel
theorem dX0_clear_7 : decode cX0_clear 7 = .ok (.putfield 28, 3) := by decide +kernel
theorem dX0_clear_10 : decode cX0_clear 10 = .ok (.aload_n 0, 1) := by decide +kernel
theorem dX0_clear_11 : decode cX0_clear 11 = .ok (.iconst 0, 1) := by decide +kernel
theorem dX0_clear_12 : decode cX0_clear 12 = .ok (.putfield 31, 3) := by decide +kernel
theorem dX0_clear_15 : decode cX0_clear 15 = .ok (.aload_n 0, 1) := by decide +kernel
theorem dX0_clear_16 : decode cX0_clear 16 = .ok (.iconst 0, 1) := by decide +kernel
theorem dX0_clear_17 : decode cX0_clear 17 = .ok (.putfield 34, 3) := by decide +kernel
theorem dX0_clear_20 : decode cX0_clear 20 = .ok (.aload_n 0, 1) := by decide +kernel
theorem dX0_clear_21 : decode cX0_clear 21 = .ok (.iconst 0, 1) := by decide +kernel
theorem dX0_clear_22 : decode cX0_clear 22 = .ok (.putfield 37, 3) := by decide +kernel
theorem dX0_clear_25 : decode cX0_clear 25 = .ok (.aload_n 0, 1) := by decide +kernel
theorem dX0_clear_26 : decode cX0_clear 26 = .ok (.iconst 0, 1) := by decide +kernel
theorem dX0_clear_27 : decode cX0_clear 27 = .ok (.putfield 40, 3) := by decide +kernel
theorem dX0_clear_30 : decode cX0_clear 30 = .ok (.return_, 1) := by decide +kernel
set_option maxHeartbeats 4000000 in
set_option maxRecDepth 100000 in
theorem c_X0_clear (l : Launch) (D : va_G) (cy : Nat → ClassId) (h : Nat) (a : Nat) (b : Nat) (c1 : Nat) (d : Nat) (sz : Nat) : Met l yX0_clear (ww yX0_clear cX0_clear 1 none) ({ frames := 1, cells := 0, slots := 0, locals := 64 }) (va_Pc [.ref h] (pre D cy [(h, .inr (0, [.int 0, .int 0, .int 0, .int 0, .int 0, .int 0, .ref a, .ref b, .ref c1, .ref d]))] sz)) (qv D cy (va_A [(h, .inr (0, [.int 0, .int 0, .int 0, .int 0, .int 0, .int 0, .ref a, .ref b, .ref c1, .ref d]))] sz) (fun (_ : Unit) => True) (fun (_ : Unit) => [(h, .inr (0, [.int 0, .int 0, .int 0, .int 0, .int 0, .int 0, .ref a, .ref b, .ref c1, .ref d]))])) 0 0 (va_A [(h, .inr (0, [.int 0, .int 0, .int 0, .int 0, .int 0, .int 0, .ref a, .ref b, .ref c1, .ref d]))] sz) := by
  refine Met.ofW (cc := cX0_clear) (maxL := 1) (ret := none) (by decide) rfl ?_
  intro p e s m args below meth c s₁ B hml hv
  obtain ⟨rfl, hsz, hP, hK, hD0⟩ := hv
  have hx := B.exec
  have hb := B.bytes
  have hr := B.returns
  have hts := hts_g (atoms_spec (ws := ww yX0_clear cX0_clear 1 none) B.pre)
  have hown : s.vm.findClass RX0 = some m.cls := findClass_of_methodNamed B.named
  have hlocks := B.notSynchronized
  subst hsz
  have hD := hD0.self (sz := s.heap.size)
  generalize hAe : va_A [(h, .inr (0, [.int 0, .int 0, .int 0, .int 0, .int 0, .int 0, .ref a, .ref b, .ref c1, .ref d]))] s.heap.size = A at hD ⊢
  have hA : ∀ q : Nat, s.heap.size ≤ q → A q := fun q h => by rw [← hAe]; exact Or.inr h
  have hS : va_S A s.heap s.heap [] := va_S.rf
  have hl := lv_entry ([.ref h]) (n := 1) (Nat.le_of_ble_eq_true rfl)
  rw [lg_entry_eq]
  generalize (lg_sl ([.ref h]) ++ List.replicate (1 - (lg_sl ([.ref h])).length) Slot.unset).toArray = ls at hl ⊢
  have hl : lv_has ls 1 [(0, .ref h)] := hl
  refine lv_aload_n hx hb dX0_clear_0 rfl (lv_at hl 0 rfl) ?_
  refine lv_iconst (v := 0) hx hb dX0_clear_1 (by decide) ?_
  refine va_put (D := D) (ci := 0) (v := .int 0) (ty := .int) (C := RX0) (T := TX0) (N := 10) hx hb hts iX0 tyX0 tyX0_ok nmX0 hown hK hP hD hS 0 rfl rfl 0 (by decide) (hts _ q192) (fun _ h9 => h9) rfl (by decide +kernel) rfl rfl (Nat.le_of_ble_eq_true rfl) dX0_clear_2 (fun H locs hP hD hS => ?_)
  have hP : va_P D clz [(h, .inr (0, [.int 0, .int 0, .int 0, .int 0, .int 0, .int 0, .ref a, .ref b, .ref c1, .ref d]))] H := hP
  have hD : va_D A [(h, .inr (0, [.int 0, .int 0, .int 0, .int 0, .int 0, .int 0, .ref a, .ref b, .ref c1, .ref d]))] := hD
  refine lv_aload_n hx hb dX0_clear_5 rfl (lv_at hl 0 rfl) ?_
  refine lv_iconst (v := 0) hx hb dX0_clear_6 (by decide) ?_
  refine va_put (D := D) (ci := 0) (v := .int 0) (ty := .int) (C := RX0) (T := TX0) (N := 10) hx hb hts iX0 tyX0 tyX0_ok nmX0 hown hK hP hD hS 0 rfl rfl 1 (by decide) (hts _ q195) (fun _ h9 => h9) rfl (by decide +kernel) rfl rfl (Nat.le_of_ble_eq_true rfl) dX0_clear_7 (fun H locs hP hD hS => ?_)
  have hP : va_P D clz [(h, .inr (0, [.int 0, .int 0, .int 0, .int 0, .int 0, .int 0, .ref a, .ref b, .ref c1, .ref d]))] H := hP
  have hD : va_D A [(h, .inr (0, [.int 0, .int 0, .int 0, .int 0, .int 0, .int 0, .ref a, .ref b, .ref c1, .ref d]))] := hD
  refine lv_aload_n hx hb dX0_clear_10 rfl (lv_at hl 0 rfl) ?_
  refine lv_iconst (v := 0) hx hb dX0_clear_11 (by decide) ?_
  refine va_put (D := D) (ci := 0) (v := .int 0) (ty := .int) (C := RX0) (T := TX0) (N := 10) hx hb hts iX0 tyX0 tyX0_ok nmX0 hown hK hP hD hS 0 rfl rfl 2 (by decide) (hts _ q199) (fun _ h9 => h9) rfl (by decide +kernel) rfl rfl (Nat.le_of_ble_eq_true rfl) dX0_clear_12 (fun H locs hP hD hS => ?_)
  have hP : va_P D clz [(h, .inr (0, [.int 0, .int 0, .int 0, .int 0, .int 0, .int 0, .ref a, .ref b, .ref c1, .ref d]))] H := hP
  have hD : va_D A [(h, .inr (0, [.int 0, .int 0, .int 0, .int 0, .int 0, .int 0, .ref a, .ref b, .ref c1, .ref d]))] := hD
  refine lv_aload_n hx hb dX0_clear_15 rfl (lv_at hl 0 rfl) ?_
  refine lv_iconst (v := 0) hx hb dX0_clear_16 (by decide) ?_
  refine va_put (D := D) (ci := 0) (v := .int 0) (ty := .int) (C := RX0) (T := TX0) (N := 10) hx hb hts iX0 tyX0 tyX0_ok nmX0 hown hK hP hD hS 0 rfl rfl 3 (by decide) (hts _ q202) (fun _ h9 => h9) rfl (by decide +kernel) rfl rfl (Nat.le_of_ble_eq_true rfl) dX0_clear_17 (fun H locs hP hD hS => ?_)
  have hP : va_P D clz [(h, .inr (0, [.int 0, .int 0, .int 0, .int 0, .int 0, .int 0, .ref a, .ref b, .ref c1, .ref d]))] H := hP
  have hD : va_D A [(h, .inr (0, [.int 0, .int 0, .int 0, .int 0, .int 0, .int 0, .ref a, .ref b, .ref c1, .ref d]))] := hD
  refine lv_aload_n hx hb dX0_clear_20 rfl (lv_at hl 0 rfl) ?_
  refine lv_iconst (v := 0) hx hb dX0_clear_21 (by decide) ?_
  refine va_put (D := D) (ci := 0) (v := .int 0) (ty := .int) (C := RX0) (T := TX0) (N := 10) hx hb hts iX0 tyX0 tyX0_ok nmX0 hown hK hP hD hS 0 rfl rfl 4 (by decide) (hts _ q206) (fun _ h9 => h9) rfl (by decide +kernel) rfl rfl (Nat.le_of_ble_eq_true rfl) dX0_clear_22 (fun H locs hP hD hS => ?_)
  have hP : va_P D clz [(h, .inr (0, [.int 0, .int 0, .int 0, .int 0, .int 0, .int 0, .ref a, .ref b, .ref c1, .ref d]))] H := hP
  have hD : va_D A [(h, .inr (0, [.int 0, .int 0, .int 0, .int 0, .int 0, .int 0, .ref a, .ref b, .ref c1, .ref d]))] := hD
  refine lv_aload_n hx hb dX0_clear_25 rfl (lv_at hl 0 rfl) ?_
  refine lv_iconst (v := 0) hx hb dX0_clear_26 (by decide) ?_
  refine va_put (D := D) (ci := 0) (v := .int 0) (ty := .int) (C := RX0) (T := TX0) (N := 10) hx hb hts iX0 tyX0 tyX0_ok nmX0 hown hK hP hD hS 0 rfl rfl 5 (by decide) (hts _ q209) (fun _ h9 => h9) rfl (by decide +kernel) rfl rfl (Nat.le_of_ble_eq_true rfl) dX0_clear_27 (fun H locs hP hD hS => ?_)
  have hP : va_P D clz [(h, .inr (0, [.int 0, .int 0, .int 0, .int 0, .int 0, .int 0, .ref a, .ref b, .ref c1, .ref d]))] H := hP
  have hD : va_D A [(h, .inr (0, [.int 0, .int 0, .int 0, .int 0, .int 0, .int 0, .ref a, .ref b, .ref c1, .ref d]))] := hD
  have hP9 := hP.sub (ws' := [(h, .inr (0, [.int 0, .int 0, .int 0, .int 0, .int 0, .int 0, .ref a, .ref b, .ref c1, .ref d]))]) [0] rfl
  have hD9 := hD.sub (ws' := [(h, .inr (0, [.int 0, .int 0, .int 0, .int 0, .int 0, .int 0, .ref a, .ref b, .ref c1, .ref d]))]) [0] (by decide) rfl
  exact W.vret hx hb hr (fun tS ht hW => ⟨⟨(), rfl, trivial, by rw [ht]; exact hP9, va_K.moved hW.alike hK, hD9⟩, hS.F ht⟩) hS.2.2 dX0_clear_30

theorem q906 : Cond.code yJ6_bitCount_0f7a4 cJ6_bitCount_0f7a4 1 (some .int) ∈ lw_g := lw_gm (List.mem_of_getElem? (i := 906) (by decide +kernel)) rfl
theorem q907 : Cond.constant RJ6 265 (1431655765) ∈ lw_g := lw_gm (List.mem_of_getElem? (i := 907) (by decide +kernel)) rfl
theorem q908 : Cond.constant RJ6 266 (858993459) ∈ lw_g := lw_gm (List.mem_of_getElem? (i := 908) (by decide +kernel)) rfl
theorem q909 : Cond.constant RJ6 267 (252645135) ∈ lw_g := lw_gm (List.mem_of_getElem? (i := 909) (by decide +kernel)) rfl
theorem dJ6_bitCount_0f7a4_0 : decode cJ6_bitCount_0f7a4 0 = .ok (.iload_n 0, 1) := by decide +kernel
theorem dJ6_bitCount_0f7a4_1 : decode cJ6_bitCount_0f7a4 1 = .ok (.iload_n 0, 1) := by decide +kernel
theorem dJ6_bitCount_0f7a4_2 : decode cJ6_bitCount_0f7a4 2 = .ok (.iconst 1, 1) := by decide +kernel
theorem dJ6_bitCount_0f7a4_3 : decode cJ6_bitCount_0f7a4 3 = .ok (.iushr, 1) := by decide +kernel
theorem dJ6_bitCount_0f7a4_4 : decode cJ6_bitCount_0f7a4 4 = .ok (.ldc_w 265, 3) := by decide +kernel
theorem dJ6_bitCount_0f7a4_7 : decode cJ6_bitCount_0f7a4 7 = .ok (.iand, 1) := by decide +kernel
theorem dJ6_bitCount_0f7a4_8 : decode cJ6_bitCount_0f7a4 8 = .ok (.isub, 1) := by decide +kernel
theorem dJ6_bitCount_0f7a4_9 : decode cJ6_bitCount_0f7a4 9 = .ok (.istore_n 0, 1) := by decide +kernel
theorem dJ6_bitCount_0f7a4_10 : decode cJ6_bitCount_0f7a4 10 = .ok (.iload_n 0, 1) := by decide +kernel
theorem dJ6_bitCount_0f7a4_11 : decode cJ6_bitCount_0f7a4 11 = .ok (.ldc_w 266, 3) := by decide +kernel
theorem dJ6_bitCount_0f7a4_14 : decode cJ6_bitCount_0f7a4 14 = .ok (.iand, 1) := by decide +kernel
theorem dJ6_bitCount_0f7a4_15 : decode cJ6_bitCount_0f7a4 15 = .ok (.iload_n 0, 1) := by decide +kernel
theorem dJ6_bitCount_0f7a4_16 : decode cJ6_bitCount_0f7a4 16 = .ok (.iconst 2, 1) := by decide +kernel
theorem dJ6_bitCount_0f7a4_17 : decode cJ6_bitCount_0f7a4 17 = .ok (.iushr, 1) := by decide +kernel
theorem dJ6_bitCount_0f7a4_18 : decode cJ6_bitCount_0f7a4 18 = .ok (.ldc_w 266, 3) := by decide +kernel
theorem dJ6_bitCount_0f7a4_21 : decode cJ6_bitCount_0f7a4 21 = .ok (.iand, 1) := by decide +kernel
theorem dJ6_bitCount_0f7a4_22 : decode cJ6_bitCount_0f7a4 22 = .ok (.iadd, 1) := by decide +kernel
theorem dJ6_bitCount_0f7a4_23 : decode cJ6_bitCount_0f7a4 23 = .ok (.istore_n 0, 1) := by decide +kernel
theorem dJ6_bitCount_0f7a4_24 : decode cJ6_bitCount_0f7a4 24 = .ok (.iload_n 0, 1) := by decide +kernel
theorem dJ6_bitCount_0f7a4_25 : decode cJ6_bitCount_0f7a4 25 = .ok (.iload_n 0, 1) := by decide +kernel
theorem dJ6_bitCount_0f7a4_26 : decode cJ6_bitCount_0f7a4 26 = .ok (.iconst 4, 1) := by decide +kernel
theorem dJ6_bitCount_0f7a4_27 : decode cJ6_bitCount_0f7a4 27 = .ok (.iushr, 1) := by decide +kernel
theorem dJ6_bitCount_0f7a4_28 : decode cJ6_bitCount_0f7a4 28 = .ok (.iadd, 1) := by decide +kernel
theorem dJ6_bitCount_0f7a4_29 : decode cJ6_bitCount_0f7a4 29 = .ok (.ldc_w 267, 3) := by decide +kernel
theorem dJ6_bitCount_0f7a4_32 : decode cJ6_bitCount_0f7a4 32 = .ok (.iand, 1) := by decide +kernel
theorem dJ6_bitCount_0f7a4_33 : decode cJ6_bitCount_0f7a4 33 = .ok (.istore_n 0, 1) := by decide +kernel
theorem dJ6_bitCount_0f7a4_34 : decode cJ6_bitCount_0f7a4 34 = .ok (.iload_n 0, 1) := by decide +kernel
theorem dJ6_bitCount_0f7a4_35 : decode cJ6_bitCount_0f7a4 35 = .ok (.iload_n 0, 1) := by decide +kernel
theorem dJ6_bitCount_0f7a4_36 : decode cJ6_bitCount_0f7a4 36 = .ok (.bipush 8, 2) := by decide +kernel
theorem dJ6_bitCount_0f7a4_38 : decode cJ6_bitCount_0f7a4 38 = .ok (.iushr, 1) := by decide +kernel
theorem dJ6_bitCount_0f7a4_39 : decode cJ6_bitCount_0f7a4 39 = .ok (.iadd, 1) := by decide +kernel
theorem dJ6_bitCount_0f7a4_40 : decode cJ6_bitCount_0f7a4 40 = .ok (.istore_n 0, 1) := by decide +kernel
theorem dJ6_bitCount_0f7a4_41 : decode cJ6_bitCount_0f7a4 41 = .ok (.iload_n 0, 1) := by decide +kernel
theorem dJ6_bitCount_0f7a4_42 : decode cJ6_bitCount_0f7a4 42 = .ok (.iload_n 0, 1) := by decide +kernel
theorem dJ6_bitCount_0f7a4_43 : decode cJ6_bitCount_0f7a4 43 = .ok (.bipush 16, 2) := by decide +kernel
theorem dJ6_bitCount_0f7a4_45 : decode cJ6_bitCount_0f7a4 45 = .ok (.iushr, 1) := by decide +kernel
theorem dJ6_bitCount_0f7a4_46 : decode cJ6_bitCount_0f7a4 46 = .ok (.iadd, 1) := by decide +kernel
theorem dJ6_bitCount_0f7a4_47 : decode cJ6_bitCount_0f7a4 47 = .ok (.istore_n 0, 1) := by decide +kernel
theorem dJ6_bitCount_0f7a4_48 : decode cJ6_bitCount_0f7a4 48 = .ok (.iload_n 0, 1) := by decide +kernel
theorem dJ6_bitCount_0f7a4_49 : decode cJ6_bitCount_0f7a4 49 = .ok (.bipush 63, 2) := by decide +kernel
theorem dJ6_bitCount_0f7a4_51 : decode cJ6_bitCount_0f7a4 51 = .ok (.iand, 1) := by decide +kernel
theorem dJ6_bitCount_0f7a4_52 : decode cJ6_bitCount_0f7a4 52 = .ok (.ireturn, 1) := by decide +kernel
set_option maxHeartbeats 4000000 in
set_option maxRecDepth 100000 in
theorem c_bitCount (l : Launch) (D : va_G) (cy : Nat → ClassId) (p1 : Int32) (sz : Nat) : Met l yJ6_bitCount_0f7a4 (ww yJ6_bitCount_0f7a4 cJ6_bitCount_0f7a4 1 (some .int)) ({ frames := 1, cells := 0, slots := 0, locals := 64 }) (va_Pc [.int p1] (pre D cy [] sz)) (qi D cy (va_A [] sz) (fun (_ : Int32) (_ : Unit) => True) (fun (_ : Unit) => [])) 0 0 (va_A [] sz) := by
  refine Met.ofW (cc := cJ6_bitCount_0f7a4) (maxL := 1) (ret := (some .int)) (by decide) rfl ?_
  intro p e s m args below meth c s₁ B hml hv
  obtain ⟨rfl, hsz, hP, hK, hD0⟩ := hv
  have hx := B.exec
  have hb := B.bytes
  have hr := B.returns
  have hts := hts_g (atoms_spec (ws := ww yJ6_bitCount_0f7a4 cJ6_bitCount_0f7a4 1 (some .int)) B.pre)
  have hown : s.vm.findClass RJ6 = some m.cls := findClass_of_methodNamed B.named
  have hlocks := B.notSynchronized
  subst hsz
  have hD := hD0.self (sz := s.heap.size)
  generalize hAe : va_A [] s.heap.size = A at hD ⊢
  have hA : ∀ q : Nat, s.heap.size ≤ q → A q := fun q h => by rw [← hAe]; exact Or.inr h
  have hS : va_S A s.heap s.heap [] := va_S.rf
  have hl := lv_entry ([.int p1]) (n := 1) (Nat.le_of_ble_eq_true rfl)
  rw [lg_entry_eq]
  generalize (lg_sl ([.int p1]) ++ List.replicate (1 - (lg_sl ([.int p1])).length) Slot.unset).toArray = ls at hl ⊢
  have hl : lv_has ls 1 [(0, .int p1)] := hl
  refine lv_iload_n hx hb dJ6_bitCount_0f7a4_0 rfl (lv_at hl 0 rfl) ?_
  refine lv_iload_n hx hb dJ6_bitCount_0f7a4_1 rfl (lv_at hl 0 rfl) ?_
  refine lv_iconst (v := 1) hx hb dJ6_bitCount_0f7a4_2 (by decide) ?_
  refine lv_iushr hx hb dJ6_bitCount_0f7a4_3 rfl ?_
  refine lv_topi (fun x_1 ex_1 => ?_)
  refine lv_ldcw (v := 1431655765) hx hb hown (hts _ q907) dJ6_bitCount_0f7a4_4 ?_
  refine lv_iand hx hb dJ6_bitCount_0f7a4_7 ?_
  refine lv_topi (fun x_2 ex_2 => ?_)
  refine lv_isub hx hb dJ6_bitCount_0f7a4_8 ?_
  refine lv_topi (fun x_3 ex_3 => ?_)
  refine lv_istore_n (lv' := [(0, .int x_3)]) hx hb dJ6_bitCount_0f7a4_9 rfl hl (by decide) rfl (fun ls hl => ?_)
  refine lv_iload_n hx hb dJ6_bitCount_0f7a4_10 rfl (lv_at hl 0 rfl) ?_
  refine lv_ldcw (v := 858993459) hx hb hown (hts _ q908) dJ6_bitCount_0f7a4_11 ?_
  refine lv_iand hx hb dJ6_bitCount_0f7a4_14 ?_
  refine lv_topi (fun x_4 ex_4 => ?_)
  refine lv_iload_n hx hb dJ6_bitCount_0f7a4_15 rfl (lv_at hl 0 rfl) ?_
  refine lv_iconst (v := 2) hx hb dJ6_bitCount_0f7a4_16 (by decide) ?_
  refine lv_iushr hx hb dJ6_bitCount_0f7a4_17 rfl ?_
  refine lv_topi (fun x_5 ex_5 => ?_)
  refine lv_ldcw (v := 858993459) hx hb hown (hts _ q908) dJ6_bitCount_0f7a4_18 ?_
  refine lv_iand hx hb dJ6_bitCount_0f7a4_21 ?_
  refine lv_topi (fun x_6 ex_6 => ?_)
  refine lv_iadd hx hb dJ6_bitCount_0f7a4_22 ?_
  refine lv_topi (fun x_7 ex_7 => ?_)
  refine lv_istore_n (lv' := [(0, .int x_7)]) hx hb dJ6_bitCount_0f7a4_23 rfl hl (by decide) rfl (fun ls hl => ?_)
  refine lv_iload_n hx hb dJ6_bitCount_0f7a4_24 rfl (lv_at hl 0 rfl) ?_
  refine lv_iload_n hx hb dJ6_bitCount_0f7a4_25 rfl (lv_at hl 0 rfl) ?_
  refine lv_iconst (v := 4) hx hb dJ6_bitCount_0f7a4_26 (by decide) ?_
  refine lv_iushr hx hb dJ6_bitCount_0f7a4_27 rfl ?_
  refine lv_topi (fun x_8 ex_8 => ?_)
  refine lv_iadd hx hb dJ6_bitCount_0f7a4_28 ?_
  refine lv_topi (fun x_9 ex_9 => ?_)
  refine lv_ldcw (v := 252645135) hx hb hown (hts _ q909) dJ6_bitCount_0f7a4_29 ?_
  refine lv_iand hx hb dJ6_bitCount_0f7a4_32 ?_
  refine lv_topi (fun x_10 ex_10 => ?_)
  refine lv_istore_n (lv' := [(0, .int x_10)]) hx hb dJ6_bitCount_0f7a4_33 rfl hl (by decide) rfl (fun ls hl => ?_)
  refine lv_iload_n hx hb dJ6_bitCount_0f7a4_34 rfl (lv_at hl 0 rfl) ?_
  refine lv_iload_n hx hb dJ6_bitCount_0f7a4_35 rfl (lv_at hl 0 rfl) ?_
  refine lv_bipush (v := 8) hx hb dJ6_bitCount_0f7a4_36 (by decide) ?_
  refine lv_iushr hx hb dJ6_bitCount_0f7a4_38 rfl ?_
  refine lv_topi (fun x_11 ex_11 => ?_)
  refine lv_iadd hx hb dJ6_bitCount_0f7a4_39 ?_
  refine lv_topi (fun x_12 ex_12 => ?_)
  refine lv_istore_n (lv' := [(0, .int x_12)]) hx hb dJ6_bitCount_0f7a4_40 rfl hl (by decide) rfl (fun ls hl => ?_)
  refine lv_iload_n hx hb dJ6_bitCount_0f7a4_41 rfl (lv_at hl 0 rfl) ?_
  refine lv_iload_n hx hb dJ6_bitCount_0f7a4_42 rfl (lv_at hl 0 rfl) ?_
  refine lv_bipush (v := 16) hx hb dJ6_bitCount_0f7a4_43 (by decide) ?_
  refine lv_iushr hx hb dJ6_bitCount_0f7a4_45 rfl ?_
  refine lv_topi (fun x_13 ex_13 => ?_)
  refine lv_iadd hx hb dJ6_bitCount_0f7a4_46 ?_
  refine lv_topi (fun x_14 ex_14 => ?_)
  refine lv_istore_n (lv' := [(0, .int x_14)]) hx hb dJ6_bitCount_0f7a4_47 rfl hl (by decide) rfl (fun ls hl => ?_)
  refine lv_iload_n hx hb dJ6_bitCount_0f7a4_48 rfl (lv_at hl 0 rfl) ?_
  refine lv_bipush (v := 63) hx hb dJ6_bitCount_0f7a4_49 (by decide) ?_
  refine lv_iand hx hb dJ6_bitCount_0f7a4_51 ?_
  refine lv_topi (fun x_15 ex_15 => ?_)
  have hP9 := hP.sub (ws' := []) [] rfl
  have hD9 := hD.sub (ws' := []) [] (by decide) rfl
  exact W.iret (v := x_15) hx hb hr (fun tS ht hW => ⟨⟨x_15, (), rfl, trivial, by rw [ht]; exact hP9, va_K.moved hW.alike hK, hD9⟩, hS.F ht⟩) hS.2.2 dJ6_bitCount_0f7a4_52

theorem q478 : Cond.code yX4_hasRoom cX4_hasRoom 1 (some .boolean) ∈ lw_g := lw_gm (List.mem_of_getElem? (i := 478) (by decide +kernel)) rfl
theorem q158 : Cond.fieldLink RX4 19 "LipsAndSlides$Reader" "length" "I" ∈ lw_g := lw_gm (List.mem_of_getElem? (i := 158) (by decide +kernel)) rfl
theorem dX4_hasRoom_0 : decode cX4_hasRoom 0 = .ok (.aload_n 0, 1) := by decide +kernel
theorem dX4_hasRoom_1 : decode cX4_hasRoom 1 = .ok (.getfield 19, 3) := by decide +kernel
theorem dX4_hasRoom_4 : decode cX4_hasRoom 4 = .ok (.ifCond .lt 20, 3) := by decide +kernel
theorem dX4_hasRoom_7 : decode cX4_hasRoom 7 = .ok (.aload_n 0, 1) := by decide +kernel
theorem dX4_hasRoom_8 : decode cX4_hasRoom 8 = .ok (.getfield 19, 3) := by decide +kernel
theorem dX4_hasRoom_11 : decode cX4_hasRoom 11 = .ok (.bipush 20, 2) := by decide +kernel
theorem dX4_hasRoom_13 : decode cX4_hasRoom 13 = .ok (.iadd, 1) := by decide +kernel
theorem dX4_hasRoom_14 : decode cX4_hasRoom 14 = .ok (.sipush 2000, 3) := by decide +kernel
theorem dX4_hasRoom_17 : decode cX4_hasRoom 17 = .ok (.if_icmp .gt 7, 3) := by decide +kernel
theorem dX4_hasRoom_20 : decode cX4_hasRoom 20 = .ok (.iconst 1, 1) := by decide +kernel
theorem dX4_hasRoom_21 : decode cX4_hasRoom 21 = .ok (.goto 4, 3) := by decide +kernel
theorem dX4_hasRoom_25 : decode cX4_hasRoom 25 = .ok (.ireturn, 1) := by decide +kernel
set_option maxHeartbeats 4000000 in
set_option maxRecDepth 100000 in
theorem c_X4_hasRoom (l : Launch) (D : va_G) (cy : Nat → ClassId) (h : Nat) (t : Nat) (sz : Nat) : Met l yX4_hasRoom (ww yX4_hasRoom cX4_hasRoom 1 (some .boolean)) ({ frames := 1, cells := 0, slots := 0, locals := 64 }) (va_Pc [.ref h] (pre D cy [(h, .inr (4, [.ref t, .int 0, .int 0, .int (-1), .int 0, .int 0, .int 0, .int 0]))] sz)) (qi D cy (va_A [(h, .inr (4, [.ref t, .int 0, .int 0, .int (-1), .int 0, .int 0, .int 0, .int 0]))] sz) (fun (r : Int32) (_ : Unit) => r = 1) (fun (_ : Unit) => [(h, .inr (4, [.ref t, .int 0, .int 0, .int (-1), .int 0, .int 0, .int 0, .int 0]))])) 0 0 (va_A [(h, .inr (4, [.ref t, .int 0, .int 0, .int (-1), .int 0, .int 0, .int 0, .int 0]))] sz) := by
  refine Met.ofW (cc := cX4_hasRoom) (maxL := 1) (ret := (some .boolean)) (by decide) rfl ?_
  intro p e s m args below meth c s₁ B hml hv
  obtain ⟨rfl, hsz, hP, hK, hD0⟩ := hv
  have hx := B.exec
  have hb := B.bytes
  have hr := B.returns
  have hts := hts_g (atoms_spec (ws := ww yX4_hasRoom cX4_hasRoom 1 (some .boolean)) B.pre)
  have hown : s.vm.findClass RX4 = some m.cls := findClass_of_methodNamed B.named
  have hlocks := B.notSynchronized
  subst hsz
  have hD := hD0.self (sz := s.heap.size)
  generalize hAe : va_A [(h, .inr (4, [.ref t, .int 0, .int 0, .int (-1), .int 0, .int 0, .int 0, .int 0]))] s.heap.size = A at hD ⊢
  have hA : ∀ q : Nat, s.heap.size ≤ q → A q := fun q h => by rw [← hAe]; exact Or.inr h
  have hS : va_S A s.heap s.heap [] := va_S.rf
  have hl := lv_entry ([.ref h]) (n := 1) (Nat.le_of_ble_eq_true rfl)
  rw [lg_entry_eq]
  generalize (lg_sl ([.ref h]) ++ List.replicate (1 - (lg_sl ([.ref h])).length) Slot.unset).toArray = ls at hl ⊢
  have hl : lv_has ls 1 [(0, .ref h)] := hl
  refine lv_aload_n hx hb dX4_hasRoom_0 rfl (lv_at hl 0 rfl) ?_
  refine va_get (D := D) (ci := 4) (v := .int 0) (C := RX4) (T := TX4) (N := 8) hx hb hts iX4 hown hK hP 0 rfl rfl 1 (by decide) (hts _ q158) (fun _ h9 => h9) rfl dX4_hasRoom_1 ?_
  refine lv_if_lt (tgt := 24) hx hb dX4_hasRoom_4 (by decide) (fun c9 => absurd c9 (by decide)) (fun _ => ?_)
  refine lv_aload_n hx hb dX4_hasRoom_7 rfl (lv_at hl 0 rfl) ?_
  refine va_get (D := D) (ci := 4) (v := .int 0) (C := RX4) (T := TX4) (N := 8) hx hb hts iX4 hown hK hP 0 rfl rfl 1 (by decide) (hts _ q158) (fun _ h9 => h9) rfl dX4_hasRoom_8 ?_
  refine lv_bipush (v := 20) hx hb dX4_hasRoom_11 (by decide) ?_
  refine lv_iadd hx hb dX4_hasRoom_13 ?_
  refine lv_topi (fun x_1 ex_1 => ?_)
  obtain rfl : x_1 = 20 := ex_1.trans (by decide)
  refine lv_sipush (v := 2000) hx hb dX4_hasRoom_14 (by decide) ?_
  refine lv_icmp_gt (tgt := 24) hx hb dX4_hasRoom_17 (by decide) (fun c9 => absurd c9 (by decide)) (fun _ => ?_)
  refine lv_iconst (v := 1) hx hb dX4_hasRoom_20 (by decide) ?_
  refine lv_goto (tgt := 25) hx hb dX4_hasRoom_21 (by decide) ?_
  have hP9 := hP.sub (ws' := [(h, .inr (4, [.ref t, .int 0, .int 0, .int (-1), .int 0, .int 0, .int 0, .int 0]))]) [0] rfl
  have hD9 := hD.sub (ws' := [(h, .inr (4, [.ref t, .int 0, .int 0, .int (-1), .int 0, .int 0, .int 0, .int 0]))]) [0] (by decide) rfl
  exact W.zret (v := 1) hx hb hr rfl (fun tS ht hW => ⟨⟨1, (), rfl, rfl, by rw [ht]; exact hP9, va_K.moved hW.alike hK, hD9⟩, hS.F ht⟩) hS.2.2 dX4_hasRoom_25

theorem q509 : Cond.code yX4_kindOf cX4_kindOf 1 (some .int) ∈ lw_g := lw_gm (List.mem_of_getElem? (i := 509) (by decide +kernel)) rfl
theorem dX4_kindOf_0 : decode cX4_kindOf 0 = .ok (.iload_n 0, 1) := by decide +kernel
theorem dX4_kindOf_1 : decode cX4_kindOf 1 = .ok (.bipush 97, 2) := by decide +kernel
theorem dX4_kindOf_3 : decode cX4_kindOf 3 = .ok (.if_icmp .lt 11, 3) := by decide +kernel
theorem dX4_kindOf_6 : decode cX4_kindOf 6 = .ok (.iload_n 0, 1) := by decide +kernel
theorem dX4_kindOf_7 : decode cX4_kindOf 7 = .ok (.bipush 122, 2) := by decide +kernel
theorem dX4_kindOf_9 : decode cX4_kindOf 9 = .ok (.if_icmp .gt 5, 3) := by decide +kernel
theorem dX4_kindOf_14 : decode cX4_kindOf 14 = .ok (.iload_n 0, 1) := by decide +kernel
theorem dX4_kindOf_15 : decode cX4_kindOf 15 = .ok (.bipush 48, 2) := by decide +kernel
theorem dX4_kindOf_17 : decode cX4_kindOf 17 = .ok (.if_icmp .lt 11, 3) := by decide +kernel
theorem dX4_kindOf_20 : decode cX4_kindOf 20 = .ok (.iload_n 0, 1) := by decide +kernel
theorem dX4_kindOf_21 : decode cX4_kindOf 21 = .ok (.bipush 57, 2) := by decide +kernel
theorem dX4_kindOf_23 : decode cX4_kindOf 23 = .ok (.if_icmp .gt 5, 3) := by decide +kernel
theorem dX4_kindOf_28 : decode cX4_kindOf 28 = .ok (.iload_n 0, 1) := by decide +kernel
theorem dX4_kindOf_29 : decode cX4_kindOf 29 = .ok (.lookupswitch 49 #[(10, 45), (32, 45), (59, 47), (256, 43)], 43) := by decide +kernel
theorem dX4_kindOf_72 : decode cX4_kindOf 72 = .ok (.iconst 0, 1) := by decide +kernel
theorem dX4_kindOf_73 : decode cX4_kindOf 73 = .ok (.ireturn, 1) := by decide +kernel
set_option maxHeartbeats 4000000 in
set_option maxRecDepth 100000 in
theorem c_X4_kindOf (l : Launch) (D : va_G) (cy : Nat → ClassId)  (sz : Nat) : Met l yX4_kindOf (ww yX4_kindOf cX4_kindOf 1 (some .int)) ({ frames := 1, cells := 0, slots := 0, locals := 64 }) (va_Pc [.int 256] (pre D cy [] sz)) (qi D cy (va_A [] sz) (fun (r : Int32) (_ : Unit) => r = 0) (fun (_ : Unit) => [])) 0 0 (va_A [] sz) := by
  refine Met.ofW (cc := cX4_kindOf) (maxL := 1) (ret := (some .int)) (by decide) rfl ?_
  intro p e s m args below meth c s₁ B hml hv
  obtain ⟨rfl, hsz, hP, hK, hD0⟩ := hv
  have hx := B.exec
  have hb := B.bytes
  have hr := B.returns
  have hts := hts_g (atoms_spec (ws := ww yX4_kindOf cX4_kindOf 1 (some .int)) B.pre)
  have hown : s.vm.findClass RX4 = some m.cls := findClass_of_methodNamed B.named
  have hlocks := B.notSynchronized
  subst hsz
  have hD := hD0.self (sz := s.heap.size)
  generalize hAe : va_A [] s.heap.size = A at hD ⊢
  have hA : ∀ q : Nat, s.heap.size ≤ q → A q := fun q h => by rw [← hAe]; exact Or.inr h
  have hS : va_S A s.heap s.heap [] := va_S.rf
  have hl := lv_entry ([.int 256]) (n := 1) (Nat.le_of_ble_eq_true rfl)
  rw [lg_entry_eq]
  generalize (lg_sl ([.int 256]) ++ List.replicate (1 - (lg_sl ([.int 256])).length) Slot.unset).toArray = ls at hl ⊢
  have hl : lv_has ls 1 [(0, .int 256)] := hl
  refine lv_iload_n hx hb dX4_kindOf_0 rfl (lv_at hl 0 rfl) ?_
  refine lv_bipush (v := 97) hx hb dX4_kindOf_1 (by decide) ?_
  refine lv_icmp_lt (tgt := 14) hx hb dX4_kindOf_3 (by decide) (fun c9 => absurd c9 (by decide)) (fun _ => ?_)
  refine lv_iload_n hx hb dX4_kindOf_6 rfl (lv_at hl 0 rfl) ?_
  refine lv_bipush (v := 122) hx hb dX4_kindOf_7 (by decide) ?_
  refine lv_icmp_gt (tgt := 14) hx hb dX4_kindOf_9 (by decide) (fun _ => ?_) (fun c9 => absurd c9 (by decide))
  refine lv_iload_n hx hb dX4_kindOf_14 rfl (lv_at hl 0 rfl) ?_
  refine lv_bipush (v := 48) hx hb dX4_kindOf_15 (by decide) ?_
  refine lv_icmp_lt (tgt := 28) hx hb dX4_kindOf_17 (by decide) (fun c9 => absurd c9 (by decide)) (fun _ => ?_)
  refine lv_iload_n hx hb dX4_kindOf_20 rfl (lv_at hl 0 rfl) ?_
  refine lv_bipush (v := 57) hx hb dX4_kindOf_21 (by decide) ?_
  refine lv_icmp_gt (tgt := 28) hx hb dX4_kindOf_23 (by decide) (fun _ => ?_) (fun c9 => absurd c9 (by decide))
  refine lv_iload_n hx hb dX4_kindOf_28 rfl (lv_at hl 0 rfl) ?_
  refine lv_lookup (off := 43) (tgt := 72) hx hb dX4_kindOf_29 (by decide) (by decide) (by decide) ?_
  refine lv_iconst (v := 0) hx hb dX4_kindOf_72 (by decide) ?_
  have hP9 := hP.sub (ws' := []) [] rfl
  have hD9 := hD.sub (ws' := []) [] (by decide) rfl
  exact W.iret (v := 0) hx hb hr (fun tS ht hW => ⟨⟨0, (), rfl, rfl, by rw [ht]; exact hP9, va_K.moved hW.alike hK, hD9⟩, hS.F ht⟩) hS.2.2 dX4_kindOf_73

theorem q506 : Cond.code yX4_byteAt cX4_byteAt 2 (some .int) ∈ lw_g := lw_gm (List.mem_of_getElem? (i := 506) (by decide +kernel)) rfl
theorem dX4_byteAt_0 : decode cX4_byteAt 0 = .ok (.iload_n 1, 1) := by decide +kernel
theorem dX4_byteAt_1 : decode cX4_byteAt 1 = .ok (.ifCond .lt 31, 3) := by decide +kernel
theorem dX4_byteAt_4 : decode cX4_byteAt 4 = .ok (.iload_n 1, 1) := by decide +kernel
theorem dX4_byteAt_5 : decode cX4_byteAt 5 = .ok (.aload_n 0, 1) := by decide +kernel
theorem dX4_byteAt_6 : decode cX4_byteAt 6 = .ok (.getfield 19, 3) := by decide +kernel
theorem dX4_byteAt_9 : decode cX4_byteAt 9 = .ok (.if_icmp .ge 23, 3) := by decide +kernel
theorem dX4_byteAt_32 : decode cX4_byteAt 32 = .ok (.sipush 256, 3) := by decide +kernel
theorem dX4_byteAt_35 : decode cX4_byteAt 35 = .ok (.ireturn, 1) := by decide +kernel
set_option maxHeartbeats 4000000 in
set_option maxRecDepth 100000 in
theorem c_X4_byteAt (l : Launch) (D : va_G) (cy : Nat → ClassId) (h : Nat) (t : Nat) (sz : Nat) : Met l yX4_byteAt (ww yX4_byteAt cX4_byteAt 2 (some .int)) ({ frames := 1, cells := 0, slots := 0, locals := 64 }) (va_Pc [.ref h, .int 0] (pre D cy [(h, .inr (4, [.ref t, .int 0, .int 0, .int (-1), .int 0, .int 0, .int 0, .int 0]))] sz)) (qi D cy (va_A [(h, .inr (4, [.ref t, .int 0, .int 0, .int (-1), .int 0, .int 0, .int 0, .int 0]))] sz) (fun (r : Int32) (_ : Unit) => r = 256) (fun (_ : Unit) => [(h, .inr (4, [.ref t, .int 0, .int 0, .int (-1), .int 0, .int 0, .int 0, .int 0]))])) 0 0 (va_A [(h, .inr (4, [.ref t, .int 0, .int 0, .int (-1), .int 0, .int 0, .int 0, .int 0]))] sz) := by
  refine Met.ofW (cc := cX4_byteAt) (maxL := 2) (ret := (some .int)) (by decide) rfl ?_
  intro p e s m args below meth c s₁ B hml hv
  obtain ⟨rfl, hsz, hP, hK, hD0⟩ := hv
  have hx := B.exec
  have hb := B.bytes
  have hr := B.returns
  have hts := hts_g (atoms_spec (ws := ww yX4_byteAt cX4_byteAt 2 (some .int)) B.pre)
  have hown : s.vm.findClass RX4 = some m.cls := findClass_of_methodNamed B.named
  have hlocks := B.notSynchronized
  subst hsz
  have hD := hD0.self (sz := s.heap.size)
  generalize hAe : va_A [(h, .inr (4, [.ref t, .int 0, .int 0, .int (-1), .int 0, .int 0, .int 0, .int 0]))] s.heap.size = A at hD ⊢
  have hA : ∀ q : Nat, s.heap.size ≤ q → A q := fun q h => by rw [← hAe]; exact Or.inr h
  have hS : va_S A s.heap s.heap [] := va_S.rf
  have hl := lv_entry ([.ref h, .int 0]) (n := 2) (Nat.le_of_ble_eq_true rfl)
  rw [lg_entry_eq]
  generalize (lg_sl ([.ref h, .int 0]) ++ List.replicate (2 - (lg_sl ([.ref h, .int 0])).length) Slot.unset).toArray = ls at hl ⊢
  have hl : lv_has ls 2 [(0, .ref h), (1, .int 0)] := hl
  refine lv_iload_n hx hb dX4_byteAt_0 rfl (lv_at hl 1 rfl) ?_
  refine lv_if_lt (tgt := 32) hx hb dX4_byteAt_1 (by decide) (fun c9 => absurd c9 (by decide)) (fun _ => ?_)
  refine lv_iload_n hx hb dX4_byteAt_4 rfl (lv_at hl 1 rfl) ?_
  refine lv_aload_n hx hb dX4_byteAt_5 rfl (lv_at hl 0 rfl) ?_
  refine va_get (D := D) (ci := 4) (v := .int 0) (C := RX4) (T := TX4) (N := 8) hx hb hts iX4 hown hK hP 0 rfl rfl 1 (by decide) (hts _ q158) (fun _ h9 => h9) rfl dX4_byteAt_6 ?_
  refine lv_icmp_ge (tgt := 32) hx hb dX4_byteAt_9 (by decide) (fun _ => ?_) (fun c9 => absurd c9 (by decide))
  refine lv_sipush (v := 256) hx hb dX4_byteAt_32 (by decide) ?_
  have hP9 := hP.sub (ws' := [(h, .inr (4, [.ref t, .int 0, .int 0, .int (-1), .int 0, .int 0, .int 0, .int 0]))]) [0] rfl
  have hD9 := hD.sub (ws' := [(h, .inr (4, [.ref t, .int 0, .int 0, .int (-1), .int 0, .int 0, .int 0, .int 0]))]) [0] (by decide) rfl
  exact W.iret (v := 256) hx hb hr (fun tS ht hW => ⟨⟨256, (), rfl, rfl, by rw [ht]; exact hP9, va_K.moved hW.alike hK, hD9⟩, hS.F ht⟩) hS.2.2 dX4_byteAt_35

theorem q502 : Cond.code yX4_takeToken cX4_takeToken 2 none ∈ lw_g := lw_gm (List.mem_of_getElem? (i := 502) (by decide +kernel)) rfl
theorem q164 : Cond.fieldLink RX4 30 "LipsAndSlides$Reader" "next" "I" ∈ lw_g := lw_gm (List.mem_of_getElem? (i := 164) (by decide +kernel)) rfl
theorem q503 : Cond.methodLink RX4 180 yX4_byteAt ∈ lw_g := lw_gm (List.mem_of_getElem? (i := 503) (by decide +kernel)) rfl
theorem q505 : Cond.instanceMethod yX4_byteAt ∈ lw_g := lw_gm (List.mem_of_getElem? (i := 505) (by decide +kernel)) rfl
theorem q1 : Cond.selects RX4 yX4_byteAt yX4_byteAt ∈ lw_g := lw_gm (List.mem_of_getElem? (i := 1) (by decide +kernel)) rfl
theorem q126 : Cond.initialized RX4 ∈ lw_g := lw_gm (List.mem_of_getElem? (i := 126) (by decide +kernel)) rfl
theorem q507 : Cond.methodLink RX4 187 yX4_kindOf ∈ lw_g := lw_gm (List.mem_of_getElem? (i := 507) (by decide +kernel)) rfl
theorem q508 : Cond.static yX4_kindOf ∈ lw_g := lw_gm (List.mem_of_getElem? (i := 508) (by decide +kernel)) rfl
theorem q165 : Cond.fieldLink RX4 172 "LipsAndSlides$Reader" "place" "I" ∈ lw_g := lw_gm (List.mem_of_getElem? (i := 165) (by decide +kernel)) rfl
theorem q166 : Cond.fieldLink RX4 36 "LipsAndSlides$Reader" "token" "I" ∈ lw_g := lw_gm (List.mem_of_getElem? (i := 166) (by decide +kernel)) rfl
theorem q167 : Cond.fieldLink RX4 169 "LipsAndSlides$Reader" "value" "I" ∈ lw_g := lw_gm (List.mem_of_getElem? (i := 167) (by decide +kernel)) rfl
theorem dX4_takeToken_0 : decode cX4_takeToken 0 = .ok (.iconst 0, 1) := by decide +kernel
theorem dX4_takeToken_1 : decode cX4_takeToken 1 = .ok (.istore_n 1, 1) := by decide +kernel
theorem dX4_takeToken_2 : decode cX4_takeToken 2 = .ok (.iload_n 1, 1) := by decide +kernel
theorem dX4_takeToken_3 : decode cX4_takeToken 3 = .ok (.sipush 2000, 3) := by decide +kernel
theorem dX4_takeToken_6 : decode cX4_takeToken 6 = .ok (.if_icmp .ge 34, 3) := by decide +kernel
theorem dX4_takeToken_9 : decode cX4_takeToken 9 = .ok (.aload_n 0, 1) := by decide +kernel
theorem dX4_takeToken_10 : decode cX4_takeToken 10 = .ok (.aload_n 0, 1) := by decide +kernel
theorem dX4_takeToken_11 : decode cX4_takeToken 11 = .ok (.getfield 30, 3) := by decide +kernel
theorem dX4_takeToken_14 : decode cX4_takeToken 14 = .ok (.invokevirtual 180, 3) := by decide +kernel
theorem dX4_takeToken_17 : decode cX4_takeToken 17 = .ok (.invokestatic 187, 3) := by decide +kernel
theorem dX4_takeToken_20 : decode cX4_takeToken 20 = .ok (.iconst 5, 1) := by decide +kernel
theorem dX4_takeToken_21 : decode cX4_takeToken 21 = .ok (.if_icmp .ne 19, 3) := by decide +kernel
theorem dX4_takeToken_40 : decode cX4_takeToken 40 = .ok (.aload_n 0, 1) := by decide +kernel
theorem dX4_takeToken_41 : decode cX4_takeToken 41 = .ok (.aload_n 0, 1) := by decide +kernel
theorem dX4_takeToken_42 : decode cX4_takeToken 42 = .ok (.getfield 30, 3) := by decide +kernel
theorem dX4_takeToken_45 : decode cX4_takeToken 45 = .ok (.putfield 172, 3) := by decide +kernel
theorem dX4_takeToken_48 : decode cX4_takeToken 48 = .ok (.aload_n 0, 1) := by decide +kernel
theorem dX4_takeToken_49 : decode cX4_takeToken 49 = .ok (.aload_n 0, 1) := by decide +kernel
theorem dX4_takeToken_50 : decode cX4_takeToken 50 = .ok (.aload_n 0, 1) := by decide +kernel
theorem dX4_takeToken_51 : decode cX4_takeToken 51 = .ok (.getfield 30, 3) := by decide +kernel
theorem dX4_takeToken_54 : decode cX4_takeToken 54 = .ok (.invokevirtual 180, 3) := by decide +kernel
theorem dX4_takeToken_57 : decode cX4_takeToken 57 = .ok (.invokestatic 187, 3) := by decide +kernel
theorem dX4_takeToken_60 : decode cX4_takeToken 60 = .ok (.putfield 36, 3) := by decide +kernel
theorem dX4_takeToken_63 : decode cX4_takeToken 63 = .ok (.aload_n 0, 1) := by decide +kernel
theorem dX4_takeToken_64 : decode cX4_takeToken 64 = .ok (.iconst 0, 1) := by decide +kernel
theorem dX4_takeToken_65 : decode cX4_takeToken 65 = .ok (.putfield 169, 3) := by decide +kernel
theorem dX4_takeToken_68 : decode cX4_takeToken 68 = .ok (.iconst 0, 1) := by decide +kernel
theorem dX4_takeToken_69 : decode cX4_takeToken 69 = .ok (.istore_n 1, 1) := by decide +kernel
theorem dX4_takeToken_70 : decode cX4_takeToken 70 = .ok (.iload_n 1, 1) := by decide +kernel
theorem dX4_takeToken_71 : decode cX4_takeToken 71 = .ok (.sipush 2000, 3) := by decide +kernel
theorem dX4_takeToken_74 : decode cX4_takeToken 74 = .ok (.if_icmp .ge 99, 3) := by decide +kernel
theorem dX4_takeToken_77 : decode cX4_takeToken 77 = .ok (.aload_n 0, 1) := by decide +kernel
theorem dX4_takeToken_78 : decode cX4_takeToken 78 = .ok (.getfield 36, 3) := by decide +kernel
theorem dX4_takeToken_81 : decode cX4_takeToken 81 = .ok (.ifCond .eq 92, 3) := by decide +kernel
theorem dX4_takeToken_173 : decode cX4_takeToken 173 = .ok (.return_, 1) := by decide +kernel
set_option maxHeartbeats 4000000 in
set_option maxRecDepth 100000 in
theorem c_X4_takeToken (l : Launch) (D : va_G) (cy : Nat → ClassId) (h : Nat) (t : Nat) (sz : Nat) : Met l yX4_takeToken (ww yX4_takeToken cX4_takeToken 2 none) ({ frames := 2, cells := 0, slots := 0, locals := 128 }) (va_Pc [.ref h] (pre D cy [(h, .inr (4, [.ref t, .int 0, .int 0, .int (-1), .int 0, .int 0, .int 0, .int 0]))] sz)) (qv D cy (va_A [(h, .inr (4, [.ref t, .int 0, .int 0, .int (-1), .int 0, .int 0, .int 0, .int 0]))] sz) (fun (_ : Unit) => True) (fun (_ : Unit) => [(h, .inr (4, [.ref t, .int 0, .int 0, .int (-1), .int 0, .int 0, .int 0, .int 0]))])) 0 0 (va_A [(h, .inr (4, [.ref t, .int 0, .int 0, .int (-1), .int 0, .int 0, .int 0, .int 0]))] sz) := by
  refine Met.ofW (cc := cX4_takeToken) (maxL := 2) (ret := none) (by decide) rfl ?_
  intro p e s m args below meth c s₁ B hml hv
  obtain ⟨rfl, hsz, hP, hK, hD0⟩ := hv
  have hx := B.exec
  have hb := B.bytes
  have hr := B.returns
  have hts := hts_g (atoms_spec (ws := ww yX4_takeToken cX4_takeToken 2 none) B.pre)
  have hown : s.vm.findClass RX4 = some m.cls := findClass_of_methodNamed B.named
  have hlocks := B.notSynchronized
  subst hsz
  have hD := hD0.self (sz := s.heap.size)
  generalize hAe : va_A [(h, .inr (4, [.ref t, .int 0, .int 0, .int (-1), .int 0, .int 0, .int 0, .int 0]))] s.heap.size = A at hD ⊢
  have hA : ∀ q : Nat, s.heap.size ≤ q → A q := fun q h => by rw [← hAe]; exact Or.inr h
  have hS : va_S A s.heap s.heap [] := va_S.rf
  have hl := lv_entry ([.ref h]) (n := 2) (Nat.le_of_ble_eq_true rfl)
  rw [lg_entry_eq]
  generalize (lg_sl ([.ref h]) ++ List.replicate (2 - (lg_sl ([.ref h])).length) Slot.unset).toArray = ls at hl ⊢
  have hl : lv_has ls 2 [(0, .ref h)] := hl
  refine lv_iconst (v := 0) hx hb dX4_takeToken_0 (by decide) ?_
  refine lv_istore_n (lv' := [(1, .int 0), (0, .ref h)]) hx hb dX4_takeToken_1 rfl hl (by decide) rfl (fun ls hl => ?_)
  refine lv_iload_n hx hb dX4_takeToken_2 rfl (lv_at hl 0 rfl) ?_
  refine lv_sipush (v := 2000) hx hb dX4_takeToken_3 (by decide) ?_
  refine lv_icmp_ge (tgt := 40) hx hb dX4_takeToken_6 (by decide) (fun c9 => absurd c9 (by decide)) (fun _ => ?_)
  refine lv_aload_n hx hb dX4_takeToken_9 rfl (lv_at hl 1 rfl) ?_
  refine lv_aload_n hx hb dX4_takeToken_10 rfl (lv_at hl 1 rfl) ?_
  refine va_get (D := D) (ci := 4) (v := .int 0) (C := RX4) (T := TX4) (N := 8) hx hb hts iX4 hown hK hP 0 rfl rfl 4 (by decide) (hts _ q164) (fun _ h9 => h9) rfl dX4_takeToken_11 ?_
  have hPc := hP.sub (ws' := [(h, .inr (4, [.ref t, .int 0, .int 0, .int (-1), .int 0, .int 0, .int 0, .int 0]))]) [0] rfl
  have hDc := hD.sub (ws' := [(h, .inr (4, [.ref t, .int 0, .int 0, .int (-1), .int 0, .int 0, .int 0, .int 0]))]) [0] (by decide) rfl
  have hFc := va_free (wc := [(h, .inr (4, [.ref t, .int 0, .int 0, .int (-1), .int 0, .int 0, .int 0, .int 0]))]) hD hS hA [0] rfl
  refine va_calli (va_runV (As := [.int 0]) (rest := []) ⟨hx, hb, hml, hown, hts⟩ (c_X4_byteAt l D cy h t s.heap.size) (cwV 1 hts (gd_V q503 q505 q1 q126 q506) rfl rfl rfl (by decide +kernel) ⟨Nat.le_of_ble_eq_true rfl, Nat.le_of_ble_eq_true rfl⟩) (pr_V hPc hK hDc (va_recv hK hPc (ci := 4) (q0 := 0) rfl rfl)) rfl rfl hl.1 rfl (lv_room (Nat.le_of_ble_eq_true rfl)) dX4_takeToken_14 ⟨Nat.le_of_ble_eq_true rfl, Nat.le_of_ble_eq_true rfl⟩) hS (fun q _ h => hFc q h) hFc (fun r_1 u tS H1 locs ht hvm hw hB hz1 hk1 hS => ?_)
  obtain ⟨hP1, hK1, hD1⟩ := hB
  rw [ht] at hP1
  try dsimp only at hw
  obtain ⟨hP, hD⟩ := va_join (wr := []) (w1 := [(h, .inr (4, [.ref t, .int 0, .int 0, .int (-1), .int 0, .int 0, .int 0, .int 0]))]) hP hD [0] [] rfl rfl (by decide) (by decide) hk1 hFc hP1 hD1
  generalize H1 = H at hP hS ⊢
  have hP : va_P D clz [(h, .inr (4, [.ref t, .int 0, .int 0, .int (-1), .int 0, .int 0, .int 0, .int 0]))] H := hP
  have hD : va_D A [(h, .inr (4, [.ref t, .int 0, .int 0, .int (-1), .int 0, .int 0, .int 0, .int 0]))] := hD
  subst hw
  have hPc := hP.sub (ws' := []) [] rfl
  have hDc := hD.sub (ws' := []) [] (by decide) rfl
  have hFc := va_free (wc := []) hD hS hA [] rfl
  refine va_calli (va_runS (As := [.int 256]) (rest := []) ⟨hx, hb, hml, hown, hts⟩ (c_X4_kindOf l D cy  H.size) (va_cwS 1 hts (gd_S q507 q508 q126 q509) rfl rfl rfl (by decide +kernel) ⟨Nat.le_of_ble_eq_true rfl, Nat.le_of_ble_eq_true rfl⟩) (pr_S hPc hK hDc) rfl rfl hl.1 rfl (lv_room (Nat.le_of_ble_eq_true rfl)) dX4_takeToken_17 ⟨Nat.le_of_ble_eq_true rfl, Nat.le_of_ble_eq_true rfl⟩) hS (fun q _ h => hFc q h) hFc (fun r_2 u tS H1 locs ht hvm hw hB hz1 hk1 hS => ?_)
  obtain ⟨hP1, hK1, hD1⟩ := hB
  rw [ht] at hP1
  try dsimp only at hw
  obtain ⟨hP, hD⟩ := va_join (wr := [(h, .inr (4, [.ref t, .int 0, .int 0, .int (-1), .int 0, .int 0, .int 0, .int 0]))]) (w1 := []) hP hD [] [0] rfl rfl (by decide) (by decide) hk1 hFc hP1 hD1
  generalize H1 = H at hP hS ⊢
  have hP : va_P D clz [(h, .inr (4, [.ref t, .int 0, .int 0, .int (-1), .int 0, .int 0, .int 0, .int 0]))] H := hP
  have hD : va_D A [(h, .inr (4, [.ref t, .int 0, .int 0, .int (-1), .int 0, .int 0, .int 0, .int 0]))] := hD
  subst hw
  refine lv_iconst (v := 5) hx hb dX4_takeToken_20 (by decide) ?_
  refine lv_icmp_ne (tgt := 40) hx hb dX4_takeToken_21 (by decide) (fun _ => ?_) (fun c9 => absurd c9 (by decide))
  refine lv_aload_n hx hb dX4_takeToken_40 rfl (lv_at hl 1 rfl) ?_
  refine lv_aload_n hx hb dX4_takeToken_41 rfl (lv_at hl 1 rfl) ?_
  refine va_get (D := D) (ci := 4) (v := .int 0) (C := RX4) (T := TX4) (N := 8) hx hb hts iX4 hown hK hP 0 rfl rfl 4 (by decide) (hts _ q164) (fun _ h9 => h9) rfl dX4_takeToken_42 ?_
  refine va_put (D := D) (ci := 4) (v := .int 0) (ty := .int) (C := RX4) (T := TX4) (N := 8) hx hb hts iX4 tyX4 tyX4_ok nmX4 hown hK hP hD hS 0 rfl rfl 5 (by decide) (hts _ q165) (fun _ h9 => h9) rfl (by decide +kernel) rfl rfl (Nat.le_of_ble_eq_true rfl) dX4_takeToken_45 (fun H locs hP hD hS => ?_)
  have hP : va_P D clz [(h, .inr (4, [.ref t, .int 0, .int 0, .int (-1), .int 0, .int 0, .int 0, .int 0]))] H := hP
  have hD : va_D A [(h, .inr (4, [.ref t, .int 0, .int 0, .int (-1), .int 0, .int 0, .int 0, .int 0]))] := hD
  refine lv_aload_n hx hb dX4_takeToken_48 rfl (lv_at hl 1 rfl) ?_
  refine lv_aload_n hx hb dX4_takeToken_49 rfl (lv_at hl 1 rfl) ?_
  refine lv_aload_n hx hb dX4_takeToken_50 rfl (lv_at hl 1 rfl) ?_
  refine va_get (D := D) (ci := 4) (v := .int 0) (C := RX4) (T := TX4) (N := 8) hx hb hts iX4 hown hK hP 0 rfl rfl 4 (by decide) (hts _ q164) (fun _ h9 => h9) rfl dX4_takeToken_51 ?_
  have hPc := hP.sub (ws' := [(h, .inr (4, [.ref t, .int 0, .int 0, .int (-1), .int 0, .int 0, .int 0, .int 0]))]) [0] rfl
  have hDc := hD.sub (ws' := [(h, .inr (4, [.ref t, .int 0, .int 0, .int (-1), .int 0, .int 0, .int 0, .int 0]))]) [0] (by decide) rfl
  have hFc := va_free (wc := [(h, .inr (4, [.ref t, .int 0, .int 0, .int (-1), .int 0, .int 0, .int 0, .int 0]))]) hD hS hA [0] rfl
  refine va_calli (va_runV (As := [.int 0]) (rest := [.ref h]) ⟨hx, hb, hml, hown, hts⟩ (c_X4_byteAt l D cy h t H.size) (cwV 1 hts (gd_V q503 q505 q1 q126 q506) rfl rfl rfl (by decide +kernel) ⟨Nat.le_of_ble_eq_true rfl, Nat.le_of_ble_eq_true rfl⟩) (pr_V hPc hK hDc (va_recv hK hPc (ci := 4) (q0 := 0) rfl rfl)) rfl rfl hl.1 rfl (lv_room (Nat.le_of_ble_eq_true rfl)) dX4_takeToken_54 ⟨Nat.le_of_ble_eq_true rfl, Nat.le_of_ble_eq_true rfl⟩) hS (fun q _ h => hFc q h) hFc (fun r_3 u tS H1 locs ht hvm hw hB hz1 hk1 hS => ?_)
  obtain ⟨hP1, hK1, hD1⟩ := hB
  rw [ht] at hP1
  try dsimp only at hw
  obtain ⟨hP, hD⟩ := va_join (wr := []) (w1 := [(h, .inr (4, [.ref t, .int 0, .int 0, .int (-1), .int 0, .int 0, .int 0, .int 0]))]) hP hD [0] [] rfl rfl (by decide) (by decide) hk1 hFc hP1 hD1
  generalize H1 = H at hP hS ⊢
  have hP : va_P D clz [(h, .inr (4, [.ref t, .int 0, .int 0, .int (-1), .int 0, .int 0, .int 0, .int 0]))] H := hP
  have hD : va_D A [(h, .inr (4, [.ref t, .int 0, .int 0, .int (-1), .int 0, .int 0, .int 0, .int 0]))] := hD
  subst hw
  have hPc := hP.sub (ws' := []) [] rfl
  have hDc := hD.sub (ws' := []) [] (by decide) rfl
  have hFc := va_free (wc := []) hD hS hA [] rfl
  refine va_calli (va_runS (As := [.int 256]) (rest := [.ref h]) ⟨hx, hb, hml, hown, hts⟩ (c_X4_kindOf l D cy  H.size) (va_cwS 1 hts (gd_S q507 q508 q126 q509) rfl rfl rfl (by decide +kernel) ⟨Nat.le_of_ble_eq_true rfl, Nat.le_of_ble_eq_true rfl⟩) (pr_S hPc hK hDc) rfl rfl hl.1 rfl (lv_room (Nat.le_of_ble_eq_true rfl)) dX4_takeToken_57 ⟨Nat.le_of_ble_eq_true rfl, Nat.le_of_ble_eq_true rfl⟩) hS (fun q _ h => hFc q h) hFc (fun r_4 u tS H1 locs ht hvm hw hB hz1 hk1 hS => ?_)
  obtain ⟨hP1, hK1, hD1⟩ := hB
  rw [ht] at hP1
  try dsimp only at hw
  obtain ⟨hP, hD⟩ := va_join (wr := [(h, .inr (4, [.ref t, .int 0, .int 0, .int (-1), .int 0, .int 0, .int 0, .int 0]))]) (w1 := []) hP hD [] [0] rfl rfl (by decide) (by decide) hk1 hFc hP1 hD1
  generalize H1 = H at hP hS ⊢
  have hP : va_P D clz [(h, .inr (4, [.ref t, .int 0, .int 0, .int (-1), .int 0, .int 0, .int 0, .int 0]))] H := hP
  have hD : va_D A [(h, .inr (4, [.ref t, .int 0, .int 0, .int (-1), .int 0, .int 0, .int 0, .int 0]))] := hD
  subst hw
  refine va_put (D := D) (ci := 4) (v := .int 0) (ty := .int) (C := RX4) (T := TX4) (N := 8) hx hb hts iX4 tyX4 tyX4_ok nmX4 hown hK hP hD hS 0 rfl rfl 6 (by decide) (hts _ q166) (fun _ h9 => h9) rfl (by decide +kernel) rfl rfl (Nat.le_of_ble_eq_true rfl) dX4_takeToken_60 (fun H locs hP hD hS => ?_)
  have hP : va_P D clz [(h, .inr (4, [.ref t, .int 0, .int 0, .int (-1), .int 0, .int 0, .int 0, .int 0]))] H := hP
  have hD : va_D A [(h, .inr (4, [.ref t, .int 0, .int 0, .int (-1), .int 0, .int 0, .int 0, .int 0]))] := hD
  refine lv_aload_n hx hb dX4_takeToken_63 rfl (lv_at hl 1 rfl) ?_
  refine lv_iconst (v := 0) hx hb dX4_takeToken_64 (by decide) ?_
  refine va_put (D := D) (ci := 4) (v := .int 0) (ty := .int) (C := RX4) (T := TX4) (N := 8) hx hb hts iX4 tyX4 tyX4_ok nmX4 hown hK hP hD hS 0 rfl rfl 7 (by decide) (hts _ q167) (fun _ h9 => h9) rfl (by decide +kernel) rfl rfl (Nat.le_of_ble_eq_true rfl) dX4_takeToken_65 (fun H locs hP hD hS => ?_)
  have hP : va_P D clz [(h, .inr (4, [.ref t, .int 0, .int 0, .int (-1), .int 0, .int 0, .int 0, .int 0]))] H := hP
  have hD : va_D A [(h, .inr (4, [.ref t, .int 0, .int 0, .int (-1), .int 0, .int 0, .int 0, .int 0]))] := hD
  refine lv_iconst (v := 0) hx hb dX4_takeToken_68 (by decide) ?_
  refine lv_istore_n (lv' := [(1, .int 0), (0, .ref h)]) hx hb dX4_takeToken_69 rfl hl (by decide) rfl (fun ls hl => ?_)
  refine lv_iload_n hx hb dX4_takeToken_70 rfl (lv_at hl 0 rfl) ?_
  refine lv_sipush (v := 2000) hx hb dX4_takeToken_71 (by decide) ?_
  refine lv_icmp_ge (tgt := 173) hx hb dX4_takeToken_74 (by decide) (fun c9 => absurd c9 (by decide)) (fun _ => ?_)
  refine lv_aload_n hx hb dX4_takeToken_77 rfl (lv_at hl 1 rfl) ?_
  refine va_get (D := D) (ci := 4) (v := .int 0) (C := RX4) (T := TX4) (N := 8) hx hb hts iX4 hown hK hP 0 rfl rfl 6 (by decide) (hts _ q166) (fun _ h9 => h9) rfl dX4_takeToken_78 ?_
  refine lv_if_eq (tgt := 173) hx hb dX4_takeToken_81 (by decide) (fun _ => ?_) (fun c9 => absurd c9 (by decide))
  have hP9 := hP.sub (ws' := [(h, .inr (4, [.ref t, .int 0, .int 0, .int (-1), .int 0, .int 0, .int 0, .int 0]))]) [0] rfl
  have hD9 := hD.sub (ws' := [(h, .inr (4, [.ref t, .int 0, .int 0, .int (-1), .int 0, .int 0, .int 0, .int 0]))]) [0] (by decide) rfl
  exact W.vret hx hb hr (fun tS ht hW => ⟨⟨(), rfl, trivial, by rw [ht]; exact hP9, va_K.moved hW.alike hK, hD9⟩, hS.F ht⟩) hS.2.2 dX4_takeToken_173

theorem q494 : Cond.code yX4_readInto cX4_readInto 3 (some .boolean) ∈ lw_g := lw_gm (List.mem_of_getElem? (i := 494) (by decide +kernel)) rfl
theorem q495 : Cond.methodLink RX4 22 yX0_clear ∈ lw_g := lw_gm (List.mem_of_getElem? (i := 495) (by decide +kernel)) rfl
theorem q496 : Cond.instanceMethod yX0_clear ∈ lw_g := lw_gm (List.mem_of_getElem? (i := 496) (by decide +kernel)) rfl
theorem q497 : Cond.selects RX0 yX0_clear yX0_clear ∈ lw_g := lw_gm (List.mem_of_getElem? (i := 497) (by decide +kernel)) rfl
theorem q160 : Cond.fieldLink RX4 27 "LipsAndSlides$Reader" "faultKind" "I" ∈ lw_g := lw_gm (List.mem_of_getElem? (i := 160) (by decide +kernel)) rfl
theorem q162 : Cond.fieldLink RX4 15 "LipsAndSlides$Reader" "faultPlace" "I" ∈ lw_g := lw_gm (List.mem_of_getElem? (i := 162) (by decide +kernel)) rfl
theorem q499 : Cond.methodLink RX4 33 yX4_takeToken ∈ lw_g := lw_gm (List.mem_of_getElem? (i := 499) (by decide +kernel)) rfl
theorem q501 : Cond.instanceMethod yX4_takeToken ∈ lw_g := lw_gm (List.mem_of_getElem? (i := 501) (by decide +kernel)) rfl
theorem q0 : Cond.selects RX4 yX4_takeToken yX4_takeToken ∈ lw_g := lw_gm (List.mem_of_getElem? (i := 0) (by decide +kernel)) rfl
theorem dX4_readInto_0 : decode cX4_readInto 0 = .ok (.aload_n 1, 1) := by decide +kernel
theorem dX4_readInto_1 : decode cX4_readInto 1 = .ok (.invokevirtual 22, 3) := by decide +kernel
theorem dX4_readInto_4 : decode cX4_readInto 4 = .ok (.aload_n 0, 1) := by decide +kernel
theorem dX4_readInto_5 : decode cX4_readInto 5 = .ok (.iconst 0, 1) := by decide +kernel
theorem dX4_readInto_6 : decode cX4_readInto 6 = .ok (.putfield 27, 3) := by decide +kernel
theorem dX4_readInto_9 : decode cX4_readInto 9 = .ok (.aload_n 0, 1) := by decide +kernel
theorem dX4_readInto_10 : decode cX4_readInto 10 = .ok (.iconst (-1), 1) := by decide +kernel
theorem dX4_readInto_11 : decode cX4_readInto 11 = .ok (.putfield 15, 3) := by decide +kernel
theorem dX4_readInto_14 : decode cX4_readInto 14 = .ok (.aload_n 0, 1) := by decide +kernel
theorem dX4_readInto_15 : decode cX4_readInto 15 = .ok (.iconst 0, 1) := by decide +kernel
theorem dX4_readInto_16 : decode cX4_readInto 16 = .ok (.putfield 30, 3) := by decide +kernel
theorem dX4_readInto_19 : decode cX4_readInto 19 = .ok (.aload_n 0, 1) := by decide +kernel
theorem dX4_readInto_20 : decode cX4_readInto 20 = .ok (.invokevirtual 33, 3) := by decide +kernel
theorem dX4_readInto_23 : decode cX4_readInto 23 = .ok (.iconst 0, 1) := by decide +kernel
theorem dX4_readInto_24 : decode cX4_readInto 24 = .ok (.istore_n 2, 1) := by decide +kernel
theorem dX4_readInto_25 : decode cX4_readInto 25 = .ok (.iload_n 2, 1) := by decide +kernel
theorem dX4_readInto_26 : decode cX4_readInto 26 = .ok (.sipush 2000, 3) := by decide +kernel
theorem dX4_readInto_29 : decode cX4_readInto 29 = .ok (.if_icmp .ge 38, 3) := by decide +kernel
theorem dX4_readInto_32 : decode cX4_readInto 32 = .ok (.aload_n 0, 1) := by decide +kernel
theorem dX4_readInto_33 : decode cX4_readInto 33 = .ok (.getfield 36, 3) := by decide +kernel
theorem dX4_readInto_36 : decode cX4_readInto 36 = .ok (.ifCond .eq 31, 3) := by decide +kernel
theorem dX4_readInto_67 : decode cX4_readInto 67 = .ok (.aload_n 0, 1) := by decide +kernel
theorem dX4_readInto_68 : decode cX4_readInto 68 = .ok (.getfield 27, 3) := by decide +kernel
theorem dX4_readInto_71 : decode cX4_readInto 71 = .ok (.ifCond .ne 7, 3) := by decide +kernel
theorem dX4_readInto_74 : decode cX4_readInto 74 = .ok (.iconst 1, 1) := by decide +kernel
theorem dX4_readInto_75 : decode cX4_readInto 75 = .ok (.goto 4, 3) := by decide +kernel
theorem dX4_readInto_79 : decode cX4_readInto 79 = .ok (.ireturn, 1) := by decide +kernel
set_option maxHeartbeats 4000000 in
set_option maxRecDepth 100000 in
theorem c_X4_readInto (l : Launch) (D : va_G) (cy : Nat → ClassId) (h : Nat) (t : Nat) (h2 : Nat) (a : Nat) (b : Nat) (c1 : Nat) (d : Nat) (sz : Nat) : Met l yX4_readInto (ww yX4_readInto cX4_readInto 3 (some .boolean)) ({ frames := 3, cells := 0, slots := 0, locals := 192 }) (va_Pc [.ref h, .ref h2] (pre D cy [(h, .inr (4, [.ref t, .int 0, .int 0, .int (-1), .int 0, .int 0, .int 0, .int 0])), (h2, .inr (0, [.int 0, .int 0, .int 0, .int 0, .int 0, .int 0, .ref a, .ref b, .ref c1, .ref d]))] sz)) (qi D cy (va_A [(h, .inr (4, [.ref t, .int 0, .int 0, .int (-1), .int 0, .int 0, .int 0, .int 0])), (h2, .inr (0, [.int 0, .int 0, .int 0, .int 0, .int 0, .int 0, .ref a, .ref b, .ref c1, .ref d]))] sz) (fun (r : Int32) (_ : Unit) => r = 1) (fun (_ : Unit) => [(h, .inr (4, [.ref t, .int 0, .int 0, .int (-1), .int 0, .int 0, .int 0, .int 0])), (h2, .inr (0, [.int 0, .int 0, .int 0, .int 0, .int 0, .int 0, .ref a, .ref b, .ref c1, .ref d]))])) 0 0 (va_A [(h, .inr (4, [.ref t, .int 0, .int 0, .int (-1), .int 0, .int 0, .int 0, .int 0])), (h2, .inr (0, [.int 0, .int 0, .int 0, .int 0, .int 0, .int 0, .ref a, .ref b, .ref c1, .ref d]))] sz) := by
  refine Met.ofW (cc := cX4_readInto) (maxL := 3) (ret := (some .boolean)) (by decide) rfl ?_
  intro p e s m args below meth c s₁ B hml hv
  obtain ⟨rfl, hsz, hP, hK, hD0⟩ := hv
  have hx := B.exec
  have hb := B.bytes
  have hr := B.returns
  have hts := hts_g (atoms_spec (ws := ww yX4_readInto cX4_readInto 3 (some .boolean)) B.pre)
  have hown : s.vm.findClass RX4 = some m.cls := findClass_of_methodNamed B.named
  have hlocks := B.notSynchronized
  subst hsz
  have hD := hD0.self (sz := s.heap.size)
  generalize hAe : va_A [(h, .inr (4, [.ref t, .int 0, .int 0, .int (-1), .int 0, .int 0, .int 0, .int 0])), (h2, .inr (0, [.int 0, .int 0, .int 0, .int 0, .int 0, .int 0, .ref a, .ref b, .ref c1, .ref d]))] s.heap.size = A at hD ⊢
  have hA : ∀ q : Nat, s.heap.size ≤ q → A q := fun q h => by rw [← hAe]; exact Or.inr h
  have hS : va_S A s.heap s.heap [] := va_S.rf
  have hl := lv_entry ([.ref h, .ref h2]) (n := 3) (Nat.le_of_ble_eq_true rfl)
  rw [lg_entry_eq]
  generalize (lg_sl ([.ref h, .ref h2]) ++ List.replicate (3 - (lg_sl ([.ref h, .ref h2])).length) Slot.unset).toArray = ls at hl ⊢
  have hl : lv_has ls 3 [(0, .ref h), (1, .ref h2)] := hl
  refine lv_aload_n hx hb dX4_readInto_0 rfl (lv_at hl 1 rfl) ?_
  have hPc := hP.sub (ws' := [(h2, .inr (0, [.int 0, .int 0, .int 0, .int 0, .int 0, .int 0, .ref a, .ref b, .ref c1, .ref d]))]) [1] rfl
  have hDc := hD.sub (ws' := [(h2, .inr (0, [.int 0, .int 0, .int 0, .int 0, .int 0, .int 0, .ref a, .ref b, .ref c1, .ref d]))]) [1] (by decide) rfl
  have hFc := va_free (wc := [(h2, .inr (0, [.int 0, .int 0, .int 0, .int 0, .int 0, .int 0, .ref a, .ref b, .ref c1, .ref d]))]) hD hS hA [1] rfl
  refine va_callv (va_runV (As := []) (rest := []) ⟨hx, hb, hml, hown, hts⟩ (c_X0_clear l D cy h2 a b c1 d s.heap.size) (cwV 0 hts (gd_V q495 q496 q497 q127 q498) rfl rfl rfl (by decide +kernel) ⟨Nat.le_of_ble_eq_true rfl, Nat.le_of_ble_eq_true rfl⟩) (pr_V hPc hK hDc (va_recv hK hPc (ci := 0) (q0 := 0) rfl rfl)) rfl rfl hl.1 rfl (lv_room (Nat.le_of_ble_eq_true rfl)) dX4_readInto_1 ⟨Nat.le_of_ble_eq_true rfl, Nat.le_of_ble_eq_true rfl⟩) hS (fun q _ h => hFc q h) hFc (fun u tS H1 locs ht hvm hw hB hz1 hk1 hS => ?_)
  obtain ⟨hP1, hK1, hD1⟩ := hB
  rw [ht] at hP1
  try dsimp only at hw
  obtain ⟨hP, hD⟩ := va_join (wr := [(h, .inr (4, [.ref t, .int 0, .int 0, .int (-1), .int 0, .int 0, .int 0, .int 0]))]) (w1 := [(h2, .inr (0, [.int 0, .int 0, .int 0, .int 0, .int 0, .int 0, .ref a, .ref b, .ref c1, .ref d]))]) hP hD [1] [0] rfl rfl (by decide) (by decide) hk1 hFc hP1 hD1
  generalize H1 = H at hP hS ⊢
  have hP : va_P D clz [(h, .inr (4, [.ref t, .int 0, .int 0, .int (-1), .int 0, .int 0, .int 0, .int 0])), (h2, .inr (0, [.int 0, .int 0, .int 0, .int 0, .int 0, .int 0, .ref a, .ref b, .ref c1, .ref d]))] H := hP
  have hD : va_D A [(h, .inr (4, [.ref t, .int 0, .int 0, .int (-1), .int 0, .int 0, .int 0, .int 0])), (h2, .inr (0, [.int 0, .int 0, .int 0, .int 0, .int 0, .int 0, .ref a, .ref b, .ref c1, .ref d]))] := hD
  refine lv_aload_n hx hb dX4_readInto_4 rfl (lv_at hl 0 rfl) ?_
  refine lv_iconst (v := 0) hx hb dX4_readInto_5 (by decide) ?_
  refine va_put (D := D) (ci := 4) (v := .int 0) (ty := .int) (C := RX4) (T := TX4) (N := 8) hx hb hts iX4 tyX4 tyX4_ok nmX4 hown hK hP hD hS 0 rfl rfl 2 (by decide) (hts _ q160) (fun _ h9 => h9) rfl (by decide +kernel) rfl rfl (Nat.le_of_ble_eq_true rfl) dX4_readInto_6 (fun H locs hP hD hS => ?_)
  have hP : va_P D clz [(h, .inr (4, [.ref t, .int 0, .int 0, .int (-1), .int 0, .int 0, .int 0, .int 0])), (h2, .inr (0, [.int 0, .int 0, .int 0, .int 0, .int 0, .int 0, .ref a, .ref b, .ref c1, .ref d]))] H := hP
  have hD : va_D A [(h, .inr (4, [.ref t, .int 0, .int 0, .int (-1), .int 0, .int 0, .int 0, .int 0])), (h2, .inr (0, [.int 0, .int 0, .int 0, .int 0, .int 0, .int 0, .ref a, .ref b, .ref c1, .ref d]))] := hD
  refine lv_aload_n hx hb dX4_readInto_9 rfl (lv_at hl 0 rfl) ?_
  refine lv_iconst (v := (-1)) hx hb dX4_readInto_10 (by decide) ?_
  refine va_put (D := D) (ci := 4) (v := .int (-1)) (ty := .int) (C := RX4) (T := TX4) (N := 8) hx hb hts iX4 tyX4 tyX4_ok nmX4 hown hK hP hD hS 0 rfl rfl 3 (by decide) (hts _ q162) (fun _ h9 => h9) rfl (by decide +kernel) rfl rfl (Nat.le_of_ble_eq_true rfl) dX4_readInto_11 (fun H locs hP hD hS => ?_)
  have hP : va_P D clz [(h, .inr (4, [.ref t, .int 0, .int 0, .int (-1), .int 0, .int 0, .int 0, .int 0])), (h2, .inr (0, [.int 0, .int 0, .int 0, .int 0, .int 0, .int 0, .ref a, .ref b, .ref c1, .ref d]))] H := hP
  have hD : va_D A [(h, .inr (4, [.ref t, .int 0, .int 0, .int (-1), .int 0, .int 0, .int 0, .int 0])), (h2, .inr (0, [.int 0, .int 0, .int 0, .int 0, .int 0, .int 0, .ref a, .ref b, .ref c1, .ref d]))] := hD
  refine lv_aload_n hx hb dX4_readInto_14 rfl (lv_at hl 0 rfl) ?_
  refine lv_iconst (v := 0) hx hb dX4_readInto_15 (by decide) ?_
  refine va_put (D := D) (ci := 4) (v := .int 0) (ty := .int) (C := RX4) (T := TX4) (N := 8) hx hb hts iX4 tyX4 tyX4_ok nmX4 hown hK hP hD hS 0 rfl rfl 4 (by decide) (hts _ q164) (fun _ h9 => h9) rfl (by decide +kernel) rfl rfl (Nat.le_of_ble_eq_true rfl) dX4_readInto_16 (fun H locs hP hD hS => ?_)
  have hP : va_P D clz [(h, .inr (4, [.ref t, .int 0, .int 0, .int (-1), .int 0, .int 0, .int 0, .int 0])), (h2, .inr (0, [.int 0, .int 0, .int 0, .int 0, .int 0, .int 0, .ref a, .ref b, .ref c1, .ref d]))] H := hP
  have hD : va_D A [(h, .inr (4, [.ref t, .int 0, .int 0, .int (-1), .int 0, .int 0, .int 0, .int 0])), (h2, .inr (0, [.int 0, .int 0, .int 0, .int 0, .int 0, .int 0, .ref a, .ref b, .ref c1, .ref d]))] := hD
  refine lv_aload_n hx hb dX4_readInto_19 rfl (lv_at hl 0 rfl) ?_
  have hPc := hP.sub (ws' := [(h, .inr (4, [.ref t, .int 0, .int 0, .int (-1), .int 0, .int 0, .int 0, .int 0]))]) [0] rfl
  have hDc := hD.sub (ws' := [(h, .inr (4, [.ref t, .int 0, .int 0, .int (-1), .int 0, .int 0, .int 0, .int 0]))]) [0] (by decide) rfl
  have hFc := va_free (wc := [(h, .inr (4, [.ref t, .int 0, .int 0, .int (-1), .int 0, .int 0, .int 0, .int 0]))]) hD hS hA [0] rfl
  refine va_callv (va_runV (As := []) (rest := []) ⟨hx, hb, hml, hown, hts⟩ (c_X4_takeToken l D cy h t H.size) (cwV 0 hts (gd_V q499 q501 q0 q126 q502) rfl rfl rfl (by decide +kernel) ⟨Nat.le_of_ble_eq_true rfl, Nat.le_of_ble_eq_true rfl⟩) (pr_V hPc hK hDc (va_recv hK hPc (ci := 4) (q0 := 0) rfl rfl)) rfl rfl hl.1 rfl (lv_room (Nat.le_of_ble_eq_true rfl)) dX4_readInto_20 ⟨Nat.le_of_ble_eq_true rfl, Nat.le_of_ble_eq_true rfl⟩) hS (fun q _ h => hFc q h) hFc (fun u tS H1 locs ht hvm hw hB hz1 hk1 hS => ?_)
  obtain ⟨hP1, hK1, hD1⟩ := hB
  rw [ht] at hP1
  try dsimp only at hw
  obtain ⟨hP, hD⟩ := va_join (wr := [(h2, .inr (0, [.int 0, .int 0, .int 0, .int 0, .int 0, .int 0, .ref a, .ref b, .ref c1, .ref d]))]) (w1 := [(h, .inr (4, [.ref t, .int 0, .int 0, .int (-1), .int 0, .int 0, .int 0, .int 0]))]) hP hD [0] [1] rfl rfl (by decide) (by decide) hk1 hFc hP1 hD1
  generalize H1 = H at hP hS ⊢
  have hP : va_P D clz [(h2, .inr (0, [.int 0, .int 0, .int 0, .int 0, .int 0, .int 0, .ref a, .ref b, .ref c1, .ref d])), (h, .inr (4, [.ref t, .int 0, .int 0, .int (-1), .int 0, .int 0, .int 0, .int 0]))] H := hP
  have hD : va_D A [(h2, .inr (0, [.int 0, .int 0, .int 0, .int 0, .int 0, .int 0, .ref a, .ref b, .ref c1, .ref d])), (h, .inr (4, [.ref t, .int 0, .int 0, .int (-1), .int 0, .int 0, .int 0, .int 0]))] := hD
  refine lv_iconst (v := 0) hx hb dX4_readInto_23 (by decide) ?_
  refine lv_istore_n (lv' := [(2, .int 0), (0, .ref h), (1, .ref h2)]) hx hb dX4_readInto_24 rfl hl (by decide) rfl (fun ls hl => ?_)
  refine lv_iload_n hx hb dX4_readInto_25 rfl (lv_at hl 0 rfl) ?_
  refine lv_sipush (v := 2000) hx hb dX4_readInto_26 (by decide) ?_
  refine lv_icmp_ge (tgt := 67) hx hb dX4_readInto_29 (by decide) (fun c9 => absurd c9 (by decide)) (fun _ => ?_)
  refine lv_aload_n hx hb dX4_readInto_32 rfl (lv_at hl 1 rfl) ?_
  refine va_get (D := D) (ci := 4) (v := .int 0) (C := RX4) (T := TX4) (N := 8) hx hb hts iX4 hown hK hP 1 rfl rfl 6 (by decide) (hts _ q166) (fun _ h9 => h9) rfl dX4_readInto_33 ?_
  refine lv_if_eq (tgt := 67) hx hb dX4_readInto_36 (by decide) (fun _ => ?_) (fun c9 => absurd c9 (by decide))
  refine lv_aload_n hx hb dX4_readInto_67 rfl (lv_at hl 1 rfl) ?_
  refine va_get (D := D) (ci := 4) (v := .int 0) (C := RX4) (T := TX4) (N := 8) hx hb hts iX4 hown hK hP 1 rfl rfl 2 (by decide) (hts _ q160) (fun _ h9 => h9) rfl dX4_readInto_68 ?_
  refine lv_if_ne (tgt := 78) hx hb dX4_readInto_71 (by decide) (fun c9 => absurd c9 (by decide)) (fun _ => ?_)
  refine lv_iconst (v := 1) hx hb dX4_readInto_74 (by decide) ?_
  refine lv_goto (tgt := 79) hx hb dX4_readInto_75 (by decide) ?_
  have hP9 := hP.sub (ws' := [(h, .inr (4, [.ref t, .int 0, .int 0, .int (-1), .int 0, .int 0, .int 0, .int 0])), (h2, .inr (0, [.int 0, .int 0, .int 0, .int 0, .int 0, .int 0, .ref a, .ref b, .ref c1, .ref d]))]) [1, 0] rfl
  have hD9 := hD.sub (ws' := [(h, .inr (4, [.ref t, .int 0, .int 0, .int (-1), .int 0, .int 0, .int 0, .int 0])), (h2, .inr (0, [.int 0, .int 0, .int 0, .int 0, .int 0, .int 0, .ref a, .ref b, .ref c1, .ref d]))]) [1, 0] (by decide) rfl
  exact W.zret (v := 1) hx hb hr rfl (fun tS ht hW => ⟨⟨1, (), rfl, rfl, by rw [ht]; exact hP9, va_K.moved hW.alike hK, hD9⟩, hS.F ht⟩) hS.2.2 dX4_readInto_79

theorem q482 : Cond.code yX4_append cX4_append 3 none ∈ lw_g := lw_gm (List.mem_of_getElem? (i := 482) (by decide +kernel)) rfl
theorem q157 : Cond.fieldLink RX4 11 "LipsAndSlides$Reader" "tape" "[B" ∈ lw_g := lw_gm (List.mem_of_getElem? (i := 157) (by decide +kernel)) rfl
theorem dX4_append_0 : decode cX4_append 0 = .ok (.bipush 24, 2) := by decide +kernel
theorem dX4_append_2 : decode cX4_append 2 = .ok (.istore_n 2, 1) := by decide +kernel
theorem dX4_append_3 : decode cX4_append 3 = .ok (.iload_n 2, 1) := by decide +kernel
theorem dX4_append_4 : decode cX4_append 4 = .ok (.ifCond .lt 49, 3) := by decide +kernel
theorem dX4_append_7 : decode cX4_append 7 = .ok (.aload_n 0, 1) := by decide +kernel
theorem dX4_append_8 : decode cX4_append 8 = .ok (.getfield 19, 3) := by decide +kernel
theorem dX4_append_11 : decode cX4_append 11 = .ok (.ifCond .lt 36, 3) := by decide +kernel
theorem dX4_append_14 : decode cX4_append 14 = .ok (.aload_n 0, 1) := by decide +kernel
theorem dX4_append_15 : decode cX4_append 15 = .ok (.getfield 19, 3) := by decide +kernel
theorem dX4_append_18 : decode cX4_append 18 = .ok (.sipush 2000, 3) := by decide +kernel
theorem dX4_append_21 : decode cX4_append 21 = .ok (.if_icmp .ge 26, 3) := by decide +kernel
theorem dX4_append_24 : decode cX4_append 24 = .ok (.aload_n 0, 1) := by decide +kernel
theorem dX4_append_25 : decode cX4_append 25 = .ok (.getfield 11, 3) := by decide +kernel
theorem dX4_append_28 : decode cX4_append 28 = .ok (.aload_n 0, 1) := by decide +kernel
theorem dX4_append_29 : decode cX4_append 29 = .ok (.getfield 19, 3) := by decide +kernel
theorem dX4_append_32 : decode cX4_append 32 = .ok (.iload_n 1, 1) := by decide +kernel
theorem dX4_append_33 : decode cX4_append 33 = .ok (.iload_n 2, 1) := by decide +kernel
theorem dX4_append_34 : decode cX4_append 34 = .ok (.ishr, 1) := by decide +kernel
theorem dX4_append_35 : decode cX4_append 35 = .ok (.i2b, 1) := by decide +kernel
theorem dX4_append_36 : decode cX4_append 36 = .ok (.bastore, 1) := by decide +kernel
theorem dX4_append_37 : decode cX4_append 37 = .ok (.aload_n 0, 1) := by decide +kernel
theorem dX4_append_38 : decode cX4_append 38 = .ok (.dup, 1) := by decide +kernel
theorem dX4_append_39 : decode cX4_append 39 = .ok (.getfield 19, 3) := by decide +kernel
theorem dX4_append_42 : decode cX4_append 42 = .ok (.iconst 1, 1) := by decide +kernel
theorem dX4_append_43 : decode cX4_append 43 = .ok (.iadd, 1) := by decide +kernel
theorem dX4_append_44 : decode cX4_append 44 = .ok (.putfield 19, 3) := by decide +kernel
theorem dX4_append_47 : decode cX4_append 47 = .ok (.iinc 2 (-8), 3) := by decide +kernel
theorem dX4_append_50 : decode cX4_append 50 = .ok (.goto (-47), 3) := by decide +kernel
theorem dX4_append_53 : decode cX4_append 53 = .ok (.return_, 1) := by decide +kernel
set_option maxHeartbeats 4000000 in
set_option maxRecDepth 100000 in
theorem c_X4_append0 (l : Launch) (D : va_G) (cy : Nat → ClassId) (h : Nat) (t : Nat) (f : Nat → Int32) (p1 : Int32) (sz : Nat) : Met l yX4_append (ww yX4_append cX4_append 3 none) ({ frames := 1, cells := 0, slots := 0, locals := 64 }) (va_Pc [.ref h, .int p1] (pre D cy [(h, .inr (4, [.ref t, .int 0, .int 0, .int (-1), .int 0, .int 0, .int 0, .int 0])), (t, .inl (cy 1, 2000, .inl f))] sz)) (qv D cy (va_A [(h, .inr (4, [.ref t, .int 0, .int 0, .int (-1), .int 0, .int 0, .int 0, .int 0])), (t, .inl (cy 1, 2000, .inl f))] sz) (fun (_ : Nat → Int32) => True) (fun (u : Nat → Int32) => [(h, .inr (4, [.ref t, .int 4, .int 0, .int (-1), .int 0, .int 0, .int 0, .int 0])), (t, .inl (cy 1, 2000, .inl u))])) 0 0 (va_A [(h, .inr (4, [.ref t, .int 0, .int 0, .int (-1), .int 0, .int 0, .int 0, .int 0])), (t, .inl (cy 1, 2000, .inl f))] sz) := by
  refine Met.ofW (cc := cX4_append) (maxL := 3) (ret := none) (by decide) rfl ?_
  intro p e s m args below meth c s₁ B hml hv
  obtain ⟨rfl, hsz, hP, hK, hD0⟩ := hv
  have hx := B.exec
  have hb := B.bytes
  have hr := B.returns
  have hts := hts_g (atoms_spec (ws := ww yX4_append cX4_append 3 none) B.pre)
  have hown : s.vm.findClass RX4 = some m.cls := findClass_of_methodNamed B.named
  have hlocks := B.notSynchronized
  subst hsz
  have hD := hD0.self (sz := s.heap.size)
  generalize hAe : va_A [(h, .inr (4, [.ref t, .int 0, .int 0, .int (-1), .int 0, .int 0, .int 0, .int 0])), (t, .inl (cy 1, 2000, .inl f))] s.heap.size = A at hD ⊢
  have hA : ∀ q : Nat, s.heap.size ≤ q → A q := fun q h => by rw [← hAe]; exact Or.inr h
  have hS : va_S A s.heap s.heap [] := va_S.rf
  have hl := lv_entry ([.ref h, .int p1]) (n := 3) (Nat.le_of_ble_eq_true rfl)
  rw [lg_entry_eq]
  generalize (lg_sl ([.ref h, .int p1]) ++ List.replicate (3 - (lg_sl ([.ref h, .int p1])).length) Slot.unset).toArray = ls at hl ⊢
  have hl : lv_has ls 3 [(0, .ref h), (1, .int p1)] := hl
  refine lv_bipush (v := 24) hx hb dX4_append_0 (by decide) ?_
  refine lv_istore_n (lv' := [(2, .int 24), (0, .ref h), (1, .int p1)]) hx hb dX4_append_2 rfl hl (by decide) rfl (fun ls hl => ?_)
  refine lv_iload_n hx hb dX4_append_3 rfl (lv_at hl 0 rfl) ?_
  refine lv_if_lt (tgt := 53) hx hb dX4_append_4 (by decide) (fun c9 => absurd c9 (by decide)) (fun _ => ?_)
  refine lv_aload_n hx hb dX4_append_7 rfl (lv_at hl 1 rfl) ?_
  refine va_get (D := D) (ci := 4) (v := .int 0) (C := RX4) (T := TX4) (N := 8) hx hb hts iX4 hown hK hP 0 rfl rfl 1 (by decide) (hts _ q158) (fun _ h9 => h9) rfl dX4_append_8 ?_
  refine lv_if_lt (tgt := 47) hx hb dX4_append_11 (by decide) (fun c9 => absurd c9 (by decide)) (fun _ => ?_)
  refine lv_aload_n hx hb dX4_append_14 rfl (lv_at hl 1 rfl) ?_
  refine va_get (D := D) (ci := 4) (v := .int 0) (C := RX4) (T := TX4) (N := 8) hx hb hts iX4 hown hK hP 0 rfl rfl 1 (by decide) (hts _ q158) (fun _ h9 => h9) rfl dX4_append_15 ?_
  refine lv_sipush (v := 2000) hx hb dX4_append_18 (by decide) ?_
  refine lv_icmp_ge (tgt := 47) hx hb dX4_append_21 (by decide) (fun c9 => absurd c9 (by decide)) (fun _ => ?_)
  refine lv_aload_n hx hb dX4_append_24 rfl (lv_at hl 1 rfl) ?_
  refine va_get (D := D) (ci := 4) (v := .ref t) (C := RX4) (T := TX4) (N := 8) hx hb hts iX4 hown hK hP 0 rfl rfl 0 (by decide) (hts _ q157) (fun _ h9 => h9) rfl dX4_append_25 ?_
  refine lv_aload_n hx hb dX4_append_28 rfl (lv_at hl 1 rfl) ?_
  refine va_get (D := D) (ci := 4) (v := .int 0) (C := RX4) (T := TX4) (N := 8) hx hb hts iX4 hown hK hP 0 rfl rfl 1 (by decide) (hts _ q158) (fun _ h9 => h9) rfl dX4_append_29 ?_
  refine lv_iload_n hx hb dX4_append_32 rfl (lv_at hl 2 rfl) ?_
  refine lv_iload_n hx hb dX4_append_33 rfl (lv_at hl 0 rfl) ?_
  refine lv_ishr hx hb dX4_append_34 ?_
  refine lv_topi (fun x_1 ex_1 => ?_)
  refine lv_i2b hx hb dX4_append_35 rfl ?_
  refine lv_topi (fun x_2 ex_2 => ?_)
  refine va_bast hx hb hK hP hD hS 1 1 rfl rfl (vpi (by decide)) dX4_append_36 (fun H locs hP hD hS => ?_)
  have hP : va_P D clz [(h, .inr (4, [.ref t, .int 0, .int 0, .int (-1), .int 0, .int 0, .int 0, .int 0])), (t, .inl (cy 1, 2000, .inl (upd f 0 (vp_nar .byte x_2))))] H := hP
  have hD : va_D A [(h, .inr (4, [.ref t, .int 0, .int 0, .int (-1), .int 0, .int 0, .int 0, .int 0])), (t, .inl (cy 1, 2000, .inl (upd f 0 (vp_nar .byte x_2))))] := hD
  refine lv_aload_n hx hb dX4_append_37 rfl (lv_at hl 1 rfl) ?_
  refine lv_dup hx hb dX4_append_38 rfl ?_
  refine va_get (D := D) (ci := 4) (v := .int 0) (C := RX4) (T := TX4) (N := 8) hx hb hts iX4 hown hK hP 0 rfl rfl 1 (by decide) (hts _ q158) (fun _ h9 => h9) rfl dX4_append_39 ?_
  refine lv_iconst (v := 1) hx hb dX4_append_42 (by decide) ?_
  refine lv_iadd hx hb dX4_append_43 ?_
  refine lv_topi (fun x_3 ex_3 => ?_)
  obtain rfl : x_3 = 1 := ex_3.trans (by decide)
  refine va_put (D := D) (ci := 4) (v := .int 1) (ty := .int) (C := RX4) (T := TX4) (N := 8) hx hb hts iX4 tyX4 tyX4_ok nmX4 hown hK hP hD hS 0 rfl rfl 1 (by decide) (hts _ q158) (fun _ h9 => h9) rfl (by decide +kernel) rfl rfl (Nat.le_of_ble_eq_true rfl) dX4_append_44 (fun H locs hP hD hS => ?_)
  have hP : va_P D clz [(h, .inr (4, [.ref t, .int 1, .int 0, .int (-1), .int 0, .int 0, .int 0, .int 0])), (t, .inl (cy 1, 2000, .inl (upd f 0 (vp_nar .byte x_2))))] H := hP
  have hD : va_D A [(h, .inr (4, [.ref t, .int 1, .int 0, .int (-1), .int 0, .int 0, .int 0, .int 0])), (t, .inl (cy 1, 2000, .inl (upd f 0 (vp_nar .byte x_2))))] := hD
  refine lv_iinc (v := 16) (lv' := [(2, .int 16), (0, .ref h), (1, .int p1)]) hx hb dX4_append_47 hl (k := 0) rfl (by decide) (by decide) rfl (fun ls hl => ?_)
  refine lv_goto (tgt := 3) hx hb dX4_append_50 (by decide) ?_
  refine lv_iload_n hx hb dX4_append_3 rfl (lv_at hl 0 rfl) ?_
  refine lv_if_lt (tgt := 53) hx hb dX4_append_4 (by decide) (fun c9 => absurd c9 (by decide)) (fun _ => ?_)
  refine lv_aload_n hx hb dX4_append_7 rfl (lv_at hl 1 rfl) ?_
  refine va_get (D := D) (ci := 4) (v := .int 1) (C := RX4) (T := TX4) (N := 8) hx hb hts iX4 hown hK hP 0 rfl rfl 1 (by decide) (hts _ q158) (fun _ h9 => h9) rfl dX4_append_8 ?_
  refine lv_if_lt (tgt := 47) hx hb dX4_append_11 (by decide) (fun c9 => absurd c9 (by decide)) (fun _ => ?_)
  refine lv_aload_n hx hb dX4_append_14 rfl (lv_at hl 1 rfl) ?_
  refine va_get (D := D) (ci := 4) (v := .int 1) (C := RX4) (T := TX4) (N := 8) hx hb hts iX4 hown hK hP 0 rfl rfl 1 (by decide) (hts _ q158) (fun _ h9 => h9) rfl dX4_append_15 ?_
  refine lv_sipush (v := 2000) hx hb dX4_append_18 (by decide) ?_
  refine lv_icmp_ge (tgt := 47) hx hb dX4_append_21 (by decide) (fun c9 => absurd c9 (by decide)) (fun _ => ?_)
  refine lv_aload_n hx hb dX4_append_24 rfl (lv_at hl 1 rfl) ?_
  refine va_get (D := D) (ci := 4) (v := .ref t) (C := RX4) (T := TX4) (N := 8) hx hb hts iX4 hown hK hP 0 rfl rfl 0 (by decide) (hts _ q157) (fun _ h9 => h9) rfl dX4_append_25 ?_
  refine lv_aload_n hx hb dX4_append_28 rfl (lv_at hl 1 rfl) ?_
  refine va_get (D := D) (ci := 4) (v := .int 1) (C := RX4) (T := TX4) (N := 8) hx hb hts iX4 hown hK hP 0 rfl rfl 1 (by decide) (hts _ q158) (fun _ h9 => h9) rfl dX4_append_29 ?_
  refine lv_iload_n hx hb dX4_append_32 rfl (lv_at hl 2 rfl) ?_
  refine lv_iload_n hx hb dX4_append_33 rfl (lv_at hl 0 rfl) ?_
  refine lv_ishr hx hb dX4_append_34 ?_
  refine lv_topi (fun x_4 ex_4 => ?_)
  refine lv_i2b hx hb dX4_append_35 rfl ?_
  refine lv_topi (fun x_5 ex_5 => ?_)
  refine va_bast hx hb hK hP hD hS 1 1 rfl rfl (vpi (by decide)) dX4_append_36 (fun H locs hP hD hS => ?_)
  have hP : va_P D clz [(h, .inr (4, [.ref t, .int 1, .int 0, .int (-1), .int 0, .int 0, .int 0, .int 0])), (t, .inl (cy 1, 2000, .inl (upd (upd f 0 (vp_nar .byte x_2)) 1 (vp_nar .byte x_5))))] H := hP
  have hD : va_D A [(h, .inr (4, [.ref t, .int 1, .int 0, .int (-1), .int 0, .int 0, .int 0, .int 0])), (t, .inl (cy 1, 2000, .inl (upd (upd f 0 (vp_nar .byte x_2)) 1 (vp_nar .byte x_5))))] := hD
  refine lv_aload_n hx hb dX4_append_37 rfl (lv_at hl 1 rfl) ?_
  refine lv_dup hx hb dX4_append_38 rfl ?_
  refine va_get (D := D) (ci := 4) (v := .int 1) (C := RX4) (T := TX4) (N := 8) hx hb hts iX4 hown hK hP 0 rfl rfl 1 (by decide) (hts _ q158) (fun _ h9 => h9) rfl dX4_append_39 ?_
  refine lv_iconst (v := 1) hx hb dX4_append_42 (by decide) ?_
  refine lv_iadd hx hb dX4_append_43 ?_
  refine lv_topi (fun x_6 ex_6 => ?_)
  obtain rfl : x_6 = 2 := ex_6.trans (by decide)
  refine va_put (D := D) (ci := 4) (v := .int 2) (ty := .int) (C := RX4) (T := TX4) (N := 8) hx hb hts iX4 tyX4 tyX4_ok nmX4 hown hK hP hD hS 0 rfl rfl 1 (by decide) (hts _ q158) (fun _ h9 => h9) rfl (by decide +kernel) rfl rfl (Nat.le_of_ble_eq_true rfl) dX4_append_44 (fun H locs hP hD hS => ?_)
  have hP : va_P D clz [(h, .inr (4, [.ref t, .int 2, .int 0, .int (-1), .int 0, .int 0, .int 0, .int 0])), (t, .inl (cy 1, 2000, .inl (upd (upd f 0 (vp_nar .byte x_2)) 1 (vp_nar .byte x_5))))] H := hP
  have hD : va_D A [(h, .inr (4, [.ref t, .int 2, .int 0, .int (-1), .int 0, .int 0, .int 0, .int 0])), (t, .inl (cy 1, 2000, .inl (upd (upd f 0 (vp_nar .byte x_2)) 1 (vp_nar .byte x_5))))] := hD
  refine lv_iinc (v := 8) (lv' := [(2, .int 8), (0, .ref h), (1, .int p1)]) hx hb dX4_append_47 hl (k := 0) rfl (by decide) (by decide) rfl (fun ls hl => ?_)
  refine lv_goto (tgt := 3) hx hb dX4_append_50 (by decide) ?_
  refine lv_iload_n hx hb dX4_append_3 rfl (lv_at hl 0 rfl) ?_
  refine lv_if_lt (tgt := 53) hx hb dX4_append_4 (by decide) (fun c9 => absurd c9 (by decide)) (fun _ => ?_)
  refine lv_aload_n hx hb dX4_append_7 rfl (lv_at hl 1 rfl) ?_
  refine va_get (D := D) (ci := 4) (v := .int 2) (C := RX4) (T := TX4) (N := 8) hx hb hts iX4 hown hK hP 0 rfl rfl 1 (by decide) (hts _ q158) (fun _ h9 => h9) rfl dX4_append_8 ?_
  refine lv_if_lt (tgt := 47) hx hb dX4_append_11 (by decide) (fun c9 => absurd c9 (by decide)) (fun _ => ?_)
  refine lv_aload_n hx hb dX4_append_14 rfl (lv_at hl 1 rfl) ?_
  refine va_get (D := D) (ci := 4) (v := .int 2) (C := RX4) (T := TX4) (N := 8) hx hb hts iX4 hown hK hP 0 rfl rfl 1 (by decide) (hts _ q158) (fun _ h9 => h9) rfl dX4_append_15 ?_
  refine lv_sipush (v := 2000) hx hb dX4_append_18 (by decide) ?_
  refine lv_icmp_ge (tgt := 47) hx hb dX4_append_21 (by decide) (fun c9 => absurd c9 (by decide)) (fun _ => ?_)
  refine lv_aload_n hx hb dX4_append_24 rfl (lv_at hl 1 rfl) ?_
  refine va_get (D := D) (ci := 4) (v := .ref t) (C := RX4) (T := TX4) (N := 8) hx hb hts iX4 hown hK hP 0 rfl rfl 0 (by decide) (hts _ q157) (fun _ h9 => h9) rfl dX4_append_25 ?_
  refine lv_aload_n hx hb dX4_append_28 rfl (lv_at hl 1 rfl) ?_
  refine va_get (D := D) (ci := 4) (v := .int 2) (C := RX4) (T := TX4) (N := 8) hx hb hts iX4 hown hK hP 0 rfl rfl 1 (by decide) (hts _ q158) (fun _ h9 => h9) rfl dX4_append_29 ?_
  refine lv_iload_n hx hb dX4_append_32 rfl (lv_at hl 2 rfl) ?_
  refine lv_iload_n hx hb dX4_append_33 rfl (lv_at hl 0 rfl) ?_
  refine lv_ishr hx hb dX4_append_34 ?_
  refine lv_topi (fun x_7 ex_7 => ?_)
  refine lv_i2b hx hb dX4_append_35 rfl ?_
  refine lv_topi (fun x_8 ex_8 => ?_)
  refine va_bast hx hb hK hP hD hS 1 1 rfl rfl (vpi (by decide)) dX4_append_36 (fun H locs hP hD hS => ?_)
  have hP : va_P D clz [(h, .inr (4, [.ref t, .int 2, .int 0, .int (-1), .int 0, .int 0, .int 0, .int 0])), (t, .inl (cy 1, 2000, .inl (upd (upd (upd f 0 (vp_nar .byte x_2)) 1 (vp_nar .byte x_5)) 2 (vp_nar .byte x_8))))] H := hP
  have hD : va_D A [(h, .inr (4, [.ref t, .int 2, .int 0, .int (-1), .int 0, .int 0, .int 0, .int 0])), (t, .inl (cy 1, 2000, .inl (upd (upd (upd f 0 (vp_nar .byte x_2)) 1 (vp_nar .byte x_5)) 2 (vp_nar .byte x_8))))] := hD
  refine lv_aload_n hx hb dX4_append_37 rfl (lv_at hl 1 rfl) ?_
  refine lv_dup hx hb dX4_append_38 rfl ?_
  refine va_get (D := D) (ci := 4) (v := .int 2) (C := RX4) (T := TX4) (N := 8) hx hb hts iX4 hown hK hP 0 rfl rfl 1 (by decide) (hts _ q158) (fun _ h9 => h9) rfl dX4_append_39 ?_
  refine lv_iconst (v := 1) hx hb dX4_append_42 (by decide) ?_
  refine lv_iadd hx hb dX4_append_43 ?_
  refine lv_topi (fun x_9 ex_9 => ?_)
  obtain rfl : x_9 = 3 := ex_9.trans (by decide)
  refine va_put (D := D) (ci := 4) (v := .int 3) (ty := .int) (C := RX4) (T := TX4) (N := 8) hx hb hts iX4 tyX4 tyX4_ok nmX4 hown hK hP hD hS 0 rfl rfl 1 (by decide) (hts _ q158) (fun _ h9 => h9) rfl (by decide +kernel) rfl rfl (Nat.le_of_ble_eq_true rfl) dX4_append_44 (fun H locs hP hD hS => ?_)
  have hP : va_P D clz [(h, .inr (4, [.ref t, .int 3, .int 0, .int (-1), .int 0, .int 0, .int 0, .int 0])), (t, .inl (cy 1, 2000, .inl (upd (upd (upd f 0 (vp_nar .byte x_2)) 1 (vp_nar .byte x_5)) 2 (vp_nar .byte x_8))))] H := hP
  have hD : va_D A [(h, .inr (4, [.ref t, .int 3, .int 0, .int (-1), .int 0, .int 0, .int 0, .int 0])), (t, .inl (cy 1, 2000, .inl (upd (upd (upd f 0 (vp_nar .byte x_2)) 1 (vp_nar .byte x_5)) 2 (vp_nar .byte x_8))))] := hD
  refine lv_iinc (v := 0) (lv' := [(2, .int 0), (0, .ref h), (1, .int p1)]) hx hb dX4_append_47 hl (k := 0) rfl (by decide) (by decide) rfl (fun ls hl => ?_)
  refine lv_goto (tgt := 3) hx hb dX4_append_50 (by decide) ?_
  refine lv_iload_n hx hb dX4_append_3 rfl (lv_at hl 0 rfl) ?_
  refine lv_if_lt (tgt := 53) hx hb dX4_append_4 (by decide) (fun c9 => absurd c9 (by decide)) (fun _ => ?_)
  refine lv_aload_n hx hb dX4_append_7 rfl (lv_at hl 1 rfl) ?_
  refine va_get (D := D) (ci := 4) (v := .int 3) (C := RX4) (T := TX4) (N := 8) hx hb hts iX4 hown hK hP 0 rfl rfl 1 (by decide) (hts _ q158) (fun _ h9 => h9) rfl dX4_append_8 ?_
  refine lv_if_lt (tgt := 47) hx hb dX4_append_11 (by decide) (fun c9 => absurd c9 (by decide)) (fun _ => ?_)
  refine lv_aload_n hx hb dX4_append_14 rfl (lv_at hl 1 rfl) ?_
  refine va_get (D := D) (ci := 4) (v := .int 3) (C := RX4) (T := TX4) (N := 8) hx hb hts iX4 hown hK hP 0 rfl rfl 1 (by decide) (hts _ q158) (fun _ h9 => h9) rfl dX4_append_15 ?_
  refine lv_sipush (v := 2000) hx hb dX4_append_18 (by decide) ?_
  refine lv_icmp_ge (tgt := 47) hx hb dX4_append_21 (by decide) (fun c9 => absurd c9 (by decide)) (fun _ => ?_)
  refine lv_aload_n hx hb dX4_append_24 rfl (lv_at hl 1 rfl) ?_
  refine va_get (D := D) (ci := 4) (v := .ref t) (C := RX4) (T := TX4) (N := 8) hx hb hts iX4 hown hK hP 0 rfl rfl 0 (by decide) (hts _ q157) (fun _ h9 => h9) rfl dX4_append_25 ?_
  refine lv_aload_n hx hb dX4_append_28 rfl (lv_at hl 1 rfl) ?_
  refine va_get (D := D) (ci := 4) (v := .int 3) (C := RX4) (T := TX4) (N := 8) hx hb hts iX4 hown hK hP 0 rfl rfl 1 (by decide) (hts _ q158) (fun _ h9 => h9) rfl dX4_append_29 ?_
  refine lv_iload_n hx hb dX4_append_32 rfl (lv_at hl 2 rfl) ?_
  refine lv_iload_n hx hb dX4_append_33 rfl (lv_at hl 0 rfl) ?_
  refine lv_ishr hx hb dX4_append_34 ?_
  refine lv_topi (fun x_10 ex_10 => ?_)
  refine lv_i2b hx hb dX4_append_35 rfl ?_
  refine lv_topi (fun x_11 ex_11 => ?_)
  refine va_bast hx hb hK hP hD hS 1 1 rfl rfl (vpi (by decide)) dX4_append_36 (fun H locs hP hD hS => ?_)
  have hP : va_P D clz [(h, .inr (4, [.ref t, .int 3, .int 0, .int (-1), .int 0, .int 0, .int 0, .int 0])), (t, .inl (cy 1, 2000, .inl (upd (upd (upd (upd f 0 (vp_nar .byte x_2)) 1 (vp_nar .byte x_5)) 2 (vp_nar .byte x_8)) 3 (vp_nar .byte x_11))))] H := hP
  have hD : va_D A [(h, .inr (4, [.ref t, .int 3, .int 0, .int (-1), .int 0, .int 0, .int 0, .int 0])), (t, .inl (cy 1, 2000, .inl (upd (upd (upd (upd f 0 (vp_nar .byte x_2)) 1 (vp_nar .byte x_5)) 2 (vp_nar .byte x_8)) 3 (vp_nar .byte x_11))))] := hD
  refine lv_aload_n hx hb dX4_append_37 rfl (lv_at hl 1 rfl) ?_
  refine lv_dup hx hb dX4_append_38 rfl ?_
  refine va_get (D := D) (ci := 4) (v := .int 3) (C := RX4) (T := TX4) (N := 8) hx hb hts iX4 hown hK hP 0 rfl rfl 1 (by decide) (hts _ q158) (fun _ h9 => h9) rfl dX4_append_39 ?_
  refine lv_iconst (v := 1) hx hb dX4_append_42 (by decide) ?_
  refine lv_iadd hx hb dX4_append_43 ?_
  refine lv_topi (fun x_12 ex_12 => ?_)
  obtain rfl : x_12 = 4 := ex_12.trans (by decide)
  refine va_put (D := D) (ci := 4) (v := .int 4) (ty := .int) (C := RX4) (T := TX4) (N := 8) hx hb hts iX4 tyX4 tyX4_ok nmX4 hown hK hP hD hS 0 rfl rfl 1 (by decide) (hts _ q158) (fun _ h9 => h9) rfl (by decide +kernel) rfl rfl (Nat.le_of_ble_eq_true rfl) dX4_append_44 (fun H locs hP hD hS => ?_)
  have hP : va_P D clz [(h, .inr (4, [.ref t, .int 4, .int 0, .int (-1), .int 0, .int 0, .int 0, .int 0])), (t, .inl (cy 1, 2000, .inl (upd (upd (upd (upd f 0 (vp_nar .byte x_2)) 1 (vp_nar .byte x_5)) 2 (vp_nar .byte x_8)) 3 (vp_nar .byte x_11))))] H := hP
  have hD : va_D A [(h, .inr (4, [.ref t, .int 4, .int 0, .int (-1), .int 0, .int 0, .int 0, .int 0])), (t, .inl (cy 1, 2000, .inl (upd (upd (upd (upd f 0 (vp_nar .byte x_2)) 1 (vp_nar .byte x_5)) 2 (vp_nar .byte x_8)) 3 (vp_nar .byte x_11))))] := hD
  refine lv_iinc (v := (-8)) (lv' := [(2, .int (-8)), (0, .ref h), (1, .int p1)]) hx hb dX4_append_47 hl (k := 0) rfl (by decide) (by decide) rfl (fun ls hl => ?_)
  refine lv_goto (tgt := 3) hx hb dX4_append_50 (by decide) ?_
  refine lv_iload_n hx hb dX4_append_3 rfl (lv_at hl 0 rfl) ?_
  refine lv_if_lt (tgt := 53) hx hb dX4_append_4 (by decide) (fun _ => ?_) (fun c9 => absurd c9 (by decide))
  have hP9 := hP.sub (ws' := [(h, .inr (4, [.ref t, .int 4, .int 0, .int (-1), .int 0, .int 0, .int 0, .int 0])), (t, .inl (cy 1, 2000, .inl (upd (upd (upd (upd f 0 (vp_nar .byte x_2)) 1 (vp_nar .byte x_5)) 2 (vp_nar .byte x_8)) 3 (vp_nar .byte x_11))))]) [0, 1] rfl
  have hD9 := hD.sub (ws' := [(h, .inr (4, [.ref t, .int 4, .int 0, .int (-1), .int 0, .int 0, .int 0, .int 0])), (t, .inl (cy 1, 2000, .inl (upd (upd (upd (upd f 0 (vp_nar .byte x_2)) 1 (vp_nar .byte x_5)) 2 (vp_nar .byte x_8)) 3 (vp_nar .byte x_11))))]) [0, 1] (by decide) rfl
  exact W.vret hx hb hr (fun tS ht hW => ⟨⟨(upd (upd (upd (upd f 0 (vp_nar .byte x_2)) 1 (vp_nar .byte x_5)) 2 (vp_nar .byte x_8)) 3 (vp_nar .byte x_11)), rfl, trivial, by rw [ht]; exact hP9, va_K.moved hW.alike hK, hD9⟩, hS.F ht⟩) hS.2.2 dX4_append_53

