
theorem ar_prim {ty : FieldType} {args : Array Value} {s : State} (h : (Cond.arrayClass ty).before args s = true) : ∃ cA : ClassId, ArrOfT s cA ty ∧ s.vm.findClass ("[" ++ ty.toString) = some cA := by
  obtain ⟨c, k, comp, h1, h2, h3⟩ := Cond.arrayClass_spec h
  exact ⟨c, fun n z => ⟨fun k h => (by cases h), k, h2, comp, h3⟩, h1⟩
theorem ar_obj {C : String} {s : State} (h : va_AO C s) : ∃ cA : ClassId, ArrOfT s cA (.object C) ∧ va_RA s cA (.object C) := by
  obtain ⟨comp, c, k, h1, h2, h3, h4, h5⟩ := Cond.arrayOver_spec h
  exact ⟨c, fun n z => ⟨fun k h => (by cases h), k, h3, comp, h4⟩, k, comp, h3, h4, h1, h5⟩
theorem q144 : Cond.instantiable RX8 12 ∈ lw_g := lw_gm (List.mem_of_getElem? (i := 144) (by decide +kernel)) rfl
theorem q1354 : Cond.instantiable RX9 60 ∈ lw_g := lw_gm (List.mem_of_getElem? (i := 1354) (by decide +kernel)) rfl
theorem q143 : Cond.classLink RL 7 RX8 ∈ lw_g := lw_gm (List.mem_of_getElem? (i := 143) (by decide +kernel)) rfl
theorem q145 : Cond.methodLink RL 9 yX8_init ∈ lw_g := lw_gm (List.mem_of_getElem? (i := 145) (by decide +kernel)) rfl
theorem q146 : Cond.instanceMethod yX8_init ∈ lw_g := lw_gm (List.mem_of_getElem? (i := 146) (by decide +kernel)) rfl
theorem q1353 : Cond.classLink RL 10 RX9 ∈ lw_g := lw_gm (List.mem_of_getElem? (i := 1353) (by decide +kernel)) rfl
theorem q1355 : Cond.methodLink RL 12 yX9_init ∈ lw_g := lw_gm (List.mem_of_getElem? (i := 1355) (by decide +kernel)) rfl
theorem q1356 : Cond.instanceMethod yX9_init ∈ lw_g := lw_gm (List.mem_of_getElem? (i := 1356) (by decide +kernel)) rfl
theorem dL_law_0 : decode cL_law 0 = .ok (.new 7, 3) := by decide +kernel
theorem dL_law_3 : decode cL_law 3 = .ok (.dup, 1) := by decide +kernel
theorem dL_law_4 : decode cL_law 4 = .ok (.invokespecial 9, 3) := by decide +kernel
theorem dL_law_7 : decode cL_law 7 = .ok (.astore_n 1, 1) := by decide +kernel
theorem dL_law_8 : decode cL_law 8 = .ok (.new 10, 3) := by decide +kernel
theorem dL_law_11 : decode cL_law 11 = .ok (.dup, 1) := by decide +kernel
theorem dL_law_12 : decode cL_law 12 = .ok (.invokespecial 12, 3) := by decide +kernel
theorem dL_law_15 : decode cL_law 15 = .ok (.astore_n 2, 1) := by decide +kernel
theorem dL_law_16 : decode cL_law 16 = .ok (.iconst 0, 1) := by decide +kernel
theorem dL_law_17 : decode cL_law 17 = .ok (.istore_n 3, 1) := by decide +kernel
theorem dL_law_27 : decode cL_law 27 = .ok (.aload_n 0, 1) := by decide +kernel
theorem dL_law_28 : decode cL_law 28 = .ok (.iload_n 3, 1) := by decide +kernel
theorem dL_law_29 : decode cL_law 29 = .ok (.iaload, 1) := by decide +kernel
theorem dL_law_30 : decode cL_law 30 = .ok (.bipush 63, 2) := by decide +kernel
theorem dL_law_32 : decode cL_law 32 = .ok (.iand, 1) := by decide +kernel
set_option maxHeartbeats 8000000 in
set_option maxRecDepth 100000 in
theorem st_nst {s : State} {b : Nat} (hts0 : ∀ w ∈ lw_tbl, w.before #[Value.ref b] s = true) : nst s := ⟨va_Nw.of rfl (show (Cond.methodLinkNest RX8 9 yX4_init RX8).before #[Value.ref b] s = true from hts0 _ (List.mem_of_getElem? (i := 153) (by decide +kernel))), va_Nw.of rfl (show (Cond.methodLinkNest RX8 18 yX0_init RX8).before #[Value.ref b] s = true from hts0 _ (List.mem_of_getElem? (i := 188) (by decide +kernel))), va_Nw.of rfl (show (Cond.methodLinkNest RX8 42 yX7_init RX8).before #[Value.ref b] s = true from hts0 _ (List.mem_of_getElem? (i := 243) (by decide +kernel))), va_Nw.of rfl (show (Cond.methodLinkNest RX8 52 yX3_init RX8).before #[Value.ref b] s = true from hts0 _ (List.mem_of_getElem? (i := 274) (by decide +kernel))), va_Nw.of rfl (show (Cond.methodLinkNest RX8 59 yX2_init RX8).before #[Value.ref b] s = true from hts0 _ (List.mem_of_getElem? (i := 348) (by decide +kernel))), va_Nw.of rfl (show (Cond.methodLinkNest RX8 66 yX1_init RX8).before #[Value.ref b] s = true from hts0 _ (List.mem_of_getElem? (i := 363) (by decide +kernel))), va_Nw.of rfl (show (Cond.methodLinkNest RX8 73 yX6_init RX8).before #[Value.ref b] s = true from hts0 _ (List.mem_of_getElem? (i := 397) (by decide +kernel))), va_Nw.of rfl (show (Cond.methodLinkNest RX8 78 yX5_init RX8).before #[Value.ref b] s = true from hts0 _ (List.mem_of_getElem? (i := 412) (by decide +kernel))), va_Nw.of rfl (show (Cond.methodLinkNest RX3 13 yX7_init RX8).before #[Value.ref b] s = true from hts0 _ (List.mem_of_getElem? (i := 279) (by decide +kernel))), va_AO.of (show (Cond.arrayOver (.object RX0)).before #[Value.ref b] s = true from hts0 _ (List.mem_of_getElem? (i := 238) (by decide +kernel))), va_AO.of (show (Cond.arrayOver (.object RX5)).before #[Value.ref b] s = true from hts0 _ (List.mem_of_getElem? (i := 240) (by decide +kernel)))⟩
set_option maxHeartbeats 8000000 in
set_option maxRecDepth 100000 in
theorem st_world {s : State} {b : Nat} (hts : ∀ w ∈ lw_g, w.before #[Value.ref b] s = true) (hN : nst s) : ∃ (D : va_G) (cy : Nat → ClassId), va_K D clz (tyl cy) s := by
  obtain ⟨c0, iS0, hKn0⟩ := u_known (C := RX0) (T := TX0) (N := 10) (n := 10) hts iX0 (hts _ q187)
  obtain ⟨c1, iS1, hKn1⟩ := u_known (C := RX1) (T := TX1) (N := 9) (n := 9) hts iX1 (hts _ q362)
  obtain ⟨c2, iS2, hKn2⟩ := u_known (C := RX2) (T := TX2) (N := 2) (n := 2) hts iX2 (hts _ q347)
  obtain ⟨c3, iS3, hKn3⟩ := u_known (C := RX3) (T := TX3) (N := 20) (n := 20) hts iX3 (hts _ q273)
  obtain ⟨c4, iS4, hKn4⟩ := u_known (C := RX4) (T := TX4) (N := 8) (n := 8) hts iX4 (hts _ q152)
  obtain ⟨c5, iS5, hKn5⟩ := u_known (C := RX5) (T := TX5) (N := 4) (n := 4) hts iX5 (hts _ q411)
  obtain ⟨c6, iS6, hKn6⟩ := u_known (C := RX6) (T := TX6) (N := 3) (n := 3) hts iX6 (hts _ q396)
  obtain ⟨c7, iS7, hKn7⟩ := u_known (C := RX7) (T := TX7) (N := 7) (n := 7) hts iX7 (hts _ q242)
  obtain ⟨c8, iS8, hKn8⟩ := u_known (C := RX8) (T := TX8) (N := 12) (n := 12) hts iX8 (hts _ q144)
  obtain ⟨c9, iS9, hKn9⟩ := u_known (C := RX9) (T := TX9) (N := 60) (n := 60) hts iX9 (hts _ q1354)
  obtain ⟨D, hKc⟩ : ∃ D : va_G, ∀ (k : Nat) (q : vw_C), clz[k]? = some q → u_Kn s q.1 q.2.1 q.2.2 (D.1 k) (D.2 k) := by
    refine ⟨(fun k => match k with | 0 => c0 | 1 => c1 | 2 => c2 | 3 => c3 | 4 => c4 | 5 => c5 | 6 => c6 | 7 => c7 | 8 => c8 | _ => c9, fun k => match k with | 0 => iS0 | 1 => iS1 | 2 => iS2 | 3 => iS3 | 4 => iS4 | 5 => iS5 | 6 => iS6 | 7 => iS7 | 8 => iS8 | _ => iS9), ?_⟩
    intro k q hq
    match k, hq with
    | 0, hq => cases hq; exact hKn0
    | 1, hq => cases hq; exact hKn1
    | 2, hq => cases hq; exact hKn2
    | 3, hq => cases hq; exact hKn3
    | 4, hq => cases hq; exact hKn4
    | 5, hq => cases hq; exact hKn5
    | 6, hq => cases hq; exact hKn6
    | 7, hq => cases hq; exact hKn7
    | 8, hq => cases hq; exact hKn8
    | 9, hq => cases hq; exact hKn9
    | k + 10, hq => simp at hq
  obtain ⟨y0, hy0, hz0⟩ := ar_prim (hts (.arrayClass .int) q237)
  obtain ⟨y1, hy1, hz1⟩ := ar_prim (hts (.arrayClass .byte) q185)
  obtain ⟨y2, hy2, hz2⟩ := ar_prim (hts (.arrayClass .long) q433)
  obtain ⟨y3, hy3, hz3⟩ := ar_prim (hts (.arrayClass .boolean) q1541)
  obtain ⟨y4, hy4, hz4⟩ := ar_obj hN.2.2.2.2.2.2.2.2.2.1
  obtain ⟨y5, hy5, hz5⟩ := ar_obj hN.2.2.2.2.2.2.2.2.2.2
  obtain ⟨cy, hcy⟩ : ∃ cy : Nat → ClassId, ∀ (k : Nat) (q : ClassId × FieldType), (tyl cy)[k]? = some q → ArrOfT s q.1 q.2 ∧ va_RA s q.1 q.2 := by
    refine ⟨fun k => match k with | 0 => y0 | 1 => y1 | 2 => y2 | 3 => y3 | 4 => y4 | _ => y5, ?_⟩
    intro k q hq
    match k, hq with
    | 0, hq => cases hq; exact ⟨hy0, hz0⟩
    | 1, hq => cases hq; exact ⟨hy1, hz1⟩
    | 2, hq => cases hq; exact ⟨hy2, hz2⟩
    | 3, hq => cases hq; exact ⟨hy3, hz3⟩
    | 4, hq => cases hq; exact ⟨hy4, hz4⟩
    | 5, hq => cases hq; exact ⟨hy5, hz5⟩
    | k + 6, hq => simp at hq
  exact ⟨D, cy, hKc, hcy⟩
theorem sub6 {L : Nat} (h : L ≤ 5) : Int32.ofNat L - 6 < 0 := by
  match L, h with
  | 0, _ => decide
  | 1, _ => decide
  | 2, _ => decide
  | 3, _ => decide
  | 4, _ => decide
  | 5, _ => decide
  | n + 6, h => exact absurd h (by omega)
set_option maxHeartbeats 8000000 in
set_option maxRecDepth 100000 in
theorem st_loop {p : Program} {l : Launch} {e : Env} {s : State} {m : MethodId} {below : List Frame} {meth : Method} {c : Code} {b : Nat} {xs : Nat → Int32} {L : Nat} (C0 : lw_At p s m meth c b L xs) (hL : L ≤ 6) (D : va_G) (cy : Nat → ClassId) (g1 g2 : Nat → Nat) (hK : va_K D clz (tyl cy) s) (H : Heap) (locs : List Loc) (ls : Array Slot) (hP : va_P D clz (fullW cy g1 g2) H) (hD : va_D (fun q : Nat => s.heap.size ≤ q) (fullW cy g1 g2)) (hS : va_S (fun q : Nat => s.heap.size ≤ q) s.heap H locs) (hl : lv_has ls 4 [(3, .int 0), (2, .ref (g2 60)), (1, .ref (g1 0)), (0, .ref b)]) : W p l e room_1 s m #[Value.ref b] below meth c H locs 200 700000 (lw_Z below #[Value.ref b] s) (F0 m 18 ls []) := by
  obtain ⟨hx, hb, hr, hml, hown0, hts0, hX, hbl, hlocks, hgv⟩ := C0
  have hown : s.vm.findClass RL = some m.cls := hown0
  have hts : ∀ w ∈ lw_g, w.before #[Value.ref b] s = true := fun w h => hts0 w (lw_gt h)
  have hA : ∀ q : Nat, s.heap.size ≤ q → (fun q : Nat => s.heap.size ≤ q) q := fun _ h => h
  have hbA : ¬ (fun q : Nat => s.heap.size ≤ q) b := Nat.not_le.mpr hbl
  refine lv_iload_n hx hb dL_law_18 rfl (lv_at hl 0 rfl) ?_
  refine lv_aload_n hx hb dL_law_19 rfl (lv_at hl 3 rfl) ?_
  refine va_slen hx hb hX hbl hbA hS dL_law_20 ?_
  refine lv_bipush (v := 6) hx hb dL_law_21 (by decide) ?_
  refine lv_isub hx hb dL_law_23 ?_
  refine lv_topi (fun y ey => ?_)
  by_cases hL6 : L = 6
  ·
    subst hL6
    obtain rfl : y = 0 := ey.trans (by decide)
    refine lv_icmp_gt (tgt := 2417) hx hb dL_law_24 (by decide) (fun c9 => absurd c9 (by decide)) (fun _ => ?_)
    refine lv_aload_n hx hb dL_law_27 rfl (lv_at hl 3 rfl) ?_
    refine lv_iload_n hx hb dL_law_28 rfl (lv_at hl 0 rfl) ?_
    refine va_sld hx hb hX hbl hbA hS (vpi (by decide)) dL_law_29 ?_
    refine lv_bipush (v := 63) hx hb dL_law_30 (by decide) ?_
    refine lv_iand hx hb dL_law_32 ?_
    obtain ⟨j, hj, ej⟩ := pk_andE (xs (0 : Int32).toNatClampNeg) (m := 63) 6 (by decide)
    refine lv_topi (fun z ez => ?_)
    rw [ej] at ez
    subst ez
    exact law_disp D cy g1 g2 ⟨hx, hb, hr, hml, hown0, hts0, hX, hbl, hlocks, hgv⟩ hK _ _ _ hP hD hS hl j hj
  ·
    have hL5 : L ≤ 5 := by omega
    have hy : y < 0 := by
      rw [ey]
      exact sub6 hL5
    refine lv_icmp_gt (tgt := 2417) hx hb dL_law_24 (by decide) (fun _ => ?_) (fun c9 => absurd hy c9)
    refine lv_iconst (v := 1) hx hb dL_law_2417 (by decide) ?_
    refine va_forget (fun q hq => hS.2.2 q hq) ?_
    refine W.widen (k := 600000) (n := 7302249) (Nat.le_of_ble_eq_true rfl) (Nat.le_of_ble_eq_true rfl) ?_
    exact lw_ret hx hb hr hlocks dL_law_2418
set_option maxHeartbeats 8000000 in
set_option maxRecDepth 100000 in
theorem whole_start {p : Program} {e : Env} {s : State} {m : MethodId} {below : List Frame} {meth : Method} {c : Code} (l : Launch) (hflags : l.flags = flags0) {b L : Nat} {xs : Nat → Int32} (hL : L ≤ 6) (C0 : lw_At p s m meth c b L xs) : W p l e room_1 s m #[Value.ref b] below meth c s.heap [] 0 0 (lw_Z below #[Value.ref b] s) (entryFrame m ([Value.ref b] : List Value).toArray 4) := by
  obtain ⟨hx, hb, hr, hml, hown0, hts0, hX, hbl, hlocks, hgv⟩ := id C0
  have hown : s.vm.findClass RL = some m.cls := hown0
  have hts : ∀ w ∈ lw_g, w.before #[Value.ref b] s = true := fun w h => hts0 w (lw_gt h)
  have hA : ∀ q : Nat, s.heap.size ≤ q → (fun q : Nat => s.heap.size ≤ q) q := fun _ h => h
  have hbA : ¬ (fun q : Nat => s.heap.size ≤ q) b := Nat.not_le.mpr hbl
  have hN := st_nst hts0
  obtain ⟨D, cy, hK⟩ := st_world hts hN
  have hS : va_S (fun q : Nat => s.heap.size ≤ q) s.heap s.heap [] := va_S.rf
  have hP : va_P D clz [] s.heap := fun k q h => by simp at h
  have hD : va_D (fun q : Nat => s.heap.size ≤ q) [] := ⟨fun i j p q h => by simp at h, fun k q h => by simp at h⟩
  have hl := lv_entry ([.ref b]) (n := 4) (Nat.le_of_ble_eq_true rfl)
  rw [lg_entry_eq]
  generalize (lg_sl ([.ref b]) ++ List.replicate (4 - (lg_sl ([.ref b])).length) Slot.unset).toArray = ls at hl ⊢
  have hl : lv_has ls 4 [(0, .ref b)] := hl
  refine va_new (ci := 8) (fs := [.null, .null, .null, .null, .null, .null, .null, .null, .null, .null, .null, .null]) (C := RX8) (T := TX8) (N := 12) hx hb hts iX8 tyX8 tyX8_ok hown (hts _ q143) (hts _ q144) (hts _ q125) hK hP hD hS hA rfl dfX8 (Nat.le_of_ble_eq_true rfl) (Nat.le_of_ble_eq_true rfl) dL_law_0 (fun q_1 H hP hD hS => ?_)
  have hP : va_P D clz [(q_1, .inr (8, [.null, .null, .null, .null, .null, .null, .null, .null, .null, .null, .null, .null]))] H := hP
  have hD : va_D (fun q : Nat => s.heap.size ≤ q) [(q_1, .inr (8, [.null, .null, .null, .null, .null, .null, .null, .null, .null, .null, .null, .null]))] := hD
  refine W.widen (k := 1) (n := 12) (Nat.le_of_ble_eq_true rfl) (Nat.le_of_ble_eq_true rfl) ?_
  refine lv_dup hx hb dL_law_3 rfl ?_
  have hPc := hP.sub (ws' := [(q_1, .inr (8, [.null, .null, .null, .null, .null, .null, .null, .null, .null, .null, .null, .null]))]) [0] rfl
  have hDc := hD.sub (ws' := [(q_1, .inr (8, [.null, .null, .null, .null, .null, .null, .null, .null, .null, .null, .null, .null]))]) [0] (by decide) rfl
  have hFc := va_free (wc := [(q_1, .inr (8, [.null, .null, .null, .null, .null, .null, .null, .null, .null, .null, .null, .null]))]) hD hS hA [0] rfl
  refine va_callv (va_runI (As := []) (rest := [.ref q_1]) ⟨hx, hb, hml, hown, hts⟩ (c_X8_initB l D cy q_1 H.size) (cwI 0 hts (gd_I q147) rfl rfl rfl (hts _ q125) (hts _ q145) (hts _ q146) rfl (by decide +kernel) ⟨Nat.le_of_ble_eq_true rfl, Nat.le_of_ble_eq_true rfl⟩) (pr_N hN hPc hK hDc) rfl rfl hl.1 rfl (lv_room (Nat.le_of_ble_eq_true rfl)) dL_law_4 ⟨Nat.le_of_ble_eq_true rfl, Nat.le_of_ble_eq_true rfl⟩) hS (fun q _ h => hFc q h) hFc (fun u tS H1 locs ht hvm hw hB hz1 hk1 hS => ?_)
  obtain ⟨hP1, hK1, hD1⟩ := hB
  rw [ht] at hP1
  try dsimp only at hw
  obtain ⟨g_3, rfl⟩ : ∃ z, z = u := ⟨_, rfl⟩
  rw [← hw]
  obtain ⟨hP, hD⟩ := va_join (wr := []) (w1 := [(g_3 0, .inr (8, xF g_3)), (g_3 1, .inr (4, [.ref (g_3 2), .int 0, .int 0, .int (-1), .int 0, .int 0, .int 0, .int 0])), (g_3 2, .inl (cy 1, 2000, .inl (fun _ => 0))), (g_3 3, .inr (0, [.int 0, .int 0, .int 0, .int 0, .int 0, .int 0, .ref (g_3 4), .ref (g_3 5), .ref (g_3 6), .ref (g_3 7)])), (g_3 4, .inl (cy 0, 28, .inl (fun _ => 0))), (g_3 5, .inl (cy 0, 36, .inl (fun _ => 0))), (g_3 6, .inl (cy 0, 240, .inl (fun _ => 0))), (g_3 7, .inl (cy 0, 3, .inl (fun _ => 0))), (g_3 8, .inr (0, [.int 0, .int 0, .int 0, .int 0, .int 0, .int 0, .ref (g_3 40), .ref (g_3 41), .ref (g_3 42), .ref (g_3 43)])), (g_3 9, .inl (cy 4, 3, .inr (.inr (.inr (.inr (va_up (va_up (va_up (fun _ => none) 0 (some (g_3 10))) 1 (some (g_3 15))) 2 (some (g_3 20)))))))), (g_3 10, .inr (0, [.int 0, .int 0, .int 0, .int 0, .int 0, .int 0, .ref (g_3 11), .ref (g_3 12), .ref (g_3 13), .ref (g_3 14)])), (g_3 11, .inl (cy 0, 28, .inl (fun _ => 0))), (g_3 12, .inl (cy 0, 36, .inl (fun _ => 0))), (g_3 13, .inl (cy 0, 240, .inl (fun _ => 0))), (g_3 14, .inl (cy 0, 3, .inl (fun _ => 0))), (g_3 15, .inr (0, [.int 0, .int 0, .int 0, .int 0, .int 0, .int 0, .ref (g_3 16), .ref (g_3 17), .ref (g_3 18), .ref (g_3 19)])), (g_3 16, .inl (cy 0, 28, .inl (fun _ => 0))), (g_3 17, .inl (cy 0, 36, .inl (fun _ => 0))), (g_3 18, .inl (cy 0, 240, .inl (fun _ => 0))), (g_3 19, .inl (cy 0, 3, .inl (fun _ => 0))), (g_3 20, .inr (0, [.int 0, .int 0, .int 0, .int 0, .int 0, .int 0, .ref (g_3 21), .ref (g_3 22), .ref (g_3 23), .ref (g_3 24)])), (g_3 21, .inl (cy 0, 28, .inl (fun _ => 0))), (g_3 22, .inl (cy 0, 36, .inl (fun _ => 0))), (g_3 23, .inl (cy 0, 240, .inl (fun _ => 0))), (g_3 24, .inl (cy 0, 3, .inl (fun _ => 0))), (g_3 25, .inl (cy 0, 3, .inl (fun _ => 0))), (g_3 26, .inl (cy 5, 4, .inr (.inr (.inr (.inr (va_up (va_up (va_up (va_up (fun _ => none) 0 (some (g_3 27))) 1 (some (g_3 29))) 2 (some (g_3 31))) 3 (some (g_3 33)))))))), (g_3 27, .inr (5, [.int 0, .int 0, .int 0, .ref (g_3 28)])), (g_3 28, .inl (cy 2, 60, .inr (.inl (fun _ => 0)))), (g_3 29, .inr (5, [.int 0, .int 0, .int 0, .ref (g_3 30)])), (g_3 30, .inl (cy 2, 60, .inr (.inl (fun _ => 0)))), (g_3 31, .inr (5, [.int 0, .int 0, .int 0, .ref (g_3 32)])), (g_3 32, .inl (cy 2, 60, .inr (.inl (fun _ => 0)))), (g_3 33, .inr (5, [.int 0, .int 0, .int 0, .ref (g_3 34)])), (g_3 34, .inl (cy 2, 60, .inr (.inl (fun _ => 0))))]) hP hD [0] [] rfl rfl (by decide) (by decide) hk1 hFc hP1 hD1
  generalize H1 = H at hP hS ⊢
  have hP : va_P D clz [(g_3 0, .inr (8, xF g_3)), (g_3 1, .inr (4, [.ref (g_3 2), .int 0, .int 0, .int (-1), .int 0, .int 0, .int 0, .int 0])), (g_3 2, .inl (cy 1, 2000, .inl (fun _ => 0))), (g_3 3, .inr (0, [.int 0, .int 0, .int 0, .int 0, .int 0, .int 0, .ref (g_3 4), .ref (g_3 5), .ref (g_3 6), .ref (g_3 7)])), (g_3 4, .inl (cy 0, 28, .inl (fun _ => 0))), (g_3 5, .inl (cy 0, 36, .inl (fun _ => 0))), (g_3 6, .inl (cy 0, 240, .inl (fun _ => 0))), (g_3 7, .inl (cy 0, 3, .inl (fun _ => 0))), (g_3 8, .inr (0, [.int 0, .int 0, .int 0, .int 0, .int 0, .int 0, .ref (g_3 40), .ref (g_3 41), .ref (g_3 42), .ref (g_3 43)])), (g_3 9, .inl (cy 4, 3, .inr (.inr (.inr (.inr (va_up (va_up (va_up (fun _ => none) 0 (some (g_3 10))) 1 (some (g_3 15))) 2 (some (g_3 20)))))))), (g_3 10, .inr (0, [.int 0, .int 0, .int 0, .int 0, .int 0, .int 0, .ref (g_3 11), .ref (g_3 12), .ref (g_3 13), .ref (g_3 14)])), (g_3 11, .inl (cy 0, 28, .inl (fun _ => 0))), (g_3 12, .inl (cy 0, 36, .inl (fun _ => 0))), (g_3 13, .inl (cy 0, 240, .inl (fun _ => 0))), (g_3 14, .inl (cy 0, 3, .inl (fun _ => 0))), (g_3 15, .inr (0, [.int 0, .int 0, .int 0, .int 0, .int 0, .int 0, .ref (g_3 16), .ref (g_3 17), .ref (g_3 18), .ref (g_3 19)])), (g_3 16, .inl (cy 0, 28, .inl (fun _ => 0))), (g_3 17, .inl (cy 0, 36, .inl (fun _ => 0))), (g_3 18, .inl (cy 0, 240, .inl (fun _ => 0))), (g_3 19, .inl (cy 0, 3, .inl (fun _ => 0))), (g_3 20, .inr (0, [.int 0, .int 0, .int 0, .int 0, .int 0, .int 0, .ref (g_3 21), .ref (g_3 22), .ref (g_3 23), .ref (g_3 24)])), (g_3 21, .inl (cy 0, 28, .inl (fun _ => 0))), (g_3 22, .inl (cy 0, 36, .inl (fun _ => 0))), (g_3 23, .inl (cy 0, 240, .inl (fun _ => 0))), (g_3 24, .inl (cy 0, 3, .inl (fun _ => 0))), (g_3 25, .inl (cy 0, 3, .inl (fun _ => 0))), (g_3 26, .inl (cy 5, 4, .inr (.inr (.inr (.inr (va_up (va_up (va_up (va_up (fun _ => none) 0 (some (g_3 27))) 1 (some (g_3 29))) 2 (some (g_3 31))) 3 (some (g_3 33)))))))), (g_3 27, .inr (5, [.int 0, .int 0, .int 0, .ref (g_3 28)])), (g_3 28, .inl (cy 2, 60, .inr (.inl (fun _ => 0)))), (g_3 29, .inr (5, [.int 0, .int 0, .int 0, .ref (g_3 30)])), (g_3 30, .inl (cy 2, 60, .inr (.inl (fun _ => 0)))), (g_3 31, .inr (5, [.int 0, .int 0, .int 0, .ref (g_3 32)])), (g_3 32, .inl (cy 2, 60, .inr (.inl (fun _ => 0)))), (g_3 33, .inr (5, [.int 0, .int 0, .int 0, .ref (g_3 34)])), (g_3 34, .inl (cy 2, 60, .inr (.inl (fun _ => 0))))] H := hP
  have hD : va_D (fun q : Nat => s.heap.size ≤ q) [(g_3 0, .inr (8, xF g_3)), (g_3 1, .inr (4, [.ref (g_3 2), .int 0, .int 0, .int (-1), .int 0, .int 0, .int 0, .int 0])), (g_3 2, .inl (cy 1, 2000, .inl (fun _ => 0))), (g_3 3, .inr (0, [.int 0, .int 0, .int 0, .int 0, .int 0, .int 0, .ref (g_3 4), .ref (g_3 5), .ref (g_3 6), .ref (g_3 7)])), (g_3 4, .inl (cy 0, 28, .inl (fun _ => 0))), (g_3 5, .inl (cy 0, 36, .inl (fun _ => 0))), (g_3 6, .inl (cy 0, 240, .inl (fun _ => 0))), (g_3 7, .inl (cy 0, 3, .inl (fun _ => 0))), (g_3 8, .inr (0, [.int 0, .int 0, .int 0, .int 0, .int 0, .int 0, .ref (g_3 40), .ref (g_3 41), .ref (g_3 42), .ref (g_3 43)])), (g_3 9, .inl (cy 4, 3, .inr (.inr (.inr (.inr (va_up (va_up (va_up (fun _ => none) 0 (some (g_3 10))) 1 (some (g_3 15))) 2 (some (g_3 20)))))))), (g_3 10, .inr (0, [.int 0, .int 0, .int 0, .int 0, .int 0, .int 0, .ref (g_3 11), .ref (g_3 12), .ref (g_3 13), .ref (g_3 14)])), (g_3 11, .inl (cy 0, 28, .inl (fun _ => 0))), (g_3 12, .inl (cy 0, 36, .inl (fun _ => 0))), (g_3 13, .inl (cy 0, 240, .inl (fun _ => 0))), (g_3 14, .inl (cy 0, 3, .inl (fun _ => 0))), (g_3 15, .inr (0, [.int 0, .int 0, .int 0, .int 0, .int 0, .int 0, .ref (g_3 16), .ref (g_3 17), .ref (g_3 18), .ref (g_3 19)])), (g_3 16, .inl (cy 0, 28, .inl (fun _ => 0))), (g_3 17, .inl (cy 0, 36, .inl (fun _ => 0))), (g_3 18, .inl (cy 0, 240, .inl (fun _ => 0))), (g_3 19, .inl (cy 0, 3, .inl (fun _ => 0))), (g_3 20, .inr (0, [.int 0, .int 0, .int 0, .int 0, .int 0, .int 0, .ref (g_3 21), .ref (g_3 22), .ref (g_3 23), .ref (g_3 24)])), (g_3 21, .inl (cy 0, 28, .inl (fun _ => 0))), (g_3 22, .inl (cy 0, 36, .inl (fun _ => 0))), (g_3 23, .inl (cy 0, 240, .inl (fun _ => 0))), (g_3 24, .inl (cy 0, 3, .inl (fun _ => 0))), (g_3 25, .inl (cy 0, 3, .inl (fun _ => 0))), (g_3 26, .inl (cy 5, 4, .inr (.inr (.inr (.inr (va_up (va_up (va_up (va_up (fun _ => none) 0 (some (g_3 27))) 1 (some (g_3 29))) 2 (some (g_3 31))) 3 (some (g_3 33)))))))), (g_3 27, .inr (5, [.int 0, .int 0, .int 0, .ref (g_3 28)])), (g_3 28, .inl (cy 2, 60, .inr (.inl (fun _ => 0)))), (g_3 29, .inr (5, [.int 0, .int 0, .int 0, .ref (g_3 30)])), (g_3 30, .inl (cy 2, 60, .inr (.inl (fun _ => 0)))), (g_3 31, .inr (5, [.int 0, .int 0, .int 0, .ref (g_3 32)])), (g_3 32, .inl (cy 2, 60, .inr (.inl (fun _ => 0)))), (g_3 33, .inr (5, [.int 0, .int 0, .int 0, .ref (g_3 34)])), (g_3 34, .inl (cy 2, 60, .inr (.inl (fun _ => 0))))] := hD
  refine W.widen (k := 71) (n := 31143) (Nat.le_of_ble_eq_true rfl) (Nat.le_of_ble_eq_true rfl) ?_
  refine lv_astore_n (lv' := [(1, .ref (g_3 0)), (0, .ref b)]) hx hb dL_law_7 rfl hl (by decide) rfl (fun ls hl => ?_)
  refine va_new (ci := 9) (fs := [.int 0, .null, .null, .null, .null, .null, .int 0, .int 0, .int 0, .int 0, .int 0, .long 0, .int 0, .int 0, .int 0, .int 0, .null, .null, .null, .null, .null, .null, .null, .int 0, .null, .null, .null, .null, .int 0, .int 0, .int 0, .int 0, .null, .null, .null, .null, .null, .null, .null, .int 0, .int 0, .long 0, .null, .null, .null, .null, .null, .null, .null, .null, .null, .int 0, .int 0, .null, .null, .null, .null, .null, .int 0, .int 0]) (C := RX9) (T := TX9) (N := 60) hx hb hts iX9 tyX9 tyX9_ok hown (hts _ q1353) (hts _ q1354) (hts _ q134) hK hP hD hS hA rfl dfX9 (Nat.le_of_ble_eq_true rfl) (Nat.le_of_ble_eq_true rfl) dL_law_8 (fun q_4 H hP hD hS => ?_)
  have hP : va_P D clz [(g_3 0, .inr (8, xF g_3)), (g_3 1, .inr (4, [.ref (g_3 2), .int 0, .int 0, .int (-1), .int 0, .int 0, .int 0, .int 0])), (g_3 2, .inl (cy 1, 2000, .inl (fun _ => 0))), (g_3 3, .inr (0, [.int 0, .int 0, .int 0, .int 0, .int 0, .int 0, .ref (g_3 4), .ref (g_3 5), .ref (g_3 6), .ref (g_3 7)])), (g_3 4, .inl (cy 0, 28, .inl (fun _ => 0))), (g_3 5, .inl (cy 0, 36, .inl (fun _ => 0))), (g_3 6, .inl (cy 0, 240, .inl (fun _ => 0))), (g_3 7, .inl (cy 0, 3, .inl (fun _ => 0))), (g_3 8, .inr (0, [.int 0, .int 0, .int 0, .int 0, .int 0, .int 0, .ref (g_3 40), .ref (g_3 41), .ref (g_3 42), .ref (g_3 43)])), (g_3 9, .inl (cy 4, 3, .inr (.inr (.inr (.inr (va_up (va_up (va_up (fun _ => none) 0 (some (g_3 10))) 1 (some (g_3 15))) 2 (some (g_3 20)))))))), (g_3 10, .inr (0, [.int 0, .int 0, .int 0, .int 0, .int 0, .int 0, .ref (g_3 11), .ref (g_3 12), .ref (g_3 13), .ref (g_3 14)])), (g_3 11, .inl (cy 0, 28, .inl (fun _ => 0))), (g_3 12, .inl (cy 0, 36, .inl (fun _ => 0))), (g_3 13, .inl (cy 0, 240, .inl (fun _ => 0))), (g_3 14, .inl (cy 0, 3, .inl (fun _ => 0))), (g_3 15, .inr (0, [.int 0, .int 0, .int 0, .int 0, .int 0, .int 0, .ref (g_3 16), .ref (g_3 17), .ref (g_3 18), .ref (g_3 19)])), (g_3 16, .inl (cy 0, 28, .inl (fun _ => 0))), (g_3 17, .inl (cy 0, 36, .inl (fun _ => 0))), (g_3 18, .inl (cy 0, 240, .inl (fun _ => 0))), (g_3 19, .inl (cy 0, 3, .inl (fun _ => 0))), (g_3 20, .inr (0, [.int 0, .int 0, .int 0, .int 0, .int 0, .int 0, .ref (g_3 21), .ref (g_3 22), .ref (g_3 23), .ref (g_3 24)])), (g_3 21, .inl (cy 0, 28, .inl (fun _ => 0))), (g_3 22, .inl (cy 0, 36, .inl (fun _ => 0))), (g_3 23, .inl (cy 0, 240, .inl (fun _ => 0))), (g_3 24, .inl (cy 0, 3, .inl (fun _ => 0))), (g_3 25, .inl (cy 0, 3, .inl (fun _ => 0))), (g_3 26, .inl (cy 5, 4, .inr (.inr (.inr (.inr (va_up (va_up (va_up (va_up (fun _ => none) 0 (some (g_3 27))) 1 (some (g_3 29))) 2 (some (g_3 31))) 3 (some (g_3 33)))))))), (g_3 27, .inr (5, [.int 0, .int 0, .int 0, .ref (g_3 28)])), (g_3 28, .inl (cy 2, 60, .inr (.inl (fun _ => 0)))), (g_3 29, .inr (5, [.int 0, .int 0, .int 0, .ref (g_3 30)])), (g_3 30, .inl (cy 2, 60, .inr (.inl (fun _ => 0)))), (g_3 31, .inr (5, [.int 0, .int 0, .int 0, .ref (g_3 32)])), (g_3 32, .inl (cy 2, 60, .inr (.inl (fun _ => 0)))), (g_3 33, .inr (5, [.int 0, .int 0, .int 0, .ref (g_3 34)])), (g_3 34, .inl (cy 2, 60, .inr (.inl (fun _ => 0)))), (q_4, .inr (9, [.int 0, .null, .null, .null, .null, .null, .int 0, .int 0, .int 0, .int 0, .int 0, .long 0, .int 0, .int 0, .int 0, .int 0, .null, .null, .null, .null, .null, .null, .null, .int 0, .null, .null, .null, .null, .int 0, .int 0, .int 0, .int 0, .null, .null, .null, .null, .null, .null, .null, .int 0, .int 0, .long 0, .null, .null, .null, .null, .null, .null, .null, .null, .null, .int 0, .int 0, .null, .null, .null, .null, .null, .int 0, .int 0]))] H := hP
  have hD : va_D (fun q : Nat => s.heap.size ≤ q) [(g_3 0, .inr (8, xF g_3)), (g_3 1, .inr (4, [.ref (g_3 2), .int 0, .int 0, .int (-1), .int 0, .int 0, .int 0, .int 0])), (g_3 2, .inl (cy 1, 2000, .inl (fun _ => 0))), (g_3 3, .inr (0, [.int 0, .int 0, .int 0, .int 0, .int 0, .int 0, .ref (g_3 4), .ref (g_3 5), .ref (g_3 6), .ref (g_3 7)])), (g_3 4, .inl (cy 0, 28, .inl (fun _ => 0))), (g_3 5, .inl (cy 0, 36, .inl (fun _ => 0))), (g_3 6, .inl (cy 0, 240, .inl (fun _ => 0))), (g_3 7, .inl (cy 0, 3, .inl (fun _ => 0))), (g_3 8, .inr (0, [.int 0, .int 0, .int 0, .int 0, .int 0, .int 0, .ref (g_3 40), .ref (g_3 41), .ref (g_3 42), .ref (g_3 43)])), (g_3 9, .inl (cy 4, 3, .inr (.inr (.inr (.inr (va_up (va_up (va_up (fun _ => none) 0 (some (g_3 10))) 1 (some (g_3 15))) 2 (some (g_3 20)))))))), (g_3 10, .inr (0, [.int 0, .int 0, .int 0, .int 0, .int 0, .int 0, .ref (g_3 11), .ref (g_3 12), .ref (g_3 13), .ref (g_3 14)])), (g_3 11, .inl (cy 0, 28, .inl (fun _ => 0))), (g_3 12, .inl (cy 0, 36, .inl (fun _ => 0))), (g_3 13, .inl (cy 0, 240, .inl (fun _ => 0))), (g_3 14, .inl (cy 0, 3, .inl (fun _ => 0))), (g_3 15, .inr (0, [.int 0, .int 0, .int 0, .int 0, .int 0, .int 0, .ref (g_3 16), .ref (g_3 17), .ref (g_3 18), .ref (g_3 19)])), (g_3 16, .inl (cy 0, 28, .inl (fun _ => 0))), (g_3 17, .inl (cy 0, 36, .inl (fun _ => 0))), (g_3 18, .inl (cy 0, 240, .inl (fun _ => 0))), (g_3 19, .inl (cy 0, 3, .inl (fun _ => 0))), (g_3 20, .inr (0, [.int 0, .int 0, .int 0, .int 0, .int 0, .int 0, .ref (g_3 21), .ref (g_3 22), .ref (g_3 23), .ref (g_3 24)])), (g_3 21, .inl (cy 0, 28, .inl (fun _ => 0))), (g_3 22, .inl (cy 0, 36, .inl (fun _ => 0))), (g_3 23, .inl (cy 0, 240, .inl (fun _ => 0))), (g_3 24, .inl (cy 0, 3, .inl (fun _ => 0))), (g_3 25, .inl (cy 0, 3, .inl (fun _ => 0))), (g_3 26, .inl (cy 5, 4, .inr (.inr (.inr (.inr (va_up (va_up (va_up (va_up (fun _ => none) 0 (some (g_3 27))) 1 (some (g_3 29))) 2 (some (g_3 31))) 3 (some (g_3 33)))))))), (g_3 27, .inr (5, [.int 0, .int 0, .int 0, .ref (g_3 28)])), (g_3 28, .inl (cy 2, 60, .inr (.inl (fun _ => 0)))), (g_3 29, .inr (5, [.int 0, .int 0, .int 0, .ref (g_3 30)])), (g_3 30, .inl (cy 2, 60, .inr (.inl (fun _ => 0)))), (g_3 31, .inr (5, [.int 0, .int 0, .int 0, .ref (g_3 32)])), (g_3 32, .inl (cy 2, 60, .inr (.inl (fun _ => 0)))), (g_3 33, .inr (5, [.int 0, .int 0, .int 0, .ref (g_3 34)])), (g_3 34, .inl (cy 2, 60, .inr (.inl (fun _ => 0)))), (q_4, .inr (9, [.int 0, .null, .null, .null, .null, .null, .int 0, .int 0, .int 0, .int 0, .int 0, .long 0, .int 0, .int 0, .int 0, .int 0, .null, .null, .null, .null, .null, .null, .null, .int 0, .null, .null, .null, .null, .int 0, .int 0, .int 0, .int 0, .null, .null, .null, .null, .null, .null, .null, .int 0, .int 0, .long 0, .null, .null, .null, .null, .null, .null, .null, .null, .null, .int 0, .int 0, .null, .null, .null, .null, .null, .int 0, .int 0]))] := hD
  refine W.widen (k := 72) (n := 31203) (Nat.le_of_ble_eq_true rfl) (Nat.le_of_ble_eq_true rfl) ?_
  refine lv_dup hx hb dL_law_11 rfl ?_
  have hPc := hP.sub (ws' := [(q_4, .inr (9, [.int 0, .null, .null, .null, .null, .null, .int 0, .int 0, .int 0, .int 0, .int 0, .long 0, .int 0, .int 0, .int 0, .int 0, .null, .null, .null, .null, .null, .null, .null, .int 0, .null, .null, .null, .null, .int 0, .int 0, .int 0, .int 0, .null, .null, .null, .null, .null, .null, .null, .int 0, .int 0, .long 0, .null, .null, .null, .null, .null, .null, .null, .null, .null, .int 0, .int 0, .null, .null, .null, .null, .null, .int 0, .int 0]))]) [35] rfl
  have hDc := hD.sub (ws' := [(q_4, .inr (9, [.int 0, .null, .null, .null, .null, .null, .int 0, .int 0, .int 0, .int 0, .int 0, .long 0, .int 0, .int 0, .int 0, .int 0, .null, .null, .null, .null, .null, .null, .null, .int 0, .null, .null, .null, .null, .int 0, .int 0, .int 0, .int 0, .null, .null, .null, .null, .null, .null, .null, .int 0, .int 0, .long 0, .null, .null, .null, .null, .null, .null, .null, .null, .null, .int 0, .int 0, .null, .null, .null, .null, .null, .int 0, .int 0]))]) [35] (by decide) rfl
  have hFc := va_free (wc := [(q_4, .inr (9, [.int 0, .null, .null, .null, .null, .null, .int 0, .int 0, .int 0, .int 0, .int 0, .long 0, .int 0, .int 0, .int 0, .int 0, .null, .null, .null, .null, .null, .null, .null, .int 0, .null, .null, .null, .null, .int 0, .int 0, .int 0, .int 0, .null, .null, .null, .null, .null, .null, .null, .int 0, .int 0, .long 0, .null, .null, .null, .null, .null, .null, .null, .null, .null, .int 0, .int 0, .null, .null, .null, .null, .null, .int 0, .int 0]))]) hD hS hA [35] rfl
  refine va_callv (va_runI (As := []) (rest := [.ref q_4]) ⟨hx, hb, hml, hown, hts⟩ (c_X9_initB l D cy q_4 H.size) (cwI 0 hts (gd_I q1357) rfl rfl rfl (hts _ q134) (hts _ q1355) (hts _ q1356) rfl (by decide +kernel) ⟨Nat.le_of_ble_eq_true rfl, Nat.le_of_ble_eq_true rfl⟩) (pr_S hPc hK hDc) rfl rfl hl.1 rfl (lv_room (Nat.le_of_ble_eq_true rfl)) dL_law_12 ⟨Nat.le_of_ble_eq_true rfl, Nat.le_of_ble_eq_true rfl⟩) hS (fun q _ h => hFc q h) hFc (fun u tS H1 locs ht hvm hw hB hz1 hk1 hS => ?_)
  obtain ⟨hP1, hK1, hD1⟩ := hB
  rw [ht] at hP1
  try dsimp only at hw
  obtain ⟨g_6, rfl⟩ : ∃ z, z = u := ⟨_, rfl⟩
  rw [← hw]
  obtain ⟨hP, hD⟩ := va_join (wr := [(g_3 0, .inr (8, xF g_3)), (g_3 1, .inr (4, [.ref (g_3 2), .int 0, .int 0, .int (-1), .int 0, .int 0, .int 0, .int 0])), (g_3 2, .inl (cy 1, 2000, .inl (fun _ => 0))), (g_3 3, .inr (0, [.int 0, .int 0, .int 0, .int 0, .int 0, .int 0, .ref (g_3 4), .ref (g_3 5), .ref (g_3 6), .ref (g_3 7)])), (g_3 4, .inl (cy 0, 28, .inl (fun _ => 0))), (g_3 5, .inl (cy 0, 36, .inl (fun _ => 0))), (g_3 6, .inl (cy 0, 240, .inl (fun _ => 0))), (g_3 7, .inl (cy 0, 3, .inl (fun _ => 0))), (g_3 8, .inr (0, [.int 0, .int 0, .int 0, .int 0, .int 0, .int 0, .ref (g_3 40), .ref (g_3 41), .ref (g_3 42), .ref (g_3 43)])), (g_3 9, .inl (cy 4, 3, .inr (.inr (.inr (.inr (va_up (va_up (va_up (fun _ => none) 0 (some (g_3 10))) 1 (some (g_3 15))) 2 (some (g_3 20)))))))), (g_3 10, .inr (0, [.int 0, .int 0, .int 0, .int 0, .int 0, .int 0, .ref (g_3 11), .ref (g_3 12), .ref (g_3 13), .ref (g_3 14)])), (g_3 11, .inl (cy 0, 28, .inl (fun _ => 0))), (g_3 12, .inl (cy 0, 36, .inl (fun _ => 0))), (g_3 13, .inl (cy 0, 240, .inl (fun _ => 0))), (g_3 14, .inl (cy 0, 3, .inl (fun _ => 0))), (g_3 15, .inr (0, [.int 0, .int 0, .int 0, .int 0, .int 0, .int 0, .ref (g_3 16), .ref (g_3 17), .ref (g_3 18), .ref (g_3 19)])), (g_3 16, .inl (cy 0, 28, .inl (fun _ => 0))), (g_3 17, .inl (cy 0, 36, .inl (fun _ => 0))), (g_3 18, .inl (cy 0, 240, .inl (fun _ => 0))), (g_3 19, .inl (cy 0, 3, .inl (fun _ => 0))), (g_3 20, .inr (0, [.int 0, .int 0, .int 0, .int 0, .int 0, .int 0, .ref (g_3 21), .ref (g_3 22), .ref (g_3 23), .ref (g_3 24)])), (g_3 21, .inl (cy 0, 28, .inl (fun _ => 0))), (g_3 22, .inl (cy 0, 36, .inl (fun _ => 0))), (g_3 23, .inl (cy 0, 240, .inl (fun _ => 0))), (g_3 24, .inl (cy 0, 3, .inl (fun _ => 0))), (g_3 25, .inl (cy 0, 3, .inl (fun _ => 0))), (g_3 26, .inl (cy 5, 4, .inr (.inr (.inr (.inr (va_up (va_up (va_up (va_up (fun _ => none) 0 (some (g_3 27))) 1 (some (g_3 29))) 2 (some (g_3 31))) 3 (some (g_3 33)))))))), (g_3 27, .inr (5, [.int 0, .int 0, .int 0, .ref (g_3 28)])), (g_3 28, .inl (cy 2, 60, .inr (.inl (fun _ => 0)))), (g_3 29, .inr (5, [.int 0, .int 0, .int 0, .ref (g_3 30)])), (g_3 30, .inl (cy 2, 60, .inr (.inl (fun _ => 0)))), (g_3 31, .inr (5, [.int 0, .int 0, .int 0, .ref (g_3 32)])), (g_3 32, .inl (cy 2, 60, .inr (.inl (fun _ => 0)))), (g_3 33, .inr (5, [.int 0, .int 0, .int 0, .ref (g_3 34)])), (g_3 34, .inl (cy 2, 60, .inr (.inl (fun _ => 0))))]) (w1 := [(g_6 60, .inr (9, mF g_6)), (g_6 1, .inl (cy 0, 4, .inl (upd (upd (upd (upd (fun _ => 0) 0 (-1)) 1 (-1)) 2 (-1)) 3 (-1)))), (g_6 2, .inl (cy 0, 4, .inl (fun _ => 0))), (g_6 3, .inl (cy 2, 240, .inr (.inl (fun _ => 0)))), (g_6 5, .inl (cy 1, 2000, .inl (fun _ => 0))), (g_6 16, .inl (cy 0, 5, .inl (fun _ => 0))), (g_6 17, .inl (cy 0, 25, .inl (fun _ => 0))), (g_6 18, .inl (cy 0, 140, .inl (fun _ => 0))), (g_6 19, .inl (cy 0, 180, .inl (fun _ => 0))), (g_6 20, .inl (cy 0, 15, .inl (fun _ => 0))), (g_6 21, .inl (cy 0, 960, .inl (fun _ => 0))), (g_6 22, .inl (cy 3, 3, .inl (fun _ => 0)))]) hP hD [35] [0, 1, 2, 3, 4, 5, 6, 7, 8, 9, 10, 11, 12, 13, 14, 15, 16, 17, 18, 19, 20, 21, 22, 23, 24, 25, 26, 27, 28, 29, 30, 31, 32, 33, 34] rfl rfl (by decide) (by decide) hk1 hFc hP1 hD1
  generalize H1 = H at hP hS ⊢
  have hP : va_P D clz [(g_3 0, .inr (8, xF g_3)), (g_3 1, .inr (4, [.ref (g_3 2), .int 0, .int 0, .int (-1), .int 0, .int 0, .int 0, .int 0])), (g_3 2, .inl (cy 1, 2000, .inl (fun _ => 0))), (g_3 3, .inr (0, [.int 0, .int 0, .int 0, .int 0, .int 0, .int 0, .ref (g_3 4), .ref (g_3 5), .ref (g_3 6), .ref (g_3 7)])), (g_3 4, .inl (cy 0, 28, .inl (fun _ => 0))), (g_3 5, .inl (cy 0, 36, .inl (fun _ => 0))), (g_3 6, .inl (cy 0, 240, .inl (fun _ => 0))), (g_3 7, .inl (cy 0, 3, .inl (fun _ => 0))), (g_3 8, .inr (0, [.int 0, .int 0, .int 0, .int 0, .int 0, .int 0, .ref (g_3 40), .ref (g_3 41), .ref (g_3 42), .ref (g_3 43)])), (g_3 9, .inl (cy 4, 3, .inr (.inr (.inr (.inr (va_up (va_up (va_up (fun _ => none) 0 (some (g_3 10))) 1 (some (g_3 15))) 2 (some (g_3 20)))))))), (g_3 10, .inr (0, [.int 0, .int 0, .int 0, .int 0, .int 0, .int 0, .ref (g_3 11), .ref (g_3 12), .ref (g_3 13), .ref (g_3 14)])), (g_3 11, .inl (cy 0, 28, .inl (fun _ => 0))), (g_3 12, .inl (cy 0, 36, .inl (fun _ => 0))), (g_3 13, .inl (cy 0, 240, .inl (fun _ => 0))), (g_3 14, .inl (cy 0, 3, .inl (fun _ => 0))), (g_3 15, .inr (0, [.int 0, .int 0, .int 0, .int 0, .int 0, .int 0, .ref (g_3 16), .ref (g_3 17), .ref (g_3 18), .ref (g_3 19)])), (g_3 16, .inl (cy 0, 28, .inl (fun _ => 0))), (g_3 17, .inl (cy 0, 36, .inl (fun _ => 0))), (g_3 18, .inl (cy 0, 240, .inl (fun _ => 0))), (g_3 19, .inl (cy 0, 3, .inl (fun _ => 0))), (g_3 20, .inr (0, [.int 0, .int 0, .int 0, .int 0, .int 0, .int 0, .ref (g_3 21), .ref (g_3 22), .ref (g_3 23), .ref (g_3 24)])), (g_3 21, .inl (cy 0, 28, .inl (fun _ => 0))), (g_3 22, .inl (cy 0, 36, .inl (fun _ => 0))), (g_3 23, .inl (cy 0, 240, .inl (fun _ => 0))), (g_3 24, .inl (cy 0, 3, .inl (fun _ => 0))), (g_3 25, .inl (cy 0, 3, .inl (fun _ => 0))), (g_3 26, .inl (cy 5, 4, .inr (.inr (.inr (.inr (va_up (va_up (va_up (va_up (fun _ => none) 0 (some (g_3 27))) 1 (some (g_3 29))) 2 (some (g_3 31))) 3 (some (g_3 33)))))))), (g_3 27, .inr (5, [.int 0, .int 0, .int 0, .ref (g_3 28)])), (g_3 28, .inl (cy 2, 60, .inr (.inl (fun _ => 0)))), (g_3 29, .inr (5, [.int 0, .int 0, .int 0, .ref (g_3 30)])), (g_3 30, .inl (cy 2, 60, .inr (.inl (fun _ => 0)))), (g_3 31, .inr (5, [.int 0, .int 0, .int 0, .ref (g_3 32)])), (g_3 32, .inl (cy 2, 60, .inr (.inl (fun _ => 0)))), (g_3 33, .inr (5, [.int 0, .int 0, .int 0, .ref (g_3 34)])), (g_3 34, .inl (cy 2, 60, .inr (.inl (fun _ => 0)))), (g_6 60, .inr (9, mF g_6)), (g_6 1, .inl (cy 0, 4, .inl (upd (upd (upd (upd (fun _ => 0) 0 (-1)) 1 (-1)) 2 (-1)) 3 (-1)))), (g_6 2, .inl (cy 0, 4, .inl (fun _ => 0))), (g_6 3, .inl (cy 2, 240, .inr (.inl (fun _ => 0)))), (g_6 5, .inl (cy 1, 2000, .inl (fun _ => 0))), (g_6 16, .inl (cy 0, 5, .inl (fun _ => 0))), (g_6 17, .inl (cy 0, 25, .inl (fun _ => 0))), (g_6 18, .inl (cy 0, 140, .inl (fun _ => 0))), (g_6 19, .inl (cy 0, 180, .inl (fun _ => 0))), (g_6 20, .inl (cy 0, 15, .inl (fun _ => 0))), (g_6 21, .inl (cy 0, 960, .inl (fun _ => 0))), (g_6 22, .inl (cy 3, 3, .inl (fun _ => 0)))] H := hP
  have hD : va_D (fun q : Nat => s.heap.size ≤ q) [(g_3 0, .inr (8, xF g_3)), (g_3 1, .inr (4, [.ref (g_3 2), .int 0, .int 0, .int (-1), .int 0, .int 0, .int 0, .int 0])), (g_3 2, .inl (cy 1, 2000, .inl (fun _ => 0))), (g_3 3, .inr (0, [.int 0, .int 0, .int 0, .int 0, .int 0, .int 0, .ref (g_3 4), .ref (g_3 5), .ref (g_3 6), .ref (g_3 7)])), (g_3 4, .inl (cy 0, 28, .inl (fun _ => 0))), (g_3 5, .inl (cy 0, 36, .inl (fun _ => 0))), (g_3 6, .inl (cy 0, 240, .inl (fun _ => 0))), (g_3 7, .inl (cy 0, 3, .inl (fun _ => 0))), (g_3 8, .inr (0, [.int 0, .int 0, .int 0, .int 0, .int 0, .int 0, .ref (g_3 40), .ref (g_3 41), .ref (g_3 42), .ref (g_3 43)])), (g_3 9, .inl (cy 4, 3, .inr (.inr (.inr (.inr (va_up (va_up (va_up (fun _ => none) 0 (some (g_3 10))) 1 (some (g_3 15))) 2 (some (g_3 20)))))))), (g_3 10, .inr (0, [.int 0, .int 0, .int 0, .int 0, .int 0, .int 0, .ref (g_3 11), .ref (g_3 12), .ref (g_3 13), .ref (g_3 14)])), (g_3 11, .inl (cy 0, 28, .inl (fun _ => 0))), (g_3 12, .inl (cy 0, 36, .inl (fun _ => 0))), (g_3 13, .inl (cy 0, 240, .inl (fun _ => 0))), (g_3 14, .inl (cy 0, 3, .inl (fun _ => 0))), (g_3 15, .inr (0, [.int 0, .int 0, .int 0, .int 0, .int 0, .int 0, .ref (g_3 16), .ref (g_3 17), .ref (g_3 18), .ref (g_3 19)])), (g_3 16, .inl (cy 0, 28, .inl (fun _ => 0))), (g_3 17, .inl (cy 0, 36, .inl (fun _ => 0))), (g_3 18, .inl (cy 0, 240, .inl (fun _ => 0))), (g_3 19, .inl (cy 0, 3, .inl (fun _ => 0))), (g_3 20, .inr (0, [.int 0, .int 0, .int 0, .int 0, .int 0, .int 0, .ref (g_3 21), .ref (g_3 22), .ref (g_3 23), .ref (g_3 24)])), (g_3 21, .inl (cy 0, 28, .inl (fun _ => 0))), (g_3 22, .inl (cy 0, 36, .inl (fun _ => 0))), (g_3 23, .inl (cy 0, 240, .inl (fun _ => 0))), (g_3 24, .inl (cy 0, 3, .inl (fun _ => 0))), (g_3 25, .inl (cy 0, 3, .inl (fun _ => 0))), (g_3 26, .inl (cy 5, 4, .inr (.inr (.inr (.inr (va_up (va_up (va_up (va_up (fun _ => none) 0 (some (g_3 27))) 1 (some (g_3 29))) 2 (some (g_3 31))) 3 (some (g_3 33)))))))), (g_3 27, .inr (5, [.int 0, .int 0, .int 0, .ref (g_3 28)])), (g_3 28, .inl (cy 2, 60, .inr (.inl (fun _ => 0)))), (g_3 29, .inr (5, [.int 0, .int 0, .int 0, .ref (g_3 30)])), (g_3 30, .inl (cy 2, 60, .inr (.inl (fun _ => 0)))), (g_3 31, .inr (5, [.int 0, .int 0, .int 0, .ref (g_3 32)])), (g_3 32, .inl (cy 2, 60, .inr (.inl (fun _ => 0)))), (g_3 33, .inr (5, [.int 0, .int 0, .int 0, .ref (g_3 34)])), (g_3 34, .inl (cy 2, 60, .inr (.inl (fun _ => 0)))), (g_6 60, .inr (9, mF g_6)), (g_6 1, .inl (cy 0, 4, .inl (upd (upd (upd (upd (fun _ => 0) 0 (-1)) 1 (-1)) 2 (-1)) 3 (-1)))), (g_6 2, .inl (cy 0, 4, .inl (fun _ => 0))), (g_6 3, .inl (cy 2, 240, .inr (.inl (fun _ => 0)))), (g_6 5, .inl (cy 1, 2000, .inl (fun _ => 0))), (g_6 16, .inl (cy 0, 5, .inl (fun _ => 0))), (g_6 17, .inl (cy 0, 25, .inl (fun _ => 0))), (g_6 18, .inl (cy 0, 140, .inl (fun _ => 0))), (g_6 19, .inl (cy 0, 180, .inl (fun _ => 0))), (g_6 20, .inl (cy 0, 15, .inl (fun _ => 0))), (g_6 21, .inl (cy 0, 960, .inl (fun _ => 0))), (g_6 22, .inl (cy 3, 3, .inl (fun _ => 0)))] := hD
  refine W.widen (k := 109) (n := 568502) (Nat.le_of_ble_eq_true rfl) (Nat.le_of_ble_eq_true rfl) ?_
  refine lv_astore_n (lv' := [(2, .ref (g_6 60)), (1, .ref (g_3 0)), (0, .ref b)]) hx hb dL_law_15 rfl hl (by decide) rfl (fun ls hl => ?_)
  refine lv_iconst (v := 0) hx hb dL_law_16 (by decide) ?_
  refine lv_istore_n (lv' := [(3, .int 0), (2, .ref (g_6 60)), (1, .ref (g_3 0)), (0, .ref b)]) hx hb dL_law_17 rfl hl (by decide) rfl (fun ls hl => ?_)
  refine W.widen (k := 200) (n := 700000) (Nat.le_of_ble_eq_true rfl) (Nat.le_of_ble_eq_true rfl) ?_
  exact st_loop C0 hL D cy g_3 g_6 hK _ _ _ hP hD hS hl

-- ===== YOUR PART ENDS =====
set_option maxHeartbeats 4000000 in
theorem lw_walk (l : Launch) (hflags : l.flags = flags0) (b : Addr) (xs : List Int32) : MetFree l x (headSpec (Jvm.Cond.code x code maxLocals ret :: tables_1) room_1) (lw_P b xs) (fun _ _ _ _ _ => True) lw_Q := by
  refine MetFree.of_bodyS (code := code) (maxLocals := maxLocals) (ret := ret) (by decide) ?_ ?_
  · intro args s m h hn
    obtain ⟨meth, c, h1, h2, h3, h4, h5, h6, -, -⟩ := Cond.code_spec hn (atoms_spec (ws := Jvm.Cond.code x code maxLocals ret :: tables_1) h _ List.mem_cons_self)
    exact ⟨meth, c, h1, h2, h3, h4, h5, h6⟩
  · intro p e s m args below meth c s₁ B hml0 hP _
    obtain ⟨rfl, hx, hbd, hgv⟩ := hP
    obtain ⟨scr, harrAt, hlist, hof, hsmall⟩ := hx
    obtain ⟨hcb, hkn, -, -⟩ := State.arrayAt?_spec harrAt
    have hown : s.vm.findClass R_law = some m.cls := findClass_of_methodNamed B.named
    have hts0 : ∀ c ∈ (Jvm.Cond.code x code maxLocals ret :: tables_1), c.before #[Value.ref b] s = true := atoms_spec (ws := Jvm.Cond.code x code maxLocals ret :: tables_1) B.pre
    have hts : ∀ w ∈ lw_tbl, w.before #[Value.ref b] s = true := k2_hts_sels lw_privs (fun w hw => hts0 w (List.mem_cons_of_mem _ hw)) lw_privs_ok
    have hml : c.maxLocals = 4 := B.maxLocals_eq (hts0 _ List.mem_cons_self)
    have X₀ : Stand p l e room_1 s m #[Value.ref b] below meth c s₁ [] 0 0 := Stand.of_body B
    have hh0 : s₁.heap = s.heap := by rw [B.state]; rfl
    have hsz : scr.slots.size = xs.length := by rw [← Array.length_toList, hlist, List.length_map]
    have hval : ∀ j : Nat, j < xs.length → scr.slots[j]? = some (.int (xs.getD j 0)) := fun j hj => by
      rw [← Array.getElem?_toList, hlist]
      simp [hj]
    have hbl : b < s.heap.size := (Array.getElem?_eq_some_iff.mp hcb).1
    have hX : va_X b xs.length (fun j => xs.getD j 0) s s.heap := ⟨scr, hcb, hof, hkn, hsz, hval⟩
    have K : W p l e room_1 s m #[Value.ref b] below meth c s₁.heap [] 0 0 (lw_Z below #[Value.ref b] s) (entryFrame m ([Value.ref b] : List Value).toArray 4) := by
      rw [hh0]
      exact whole_start l hflags hbd ⟨B.exec, B.bytes, B.returns, hml, hown, hts, hX, hbl, B.notSynchronized, hgv⟩
    obtain ⟨t, a1, o, b1, b2, b3⟩ := K s₁ rfl X₀
    exact ⟨t, o, a1, b1, b2, b3⟩
theorem lw_pre_spec {args : Array Value} {s : State} (h : (Jvm.Cond.and given_1 narrow_1).before args s = true) (hr : rest_1_c.before args s = true) : ∃ (b : Addr) (xs : List Int32), lw_P b xs args s := by
  have hs := flat_of_before _ h
  have hq := flat_of_before _ hr
  have hc : (Cond.count 1).before args s = true := hs _ (by decide +kernel)
  have harr : (Cond.arrayOf (.arg 0) .int).before args s = true := hs _ (by decide +kernel)
  have hle : (Cond.le (.length (.arg 0)) (.int 6)).before args s = true := hs _ (by decide +kernel)
  have hlen : (Cond.isInt (.length (.arg 0))).before args s = true := hq _ (by decide +kernel)
  have hall : (Cond.all (.arg 0) (.isInt (.elem (.arg 0) (.index 0)))).before args s = true := hq _ (by decide +kernel)
  obtain ⟨b, xs, hb, hx⟩ := State.ints_of_pre rfl harr hlen hall
  have hsm : xs.length < 2 ^ 31 := hx.choose_spec.2.2.2
  have hev : (Term.length (.arg 0)).eval args s none [] s = some (.int xs.length.toInt32) := hx.length_eval hb
  have hv := Cond.le_ints hev (show (Term.int 6).eval args s none [] s = some (.int 6) from rfl)
  have hd : xs.length.toInt32 ≤ 6 := by
    simpa [Cond.before, Cond.holds, hv] using hle
  have hN : xs.length ≤ 6 := (Int32.ofNat_le_ofNat hsm (by decide)).mp (show Int32.ofNat xs.length ≤ Int32.ofNat 6 from hd)
  exact ⟨b, xs, Cond.one_arg hc (show args[0]? = some (.ref b) from hb), hx, hN, h⟩
theorem lw_comes (l : Launch) (hflags : l.flags = flags0) : Comes l x (Jvm.Cond.code x code maxLocals ret :: tables_1) room_1 (fun tb e args s => Calls_1 tb e args s ∧ rest_1 tb e args s ∧ Pre_1 tb e args s)
    (fun _ _ args s o t => lw_Q args s o t) := by
  intro p e ha hc hk s m args below hf hfit hheap happ hpre
  obtain ⟨b, xs, hP⟩ := lw_pre_spec hpre.2.2 hpre.2.1
  obtain ⟨k, o, h1, h2, h3, hQ⟩ := lw_walk l hflags b xs p e ha hc hk s m args below hf ((Spec.applies_iff_loose hf).mp happ).1 hP trivial
  exact ⟨k, o, h1, h2, h3, hQ⟩
theorem lw_frame {s t : State} {o : Outcome} {args : Array Value} (h : Framed s o t [] 600000 7302249) :
    Framed s o t (fieldLocs frame_1_writes args s ++ arrayLocs frame_1_arrays args s ++ staticLocs frame_1_statics s) 600000 7302249 := h
theorem lw_limb (L : Cond) (hL : ∀ (args : Array Value) (s t : State), L.after args s (.returned (some (.int 1))) t = true) :
    ArmFor flags0 classFile x code maxLocals ret World_1 tables_1 room_1 Calls_1 rest_1 Pre_1
      (fun tb e a s o t => postC L tb e a s o t ∧ Framed s o t (fieldLocs frame_1_writes a s ++ arrayLocs frame_1_arrays a s ++ staticLocs frame_1_statics s) 600000 7302249) := by
  intro l hflags _ _ p e ha hc hk s m args below hf hfit hheap happ hpre
  obtain ⟨k, o, h1, h2, h3, rfl, hF⟩ := lw_comes l hflags p e ha hc hk s m args below hf hfit hheap happ hpre
  exact ⟨k, _, h1, h2, h3, hL args s _, lw_frame hF⟩
theorem i_vc : Claimed_1_1 ∧ Claimed_1_2 := ⟨lw_limb limb_1_1 (fun args s t => by simp [limb_1_1, Cond.after, Cond.holds, Cond.value]), lw_limb limb_1_2 (fun args s t => Cond.after_iff.mpr (by
  first | (rw [show limb_1_2 = Cond.eq .result (.int 1) from rfl, Cond.eq_ints (x := 1) (y := 1) rfl rfl]; simp; done) | (simp [limb_1_2, Cond.value, Term.eval]; done)))⟩

