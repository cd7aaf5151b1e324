theorem q1225 : Cond.methodLink RL 163 yX8_best ∈ lw_g := lw_gm (List.mem_of_getElem? (i := 1225) (by decide +kernel)) rfl
theorem q1226 : Cond.instanceMethod yX8_best ∈ lw_g := lw_gm (List.mem_of_getElem? (i := 1226) (by decide +kernel)) rfl
theorem q1227 : Cond.selects RX8 yX8_best yX8_best ∈ lw_g := lw_gm (List.mem_of_getElem? (i := 1227) (by decide +kernel)) rfl
theorem q2024 : Cond.methodLink RL 166 yX9_best ∈ lw_g := lw_gm (List.mem_of_getElem? (i := 2024) (by decide +kernel)) rfl
theorem q2025 : Cond.instanceMethod yX9_best ∈ lw_g := lw_gm (List.mem_of_getElem? (i := 2025) (by decide +kernel)) rfl
theorem q2026 : Cond.selects RX9 yX9_best yX9_best ∈ lw_g := lw_gm (List.mem_of_getElem? (i := 2026) (by decide +kernel)) rfl
theorem dL_law_1592 : decode cL_law 1592 = .ok (.aload_n 1, 1) := by decide +kernel
theorem dL_law_1593 : decode cL_law 1593 = .ok (.aload_n 0, 1) := by decide +kernel
theorem dL_law_1594 : decode cL_law 1594 = .ok (.iload_n 3, 1) := by decide +kernel
theorem dL_law_1595 : decode cL_law 1595 = .ok (.iconst 1, 1) := by decide +kernel
theorem dL_law_1596 : decode cL_law 1596 = .ok (.iadd, 1) := by decide +kernel
theorem dL_law_1597 : decode cL_law 1597 = .ok (.iaload, 1) := by decide +kernel
theorem dL_law_1598 : decode cL_law 1598 = .ok (.invokevirtual 163, 3) := by decide +kernel
theorem dL_law_1601 : decode cL_law 1601 = .ok (.aload_n 2, 1) := by decide +kernel
theorem dL_law_1602 : decode cL_law 1602 = .ok (.aload_n 0, 1) := by decide +kernel
theorem dL_law_1603 : decode cL_law 1603 = .ok (.iload_n 3, 1) := by decide +kernel
theorem dL_law_1604 : decode cL_law 1604 = .ok (.iconst 1, 1) := by decide +kernel
theorem dL_law_1605 : decode cL_law 1605 = .ok (.iadd, 1) := by decide +kernel
theorem dL_law_1606 : decode cL_law 1606 = .ok (.iaload, 1) := by decide +kernel
theorem dL_law_1607 : decode cL_law 1607 = .ok (.invokevirtual 166, 3) := by decide +kernel
theorem dL_law_1610 : decode cL_law 1610 = .ok (.if_icmp .eq 801, 3) := by decide +kernel
set_option maxHeartbeats 4000000 in
set_option maxRecDepth 100000 in
theorem lawc_best {p : Program} {l : Launch} {e : Env} {s : State} {m : MethodId} {below : List Frame} {meth : Method} {c : Code} {b : Nat} {xs : Nat → Int32} (D : va_G) (cy : Nat → ClassId) (g1 g2 : Nat → Nat) (C0 : lw_At p s m meth c b 6 xs) (hK : va_K D clz (tyl cy) s) (H : Heap) (locs : List Loc) (ls : Array Slot) (hP : va_P D clz [(g1 0, .inr (8, xF g1)), (g1 3, .inr (0, [.int 0, .int 0, .int 0, .int 0, .int 0, .int 0, .ref (g1 4), .ref (g1 5), .ref (g1 6), .ref (g1 7)])), (g2 60, .inr (9, mF g2)), (g2 17, .inl (cy 0, 25, .inl (fun _ => 0)))] H) (hD : va_D (fun q : Nat => s.heap.size ≤ q) [(g1 0, .inr (8, xF g1)), (g1 3, .inr (0, [.int 0, .int 0, .int 0, .int 0, .int 0, .int 0, .ref (g1 4), .ref (g1 5), .ref (g1 6), .ref (g1 7)])), (g2 60, .inr (9, mF g2)), (g2 17, .inl (cy 0, 25, .inl (fun _ => 0)))]) (hS : va_S (fun q : Nat => s.heap.size ≤ q) s.heap H locs) (hl : lv_has ls 4 [(3, .int 0), (2, .ref (g2 60)), (1, .ref (g1 0)), (0, .ref b)]) : W p l e room_1 s m #[Value.ref b] below meth c H locs 200 700000 (lw_Z below #[Value.ref b] s) (F0 m 1592 ls []) := by
  obtain ⟨hx, hb, hr, hml, hown0, hts0, hX, hbl, hlocks, hgv⟩ := C0
  have hown : s.vm.findClass RL = some m.cls := hown0
  have hts : ∀ w ∈ lw_g, w.before #[Value.ref b] s = true := fun w h => hts0 w (lw_gt h)
  have hA : ∀ q : Nat, s.heap.size ≤ q → (fun q : Nat => s.heap.size ≤ q) q := fun _ h => h
  have hbA : ¬ (fun q : Nat => s.heap.size ≤ q) b := Nat.not_le.mpr hbl
  refine lv_aload_n hx hb dL_law_1592 rfl (lv_at hl 2 rfl) ?_
  refine lv_aload_n hx hb dL_law_1593 rfl (lv_at hl 3 rfl) ?_
  refine lv_iload_n hx hb dL_law_1594 rfl (lv_at hl 0 rfl) ?_
  refine lv_iconst (v := 1) hx hb dL_law_1595 (by decide) ?_
  refine lv_iadd hx hb dL_law_1596 ?_
  refine lv_topi (fun x_1 ex_1 => ?_)
  obtain rfl : x_1 = 1 := ex_1.trans (by decide)
  refine va_sld hx hb hX hbl hbA hS (vpi (by decide)) dL_law_1597 ?_
  have hPc := hP.sub (ws' := [(g1 0, .inr (8, xF g1)), (g1 3, .inr (0, [.int 0, .int 0, .int 0, .int 0, .int 0, .int 0, .ref (g1 4), .ref (g1 5), .ref (g1 6), .ref (g1 7)]))]) [0, 1] rfl
  have hDc := hD.sub (ws' := [(g1 0, .inr (8, xF g1)), (g1 3, .inr (0, [.int 0, .int 0, .int 0, .int 0, .int 0, .int 0, .ref (g1 4), .ref (g1 5), .ref (g1 6), .ref (g1 7)]))]) [0, 1] (by decide) rfl
  have hFc := va_free (wc := [(g1 0, .inr (8, xF g1)), (g1 3, .inr (0, [.int 0, .int 0, .int 0, .int 0, .int 0, .int 0, .ref (g1 4), .ref (g1 5), .ref (g1 6), .ref (g1 7)]))]) hD hS hA [0, 1] rfl
  refine va_calli (va_runV (As := [.int (xs (1 : Int32).toNatClampNeg)]) (rest := []) ⟨hx, hb, hml, hown, hts⟩ (c_X8_best l D cy g1 (xs (1 : Int32).toNatClampNeg) H.size) (cwV 1 hts (gd_V q1225 q1226 q1227 q125 q1228) rfl rfl rfl (by decide +kernel) ⟨Nat.le_of_ble_eq_true rfl, Nat.le_of_ble_eq_true rfl⟩) (pr_V hPc hK hDc (va_recv hK hPc (ci := 8) (q0 := 0) rfl rfl)) rfl rfl hl.1 rfl (lv_room (Nat.le_of_ble_eq_true rfl)) dL_law_1598 ⟨Nat.le_of_ble_eq_true rfl, Nat.le_of_ble_eq_true rfl⟩) hS (fun q _ h => hFc q h) hFc (fun r_2 u tS H1 locs ht hvm hw hB hz1 hk1 hS => ?_)
  obtain ⟨hP1, hK1, hD1⟩ := hB
  rw [ht] at hP1
  try dsimp only at hw
  obtain ⟨hP, hD⟩ := va_join (wr := [(g2 60, .inr (9, mF g2)), (g2 17, .inl (cy 0, 25, .inl (fun _ => 0)))]) (w1 := [(g1 0, .inr (8, xF g1)), (g1 3, .inr (0, [.int 0, .int 0, .int 0, .int 0, .int 0, .int 0, .ref (g1 4), .ref (g1 5), .ref (g1 6), .ref (g1 7)]))]) hP hD [0, 1] [2, 3] rfl rfl (by decide) (by decide) hk1 hFc hP1 hD1
  generalize H1 = H at hP hS ⊢
  have hP : va_P D clz [(g2 60, .inr (9, mF g2)), (g2 17, .inl (cy 0, 25, .inl (fun _ => 0))), (g1 0, .inr (8, xF g1)), (g1 3, .inr (0, [.int 0, .int 0, .int 0, .int 0, .int 0, .int 0, .ref (g1 4), .ref (g1 5), .ref (g1 6), .ref (g1 7)]))] H := hP
  have hD : va_D (fun q : Nat => s.heap.size ≤ q) [(g2 60, .inr (9, mF g2)), (g2 17, .inl (cy 0, 25, .inl (fun _ => 0))), (g1 0, .inr (8, xF g1)), (g1 3, .inr (0, [.int 0, .int 0, .int 0, .int 0, .int 0, .int 0, .ref (g1 4), .ref (g1 5), .ref (g1 6), .ref (g1 7)]))] := hD
  subst hw
  refine lv_aload_n hx hb dL_law_1601 rfl (lv_at hl 1 rfl) ?_
  refine lv_aload_n hx hb dL_law_1602 rfl (lv_at hl 3 rfl) ?_
  refine lv_iload_n hx hb dL_law_1603 rfl (lv_at hl 0 rfl) ?_
  refine lv_iconst (v := 1) hx hb dL_law_1604 (by decide) ?_
  refine lv_iadd hx hb dL_law_1605 ?_
  refine lv_topi (fun x_3 ex_3 => ?_)
  obtain rfl : x_3 = 1 := ex_3.trans (by decide)
  refine va_sld hx hb hX hbl hbA hS (vpi (by decide)) dL_law_1606 ?_
  have hPc := hP.sub (ws' := [(g2 60, .inr (9, mF g2)), (g2 17, .inl (cy 0, 25, .inl (fun _ => 0)))]) [0, 1] rfl
  have hDc := hD.sub (ws' := [(g2 60, .inr (9, mF g2)), (g2 17, .inl (cy 0, 25, .inl (fun _ => 0)))]) [0, 1] (by decide) rfl
  have hFc := va_free (wc := [(g2 60, .inr (9, mF g2)), (g2 17, .inl (cy 0, 25, .inl (fun _ => 0)))]) hD hS hA [0, 1] rfl
  refine va_calli (va_runV (As := [.int (xs (1 : Int32).toNatClampNeg)]) (rest := [.int (-2)]) ⟨hx, hb, hml, hown, hts⟩ (c_X9_best l D cy g2 (xs (1 : Int32).toNatClampNeg) H.size) (cwV 1 hts (gd_V q2024 q2025 q2026 q134 q2027) rfl rfl rfl (by decide +kernel) ⟨Nat.le_of_ble_eq_true rfl, Nat.le_of_ble_eq_true rfl⟩) (pr_V hPc hK hDc (va_recv hK hPc (ci := 9) (q0 := 0) rfl rfl)) rfl rfl hl.1 rfl (lv_room (Nat.le_of_ble_eq_true rfl)) dL_law_1607 ⟨Nat.le_of_ble_eq_true rfl, Nat.le_of_ble_eq_true rfl⟩) hS (fun q _ h => hFc q h) hFc (fun r_4 u tS H1 locs ht hvm hw hB hz1 hk1 hS => ?_)
  obtain ⟨hP1, hK1, hD1⟩ := hB
  rw [ht] at hP1
  try dsimp only at hw
  obtain ⟨hP, hD⟩ := va_join (wr := [(g1 0, .inr (8, xF g1)), (g1 3, .inr (0, [.int 0, .int 0, .int 0, .int 0, .int 0, .int 0, .ref (g1 4), .ref (g1 5), .ref (g1 6), .ref (g1 7)]))]) (w1 := [(g2 60, .inr (9, mF g2)), (g2 17, .inl (cy 0, 25, .inl (fun _ => 0)))]) hP hD [0, 1] [2, 3] rfl rfl (by decide) (by decide) hk1 hFc hP1 hD1
  generalize H1 = H at hP hS ⊢
  have hP : va_P D clz [(g1 0, .inr (8, xF g1)), (g1 3, .inr (0, [.int 0, .int 0, .int 0, .int 0, .int 0, .int 0, .ref (g1 4), .ref (g1 5), .ref (g1 6), .ref (g1 7)])), (g2 60, .inr (9, mF g2)), (g2 17, .inl (cy 0, 25, .inl (fun _ => 0)))] H := hP
  have hD : va_D (fun q : Nat => s.heap.size ≤ q) [(g1 0, .inr (8, xF g1)), (g1 3, .inr (0, [.int 0, .int 0, .int 0, .int 0, .int 0, .int 0, .ref (g1 4), .ref (g1 5), .ref (g1 6), .ref (g1 7)])), (g2 60, .inr (9, mF g2)), (g2 17, .inl (cy 0, 25, .inl (fun _ => 0)))] := hD
  subst hw
  refine lv_icmp_eq (tgt := 2411) hx hb dL_law_1610 (by decide) (fun _ => ?_) (fun c9 => absurd c9 (by decide))
  exact law_end ⟨hx, hb, hr, hml, hown0, hts0, hX, hbl, hlocks, hgv⟩ _ _ _ hS (lv_sub hl [0, 3] rfl)

theorem q1229 : Cond.methodLink RL 167 yX8_shared ∈ lw_g := lw_gm (List.mem_of_getElem? (i := 1229) (by decide +kernel)) rfl
theorem q1230 : Cond.instanceMethod yX8_shared ∈ lw_g := lw_gm (List.mem_of_getElem? (i := 1230) (by decide +kernel)) rfl
theorem q1231 : Cond.selects RX8 yX8_shared yX8_shared ∈ lw_g := lw_gm (List.mem_of_getElem? (i := 1231) (by decide +kernel)) rfl
theorem q2028 : Cond.methodLink RL 170 yX9_shared ∈ lw_g := lw_gm (List.mem_of_getElem? (i := 2028) (by decide +kernel)) rfl
theorem q2029 : Cond.instanceMethod yX9_shared ∈ lw_g := lw_gm (List.mem_of_getElem? (i := 2029) (by decide +kernel)) rfl
theorem q2030 : Cond.selects RX9 yX9_shared yX9_shared ∈ lw_g := lw_gm (List.mem_of_getElem? (i := 2030) (by decide +kernel)) rfl
theorem dL_law_1615 : decode cL_law 1615 = .ok (.aload_n 1, 1) := by decide +kernel
theorem dL_law_1616 : decode cL_law 1616 = .ok (.invokevirtual 167, 3) := by decide +kernel
theorem dL_law_1619 : decode cL_law 1619 = .ok (.aload_n 2, 1) := by decide +kernel
theorem dL_law_1620 : decode cL_law 1620 = .ok (.invokevirtual 170, 3) := by decide +kernel
theorem dL_law_1623 : decode cL_law 1623 = .ok (.if_icmp .eq 788, 3) := by decide +kernel
set_option maxHeartbeats 4000000 in
set_option maxRecDepth 100000 in
theorem lawc_shared {p : Program} {l : Launch} {e : Env} {s : State} {m : MethodId} {below : List Frame} {meth : Method} {c : Code} {b : Nat} {xs : Nat → Int32} (D : va_G) (cy : Nat → ClassId) (g1 g2 : Nat → Nat) (C0 : lw_At p s m meth c b 6 xs) (hK : va_K D clz (tyl cy) s) (H : Heap) (locs : List Loc) (ls : Array Slot) (hP : va_P D clz [(g1 0, .inr (8, xF g1)), (g1 3, .inr (0, [.int 0, .int 0, .int 0, .int 0, .int 0, .int 0, .ref (g1 4), .ref (g1 5), .ref (g1 6), .ref (g1 7)])), (g2 60, .inr (9, mF g2)), (g2 16, .inl (cy 0, 5, .inl (fun _ => 0)))] H) (hD : va_D (fun q : Nat => s.heap.size ≤ q) [(g1 0, .inr (8, xF g1)), (g1 3, .inr (0, [.int 0, .int 0, .int 0, .int 0, .int 0, .int 0, .ref (g1 4), .ref (g1 5), .ref (g1 6), .ref (g1 7)])), (g2 60, .inr (9, mF g2)), (g2 16, .inl (cy 0, 5, .inl (fun _ => 0)))]) (hS : va_S (fun q : Nat => s.heap.size ≤ q) s.heap H locs) (hl : lv_has ls 4 [(3, .int 0), (2, .ref (g2 60)), (1, .ref (g1 0)), (0, .ref b)]) : W p l e room_1 s m #[Value.ref b] below meth c H locs 200 700000 (lw_Z below #[Value.ref b] s) (F0 m 1615 ls []) := by
  obtain ⟨hx, hb, hr, hml, hown0, hts0, hX, hbl, hlocks, hgv⟩ := C0
  have hown : s.vm.findClass RL = some m.cls := hown0
  have hts : ∀ w ∈ lw_g, w.before #[Value.ref b] s = true := fun w h => hts0 w (lw_gt h)
  have hA : ∀ q : Nat, s.heap.size ≤ q → (fun q : Nat => s.heap.size ≤ q) q := fun _ h => h
  have hbA : ¬ (fun q : Nat => s.heap.size ≤ q) b := Nat.not_le.mpr hbl
  refine lv_aload_n hx hb dL_law_1615 rfl (lv_at hl 2 rfl) ?_
  have hPc := hP.sub (ws' := [(g1 0, .inr (8, xF g1)), (g1 3, .inr (0, [.int 0, .int 0, .int 0, .int 0, .int 0, .int 0, .ref (g1 4), .ref (g1 5), .ref (g1 6), .ref (g1 7)]))]) [0, 1] rfl
  have hDc := hD.sub (ws' := [(g1 0, .inr (8, xF g1)), (g1 3, .inr (0, [.int 0, .int 0, .int 0, .int 0, .int 0, .int 0, .ref (g1 4), .ref (g1 5), .ref (g1 6), .ref (g1 7)]))]) [0, 1] (by decide) rfl
  have hFc := va_free (wc := [(g1 0, .inr (8, xF g1)), (g1 3, .inr (0, [.int 0, .int 0, .int 0, .int 0, .int 0, .int 0, .ref (g1 4), .ref (g1 5), .ref (g1 6), .ref (g1 7)]))]) hD hS hA [0, 1] rfl
  refine va_calli (va_runV (As := []) (rest := []) ⟨hx, hb, hml, hown, hts⟩ (c_X8_shared l D cy g1 H.size) (cwV 0 hts (gd_V q1229 q1230 q1231 q125 q1232) rfl rfl rfl (by decide +kernel) ⟨Nat.le_of_ble_eq_true rfl, Nat.le_of_ble_eq_true rfl⟩) (pr_V hPc hK hDc (va_recv hK hPc (ci := 8) (q0 := 0) rfl rfl)) rfl rfl hl.1 rfl (lv_room (Nat.le_of_ble_eq_true rfl)) dL_law_1616 ⟨Nat.le_of_ble_eq_true rfl, Nat.le_of_ble_eq_true rfl⟩) hS (fun q _ h => hFc q h) hFc (fun r_1 u tS H1 locs ht hvm hw hB hz1 hk1 hS => ?_)
  obtain ⟨hP1, hK1, hD1⟩ := hB
  rw [ht] at hP1
  try dsimp only at hw
  obtain ⟨hP, hD⟩ := va_join (wr := [(g2 60, .inr (9, mF g2)), (g2 16, .inl (cy 0, 5, .inl (fun _ => 0)))]) (w1 := [(g1 0, .inr (8, xF g1)), (g1 3, .inr (0, [.int 0, .int 0, .int 0, .int 0, .int 0, .int 0, .ref (g1 4), .ref (g1 5), .ref (g1 6), .ref (g1 7)]))]) hP hD [0, 1] [2, 3] rfl rfl (by decide) (by decide) hk1 hFc hP1 hD1
  generalize H1 = H at hP hS ⊢
  have hP : va_P D clz [(g2 60, .inr (9, mF g2)), (g2 16, .inl (cy 0, 5, .inl (fun _ => 0))), (g1 0, .inr (8, xF g1)), (g1 3, .inr (0, [.int 0, .int 0, .int 0, .int 0, .int 0, .int 0, .ref (g1 4), .ref (g1 5), .ref (g1 6), .ref (g1 7)]))] H := hP
  have hD : va_D (fun q : Nat => s.heap.size ≤ q) [(g2 60, .inr (9, mF g2)), (g2 16, .inl (cy 0, 5, .inl (fun _ => 0))), (g1 0, .inr (8, xF g1)), (g1 3, .inr (0, [.int 0, .int 0, .int 0, .int 0, .int 0, .int 0, .ref (g1 4), .ref (g1 5), .ref (g1 6), .ref (g1 7)]))] := hD
  subst hw
  refine lv_aload_n hx hb dL_law_1619 rfl (lv_at hl 1 rfl) ?_
  have hPc := hP.sub (ws' := [(g2 60, .inr (9, mF g2)), (g2 16, .inl (cy 0, 5, .inl (fun _ => 0)))]) [0, 1] rfl
  have hDc := hD.sub (ws' := [(g2 60, .inr (9, mF g2)), (g2 16, .inl (cy 0, 5, .inl (fun _ => 0)))]) [0, 1] (by decide) rfl
  have hFc := va_free (wc := [(g2 60, .inr (9, mF g2)), (g2 16, .inl (cy 0, 5, .inl (fun _ => 0)))]) hD hS hA [0, 1] rfl
  refine va_calli (va_runV (As := []) (rest := [.int (-2)]) ⟨hx, hb, hml, hown, hts⟩ (c_X9_shared l D cy g2 H.size) (cwV 0 hts (gd_V q2028 q2029 q2030 q134 q2031) rfl rfl rfl (by decide +kernel) ⟨Nat.le_of_ble_eq_true rfl, Nat.le_of_ble_eq_true rfl⟩) (pr_V hPc hK hDc (va_recv hK hPc (ci := 9) (q0 := 0) rfl rfl)) rfl rfl hl.1 rfl (lv_room (Nat.le_of_ble_eq_true rfl)) dL_law_1620 ⟨Nat.le_of_ble_eq_true rfl, Nat.le_of_ble_eq_true rfl⟩) hS (fun q _ h => hFc q h) hFc (fun r_2 u tS H1 locs ht hvm hw hB hz1 hk1 hS => ?_)
  obtain ⟨hP1, hK1, hD1⟩ := hB
  rw [ht] at hP1
  try dsimp only at hw
  obtain ⟨hP, hD⟩ := va_join (wr := [(g1 0, .inr (8, xF g1)), (g1 3, .inr (0, [.int 0, .int 0, .int 0, .int 0, .int 0, .int 0, .ref (g1 4), .ref (g1 5), .ref (g1 6), .ref (g1 7)]))]) (w1 := [(g2 60, .inr (9, mF g2)), (g2 16, .inl (cy 0, 5, .inl (fun _ => 0)))]) hP hD [0, 1] [2, 3] rfl rfl (by decide) (by decide) hk1 hFc hP1 hD1
  generalize H1 = H at hP hS ⊢
  have hP : va_P D clz [(g1 0, .inr (8, xF g1)), (g1 3, .inr (0, [.int 0, .int 0, .int 0, .int 0, .int 0, .int 0, .ref (g1 4), .ref (g1 5), .ref (g1 6), .ref (g1 7)])), (g2 60, .inr (9, mF g2)), (g2 16, .inl (cy 0, 5, .inl (fun _ => 0)))] H := hP
  have hD : va_D (fun q : Nat => s.heap.size ≤ q) [(g1 0, .inr (8, xF g1)), (g1 3, .inr (0, [.int 0, .int 0, .int 0, .int 0, .int 0, .int 0, .ref (g1 4), .ref (g1 5), .ref (g1 6), .ref (g1 7)])), (g2 60, .inr (9, mF g2)), (g2 16, .inl (cy 0, 5, .inl (fun _ => 0)))] := hD
  subst hw
  refine lv_icmp_eq (tgt := 2411) hx hb dL_law_1623 (by decide) (fun _ => ?_) (fun c9 => absurd c9 (by decide))
  exact law_end ⟨hx, hb, hr, hml, hown0, hts0, hX, hbl, hlocks, hgv⟩ _ _ _ hS (lv_sub hl [0, 3] rfl)

theorem q1251 : Cond.methodLink RL 171 yX8_given ∈ lw_g := lw_gm (List.mem_of_getElem? (i := 1251) (by decide +kernel)) rfl
theorem q1252 : Cond.instanceMethod yX8_given ∈ lw_g := lw_gm (List.mem_of_getElem? (i := 1252) (by decide +kernel)) rfl
theorem q1253 : Cond.selects RX8 yX8_given yX8_given ∈ lw_g := lw_gm (List.mem_of_getElem? (i := 1253) (by decide +kernel)) rfl
theorem q2044 : Cond.methodLink RL 174 yX9_given ∈ lw_g := lw_gm (List.mem_of_getElem? (i := 2044) (by decide +kernel)) rfl
theorem q2045 : Cond.instanceMethod yX9_given ∈ lw_g := lw_gm (List.mem_of_getElem? (i := 2045) (by decide +kernel)) rfl
theorem q2046 : Cond.selects RX9 yX9_given yX9_given ∈ lw_g := lw_gm (List.mem_of_getElem? (i := 2046) (by decide +kernel)) rfl
theorem dL_law_1628 : decode cL_law 1628 = .ok (.aload_n 1, 1) := by decide +kernel
theorem dL_law_1629 : decode cL_law 1629 = .ok (.aload_n 0, 1) := by decide +kernel
theorem dL_law_1630 : decode cL_law 1630 = .ok (.iload_n 3, 1) := by decide +kernel
theorem dL_law_1631 : decode cL_law 1631 = .ok (.iconst 1, 1) := by decide +kernel
theorem dL_law_1632 : decode cL_law 1632 = .ok (.iadd, 1) := by decide +kernel
theorem dL_law_1633 : decode cL_law 1633 = .ok (.iaload, 1) := by decide +kernel
theorem dL_law_1634 : decode cL_law 1634 = .ok (.invokevirtual 171, 3) := by decide +kernel
theorem dL_law_1637 : decode cL_law 1637 = .ok (.aload_n 2, 1) := by decide +kernel
theorem dL_law_1638 : decode cL_law 1638 = .ok (.aload_n 0, 1) := by decide +kernel
theorem dL_law_1639 : decode cL_law 1639 = .ok (.iload_n 3, 1) := by decide +kernel
theorem dL_law_1640 : decode cL_law 1640 = .ok (.iconst 1, 1) := by decide +kernel
theorem dL_law_1641 : decode cL_law 1641 = .ok (.iadd, 1) := by decide +kernel
theorem dL_law_1642 : decode cL_law 1642 = .ok (.iaload, 1) := by decide +kernel
theorem dL_law_1643 : decode cL_law 1643 = .ok (.invokevirtual 174, 3) := by decide +kernel
theorem dL_law_1646 : decode cL_law 1646 = .ok (.if_icmp .eq 765, 3) := by decide +kernel
set_option maxHeartbeats 4000000 in
set_option maxRecDepth 100000 in
theorem lawc_given {p : Program} {l : Launch} {e : Env} {s : State} {m : MethodId} {below : List Frame} {meth : Method} {c : Code} {b : Nat} {xs : Nat → Int32} (D : va_G) (cy : Nat → ClassId) (g1 g2 : Nat → Nat) (C0 : lw_At p s m meth c b 6 xs) (hK : va_K D clz (tyl cy) s) (H : Heap) (locs : List Loc) (ls : Array Slot) (hP : va_P D clz [(g1 0, .inr (8, xF g1)), (g1 3, .inr (0, [.int 0, .int 0, .int 0, .int 0, .int 0, .int 0, .ref (g1 4), .ref (g1 5), .ref (g1 6), .ref (g1 7)])), (g2 60, .inr (9, mF g2)), (g2 17, .inl (cy 0, 25, .inl (fun _ => 0)))] H) (hD : va_D (fun q : Nat => s.heap.size ≤ q) [(g1 0, .inr (8, xF g1)), (g1 3, .inr (0, [.int 0, .int 0, .int 0, .int 0, .int 0, .int 0, .ref (g1 4), .ref (g1 5), .ref (g1 6), .ref (g1 7)])), (g2 60, .inr (9, mF g2)), (g2 17, .inl (cy 0, 25, .inl (fun _ => 0)))]) (hS : va_S (fun q : Nat => s.heap.size ≤ q) s.heap H locs) (hl : lv_has ls 4 [(3, .int 0), (2, .ref (g2 60)), (1, .ref (g1 0)), (0, .ref b)]) : W p l e room_1 s m #[Value.ref b] below meth c H locs 200 700000 (lw_Z below #[Value.ref b] s) (F0 m 1628 ls []) := by
  obtain ⟨hx, hb, hr, hml, hown0, hts0, hX, hbl, hlocks, hgv⟩ := C0
  have hown : s.vm.findClass RL = some m.cls := hown0
  have hts : ∀ w ∈ lw_g, w.before #[Value.ref b] s = true := fun w h => hts0 w (lw_gt h)
  have hA : ∀ q : Nat, s.heap.size ≤ q → (fun q : Nat => s.heap.size ≤ q) q := fun _ h => h
  have hbA : ¬ (fun q : Nat => s.heap.size ≤ q) b := Nat.not_le.mpr hbl
  refine lv_aload_n hx hb dL_law_1628 rfl (lv_at hl 2 rfl) ?_
  refine lv_aload_n hx hb dL_law_1629 rfl (lv_at hl 3 rfl) ?_
  refine lv_iload_n hx hb dL_law_1630 rfl (lv_at hl 0 rfl) ?_
  refine lv_iconst (v := 1) hx hb dL_law_1631 (by decide) ?_
  refine lv_iadd hx hb dL_law_1632 ?_
  refine lv_topi (fun x_1 ex_1 => ?_)
  obtain rfl : x_1 = 1 := ex_1.trans (by decide)
  refine va_sld hx hb hX hbl hbA hS (vpi (by decide)) dL_law_1633 ?_
  have hPc := hP.sub (ws' := [(g1 0, .inr (8, xF g1)), (g1 3, .inr (0, [.int 0, .int 0, .int 0, .int 0, .int 0, .int 0, .ref (g1 4), .ref (g1 5), .ref (g1 6), .ref (g1 7)]))]) [0, 1] rfl
  have hDc := hD.sub (ws' := [(g1 0, .inr (8, xF g1)), (g1 3, .inr (0, [.int 0, .int 0, .int 0, .int 0, .int 0, .int 0, .ref (g1 4), .ref (g1 5), .ref (g1 6), .ref (g1 7)]))]) [0, 1] (by decide) rfl
  have hFc := va_free (wc := [(g1 0, .inr (8, xF g1)), (g1 3, .inr (0, [.int 0, .int 0, .int 0, .int 0, .int 0, .int 0, .ref (g1 4), .ref (g1 5), .ref (g1 6), .ref (g1 7)]))]) hD hS hA [0, 1] rfl
  refine va_calli (va_runV (As := [.int (xs (1 : Int32).toNatClampNeg)]) (rest := []) ⟨hx, hb, hml, hown, hts⟩ (c_X8_given l D cy g1 (xs (1 : Int32).toNatClampNeg) H.size) (cwV 1 hts (gd_V q1251 q1252 q1253 q125 q1254) rfl rfl rfl (by decide +kernel) ⟨Nat.le_of_ble_eq_true rfl, Nat.le_of_ble_eq_true rfl⟩) (pr_V hPc hK hDc (va_recv hK hPc (ci := 8) (q0 := 0) rfl rfl)) rfl rfl hl.1 rfl (lv_room (Nat.le_of_ble_eq_true rfl)) dL_law_1634 ⟨Nat.le_of_ble_eq_true rfl, Nat.le_of_ble_eq_true rfl⟩) hS (fun q _ h => hFc q h) hFc (fun r_2 u tS H1 locs ht hvm hw hB hz1 hk1 hS => ?_)
  obtain ⟨hP1, hK1, hD1⟩ := hB
  rw [ht] at hP1
  try dsimp only at hw
  obtain ⟨hP, hD⟩ := va_join (wr := [(g2 60, .inr (9, mF g2)), (g2 17, .inl (cy 0, 25, .inl (fun _ => 0)))]) (w1 := [(g1 0, .inr (8, xF g1)), (g1 3, .inr (0, [.int 0, .int 0, .int 0, .int 0, .int 0, .int 0, .ref (g1 4), .ref (g1 5), .ref (g1 6), .ref (g1 7)]))]) hP hD [0, 1] [2, 3] rfl rfl (by decide) (by decide) hk1 hFc hP1 hD1
  generalize H1 = H at hP hS ⊢
  have hP : va_P D clz [(g2 60, .inr (9, mF g2)), (g2 17, .inl (cy 0, 25, .inl (fun _ => 0))), (g1 0, .inr (8, xF g1)), (g1 3, .inr (0, [.int 0, .int 0, .int 0, .int 0, .int 0, .int 0, .ref (g1 4), .ref (g1 5), .ref (g1 6), .ref (g1 7)]))] H := hP
  have hD : va_D (fun q : Nat => s.heap.size ≤ q) [(g2 60, .inr (9, mF g2)), (g2 17, .inl (cy 0, 25, .inl (fun _ => 0))), (g1 0, .inr (8, xF g1)), (g1 3, .inr (0, [.int 0, .int 0, .int 0, .int 0, .int 0, .int 0, .ref (g1 4), .ref (g1 5), .ref (g1 6), .ref (g1 7)]))] := hD
  subst hw
  refine lv_aload_n hx hb dL_law_1637 rfl (lv_at hl 1 rfl) ?_
  refine lv_aload_n hx hb dL_law_1638 rfl (lv_at hl 3 rfl) ?_
  refine lv_iload_n hx hb dL_law_1639 rfl (lv_at hl 0 rfl) ?_
  refine lv_iconst (v := 1) hx hb dL_law_1640 (by decide) ?_
  refine lv_iadd hx hb dL_law_1641 ?_
  refine lv_topi (fun x_3 ex_3 => ?_)
  obtain rfl : x_3 = 1 := ex_3.trans (by decide)
  refine va_sld hx hb hX hbl hbA hS (vpi (by decide)) dL_law_1642 ?_
  have hPc := hP.sub (ws' := [(g2 60, .inr (9, mF g2)), (g2 17, .inl (cy 0, 25, .inl (fun _ => 0)))]) [0, 1] rfl
  have hDc := hD.sub (ws' := [(g2 60, .inr (9, mF g2)), (g2 17, .inl (cy 0, 25, .inl (fun _ => 0)))]) [0, 1] (by decide) rfl
  have hFc := va_free (wc := [(g2 60, .inr (9, mF g2)), (g2 17, .inl (cy 0, 25, .inl (fun _ => 0)))]) hD hS hA [0, 1] rfl
  refine va_calli (va_runV (As := [.int (xs (1 : Int32).toNatClampNeg)]) (rest := [.int (-2)]) ⟨hx, hb, hml, hown, hts⟩ (c_X9_given l D cy g2 (xs (1 : Int32).toNatClampNeg) H.size) (cwV 1 hts (gd_V q2044 q2045 q2046 q134 q2047) rfl rfl rfl (by decide +kernel) ⟨Nat.le_of_ble_eq_true rfl, Nat.le_of_ble_eq_true rfl⟩) (pr_V hPc hK hDc (va_recv hK hPc (ci := 9) (q0 := 0) rfl rfl)) rfl rfl hl.1 rfl (lv_room (Nat.le_of_ble_eq_true rfl)) dL_law_1643 ⟨Nat.le_of_ble_eq_true rfl, Nat.le_of_ble_eq_true rfl⟩) hS (fun q _ h => hFc q h) hFc (fun r_4 u tS H1 locs ht hvm hw hB hz1 hk1 hS => ?_)
  obtain ⟨hP1, hK1, hD1⟩ := hB
  rw [ht] at hP1
  try dsimp only at hw
  obtain ⟨hP, hD⟩ := va_join (wr := [(g1 0, .inr (8, xF g1)), (g1 3, .inr (0, [.int 0, .int 0, .int 0, .int 0, .int 0, .int 0, .ref (g1 4), .ref (g1 5), .ref (g1 6), .ref (g1 7)]))]) (w1 := [(g2 60, .inr (9, mF g2)), (g2 17, .inl (cy 0, 25, .inl (fun _ => 0)))]) hP hD [0, 1] [2, 3] rfl rfl (by decide) (by decide) hk1 hFc hP1 hD1
  generalize H1 = H at hP hS ⊢
  have hP : va_P D clz [(g1 0, .inr (8, xF g1)), (g1 3, .inr (0, [.int 0, .int 0, .int 0, .int 0, .int 0, .int 0, .ref (g1 4), .ref (g1 5), .ref (g1 6), .ref (g1 7)])), (g2 60, .inr (9, mF g2)), (g2 17, .inl (cy 0, 25, .inl (fun _ => 0)))] H := hP
  have hD : va_D (fun q : Nat => s.heap.size ≤ q) [(g1 0, .inr (8, xF g1)), (g1 3, .inr (0, [.int 0, .int 0, .int 0, .int 0, .int 0, .int 0, .ref (g1 4), .ref (g1 5), .ref (g1 6), .ref (g1 7)])), (g2 60, .inr (9, mF g2)), (g2 17, .inl (cy 0, 25, .inl (fun _ => 0)))] := hD
  subst hw
  refine lv_icmp_eq (tgt := 2411) hx hb dL_law_1646 (by decide) (fun _ => ?_) (fun c9 => absurd c9 (by decide))
  exact law_end ⟨hx, hb, hr, hml, hown0, hts0, hX, hbl, hlocks, hgv⟩ _ _ _ hS (lv_sub hl [0, 3] rfl)

theorem q1259 : Cond.methodLink RL 175 yX8_judge ∈ lw_g := lw_gm (List.mem_of_getElem? (i := 1259) (by decide +kernel)) rfl
theorem q1260 : Cond.instanceMethod yX8_judge ∈ lw_g := lw_gm (List.mem_of_getElem? (i := 1260) (by decide +kernel)) rfl
theorem q1261 : Cond.selects RX8 yX8_judge yX8_judge ∈ lw_g := lw_gm (List.mem_of_getElem? (i := 1261) (by decide +kernel)) rfl
theorem q2048 : Cond.methodLink RL 178 yX9_judge ∈ lw_g := lw_gm (List.mem_of_getElem? (i := 2048) (by decide +kernel)) rfl
theorem q2049 : Cond.instanceMethod yX9_judge ∈ lw_g := lw_gm (List.mem_of_getElem? (i := 2049) (by decide +kernel)) rfl
theorem q2050 : Cond.selects RX9 yX9_judge yX9_judge ∈ lw_g := lw_gm (List.mem_of_getElem? (i := 2050) (by decide +kernel)) rfl
theorem dL_law_1651 : decode cL_law 1651 = .ok (.aload_n 1, 1) := by decide +kernel
theorem dL_law_1652 : decode cL_law 1652 = .ok (.aload_n 0, 1) := by decide +kernel
theorem dL_law_1653 : decode cL_law 1653 = .ok (.iload_n 3, 1) := by decide +kernel
theorem dL_law_1654 : decode cL_law 1654 = .ok (.iconst 1, 1) := by decide +kernel
theorem dL_law_1655 : decode cL_law 1655 = .ok (.iadd, 1) := by decide +kernel
theorem dL_law_1656 : decode cL_law 1656 = .ok (.iaload, 1) := by decide +kernel
theorem dL_law_1657 : decode cL_law 1657 = .ok (.aload_n 0, 1) := by decide +kernel
theorem dL_law_1658 : decode cL_law 1658 = .ok (.iload_n 3, 1) := by decide +kernel
theorem dL_law_1659 : decode cL_law 1659 = .ok (.iconst 2, 1) := by decide +kernel
theorem dL_law_1660 : decode cL_law 1660 = .ok (.iadd, 1) := by decide +kernel
theorem dL_law_1661 : decode cL_law 1661 = .ok (.iaload, 1) := by decide +kernel
theorem dL_law_1662 : decode cL_law 1662 = .ok (.aload_n 0, 1) := by decide +kernel
theorem dL_law_1663 : decode cL_law 1663 = .ok (.iload_n 3, 1) := by decide +kernel
theorem dL_law_1664 : decode cL_law 1664 = .ok (.iconst 3, 1) := by decide +kernel
theorem dL_law_1665 : decode cL_law 1665 = .ok (.iadd, 1) := by decide +kernel
theorem dL_law_1666 : decode cL_law 1666 = .ok (.iaload, 1) := by decide +kernel
theorem dL_law_1667 : decode cL_law 1667 = .ok (.invokevirtual 175, 3) := by decide +kernel
theorem dL_law_1670 : decode cL_law 1670 = .ok (.aload_n 2, 1) := by decide +kernel
theorem dL_law_1671 : decode cL_law 1671 = .ok (.aload_n 0, 1) := by decide +kernel
theorem dL_law_1672 : decode cL_law 1672 = .ok (.iload_n 3, 1) := by decide +kernel
theorem dL_law_1673 : decode cL_law 1673 = .ok (.iconst 1, 1) := by decide +kernel
theorem dL_law_1674 : decode cL_law 1674 = .ok (.iadd, 1) := by decide +kernel
theorem dL_law_1675 : decode cL_law 1675 = .ok (.iaload, 1) := by decide +kernel
theorem dL_law_1676 : decode cL_law 1676 = .ok (.aload_n 0, 1) := by decide +kernel
theorem dL_law_1677 : decode cL_law 1677 = .ok (.iload_n 3, 1) := by decide +kernel
theorem dL_law_1678 : decode cL_law 1678 = .ok (.iconst 2, 1) := by decide +kernel
theorem dL_law_1679 : decode cL_law 1679 = .ok (.iadd, 1) := by decide +kernel
theorem dL_law_1680 : decode cL_law 1680 = .ok (.iaload, 1) := by decide +kernel
theorem dL_law_1681 : decode cL_law 1681 = .ok (.aload_n 0, 1) := by decide +kernel
theorem dL_law_1682 : decode cL_law 1682 = .ok (.iload_n 3, 1) := by decide +kernel
theorem dL_law_1683 : decode cL_law 1683 = .ok (.iconst 3, 1) := by decide +kernel
theorem dL_law_1684 : decode cL_law 1684 = .ok (.iadd, 1) := by decide +kernel
theorem dL_law_1685 : decode cL_law 1685 = .ok (.iaload, 1) := by decide +kernel
theorem dL_law_1686 : decode cL_law 1686 = .ok (.invokevirtual 178, 3) := by decide +kernel
theorem dL_law_1689 : decode cL_law 1689 = .ok (.if_icmp .eq 722, 3) := by decide +kernel
set_option maxHeartbeats 4000000 in
set_option maxRecDepth 100000 in
theorem lawc_judge {p : Program} {l : Launch} {e : Env} {s : State} {m : MethodId} {below : List Frame} {meth : Method} {c : Code} {b : Nat} {xs : Nat → Int32} (D : va_G) (cy : Nat → ClassId) (g1 g2 : Nat → Nat) (C0 : lw_At p s m meth c b 6 xs) (hK : va_K D clz (tyl cy) s) (H : Heap) (locs : List Loc) (ls : Array Slot) (hP : va_P D clz [(g1 0, .inr (8, xF g1)), (g1 3, .inr (0, [.int 0, .int 0, .int 0, .int 0, .int 0, .int 0, .ref (g1 4), .ref (g1 5), .ref (g1 6), .ref (g1 7)])), (g2 60, .inr (9, mF g2)), (g2 17, .inl (cy 0, 25, .inl (fun _ => 0)))] H) (hD : va_D (fun q : Nat => s.heap.size ≤ q) [(g1 0, .inr (8, xF g1)), (g1 3, .inr (0, [.int 0, .int 0, .int 0, .int 0, .int 0, .int 0, .ref (g1 4), .ref (g1 5), .ref (g1 6), .ref (g1 7)])), (g2 60, .inr (9, mF g2)), (g2 17, .inl (cy 0, 25, .inl (fun _ => 0)))]) (hS : va_S (fun q : Nat => s.heap.size ≤ q) s.heap H locs) (hl : lv_has ls 4 [(3, .int 0), (2, .ref (g2 60)), (1, .ref (g1 0)), (0, .ref b)]) : W p l e room_1 s m #[Value.ref b] below meth c H locs 200 700000 (lw_Z below #[Value.ref b] s) (F0 m 1651 ls []) := by
  obtain ⟨hx, hb, hr, hml, hown0, hts0, hX, hbl, hlocks, hgv⟩ := C0
  have hown : s.vm.findClass RL = some m.cls := hown0
  have hts : ∀ w ∈ lw_g, w.before #[Value.ref b] s = true := fun w h => hts0 w (lw_gt h)
  have hA : ∀ q : Nat, s.heap.size ≤ q → (fun q : Nat => s.heap.size ≤ q) q := fun _ h => h
  have hbA : ¬ (fun q : Nat => s.heap.size ≤ q) b := Nat.not_le.mpr hbl
  refine lv_aload_n hx hb dL_law_1651 rfl (lv_at hl 2 rfl) ?_
  refine lv_aload_n hx hb dL_law_1652 rfl (lv_at hl 3 rfl) ?_
  refine lv_iload_n hx hb dL_law_1653 rfl (lv_at hl 0 rfl) ?_
  refine lv_iconst (v := 1) hx hb dL_law_1654 (by decide) ?_
  refine lv_iadd hx hb dL_law_1655 ?_
  refine lv_topi (fun x_1 ex_1 => ?_)
  obtain rfl : x_1 = 1 := ex_1.trans (by decide)
  refine va_sld hx hb hX hbl hbA hS (vpi (by decide)) dL_law_1656 ?_
  refine lv_aload_n hx hb dL_law_1657 rfl (lv_at hl 3 rfl) ?_
  refine lv_iload_n hx hb dL_law_1658 rfl (lv_at hl 0 rfl) ?_
  refine lv_iconst (v := 2) hx hb dL_law_1659 (by decide) ?_
  refine lv_iadd hx hb dL_law_1660 ?_
  refine lv_topi (fun x_2 ex_2 => ?_)
  obtain rfl : x_2 = 2 := ex_2.trans (by decide)
  refine va_sld hx hb hX hbl hbA hS (vpi (by decide)) dL_law_1661 ?_
  refine lv_aload_n hx hb dL_law_1662 rfl (lv_at hl 3 rfl) ?_
  refine lv_iload_n hx hb dL_law_1663 rfl (lv_at hl 0 rfl) ?_
  refine lv_iconst (v := 3) hx hb dL_law_1664 (by decide) ?_
  refine lv_iadd hx hb dL_law_1665 ?_
  refine lv_topi (fun x_3 ex_3 => ?_)
  obtain rfl : x_3 = 3 := ex_3.trans (by decide)
  refine va_sld hx hb hX hbl hbA hS (vpi (by decide)) dL_law_1666 ?_
  have hPc := hP.sub (ws' := [(g1 0, .inr (8, xF g1)), (g1 3, .inr (0, [.int 0, .int 0, .int 0, .int 0, .int 0, .int 0, .ref (g1 4), .ref (g1 5), .ref (g1 6), .ref (g1 7)]))]) [0, 1] rfl
  have hDc := hD.sub (ws' := [(g1 0, .inr (8, xF g1)), (g1 3, .inr (0, [.int 0, .int 0, .int 0, .int 0, .int 0, .int 0, .ref (g1 4), .ref (g1 5), .ref (g1 6), .ref (g1 7)]))]) [0, 1] (by decide) rfl
  have hFc := va_free (wc := [(g1 0, .inr (8, xF g1)), (g1 3, .inr (0, [.int 0, .int 0, .int 0, .int 0, .int 0, .int 0, .ref (g1 4), .ref (g1 5), .ref (g1 6), .ref (g1 7)]))]) hD hS hA [0, 1] rfl
  refine va_calli (va_runV (As := [.int (xs (1 : Int32).toNatClampNeg), .int (xs (2 : Int32).toNatClampNeg), .int (xs (3 : Int32).toNatClampNeg)]) (rest := []) ⟨hx, hb, hml, hown, hts⟩ (c_X8_judge l D cy g1 (xs (1 : Int32).toNatClampNeg) (xs (2 : Int32).toNatClampNeg) (xs (3 : Int32).toNatClampNeg) H.size) (cwV 3 hts (gd_V q1259 q1260 q1261 q125 q1262) rfl rfl rfl (by decide +kernel) ⟨Nat.le_of_ble_eq_true rfl, Nat.le_of_ble_eq_true rfl⟩) (pr_V hPc hK hDc (va_recv hK hPc (ci := 8) (q0 := 0) rfl rfl)) rfl rfl hl.1 rfl (lv_room (Nat.le_of_ble_eq_true rfl)) dL_law_1667 ⟨Nat.le_of_ble_eq_true rfl, Nat.le_of_ble_eq_true rfl⟩) hS (fun q _ h => hFc q h) hFc (fun r_4 u tS H1 locs ht hvm hw hB hz1 hk1 hS => ?_)
  obtain ⟨hP1, hK1, hD1⟩ := hB
  rw [ht] at hP1
  try dsimp only at hw
  obtain ⟨hP, hD⟩ := va_join (wr := [(g2 60, .inr (9, mF g2)), (g2 17, .inl (cy 0, 25, .inl (fun _ => 0)))]) (w1 := [(g1 0, .inr (8, xF g1)), (g1 3, .inr (0, [.int 0, .int 0, .int 0, .int 0, .int 0, .int 0, .ref (g1 4), .ref (g1 5), .ref (g1 6), .ref (g1 7)]))]) hP hD [0, 1] [2, 3] rfl rfl (by decide) (by decide) hk1 hFc hP1 hD1
  generalize H1 = H at hP hS ⊢
  have hP : va_P D clz [(g2 60, .inr (9, mF g2)), (g2 17, .inl (cy 0, 25, .inl (fun _ => 0))), (g1 0, .inr (8, xF g1)), (g1 3, .inr (0, [.int 0, .int 0, .int 0, .int 0, .int 0, .int 0, .ref (g1 4), .ref (g1 5), .ref (g1 6), .ref (g1 7)]))] H := hP
  have hD : va_D (fun q : Nat => s.heap.size ≤ q) [(g2 60, .inr (9, mF g2)), (g2 17, .inl (cy 0, 25, .inl (fun _ => 0))), (g1 0, .inr (8, xF g1)), (g1 3, .inr (0, [.int 0, .int 0, .int 0, .int 0, .int 0, .int 0, .ref (g1 4), .ref (g1 5), .ref (g1 6), .ref (g1 7)]))] := hD
  subst hw
  refine lv_aload_n hx hb dL_law_1670 rfl (lv_at hl 1 rfl) ?_
  refine lv_aload_n hx hb dL_law_1671 rfl (lv_at hl 3 rfl) ?_
  refine lv_iload_n hx hb dL_law_1672 rfl (lv_at hl 0 rfl) ?_
  refine lv_iconst (v := 1) hx hb dL_law_1673 (by decide) ?_
  refine lv_iadd hx hb dL_law_1674 ?_
  refine lv_topi (fun x_5 ex_5 => ?_)
  obtain rfl : x_5 = 1 := ex_5.trans (by decide)
  refine va_sld hx hb hX hbl hbA hS (vpi (by decide)) dL_law_1675 ?_
  refine lv_aload_n hx hb dL_law_1676 rfl (lv_at hl 3 rfl) ?_
  refine lv_iload_n hx hb dL_law_1677 rfl (lv_at hl 0 rfl) ?_
  refine lv_iconst (v := 2) hx hb dL_law_1678 (by decide) ?_
  refine lv_iadd hx hb dL_law_1679 ?_
  refine lv_topi (fun x_6 ex_6 => ?_)
  obtain rfl : x_6 = 2 := ex_6.trans (by decide)
  refine va_sld hx hb hX hbl hbA hS (vpi (by decide)) dL_law_1680 ?_
  refine lv_aload_n hx hb dL_law_1681 rfl (lv_at hl 3 rfl) ?_
  refine lv_iload_n hx hb dL_law_1682 rfl (lv_at hl 0 rfl) ?_
  refine lv_iconst (v := 3) hx hb dL_law_1683 (by decide) ?_
  refine lv_iadd hx hb dL_law_1684 ?_
  refine lv_topi (fun x_7 ex_7 => ?_)
  obtain rfl : x_7 = 3 := ex_7.trans (by decide)
  refine va_sld hx hb hX hbl hbA hS (vpi (by decide)) dL_law_1685 ?_
  have hPc := hP.sub (ws' := [(g2 60, .inr (9, mF g2)), (g2 17, .inl (cy 0, 25, .inl (fun _ => 0)))]) [0, 1] rfl
  have hDc := hD.sub (ws' := [(g2 60, .inr (9, mF g2)), (g2 17, .inl (cy 0, 25, .inl (fun _ => 0)))]) [0, 1] (by decide) rfl
  have hFc := va_free (wc := [(g2 60, .inr (9, mF g2)), (g2 17, .inl (cy 0, 25, .inl (fun _ => 0)))]) hD hS hA [0, 1] rfl
  refine va_calli (va_runV (As := [.int (xs (1 : Int32).toNatClampNeg), .int (xs (2 : Int32).toNatClampNeg), .int (xs (3 : Int32).toNatClampNeg)]) (rest := [.int (-2)]) ⟨hx, hb, hml, hown, hts⟩ (c_X9_judge l D cy g2 (xs (1 : Int32).toNatClampNeg) (xs (2 : Int32).toNatClampNeg) (xs (3 : Int32).toNatClampNeg) H.size) (cwV 3 hts (gd_V q2048 q2049 q2050 q134 q2051) rfl rfl rfl (by decide +kernel) ⟨Nat.le_of_ble_eq_true rfl, Nat.le_of_ble_eq_true rfl⟩) (pr_V hPc hK hDc (va_recv hK hPc (ci := 9) (q0 := 0) rfl rfl)) rfl rfl hl.1 rfl (lv_room (Nat.le_of_ble_eq_true rfl)) dL_law_1686 ⟨Nat.le_of_ble_eq_true rfl, Nat.le_of_ble_eq_true rfl⟩) hS (fun q _ h => hFc q h) hFc (fun r_8 u tS H1 locs ht hvm hw hB hz1 hk1 hS => ?_)
  obtain ⟨hP1, hK1, hD1⟩ := hB
  rw [ht] at hP1
  try dsimp only at hw
  obtain ⟨hP, hD⟩ := va_join (wr := [(g1 0, .inr (8, xF g1)), (g1 3, .inr (0, [.int 0, .int 0, .int 0, .int 0, .int 0, .int 0, .ref (g1 4), .ref (g1 5), .ref (g1 6), .ref (g1 7)]))]) (w1 := [(g2 60, .inr (9, mF g2)), (g2 17, .inl (cy 0, 25, .inl (fun _ => 0)))]) hP hD [0, 1] [2, 3] rfl rfl (by decide) (by decide) hk1 hFc hP1 hD1
  generalize H1 = H at hP hS ⊢
  have hP : va_P D clz [(g1 0, .inr (8, xF g1)), (g1 3, .inr (0, [.int 0, .int 0, .int 0, .int 0, .int 0, .int 0, .ref (g1 4), .ref (g1 5), .ref (g1 6), .ref (g1 7)])), (g2 60, .inr (9, mF g2)), (g2 17, .inl (cy 0, 25, .inl (fun _ => 0)))] H := hP
  have hD : va_D (fun q : Nat => s.heap.size ≤ q) [(g1 0, .inr (8, xF g1)), (g1 3, .inr (0, [.int 0, .int 0, .int 0, .int 0, .int 0, .int 0, .ref (g1 4), .ref (g1 5), .ref (g1 6), .ref (g1 7)])), (g2 60, .inr (9, mF g2)), (g2 17, .inl (cy 0, 25, .inl (fun _ => 0)))] := hD
  subst hw
  refine lv_icmp_eq (tgt := 2411) hx hb dL_law_1689 (by decide) (fun _ => ?_) (fun c9 => absurd c9 (by decide))
  exact law_end ⟨hx, hb, hr, hml, hown0, hts0, hX, hbl, hlocks, hgv⟩ _ _ _ hS (lv_sub hl [0, 3] rfl)

theorem q1279 : Cond.methodLink RL 179 yX8_told ∈ lw_g := lw_gm (List.mem_of_getElem? (i := 1279) (by decide +kernel)) rfl
theorem q1280 : Cond.instanceMethod yX8_told ∈ lw_g := lw_gm (List.mem_of_getElem? (i := 1280) (by decide +kernel)) rfl
theorem q1281 : Cond.selects RX8 yX8_told yX8_told ∈ lw_g := lw_gm (List.mem_of_getElem? (i := 1281) (by decide +kernel)) rfl
theorem q2064 : Cond.methodLink RL 182 yX9_told ∈ lw_g := lw_gm (List.mem_of_getElem? (i := 2064) (by decide +kernel)) rfl
theorem q2065 : Cond.instanceMethod yX9_told ∈ lw_g := lw_gm (List.mem_of_getElem? (i := 2065) (by decide +kernel)) rfl
theorem q2066 : Cond.selects RX9 yX9_told yX9_told ∈ lw_g := lw_gm (List.mem_of_getElem? (i := 2066) (by decide +kernel)) rfl
theorem dL_law_1694 : decode cL_law 1694 = .ok (.aload_n 1, 1) := by decide +kernel
theorem dL_law_1695 : decode cL_law 1695 = .ok (.aload_n 0, 1) := by decide +kernel
theorem dL_law_1696 : decode cL_law 1696 = .ok (.iload_n 3, 1) := by decide +kernel
theorem dL_law_1697 : decode cL_law 1697 = .ok (.iconst 1, 1) := by decide +kernel
theorem dL_law_1698 : decode cL_law 1698 = .ok (.iadd, 1) := by decide +kernel
theorem dL_law_1699 : decode cL_law 1699 = .ok (.iaload, 1) := by decide +kernel
theorem dL_law_1700 : decode cL_law 1700 = .ok (.aload_n 0, 1) := by decide +kernel
theorem dL_law_1701 : decode cL_law 1701 = .ok (.iload_n 3, 1) := by decide +kernel
theorem dL_law_1702 : decode cL_law 1702 = .ok (.iconst 2, 1) := by decide +kernel
theorem dL_law_1703 : decode cL_law 1703 = .ok (.iadd, 1) := by decide +kernel
theorem dL_law_1704 : decode cL_law 1704 = .ok (.iaload, 1) := by decide +kernel
theorem dL_law_1705 : decode cL_law 1705 = .ok (.aload_n 0, 1) := by decide +kernel
theorem dL_law_1706 : decode cL_law 1706 = .ok (.iload_n 3, 1) := by decide +kernel
theorem dL_law_1707 : decode cL_law 1707 = .ok (.iconst 3, 1) := by decide +kernel
theorem dL_law_1708 : decode cL_law 1708 = .ok (.iadd, 1) := by decide +kernel
theorem dL_law_1709 : decode cL_law 1709 = .ok (.iaload, 1) := by decide +kernel
theorem dL_law_1710 : decode cL_law 1710 = .ok (.invokevirtual 179, 3) := by decide +kernel
theorem dL_law_1713 : decode cL_law 1713 = .ok (.aload_n 2, 1) := by decide +kernel
theorem dL_law_1714 : decode cL_law 1714 = .ok (.aload_n 0, 1) := by decide +kernel
theorem dL_law_1715 : decode cL_law 1715 = .ok (.iload_n 3, 1) := by decide +kernel
theorem dL_law_1716 : decode cL_law 1716 = .ok (.iconst 1, 1) := by decide +kernel
theorem dL_law_1717 : decode cL_law 1717 = .ok (.iadd, 1) := by decide +kernel
theorem dL_law_1718 : decode cL_law 1718 = .ok (.iaload, 1) := by decide +kernel
theorem dL_law_1719 : decode cL_law 1719 = .ok (.aload_n 0, 1) := by decide +kernel
theorem dL_law_1720 : decode cL_law 1720 = .ok (.iload_n 3, 1) := by decide +kernel
theorem dL_law_1721 : decode cL_law 1721 = .ok (.iconst 2, 1) := by decide +kernel
theorem dL_law_1722 : decode cL_law 1722 = .ok (.iadd, 1) := by decide +kernel
theorem dL_law_1723 : decode cL_law 1723 = .ok (.iaload, 1) := by decide +kernel
theorem dL_law_1724 : decode cL_law 1724 = .ok (.aload_n 0, 1) := by decide +kernel
theorem dL_law_1725 : decode cL_law 1725 = .ok (.iload_n 3, 1) := by decide +kernel
theorem dL_law_1726 : decode cL_law 1726 = .ok (.iconst 3, 1) := by decide +kernel
theorem dL_law_1727 : decode cL_law 1727 = .ok (.iadd, 1) := by decide +kernel
theorem dL_law_1728 : decode cL_law 1728 = .ok (.iaload, 1) := by decide +kernel
theorem dL_law_1729 : decode cL_law 1729 = .ok (.invokevirtual 182, 3) := by decide +kernel
theorem dL_law_1732 : decode cL_law 1732 = .ok (.if_icmp .eq 679, 3) := by decide +kernel
set_option maxHeartbeats 4000000 in
set_option maxRecDepth 100000 in
theorem lawc_told {p : Program} {l : Launch} {e : Env} {s : State} {m : MethodId} {below : List Frame} {meth : Method} {c : Code} {b : Nat} {xs : Nat → Int32} (D : va_G) (cy : Nat → ClassId) (g1 g2 : Nat → Nat) (C0 : lw_At p s m meth c b 6 xs) (hK : va_K D clz (tyl cy) s) (H : Heap) (locs : List Loc) (ls : Array Slot) (hP : va_P D clz [(g1 0, .inr (8, xF g1)), (g1 3, .inr (0, [.int 0, .int 0, .int 0, .int 0, .int 0, .int 0, .ref (g1 4), .ref (g1 5), .ref (g1 6), .ref (g1 7)])), (g2 60, .inr (9, mF g2)), (g2 17, .inl (cy 0, 25, .inl (fun _ => 0)))] H) (hD : va_D (fun q : Nat => s.heap.size ≤ q) [(g1 0, .inr (8, xF g1)), (g1 3, .inr (0, [.int 0, .int 0, .int 0, .int 0, .int 0, .int 0, .ref (g1 4), .ref (g1 5), .ref (g1 6), .ref (g1 7)])), (g2 60, .inr (9, mF g2)), (g2 17, .inl (cy 0, 25, .inl (fun _ => 0)))]) (hS : va_S (fun q : Nat => s.heap.size ≤ q) s.heap H locs) (hl : lv_has ls 4 [(3, .int 0), (2, .ref (g2 60)), (1, .ref (g1 0)), (0, .ref b)]) : W p l e room_1 s m #[Value.ref b] below meth c H locs 200 700000 (lw_Z below #[Value.ref b] s) (F0 m 1694 ls []) := by
  obtain ⟨hx, hb, hr, hml, hown0, hts0, hX, hbl, hlocks, hgv⟩ := C0
  have hown : s.vm.findClass RL = some m.cls := hown0
  have hts : ∀ w ∈ lw_g, w.before #[Value.ref b] s = true := fun w h => hts0 w (lw_gt h)
  have hA : ∀ q : Nat, s.heap.size ≤ q → (fun q : Nat => s.heap.size ≤ q) q := fun _ h => h
  have hbA : ¬ (fun q : Nat => s.heap.size ≤ q) b := Nat.not_le.mpr hbl
  refine lv_aload_n hx hb dL_law_1694 rfl (lv_at hl 2 rfl) ?_
  refine lv_aload_n hx hb dL_law_1695 rfl (lv_at hl 3 rfl) ?_
  refine lv_iload_n hx hb dL_law_1696 rfl (lv_at hl 0 rfl) ?_
  refine lv_iconst (v := 1) hx hb dL_law_1697 (by decide) ?_
  refine lv_iadd hx hb dL_law_1698 ?_
  refine lv_topi (fun x_1 ex_1 => ?_)
  obtain rfl : x_1 = 1 := ex_1.trans (by decide)
  refine va_sld hx hb hX hbl hbA hS (vpi (by decide)) dL_law_1699 ?_
  refine lv_aload_n hx hb dL_law_1700 rfl (lv_at hl 3 rfl) ?_
  refine lv_iload_n hx hb dL_law_1701 rfl (lv_at hl 0 rfl) ?_
  refine lv_iconst (v := 2) hx hb dL_law_1702 (by decide) ?_
  refine lv_iadd hx hb dL_law_1703 ?_
  refine lv_topi (fun x_2 ex_2 => ?_)
  obtain rfl : x_2 = 2 := ex_2.trans (by decide)
  refine va_sld hx hb hX hbl hbA hS (vpi (by decide)) dL_law_1704 ?_
  refine lv_aload_n hx hb dL_law_1705 rfl (lv_at hl 3 rfl) ?_
  refine lv_iload_n hx hb dL_law_1706 rfl (lv_at hl 0 rfl) ?_
  refine lv_iconst (v := 3) hx hb dL_law_1707 (by decide) ?_
  refine lv_iadd hx hb dL_law_1708 ?_
  refine lv_topi (fun x_3 ex_3 => ?_)
  obtain rfl : x_3 = 3 := ex_3.trans (by decide)
  refine va_sld hx hb hX hbl hbA hS (vpi (by decide)) dL_law_1709 ?_
  have hPc := hP.sub (ws' := [(g1 0, .inr (8, xF g1)), (g1 3, .inr (0, [.int 0, .int 0, .int 0, .int 0, .int 0, .int 0, .ref (g1 4), .ref (g1 5), .ref (g1 6), .ref (g1 7)]))]) [0, 1] rfl
  have hDc := hD.sub (ws' := [(g1 0, .inr (8, xF g1)), (g1 3, .inr (0, [.int 0, .int 0, .int 0, .int 0, .int 0, .int 0, .ref (g1 4), .ref (g1 5), .ref (g1 6), .ref (g1 7)]))]) [0, 1] (by decide) rfl
  have hFc := va_free (wc := [(g1 0, .inr (8, xF g1)), (g1 3, .inr (0, [.int 0, .int 0, .int 0, .int 0, .int 0, .int 0, .ref (g1 4), .ref (g1 5), .ref (g1 6), .ref (g1 7)]))]) hD hS hA [0, 1] rfl
  refine va_calli (va_runV (As := [.int (xs (1 : Int32).toNatClampNeg), .int (xs (2 : Int32).toNatClampNeg), .int (xs (3 : Int32).toNatClampNeg)]) (rest := []) ⟨hx, hb, hml, hown, hts⟩ (c_X8_told l D cy g1 (xs (1 : Int32).toNatClampNeg) (xs (2 : Int32).toNatClampNeg) (xs (3 : Int32).toNatClampNeg) H.size) (cwV 3 hts (gd_V q1279 q1280 q1281 q125 q1282) rfl rfl rfl (by decide +kernel) ⟨Nat.le_of_ble_eq_true rfl, Nat.le_of_ble_eq_true rfl⟩) (pr_V hPc hK hDc (va_recv hK hPc (ci := 8) (q0 := 0) rfl rfl)) rfl rfl hl.1 rfl (lv_room (Nat.le_of_ble_eq_true rfl)) dL_law_1710 ⟨Nat.le_of_ble_eq_true rfl, Nat.le_of_ble_eq_true rfl⟩) hS (fun q _ h => hFc q h) hFc (fun r_4 u tS H1 locs ht hvm hw hB hz1 hk1 hS => ?_)
  obtain ⟨hP1, hK1, hD1⟩ := hB
  rw [ht] at hP1
  try dsimp only at hw
  obtain ⟨hP, hD⟩ := va_join (wr := [(g2 60, .inr (9, mF g2)), (g2 17, .inl (cy 0, 25, .inl (fun _ => 0)))]) (w1 := [(g1 0, .inr (8, xF g1)), (g1 3, .inr (0, [.int 0, .int 0, .int 0, .int 0, .int 0, .int 0, .ref (g1 4), .ref (g1 5), .ref (g1 6), .ref (g1 7)]))]) hP hD [0, 1] [2, 3] rfl rfl (by decide) (by decide) hk1 hFc hP1 hD1
  generalize H1 = H at hP hS ⊢
  have hP : va_P D clz [(g2 60, .inr (9, mF g2)), (g2 17, .inl (cy 0, 25, .inl (fun _ => 0))), (g1 0, .inr (8, xF g1)), (g1 3, .inr (0, [.int 0, .int 0, .int 0, .int 0, .int 0, .int 0, .ref (g1 4), .ref (g1 5), .ref (g1 6), .ref (g1 7)]))] H := hP
  have hD : va_D (fun q : Nat => s.heap.size ≤ q) [(g2 60, .inr (9, mF g2)), (g2 17, .inl (cy 0, 25, .inl (fun _ => 0))), (g1 0, .inr (8, xF g1)), (g1 3, .inr (0, [.int 0, .int 0, .int 0, .int 0, .int 0, .int 0, .ref (g1 4), .ref (g1 5), .ref (g1 6), .ref (g1 7)]))] := hD
  subst hw
  refine lv_aload_n hx hb dL_law_1713 rfl (lv_at hl 1 rfl) ?_
  refine lv_aload_n hx hb dL_law_1714 rfl (lv_at hl 3 rfl) ?_
  refine lv_iload_n hx hb dL_law_1715 rfl (lv_at hl 0 rfl) ?_
  refine lv_iconst (v := 1) hx hb dL_law_1716 (by decide) ?_
  refine lv_iadd hx hb dL_law_1717 ?_
  refine lv_topi (fun x_5 ex_5 => ?_)
  obtain rfl : x_5 = 1 := ex_5.trans (by decide)
  refine va_sld hx hb hX hbl hbA hS (vpi (by decide)) dL_law_1718 ?_
  refine lv_aload_n hx hb dL_law_1719 rfl (lv_at hl 3 rfl) ?_
  refine lv_iload_n hx hb dL_law_1720 rfl (lv_at hl 0 rfl) ?_
  refine lv_iconst (v := 2) hx hb dL_law_1721 (by decide) ?_
  refine lv_iadd hx hb dL_law_1722 ?_
  refine lv_topi (fun x_6 ex_6 => ?_)
  obtain rfl : x_6 = 2 := ex_6.trans (by decide)
  refine va_sld hx hb hX hbl hbA hS (vpi (by decide)) dL_law_1723 ?_
  refine lv_aload_n hx hb dL_law_1724 rfl (lv_at hl 3 rfl) ?_
  refine lv_iload_n hx hb dL_law_1725 rfl (lv_at hl 0 rfl) ?_
  refine lv_iconst (v := 3) hx hb dL_law_1726 (by decide) ?_
  refine lv_iadd hx hb dL_law_1727 ?_
  refine lv_topi (fun x_7 ex_7 => ?_)
  obtain rfl : x_7 = 3 := ex_7.trans (by decide)
  refine va_sld hx hb hX hbl hbA hS (vpi (by decide)) dL_law_1728 ?_
  have hPc := hP.sub (ws' := [(g2 60, .inr (9, mF g2)), (g2 17, .inl (cy 0, 25, .inl (fun _ => 0)))]) [0, 1] rfl
  have hDc := hD.sub (ws' := [(g2 60, .inr (9, mF g2)), (g2 17, .inl (cy 0, 25, .inl (fun _ => 0)))]) [0, 1] (by decide) rfl
  have hFc := va_free (wc := [(g2 60, .inr (9, mF g2)), (g2 17, .inl (cy 0, 25, .inl (fun _ => 0)))]) hD hS hA [0, 1] rfl
  refine va_calli (va_runV (As := [.int (xs (1 : Int32).toNatClampNeg), .int (xs (2 : Int32).toNatClampNeg), .int (xs (3 : Int32).toNatClampNeg)]) (rest := [.int (-2)]) ⟨hx, hb, hml, hown, hts⟩ (c_X9_told l D cy g2 (xs (1 : Int32).toNatClampNeg) (xs (2 : Int32).toNatClampNeg) (xs (3 : Int32).toNatClampNeg) H.size) (cwV 3 hts (gd_V q2064 q2065 q2066 q134 q2067) rfl rfl rfl (by decide +kernel) ⟨Nat.le_of_ble_eq_true rfl, Nat.le_of_ble_eq_true rfl⟩) (pr_V hPc hK hDc (va_recv hK hPc (ci := 9) (q0 := 0) rfl rfl)) rfl rfl hl.1 rfl (lv_room (Nat.le_of_ble_eq_true rfl)) dL_law_1729 ⟨Nat.le_of_ble_eq_true rfl, Nat.le_of_ble_eq_true rfl⟩) hS (fun q _ h => hFc q h) hFc (fun r_8 u tS H1 locs ht hvm hw hB hz1 hk1 hS => ?_)
  obtain ⟨hP1, hK1, hD1⟩ := hB
  rw [ht] at hP1
  try dsimp only at hw
  obtain ⟨hP, hD⟩ := va_join (wr := [(g1 0, .inr (8, xF g1)), (g1 3, .inr (0, [.int 0, .int 0, .int 0, .int 0, .int 0, .int 0, .ref (g1 4), .ref (g1 5), .ref (g1 6), .ref (g1 7)]))]) (w1 := [(g2 60, .inr (9, mF g2)), (g2 17, .inl (cy 0, 25, .inl (fun _ => 0)))]) hP hD [0, 1] [2, 3] rfl rfl (by decide) (by decide) hk1 hFc hP1 hD1
  generalize H1 = H at hP hS ⊢
  have hP : va_P D clz [(g1 0, .inr (8, xF g1)), (g1 3, .inr (0, [.int 0, .int 0, .int 0, .int 0, .int 0, .int 0, .ref (g1 4), .ref (g1 5), .ref (g1 6), .ref (g1 7)])), (g2 60, .inr (9, mF g2)), (g2 17, .inl (cy 0, 25, .inl (fun _ => 0)))] H := hP
  have hD : va_D (fun q : Nat => s.heap.size ≤ q) [(g1 0, .inr (8, xF g1)), (g1 3, .inr (0, [.int 0, .int 0, .int 0, .int 0, .int 0, .int 0, .ref (g1 4), .ref (g1 5), .ref (g1 6), .ref (g1 7)])), (g2 60, .inr (9, mF g2)), (g2 17, .inl (cy 0, 25, .inl (fun _ => 0)))] := hD
  subst hw
  refine lv_icmp_eq (tgt := 2411) hx hb dL_law_1732 (by decide) (fun _ => ?_) (fun c9 => absurd c9 (by decide))
  exact law_end ⟨hx, hb, hr, hml, hown0, hts0, hX, hbl, hlocks, hgv⟩ _ _ _ hS (lv_sub hl [0, 3] rfl)

theorem q1287 : Cond.methodLink RL 183 yX8_heard ∈ lw_g := lw_gm (List.mem_of_getElem? (i := 1287) (by decide +kernel)) rfl
theorem q1288 : Cond.instanceMethod yX8_heard ∈ lw_g := lw_gm (List.mem_of_getElem? (i := 1288) (by decide +kernel)) rfl
theorem q1289 : Cond.selects RX8 yX8_heard yX8_heard ∈ lw_g := lw_gm (List.mem_of_getElem? (i := 1289) (by decide +kernel)) rfl
theorem q2068 : Cond.methodLink RL 186 yX9_heard ∈ lw_g := lw_gm (List.mem_of_getElem? (i := 2068) (by decide +kernel)) rfl
theorem q2069 : Cond.instanceMethod yX9_heard ∈ lw_g := lw_gm (List.mem_of_getElem? (i := 2069) (by decide +kernel)) rfl
theorem q2070 : Cond.selects RX9 yX9_heard yX9_heard ∈ lw_g := lw_gm (List.mem_of_getElem? (i := 2070) (by decide +kernel)) rfl
theorem dL_law_1737 : decode cL_law 1737 = .ok (.aload_n 1, 1) := by decide +kernel
theorem dL_law_1738 : decode cL_law 1738 = .ok (.aload_n 0, 1) := by decide +kernel
theorem dL_law_1739 : decode cL_law 1739 = .ok (.iload_n 3, 1) := by decide +kernel
theorem dL_law_1740 : decode cL_law 1740 = .ok (.iconst 1, 1) := by decide +kernel
theorem dL_law_1741 : decode cL_law 1741 = .ok (.iadd, 1) := by decide +kernel
theorem dL_law_1742 : decode cL_law 1742 = .ok (.iaload, 1) := by decide +kernel
theorem dL_law_1743 : decode cL_law 1743 = .ok (.invokevirtual 183, 3) := by decide +kernel
theorem dL_law_1746 : decode cL_law 1746 = .ok (.aload_n 2, 1) := by decide +kernel
theorem dL_law_1747 : decode cL_law 1747 = .ok (.aload_n 0, 1) := by decide +kernel
theorem dL_law_1748 : decode cL_law 1748 = .ok (.iload_n 3, 1) := by decide +kernel
theorem dL_law_1749 : decode cL_law 1749 = .ok (.iconst 1, 1) := by decide +kernel
theorem dL_law_1750 : decode cL_law 1750 = .ok (.iadd, 1) := by decide +kernel
theorem dL_law_1751 : decode cL_law 1751 = .ok (.iaload, 1) := by decide +kernel
theorem dL_law_1752 : decode cL_law 1752 = .ok (.invokevirtual 186, 3) := by decide +kernel
theorem dL_law_1755 : decode cL_law 1755 = .ok (.if_icmp .eq 656, 3) := by decide +kernel
set_option maxHeartbeats 4000000 in
set_option maxRecDepth 100000 in
theorem lawc_heard {p : Program} {l : Launch} {e : Env} {s : State} {m : MethodId} {below : List Frame} {meth : Method} {c : Code} {b : Nat} {xs : Nat → Int32} (D : va_G) (cy : Nat → ClassId) (g1 g2 : Nat → Nat) (C0 : lw_At p s m meth c b 6 xs) (hK : va_K D clz (tyl cy) s) (H : Heap) (locs : List Loc) (ls : Array Slot) (hP : va_P D clz [(g1 0, .inr (8, xF g1)), (g1 3, .inr (0, [.int 0, .int 0, .int 0, .int 0, .int 0, .int 0, .ref (g1 4), .ref (g1 5), .ref (g1 6), .ref (g1 7)])), (g2 60, .inr (9, mF g2)), (g2 16, .inl (cy 0, 5, .inl (fun _ => 0)))] H) (hD : va_D (fun q : Nat => s.heap.size ≤ q) [(g1 0, .inr (8, xF g1)), (g1 3, .inr (0, [.int 0, .int 0, .int 0, .int 0, .int 0, .int 0, .ref (g1 4), .ref (g1 5), .ref (g1 6), .ref (g1 7)])), (g2 60, .inr (9, mF g2)), (g2 16, .inl (cy 0, 5, .inl (fun _ => 0)))]) (hS : va_S (fun q : Nat => s.heap.size ≤ q) s.heap H locs) (hl : lv_has ls 4 [(3, .int 0), (2, .ref (g2 60)), (1, .ref (g1 0)), (0, .ref b)]) : W p l e room_1 s m #[Value.ref b] below meth c H locs 200 700000 (lw_Z below #[Value.ref b] s) (F0 m 1737 ls []) := by
  obtain ⟨hx, hb, hr, hml, hown0, hts0, hX, hbl, hlocks, hgv⟩ := C0
  have hown : s.vm.findClass RL = some m.cls := hown0
  have hts : ∀ w ∈ lw_g, w.before #[Value.ref b] s = true := fun w h => hts0 w (lw_gt h)
  have hA : ∀ q : Nat, s.heap.size ≤ q → (fun q : Nat => s.heap.size ≤ q) q := fun _ h => h
  have hbA : ¬ (fun q : Nat => s.heap.size ≤ q) b := Nat.not_le.mpr hbl
  refine lv_aload_n hx hb dL_law_1737 rfl (lv_at hl 2 rfl) ?_
  refine lv_aload_n hx hb dL_law_1738 rfl (lv_at hl 3 rfl) ?_
  refine lv_iload_n hx hb dL_law_1739 rfl (lv_at hl 0 rfl) ?_
  refine lv_iconst (v := 1) hx hb dL_law_1740 (by decide) ?_
  refine lv_iadd hx hb dL_law_1741 ?_
  refine lv_topi (fun x_1 ex_1 => ?_)
  obtain rfl : x_1 = 1 := ex_1.trans (by decide)
  refine va_sld hx hb hX hbl hbA hS (vpi (by decide)) dL_law_1742 ?_
  have hPc := hP.sub (ws' := [(g1 0, .inr (8, xF g1)), (g1 3, .inr (0, [.int 0, .int 0, .int 0, .int 0, .int 0, .int 0, .ref (g1 4), .ref (g1 5), .ref (g1 6), .ref (g1 7)]))]) [0, 1] rfl
  have hDc := hD.sub (ws' := [(g1 0, .inr (8, xF g1)), (g1 3, .inr (0, [.int 0, .int 0, .int 0, .int 0, .int 0, .int 0, .ref (g1 4), .ref (g1 5), .ref (g1 6), .ref (g1 7)]))]) [0, 1] (by decide) rfl
  have hFc := va_free (wc := [(g1 0, .inr (8, xF g1)), (g1 3, .inr (0, [.int 0, .int 0, .int 0, .int 0, .int 0, .int 0, .ref (g1 4), .ref (g1 5), .ref (g1 6), .ref (g1 7)]))]) hD hS hA [0, 1] rfl
  refine va_calli (va_runV (As := [.int (xs (1 : Int32).toNatClampNeg)]) (rest := []) ⟨hx, hb, hml, hown, hts⟩ (c_X8_heard l D cy g1 (xs (1 : Int32).toNatClampNeg) H.size) (cwV 1 hts (gd_V q1287 q1288 q1289 q125 q1290) rfl rfl rfl (by decide +kernel) ⟨Nat.le_of_ble_eq_true rfl, Nat.le_of_ble_eq_true rfl⟩) (pr_V hPc hK hDc (va_recv hK hPc (ci := 8) (q0 := 0) rfl rfl)) rfl rfl hl.1 rfl (lv_room (Nat.le_of_ble_eq_true rfl)) dL_law_1743 ⟨Nat.le_of_ble_eq_true rfl, Nat.le_of_ble_eq_true rfl⟩) hS (fun q _ h => hFc q h) hFc (fun r_2 u tS H1 locs ht hvm hw hB hz1 hk1 hS => ?_)
  obtain ⟨hP1, hK1, hD1⟩ := hB
  rw [ht] at hP1
  try dsimp only at hw
  obtain ⟨hP, hD⟩ := va_join (wr := [(g2 60, .inr (9, mF g2)), (g2 16, .inl (cy 0, 5, .inl (fun _ => 0)))]) (w1 := [(g1 0, .inr (8, xF g1)), (g1 3, .inr (0, [.int 0, .int 0, .int 0, .int 0, .int 0, .int 0, .ref (g1 4), .ref (g1 5), .ref (g1 6), .ref (g1 7)]))]) hP hD [0, 1] [2, 3] rfl rfl (by decide) (by decide) hk1 hFc hP1 hD1
  generalize H1 = H at hP hS ⊢
  have hP : va_P D clz [(g2 60, .inr (9, mF g2)), (g2 16, .inl (cy 0, 5, .inl (fun _ => 0))), (g1 0, .inr (8, xF g1)), (g1 3, .inr (0, [.int 0, .int 0, .int 0, .int 0, .int 0, .int 0, .ref (g1 4), .ref (g1 5), .ref (g1 6), .ref (g1 7)]))] H := hP
  have hD : va_D (fun q : Nat => s.heap.size ≤ q) [(g2 60, .inr (9, mF g2)), (g2 16, .inl (cy 0, 5, .inl (fun _ => 0))), (g1 0, .inr (8, xF g1)), (g1 3, .inr (0, [.int 0, .int 0, .int 0, .int 0, .int 0, .int 0, .ref (g1 4), .ref (g1 5), .ref (g1 6), .ref (g1 7)]))] := hD
  subst hw
  refine lv_aload_n hx hb dL_law_1746 rfl (lv_at hl 1 rfl) ?_
  refine lv_aload_n hx hb dL_law_1747 rfl (lv_at hl 3 rfl) ?_
  refine lv_iload_n hx hb dL_law_1748 rfl (lv_at hl 0 rfl) ?_
  refine lv_iconst (v := 1) hx hb dL_law_1749 (by decide) ?_
  refine lv_iadd hx hb dL_law_1750 ?_
  refine lv_topi (fun x_3 ex_3 => ?_)
  obtain rfl : x_3 = 1 := ex_3.trans (by decide)
  refine va_sld hx hb hX hbl hbA hS (vpi (by decide)) dL_law_1751 ?_
  have hPc := hP.sub (ws' := [(g2 60, .inr (9, mF g2)), (g2 16, .inl (cy 0, 5, .inl (fun _ => 0)))]) [0, 1] rfl
  have hDc := hD.sub (ws' := [(g2 60, .inr (9, mF g2)), (g2 16, .inl (cy 0, 5, .inl (fun _ => 0)))]) [0, 1] (by decide) rfl
  have hFc := va_free (wc := [(g2 60, .inr (9, mF g2)), (g2 16, .inl (cy 0, 5, .inl (fun _ => 0)))]) hD hS hA [0, 1] rfl
  refine va_calli (va_runV (As := [.int (xs (1 : Int32).toNatClampNeg)]) (rest := [.int (-2)]) ⟨hx, hb, hml, hown, hts⟩ (c_X9_heard l D cy g2 (xs (1 : Int32).toNatClampNeg) H.size) (cwV 1 hts (gd_V q2068 q2069 q2070 q134 q2071) rfl rfl rfl (by decide +kernel) ⟨Nat.le_of_ble_eq_true rfl, Nat.le_of_ble_eq_true rfl⟩) (pr_V hPc hK hDc (va_recv hK hPc (ci := 9) (q0 := 0) rfl rfl)) rfl rfl hl.1 rfl (lv_room (Nat.le_of_ble_eq_true rfl)) dL_law_1752 ⟨Nat.le_of_ble_eq_true rfl, Nat.le_of_ble_eq_true rfl⟩) hS (fun q _ h => hFc q h) hFc (fun r_4 u tS H1 locs ht hvm hw hB hz1 hk1 hS => ?_)
  obtain ⟨hP1, hK1, hD1⟩ := hB
  rw [ht] at hP1
  try dsimp only at hw
  obtain ⟨hP, hD⟩ := va_join (wr := [(g1 0, .inr (8, xF g1)), (g1 3, .inr (0, [.int 0, .int 0, .int 0, .int 0, .int 0, .int 0, .ref (g1 4), .ref (g1 5), .ref (g1 6), .ref (g1 7)]))]) (w1 := [(g2 60, .inr (9, mF g2)), (g2 16, .inl (cy 0, 5, .inl (fun _ => 0)))]) hP hD [0, 1] [2, 3] rfl rfl (by decide) (by decide) hk1 hFc hP1 hD1
  generalize H1 = H at hP hS ⊢
  have hP : va_P D clz [(g1 0, .inr (8, xF g1)), (g1 3, .inr (0, [.int 0, .int 0, .int 0, .int 0, .int 0, .int 0, .ref (g1 4), .ref (g1 5), .ref (g1 6), .ref (g1 7)])), (g2 60, .inr (9, mF g2)), (g2 16, .inl (cy 0, 5, .inl (fun _ => 0)))] H := hP
  have hD : va_D (fun q : Nat => s.heap.size ≤ q) [(g1 0, .inr (8, xF g1)), (g1 3, .inr (0, [.int 0, .int 0, .int 0, .int 0, .int 0, .int 0, .ref (g1 4), .ref (g1 5), .ref (g1 6), .ref (g1 7)])), (g2 60, .inr (9, mF g2)), (g2 16, .inl (cy 0, 5, .inl (fun _ => 0)))] := hD
  subst hw
  refine lv_icmp_eq (tgt := 2411) hx hb dL_law_1755 (by decide) (fun _ => ?_) (fun c9 => absurd c9 (by decide))
  exact law_end ⟨hx, hb, hr, hml, hown0, hts0, hX, hbl, hlocks, hgv⟩ _ _ _ hS (lv_sub hl [0, 3] rfl)

theorem q1303 : Cond.methodLink RL 187 yX8_cracks ∈ lw_g := lw_gm (List.mem_of_getElem? (i := 1303) (by decide +kernel)) rfl
theorem q1304 : Cond.instanceMethod yX8_cracks ∈ lw_g := lw_gm (List.mem_of_getElem? (i := 1304) (by decide +kernel)) rfl
theorem q1305 : Cond.selects RX8 yX8_cracks yX8_cracks ∈ lw_g := lw_gm (List.mem_of_getElem? (i := 1305) (by decide +kernel)) rfl
theorem q2076 : Cond.methodLink RL 190 yX9_cracks ∈ lw_g := lw_gm (List.mem_of_getElem? (i := 2076) (by decide +kernel)) rfl
theorem q2077 : Cond.instanceMethod yX9_cracks ∈ lw_g := lw_gm (List.mem_of_getElem? (i := 2077) (by decide +kernel)) rfl
theorem q2078 : Cond.selects RX9 yX9_cracks yX9_cracks ∈ lw_g := lw_gm (List.mem_of_getElem? (i := 2078) (by decide +kernel)) rfl
theorem dL_law_1760 : decode cL_law 1760 = .ok (.aload_n 1, 1) := by decide +kernel
theorem dL_law_1761 : decode cL_law 1761 = .ok (.aload_n 0, 1) := by decide +kernel
theorem dL_law_1762 : decode cL_law 1762 = .ok (.iload_n 3, 1) := by decide +kernel
theorem dL_law_1763 : decode cL_law 1763 = .ok (.iconst 1, 1) := by decide +kernel
theorem dL_law_1764 : decode cL_law 1764 = .ok (.iadd, 1) := by decide +kernel
theorem dL_law_1765 : decode cL_law 1765 = .ok (.iaload, 1) := by decide +kernel
theorem dL_law_1766 : decode cL_law 1766 = .ok (.aload_n 0, 1) := by decide +kernel
theorem dL_law_1767 : decode cL_law 1767 = .ok (.iload_n 3, 1) := by decide +kernel
theorem dL_law_1768 : decode cL_law 1768 = .ok (.iconst 2, 1) := by decide +kernel
theorem dL_law_1769 : decode cL_law 1769 = .ok (.iadd, 1) := by decide +kernel
theorem dL_law_1770 : decode cL_law 1770 = .ok (.iaload, 1) := by decide +kernel
theorem dL_law_1771 : decode cL_law 1771 = .ok (.aload_n 0, 1) := by decide +kernel
theorem dL_law_1772 : decode cL_law 1772 = .ok (.iload_n 3, 1) := by decide +kernel
theorem dL_law_1773 : decode cL_law 1773 = .ok (.iconst 3, 1) := by decide +kernel
theorem dL_law_1774 : decode cL_law 1774 = .ok (.iadd, 1) := by decide +kernel
theorem dL_law_1775 : decode cL_law 1775 = .ok (.iaload, 1) := by decide +kernel
theorem dL_law_1776 : decode cL_law 1776 = .ok (.invokevirtual 187, 3) := by decide +kernel
theorem dL_law_1779 : decode cL_law 1779 = .ok (.aload_n 2, 1) := by decide +kernel
theorem dL_law_1780 : decode cL_law 1780 = .ok (.aload_n 0, 1) := by decide +kernel
theorem dL_law_1781 : decode cL_law 1781 = .ok (.iload_n 3, 1) := by decide +kernel
theorem dL_law_1782 : decode cL_law 1782 = .ok (.iconst 1, 1) := by decide +kernel
theorem dL_law_1783 : decode cL_law 1783 = .ok (.iadd, 1) := by decide +kernel
theorem dL_law_1784 : decode cL_law 1784 = .ok (.iaload, 1) := by decide +kernel
theorem dL_law_1785 : decode cL_law 1785 = .ok (.aload_n 0, 1) := by decide +kernel
theorem dL_law_1786 : decode cL_law 1786 = .ok (.iload_n 3, 1) := by decide +kernel
theorem dL_law_1787 : decode cL_law 1787 = .ok (.iconst 2, 1) := by decide +kernel
theorem dL_law_1788 : decode cL_law 1788 = .ok (.iadd, 1) := by decide +kernel
theorem dL_law_1789 : decode cL_law 1789 = .ok (.iaload, 1) := by decide +kernel
theorem dL_law_1790 : decode cL_law 1790 = .ok (.aload_n 0, 1) := by decide +kernel
theorem dL_law_1791 : decode cL_law 1791 = .ok (.iload_n 3, 1) := by decide +kernel
theorem dL_law_1792 : decode cL_law 1792 = .ok (.iconst 3, 1) := by decide +kernel
theorem dL_law_1793 : decode cL_law 1793 = .ok (.iadd, 1) := by decide +kernel
theorem dL_law_1794 : decode cL_law 1794 = .ok (.iaload, 1) := by decide +kernel
theorem dL_law_1795 : decode cL_law 1795 = .ok (.invokevirtual 190, 3) := by decide +kernel
theorem dL_law_1798 : decode cL_law 1798 = .ok (.if_icmp .eq 613, 3) := by decide +kernel
set_option maxHeartbeats 4000000 in
set_option maxRecDepth 100000 in
theorem lawc_cracks {p : Program} {l : Launch} {e : Env} {s : State} {m : MethodId} {below : List Frame} {meth : Method} {c : Code} {b : Nat} {xs : Nat → Int32} (D : va_G) (cy : Nat → ClassId) (g1 g2 : Nat → Nat) (C0 : lw_At p s m meth c b 6 xs) (hK : va_K D clz (tyl cy) s) (H : Heap) (locs : List Loc) (ls : Array Slot) (hP : va_P D clz [(g1 0, .inr (8, xF g1)), (g1 3, .inr (0, [.int 0, .int 0, .int 0, .int 0, .int 0, .int 0, .ref (g1 4), .ref (g1 5), .ref (g1 6), .ref (g1 7)])), (g2 60, .inr (9, mF g2)), (g2 17, .inl (cy 0, 25, .inl (fun _ => 0)))] H) (hD : va_D (fun q : Nat => s.heap.size ≤ q) [(g1 0, .inr (8, xF g1)), (g1 3, .inr (0, [.int 0, .int 0, .int 0, .int 0, .int 0, .int 0, .ref (g1 4), .ref (g1 5), .ref (g1 6), .ref (g1 7)])), (g2 60, .inr (9, mF g2)), (g2 17, .inl (cy 0, 25, .inl (fun _ => 0)))]) (hS : va_S (fun q : Nat => s.heap.size ≤ q) s.heap H locs) (hl : lv_has ls 4 [(3, .int 0), (2, .ref (g2 60)), (1, .ref (g1 0)), (0, .ref b)]) : W p l e room_1 s m #[Value.ref b] below meth c H locs 200 700000 (lw_Z below #[Value.ref b] s) (F0 m 1760 ls []) := by
  obtain ⟨hx, hb, hr, hml, hown0, hts0, hX, hbl, hlocks, hgv⟩ := C0
  have hown : s.vm.findClass RL = some m.cls := hown0
  have hts : ∀ w ∈ lw_g, w.before #[Value.ref b] s = true := fun w h => hts0 w (lw_gt h)
  have hA : ∀ q : Nat, s.heap.size ≤ q → (fun q : Nat => s.heap.size ≤ q) q := fun _ h => h
  have hbA : ¬ (fun q : Nat => s.heap.size ≤ q) b := Nat.not_le.mpr hbl
  refine lv_aload_n hx hb dL_law_1760 rfl (lv_at hl 2 rfl) ?_
  refine lv_aload_n hx hb dL_law_1761 rfl (lv_at hl 3 rfl) ?_
  refine lv_iload_n hx hb dL_law_1762 rfl (lv_at hl 0 rfl) ?_
  refine lv_iconst (v := 1) hx hb dL_law_1763 (by decide) ?_
  refine lv_iadd hx hb dL_law_1764 ?_
  refine lv_topi (fun x_1 ex_1 => ?_)
  obtain rfl : x_1 = 1 := ex_1.trans (by decide)
  refine va_sld hx hb hX hbl hbA hS (vpi (by decide)) dL_law_1765 ?_
  refine lv_aload_n hx hb dL_law_1766 rfl (lv_at hl 3 rfl) ?_
  refine lv_iload_n hx hb dL_law_1767 rfl (lv_at hl 0 rfl) ?_
  refine lv_iconst (v := 2) hx hb dL_law_1768 (by decide) ?_
  refine lv_iadd hx hb dL_law_1769 ?_
  refine lv_topi (fun x_2 ex_2 => ?_)
  obtain rfl : x_2 = 2 := ex_2.trans (by decide)
  refine va_sld hx hb hX hbl hbA hS (vpi (by decide)) dL_law_1770 ?_
  refine lv_aload_n hx hb dL_law_1771 rfl (lv_at hl 3 rfl) ?_
  refine lv_iload_n hx hb dL_law_1772 rfl (lv_at hl 0 rfl) ?_
  refine lv_iconst (v := 3) hx hb dL_law_1773 (by decide) ?_
  refine lv_iadd hx hb dL_law_1774 ?_
  refine lv_topi (fun x_3 ex_3 => ?_)
  obtain rfl : x_3 = 3 := ex_3.trans (by decide)
  refine va_sld hx hb hX hbl hbA hS (vpi (by decide)) dL_law_1775 ?_
  have hPc := hP.sub (ws' := [(g1 0, .inr (8, xF g1)), (g1 3, .inr (0, [.int 0, .int 0, .int 0, .int 0, .int 0, .int 0, .ref (g1 4), .ref (g1 5), .ref (g1 6), .ref (g1 7)]))]) [0, 1] rfl
  have hDc := hD.sub (ws' := [(g1 0, .inr (8, xF g1)), (g1 3, .inr (0, [.int 0, .int 0, .int 0, .int 0, .int 0, .int 0, .ref (g1 4), .ref (g1 5), .ref (g1 6), .ref (g1 7)]))]) [0, 1] (by decide) rfl
  have hFc := va_free (wc := [(g1 0, .inr (8, xF g1)), (g1 3, .inr (0, [.int 0, .int 0, .int 0, .int 0, .int 0, .int 0, .ref (g1 4), .ref (g1 5), .ref (g1 6), .ref (g1 7)]))]) hD hS hA [0, 1] rfl
  refine va_calli (va_runV (As := [.int (xs (1 : Int32).toNatClampNeg), .int (xs (2 : Int32).toNatClampNeg), .int (xs (3 : Int32).toNatClampNeg)]) (rest := []) ⟨hx, hb, hml, hown, hts⟩ (c_X8_cracks l D cy g1 (xs (1 : Int32).toNatClampNeg) (xs (2 : Int32).toNatClampNeg) (xs (3 : Int32).toNatClampNeg) H.size) (cwV 3 hts (gd_V q1303 q1304 q1305 q125 q1306) rfl rfl rfl (by decide +kernel) ⟨Nat.le_of_ble_eq_true rfl, Nat.le_of_ble_eq_true rfl⟩) (pr_V hPc hK hDc (va_recv hK hPc (ci := 8) (q0 := 0) rfl rfl)) rfl rfl hl.1 rfl (lv_room (Nat.le_of_ble_eq_true rfl)) dL_law_1776 ⟨Nat.le_of_ble_eq_true rfl, Nat.le_of_ble_eq_true rfl⟩) hS (fun q _ h => hFc q h) hFc (fun r_4 u tS H1 locs ht hvm hw hB hz1 hk1 hS => ?_)
  obtain ⟨hP1, hK1, hD1⟩ := hB
  rw [ht] at hP1
  try dsimp only at hw
  obtain ⟨hP, hD⟩ := va_join (wr := [(g2 60, .inr (9, mF g2)), (g2 17, .inl (cy 0, 25, .inl (fun _ => 0)))]) (w1 := [(g1 0, .inr (8, xF g1)), (g1 3, .inr (0, [.int 0, .int 0, .int 0, .int 0, .int 0, .int 0, .ref (g1 4), .ref (g1 5), .ref (g1 6), .ref (g1 7)]))]) hP hD [0, 1] [2, 3] rfl rfl (by decide) (by decide) hk1 hFc hP1 hD1
  generalize H1 = H at hP hS ⊢
  have hP : va_P D clz [(g2 60, .inr (9, mF g2)), (g2 17, .inl (cy 0, 25, .inl (fun _ => 0))), (g1 0, .inr (8, xF g1)), (g1 3, .inr (0, [.int 0, .int 0, .int 0, .int 0, .int 0, .int 0, .ref (g1 4), .ref (g1 5), .ref (g1 6), .ref (g1 7)]))] H := hP
  have hD : va_D (fun q : Nat => s.heap.size ≤ q) [(g2 60, .inr (9, mF g2)), (g2 17, .inl (cy 0, 25, .inl (fun _ => 0))), (g1 0, .inr (8, xF g1)), (g1 3, .inr (0, [.int 0, .int 0, .int 0, .int 0, .int 0, .int 0, .ref (g1 4), .ref (g1 5), .ref (g1 6), .ref (g1 7)]))] := hD
  subst hw
  refine lv_aload_n hx hb dL_law_1779 rfl (lv_at hl 1 rfl) ?_
  refine lv_aload_n hx hb dL_law_1780 rfl (lv_at hl 3 rfl) ?_
  refine lv_iload_n hx hb dL_law_1781 rfl (lv_at hl 0 rfl) ?_
  refine lv_iconst (v := 1) hx hb dL_law_1782 (by decide) ?_
  refine lv_iadd hx hb dL_law_1783 ?_
  refine lv_topi (fun x_5 ex_5 => ?_)
  obtain rfl : x_5 = 1 := ex_5.trans (by decide)
  refine va_sld hx hb hX hbl hbA hS (vpi (by decide)) dL_law_1784 ?_
  refine lv_aload_n hx hb dL_law_1785 rfl (lv_at hl 3 rfl) ?_
  refine lv_iload_n hx hb dL_law_1786 rfl (lv_at hl 0 rfl) ?_
  refine lv_iconst (v := 2) hx hb dL_law_1787 (by decide) ?_
  refine lv_iadd hx hb dL_law_1788 ?_
  refine lv_topi (fun x_6 ex_6 => ?_)
  obtain rfl : x_6 = 2 := ex_6.trans (by decide)
  refine va_sld hx hb hX hbl hbA hS (vpi (by decide)) dL_law_1789 ?_
  refine lv_aload_n hx hb dL_law_1790 rfl (lv_at hl 3 rfl) ?_
  refine lv_iload_n hx hb dL_law_1791 rfl (lv_at hl 0 rfl) ?_
  refine lv_iconst (v := 3) hx hb dL_law_1792 (by decide) ?_
  refine lv_iadd hx hb dL_law_1793 ?_
  refine lv_topi (fun x_7 ex_7 => ?_)
  obtain rfl : x_7 = 3 := ex_7.trans (by decide)
  refine va_sld hx hb hX hbl hbA hS (vpi (by decide)) dL_law_1794 ?_
  have hPc := hP.sub (ws' := [(g2 60, .inr (9, mF g2)), (g2 17, .inl (cy 0, 25, .inl (fun _ => 0)))]) [0, 1] rfl
  have hDc := hD.sub (ws' := [(g2 60, .inr (9, mF g2)), (g2 17, .inl (cy 0, 25, .inl (fun _ => 0)))]) [0, 1] (by decide) rfl
  have hFc := va_free (wc := [(g2 60, .inr (9, mF g2)), (g2 17, .inl (cy 0, 25, .inl (fun _ => 0)))]) hD hS hA [0, 1] rfl
  refine va_calli (va_runV (As := [.int (xs (1 : Int32).toNatClampNeg), .int (xs (2 : Int32).toNatClampNeg), .int (xs (3 : Int32).toNatClampNeg)]) (rest := [.int (-2)]) ⟨hx, hb, hml, hown, hts⟩ (c_X9_cracks l D cy g2 (xs (1 : Int32).toNatClampNeg) (xs (2 : Int32).toNatClampNeg) (xs (3 : Int32).toNatClampNeg) H.size) (cwV 3 hts (gd_V q2076 q2077 q2078 q134 q2079) rfl rfl rfl (by decide +kernel) ⟨Nat.le_of_ble_eq_true rfl, Nat.le_of_ble_eq_true rfl⟩) (pr_V hPc hK hDc (va_recv hK hPc (ci := 9) (q0 := 0) rfl rfl)) rfl rfl hl.1 rfl (lv_room (Nat.le_of_ble_eq_true rfl)) dL_law_1795 ⟨Nat.le_of_ble_eq_true rfl, Nat.le_of_ble_eq_true rfl⟩) hS (fun q _ h => hFc q h) hFc (fun r_8 u tS H1 locs ht hvm hw hB hz1 hk1 hS => ?_)
  obtain ⟨hP1, hK1, hD1⟩ := hB
  rw [ht] at hP1
  try dsimp only at hw
  obtain ⟨hP, hD⟩ := va_join (wr := [(g1 0, .inr (8, xF g1)), (g1 3, .inr (0, [.int 0, .int 0, .int 0, .int 0, .int 0, .int 0, .ref (g1 4), .ref (g1 5), .ref (g1 6), .ref (g1 7)]))]) (w1 := [(g2 60, .inr (9, mF g2)), (g2 17, .inl (cy 0, 25, .inl (fun _ => 0)))]) hP hD [0, 1] [2, 3] rfl rfl (by decide) (by decide) hk1 hFc hP1 hD1
  generalize H1 = H at hP hS ⊢
  have hP : va_P D clz [(g1 0, .inr (8, xF g1)), (g1 3, .inr (0, [.int 0, .int 0, .int 0, .int 0, .int 0, .int 0, .ref (g1 4), .ref (g1 5), .ref (g1 6), .ref (g1 7)])), (g2 60, .inr (9, mF g2)), (g2 17, .inl (cy 0, 25, .inl (fun _ => 0)))] H := hP
  have hD : va_D (fun q : Nat => s.heap.size ≤ q) [(g1 0, .inr (8, xF g1)), (g1 3, .inr (0, [.int 0, .int 0, .int 0, .int 0, .int 0, .int 0, .ref (g1 4), .ref (g1 5), .ref (g1 6), .ref (g1 7)])), (g2 60, .inr (9, mF g2)), (g2 17, .inl (cy 0, 25, .inl (fun _ => 0)))] := hD
  subst hw
  refine lv_icmp_eq (tgt := 2411) hx hb dL_law_1798 (by decide) (fun _ => ?_) (fun c9 => absurd c9 (by decide))
  exact law_end ⟨hx, hb, hr, hml, hown0, hts0, hX, hbl, hlocks, hgv⟩ _ _ _ hS (lv_sub hl [0, 3] rfl)

theorem q1320 : Cond.methodLink RL 191 yX8_cracked ∈ lw_g := lw_gm (List.mem_of_getElem? (i := 1320) (by decide +kernel)) rfl
theorem q1321 : Cond.instanceMethod yX8_cracked ∈ lw_g := lw_gm (List.mem_of_getElem? (i := 1321) (by decide +kernel)) rfl
theorem q1322 : Cond.selects RX8 yX8_cracked yX8_cracked ∈ lw_g := lw_gm (List.mem_of_getElem? (i := 1322) (by decide +kernel)) rfl
theorem q2093 : Cond.methodLink RL 194 yX9_cracked ∈ lw_g := lw_gm (List.mem_of_getElem? (i := 2093) (by decide +kernel)) rfl
theorem q2094 : Cond.instanceMethod yX9_cracked ∈ lw_g := lw_gm (List.mem_of_getElem? (i := 2094) (by decide +kernel)) rfl
theorem q2095 : Cond.selects RX9 yX9_cracked yX9_cracked ∈ lw_g := lw_gm (List.mem_of_getElem? (i := 2095) (by decide +kernel)) rfl
theorem dL_law_1803 : decode cL_law 1803 = .ok (.aload_n 1, 1) := by decide +kernel
theorem dL_law_1804 : decode cL_law 1804 = .ok (.aload_n 0, 1) := by decide +kernel
theorem dL_law_1805 : decode cL_law 1805 = .ok (.iload_n 3, 1) := by decide +kernel
theorem dL_law_1806 : decode cL_law 1806 = .ok (.iconst 1, 1) := by decide +kernel
theorem dL_law_1807 : decode cL_law 1807 = .ok (.iadd, 1) := by decide +kernel
theorem dL_law_1808 : decode cL_law 1808 = .ok (.iaload, 1) := by decide +kernel
theorem dL_law_1809 : decode cL_law 1809 = .ok (.aload_n 0, 1) := by decide +kernel
theorem dL_law_1810 : decode cL_law 1810 = .ok (.iload_n 3, 1) := by decide +kernel
theorem dL_law_1811 : decode cL_law 1811 = .ok (.iconst 2, 1) := by decide +kernel
theorem dL_law_1812 : decode cL_law 1812 = .ok (.iadd, 1) := by decide +kernel
theorem dL_law_1813 : decode cL_law 1813 = .ok (.iaload, 1) := by decide +kernel
theorem dL_law_1814 : decode cL_law 1814 = .ok (.aload_n 0, 1) := by decide +kernel
theorem dL_law_1815 : decode cL_law 1815 = .ok (.iload_n 3, 1) := by decide +kernel
theorem dL_law_1816 : decode cL_law 1816 = .ok (.iconst 3, 1) := by decide +kernel
theorem dL_law_1817 : decode cL_law 1817 = .ok (.iadd, 1) := by decide +kernel
theorem dL_law_1818 : decode cL_law 1818 = .ok (.iaload, 1) := by decide +kernel
theorem dL_law_1819 : decode cL_law 1819 = .ok (.invokevirtual 191, 3) := by decide +kernel
theorem dL_law_1822 : decode cL_law 1822 = .ok (.aload_n 2, 1) := by decide +kernel
theorem dL_law_1823 : decode cL_law 1823 = .ok (.aload_n 0, 1) := by decide +kernel
theorem dL_law_1824 : decode cL_law 1824 = .ok (.iload_n 3, 1) := by decide +kernel
theorem dL_law_1825 : decode cL_law 1825 = .ok (.iconst 1, 1) := by decide +kernel
theorem dL_law_1826 : decode cL_law 1826 = .ok (.iadd, 1) := by decide +kernel
theorem dL_law_1827 : decode cL_law 1827 = .ok (.iaload, 1) := by decide +kernel
theorem dL_law_1828 : decode cL_law 1828 = .ok (.aload_n 0, 1) := by decide +kernel
theorem dL_law_1829 : decode cL_law 1829 = .ok (.iload_n 3, 1) := by decide +kernel
theorem dL_law_1830 : decode cL_law 1830 = .ok (.iconst 2, 1) := by decide +kernel
theorem dL_law_1831 : decode cL_law 1831 = .ok (.iadd, 1) := by decide +kernel
theorem dL_law_1832 : decode cL_law 1832 = .ok (.iaload, 1) := by decide +kernel
theorem dL_law_1833 : decode cL_law 1833 = .ok (.aload_n 0, 1) := by decide +kernel
theorem dL_law_1834 : decode cL_law 1834 = .ok (.iload_n 3, 1) := by decide +kernel
theorem dL_law_1835 : decode cL_law 1835 = .ok (.iconst 3, 1) := by decide +kernel
theorem dL_law_1836 : decode cL_law 1836 = .ok (.iadd, 1) := by decide +kernel
theorem dL_law_1837 : decode cL_law 1837 = .ok (.iaload, 1) := by decide +kernel
theorem dL_law_1838 : decode cL_law 1838 = .ok (.invokevirtual 194, 3) := by decide +kernel
theorem dL_law_1841 : decode cL_law 1841 = .ok (.if_icmp .eq 570, 3) := by decide +kernel
set_option maxHeartbeats 4000000 in
set_option maxRecDepth 100000 in
theorem lawc_cracked {p : Program} {l : Launch} {e : Env} {s : State} {m : MethodId} {below : List Frame} {meth : Method} {c : Code} {b : Nat} {xs : Nat → Int32} (D : va_G) (cy : Nat → ClassId) (g1 g2 : Nat → Nat) (C0 : lw_At p s m meth c b 6 xs) (hK : va_K D clz (tyl cy) s) (H : Heap) (locs : List Loc) (ls : Array Slot) (hP : va_P D clz [(g1 0, .inr (8, xF g1)), (g1 3, .inr (0, [.int 0, .int 0, .int 0, .int 0, .int 0, .int 0, .ref (g1 4), .ref (g1 5), .ref (g1 6), .ref (g1 7)])), (g2 60, .inr (9, mF g2)), (g2 17, .inl (cy 0, 25, .inl (fun _ => 0)))] H) (hD : va_D (fun q : Nat => s.heap.size ≤ q) [(g1 0, .inr (8, xF g1)), (g1 3, .inr (0, [.int 0, .int 0, .int 0, .int 0, .int 0, .int 0, .ref (g1 4), .ref (g1 5), .ref (g1 6), .ref (g1 7)])), (g2 60, .inr (9, mF g2)), (g2 17, .inl (cy 0, 25, .inl (fun _ => 0)))]) (hS : va_S (fun q : Nat => s.heap.size ≤ q) s.heap H locs) (hl : lv_has ls 4 [(3, .int 0), (2, .ref (g2 60)), (1, .ref (g1 0)), (0, .ref b)]) : W p l e room_1 s m #[Value.ref b] below meth c H locs 200 700000 (lw_Z below #[Value.ref b] s) (F0 m 1803 ls []) := by
  obtain ⟨hx, hb, hr, hml, hown0, hts0, hX, hbl, hlocks, hgv⟩ := C0
  have hown : s.vm.findClass RL = some m.cls := hown0
  have hts : ∀ w ∈ lw_g, w.before #[Value.ref b] s = true := fun w h => hts0 w (lw_gt h)
  have hA : ∀ q : Nat, s.heap.size ≤ q → (fun q : Nat => s.heap.size ≤ q) q := fun _ h => h
  have hbA : ¬ (fun q : Nat => s.heap.size ≤ q) b := Nat.not_le.mpr hbl
  refine lv_aload_n hx hb dL_law_1803 rfl (lv_at hl 2 rfl) ?_
  refine lv_aload_n hx hb dL_law_1804 rfl (lv_at hl 3 rfl) ?_
  refine lv_iload_n hx hb dL_law_1805 rfl (lv_at hl 0 rfl) ?_
  refine lv_iconst (v := 1) hx hb dL_law_1806 (by decide) ?_
  refine lv_iadd hx hb dL_law_1807 ?_
  refine lv_topi (fun x_1 ex_1 => ?_)
  obtain rfl : x_1 = 1 := ex_1.trans (by decide)
  refine va_sld hx hb hX hbl hbA hS (vpi (by decide)) dL_law_1808 ?_
  refine lv_aload_n hx hb dL_law_1809 rfl (lv_at hl 3 rfl) ?_
  refine lv_iload_n hx hb dL_law_1810 rfl (lv_at hl 0 rfl) ?_
  refine lv_iconst (v := 2) hx hb dL_law_1811 (by decide) ?_
  refine lv_iadd hx hb dL_law_1812 ?_
  refine lv_topi (fun x_2 ex_2 => ?_)
  obtain rfl : x_2 = 2 := ex_2.trans (by decide)
  refine va_sld hx hb hX hbl hbA hS (vpi (by decide)) dL_law_1813 ?_
  refine lv_aload_n hx hb dL_law_1814 rfl (lv_at hl 3 rfl) ?_
  refine lv_iload_n hx hb dL_law_1815 rfl (lv_at hl 0 rfl) ?_
  refine lv_iconst (v := 3) hx hb dL_law_1816 (by decide) ?_
  refine lv_iadd hx hb dL_law_1817 ?_
  refine lv_topi (fun x_3 ex_3 => ?_)
  obtain rfl : x_3 = 3 := ex_3.trans (by decide)
  refine va_sld hx hb hX hbl hbA hS (vpi (by decide)) dL_law_1818 ?_
  have hPc := hP.sub (ws' := [(g1 0, .inr (8, xF g1)), (g1 3, .inr (0, [.int 0, .int 0, .int 0, .int 0, .int 0, .int 0, .ref (g1 4), .ref (g1 5), .ref (g1 6), .ref (g1 7)]))]) [0, 1] rfl
  have hDc := hD.sub (ws' := [(g1 0, .inr (8, xF g1)), (g1 3, .inr (0, [.int 0, .int 0, .int 0, .int 0, .int 0, .int 0, .ref (g1 4), .ref (g1 5), .ref (g1 6), .ref (g1 7)]))]) [0, 1] (by decide) rfl
  have hFc := va_free (wc := [(g1 0, .inr (8, xF g1)), (g1 3, .inr (0, [.int 0, .int 0, .int 0, .int 0, .int 0, .int 0, .ref (g1 4), .ref (g1 5), .ref (g1 6), .ref (g1 7)]))]) hD hS hA [0, 1] rfl
  refine va_calli (va_runV (As := [.int (xs (1 : Int32).toNatClampNeg), .int (xs (2 : Int32).toNatClampNeg), .int (xs (3 : Int32).toNatClampNeg)]) (rest := []) ⟨hx, hb, hml, hown, hts⟩ (c_X8_cracked l D cy g1 (xs (1 : Int32).toNatClampNeg) (xs (2 : Int32).toNatClampNeg) (xs (3 : Int32).toNatClampNeg) H.size) (cwV 3 hts (gd_V q1320 q1321 q1322 q125 q1323) rfl rfl rfl (by decide +kernel) ⟨Nat.le_of_ble_eq_true rfl, Nat.le_of_ble_eq_true rfl⟩) (pr_V hPc hK hDc (va_recv hK hPc (ci := 8) (q0 := 0) rfl rfl)) rfl rfl hl.1 rfl (lv_room (Nat.le_of_ble_eq_true rfl)) dL_law_1819 ⟨Nat.le_of_ble_eq_true rfl, Nat.le_of_ble_eq_true rfl⟩) hS (fun q _ h => hFc q h) hFc (fun r_4 u tS H1 locs ht hvm hw hB hz1 hk1 hS => ?_)
  obtain ⟨hP1, hK1, hD1⟩ := hB
  rw [ht] at hP1
  try dsimp only at hw
  obtain ⟨hP, hD⟩ := va_join (wr := [(g2 60, .inr (9, mF g2)), (g2 17, .inl (cy 0, 25, .inl (fun _ => 0)))]) (w1 := [(g1 0, .inr (8, xF g1)), (g1 3, .inr (0, [.int 0, .int 0, .int 0, .int 0, .int 0, .int 0, .ref (g1 4), .ref (g1 5), .ref (g1 6), .ref (g1 7)]))]) hP hD [0, 1] [2, 3] rfl rfl (by decide) (by decide) hk1 hFc hP1 hD1
  generalize H1 = H at hP hS ⊢
  have hP : va_P D clz [(g2 60, .inr (9, mF g2)), (g2 17, .inl (cy 0, 25, .inl (fun _ => 0))), (g1 0, .inr (8, xF g1)), (g1 3, .inr (0, [.int 0, .int 0, .int 0, .int 0, .int 0, .int 0, .ref (g1 4), .ref (g1 5), .ref (g1 6), .ref (g1 7)]))] H := hP
  have hD : va_D (fun q : Nat => s.heap.size ≤ q) [(g2 60, .inr (9, mF g2)), (g2 17, .inl (cy 0, 25, .inl (fun _ => 0))), (g1 0, .inr (8, xF g1)), (g1 3, .inr (0, [.int 0, .int 0, .int 0, .int 0, .int 0, .int 0, .ref (g1 4), .ref (g1 5), .ref (g1 6), .ref (g1 7)]))] := hD
  subst hw
  refine lv_aload_n hx hb dL_law_1822 rfl (lv_at hl 1 rfl) ?_
  refine lv_aload_n hx hb dL_law_1823 rfl (lv_at hl 3 rfl) ?_
  refine lv_iload_n hx hb dL_law_1824 rfl (lv_at hl 0 rfl) ?_
  refine lv_iconst (v := 1) hx hb dL_law_1825 (by decide) ?_
  refine lv_iadd hx hb dL_law_1826 ?_
  refine lv_topi (fun x_5 ex_5 => ?_)
  obtain rfl : x_5 = 1 := ex_5.trans (by decide)
  refine va_sld hx hb hX hbl hbA hS (vpi (by decide)) dL_law_1827 ?_
  refine lv_aload_n hx hb dL_law_1828 rfl (lv_at hl 3 rfl) ?_
  refine lv_iload_n hx hb dL_law_1829 rfl (lv_at hl 0 rfl) ?_
  refine lv_iconst (v := 2) hx hb dL_law_1830 (by decide) ?_
  refine lv_iadd hx hb dL_law_1831 ?_
  refine lv_topi (fun x_6 ex_6 => ?_)
  obtain rfl : x_6 = 2 := ex_6.trans (by decide)
  refine va_sld hx hb hX hbl hbA hS (vpi (by decide)) dL_law_1832 ?_
  refine lv_aload_n hx hb dL_law_1833 rfl (lv_at hl 3 rfl) ?_
  refine lv_iload_n hx hb dL_law_1834 rfl (lv_at hl 0 rfl) ?_
  refine lv_iconst (v := 3) hx hb dL_law_1835 (by decide) ?_
  refine lv_iadd hx hb dL_law_1836 ?_
  refine lv_topi (fun x_7 ex_7 => ?_)
  obtain rfl : x_7 = 3 := ex_7.trans (by decide)
  refine va_sld hx hb hX hbl hbA hS (vpi (by decide)) dL_law_1837 ?_
  have hPc := hP.sub (ws' := [(g2 60, .inr (9, mF g2)), (g2 17, .inl (cy 0, 25, .inl (fun _ => 0)))]) [0, 1] rfl
  have hDc := hD.sub (ws' := [(g2 60, .inr (9, mF g2)), (g2 17, .inl (cy 0, 25, .inl (fun _ => 0)))]) [0, 1] (by decide) rfl
  have hFc := va_free (wc := [(g2 60, .inr (9, mF g2)), (g2 17, .inl (cy 0, 25, .inl (fun _ => 0)))]) hD hS hA [0, 1] rfl
  refine va_calli (va_runV (As := [.int (xs (1 : Int32).toNatClampNeg), .int (xs (2 : Int32).toNatClampNeg), .int (xs (3 : Int32).toNatClampNeg)]) (rest := [.int (-2)]) ⟨hx, hb, hml, hown, hts⟩ (c_X9_cracked l D cy g2 (xs (1 : Int32).toNatClampNeg) (xs (2 : Int32).toNatClampNeg) (xs (3 : Int32).toNatClampNeg) H.size) (cwV 3 hts (gd_V q2093 q2094 q2095 q134 q2096) rfl rfl rfl (by decide +kernel) ⟨Nat.le_of_ble_eq_true rfl, Nat.le_of_ble_eq_true rfl⟩) (pr_V hPc hK hDc (va_recv hK hPc (ci := 9) (q0 := 0) rfl rfl)) rfl rfl hl.1 rfl (lv_room (Nat.le_of_ble_eq_true rfl)) dL_law_1838 ⟨Nat.le_of_ble_eq_true rfl, Nat.le_of_ble_eq_true rfl⟩) hS (fun q _ h => hFc q h) hFc (fun r_8 u tS H1 locs ht hvm hw hB hz1 hk1 hS => ?_)
  obtain ⟨hP1, hK1, hD1⟩ := hB
  rw [ht] at hP1
  try dsimp only at hw
  obtain ⟨hP, hD⟩ := va_join (wr := [(g1 0, .inr (8, xF g1)), (g1 3, .inr (0, [.int 0, .int 0, .int 0, .int 0, .int 0, .int 0, .ref (g1 4), .ref (g1 5), .ref (g1 6), .ref (g1 7)]))]) (w1 := [(g2 60, .inr (9, mF g2)), (g2 17, .inl (cy 0, 25, .inl (fun _ => 0)))]) hP hD [0, 1] [2, 3] rfl rfl (by decide) (by decide) hk1 hFc hP1 hD1
  generalize H1 = H at hP hS ⊢
  have hP : va_P D clz [(g1 0, .inr (8, xF g1)), (g1 3, .inr (0, [.int 0, .int 0, .int 0, .int 0, .int 0, .int 0, .ref (g1 4), .ref (g1 5), .ref (g1 6), .ref (g1 7)])), (g2 60, .inr (9, mF g2)), (g2 17, .inl (cy 0, 25, .inl (fun _ => 0)))] H := hP
  have hD : va_D (fun q : Nat => s.heap.size ≤ q) [(g1 0, .inr (8, xF g1)), (g1 3, .inr (0, [.int 0, .int 0, .int 0, .int 0, .int 0, .int 0, .ref (g1 4), .ref (g1 5), .ref (g1 6), .ref (g1 7)])), (g2 60, .inr (9, mF g2)), (g2 17, .inl (cy 0, 25, .inl (fun _ => 0)))] := hD
  subst hw
  refine lv_icmp_eq (tgt := 2411) hx hb dL_law_1841 (by decide) (fun _ => ?_) (fun c9 => absurd c9 (by decide))
  exact law_end ⟨hx, hb, hr, hml, hown0, hts0, hX, hbl, hlocks, hgv⟩ _ _ _ hS (lv_sub hl [0, 3] rfl)

theorem q1324 : Cond.methodLink RL 195 yX8_clean ∈ lw_g := lw_gm (List.mem_of_getElem? (i := 1324) (by decide +kernel)) rfl
theorem q1325 : Cond.instanceMethod yX8_clean ∈ lw_g := lw_gm (List.mem_of_getElem? (i := 1325) (by decide +kernel)) rfl
theorem q1326 : Cond.selects RX8 yX8_clean yX8_clean ∈ lw_g := lw_gm (List.mem_of_getElem? (i := 1326) (by decide +kernel)) rfl
theorem q2097 : Cond.methodLink RL 198 yX9_clean ∈ lw_g := lw_gm (List.mem_of_getElem? (i := 2097) (by decide +kernel)) rfl
theorem q2098 : Cond.instanceMethod yX9_clean ∈ lw_g := lw_gm (List.mem_of_getElem? (i := 2098) (by decide +kernel)) rfl
theorem q2099 : Cond.selects RX9 yX9_clean yX9_clean ∈ lw_g := lw_gm (List.mem_of_getElem? (i := 2099) (by decide +kernel)) rfl
theorem dL_law_1846 : decode cL_law 1846 = .ok (.aload_n 1, 1) := by decide +kernel
theorem dL_law_1847 : decode cL_law 1847 = .ok (.aload_n 0, 1) := by decide +kernel
theorem dL_law_1848 : decode cL_law 1848 = .ok (.iload_n 3, 1) := by decide +kernel
theorem dL_law_1849 : decode cL_law 1849 = .ok (.iconst 1, 1) := by decide +kernel
theorem dL_law_1850 : decode cL_law 1850 = .ok (.iadd, 1) := by decide +kernel
theorem dL_law_1851 : decode cL_law 1851 = .ok (.iaload, 1) := by decide +kernel
theorem dL_law_1852 : decode cL_law 1852 = .ok (.aload_n 0, 1) := by decide +kernel
theorem dL_law_1853 : decode cL_law 1853 = .ok (.iload_n 3, 1) := by decide +kernel
theorem dL_law_1854 : decode cL_law 1854 = .ok (.iconst 2, 1) := by decide +kernel
theorem dL_law_1855 : decode cL_law 1855 = .ok (.iadd, 1) := by decide +kernel
theorem dL_law_1856 : decode cL_law 1856 = .ok (.iaload, 1) := by decide +kernel
theorem dL_law_1857 : decode cL_law 1857 = .ok (.aload_n 0, 1) := by decide +kernel
theorem dL_law_1858 : decode cL_law 1858 = .ok (.iload_n 3, 1) := by decide +kernel
theorem dL_law_1859 : decode cL_law 1859 = .ok (.iconst 3, 1) := by decide +kernel
theorem dL_law_1860 : decode cL_law 1860 = .ok (.iadd, 1) := by decide +kernel
theorem dL_law_1861 : decode cL_law 1861 = .ok (.iaload, 1) := by decide +kernel
theorem dL_law_1862 : decode cL_law 1862 = .ok (.aload_n 0, 1) := by decide +kernel
theorem dL_law_1863 : decode cL_law 1863 = .ok (.iload_n 3, 1) := by decide +kernel
theorem dL_law_1864 : decode cL_law 1864 = .ok (.iconst 4, 1) := by decide +kernel
theorem dL_law_1865 : decode cL_law 1865 = .ok (.iadd, 1) := by decide +kernel
theorem dL_law_1866 : decode cL_law 1866 = .ok (.iaload, 1) := by decide +kernel
theorem dL_law_1867 : decode cL_law 1867 = .ok (.invokevirtual 195, 3) := by decide +kernel
theorem dL_law_1870 : decode cL_law 1870 = .ok (.aload_n 2, 1) := by decide +kernel
theorem dL_law_1871 : decode cL_law 1871 = .ok (.aload_n 0, 1) := by decide +kernel
theorem dL_law_1872 : decode cL_law 1872 = .ok (.iload_n 3, 1) := by decide +kernel
theorem dL_law_1873 : decode cL_law 1873 = .ok (.iconst 1, 1) := by decide +kernel
theorem dL_law_1874 : decode cL_law 1874 = .ok (.iadd, 1) := by decide +kernel
theorem dL_law_1875 : decode cL_law 1875 = .ok (.iaload, 1) := by decide +kernel
theorem dL_law_1876 : decode cL_law 1876 = .ok (.aload_n 0, 1) := by decide +kernel
theorem dL_law_1877 : decode cL_law 1877 = .ok (.iload_n 3, 1) := by decide +kernel
theorem dL_law_1878 : decode cL_law 1878 = .ok (.iconst 2, 1) := by decide +kernel
theorem dL_law_1879 : decode cL_law 1879 = .ok (.iadd, 1) := by decide +kernel
theorem dL_law_1880 : decode cL_law 1880 = .ok (.iaload, 1) := by decide +kernel
theorem dL_law_1881 : decode cL_law 1881 = .ok (.aload_n 0, 1) := by decide +kernel
theorem dL_law_1882 : decode cL_law 1882 = .ok (.iload_n 3, 1) := by decide +kernel
theorem dL_law_1883 : decode cL_law 1883 = .ok (.iconst 3, 1) := by decide +kernel
theorem dL_law_1884 : decode cL_law 1884 = .ok (.iadd, 1) := by decide +kernel
theorem dL_law_1885 : decode cL_law 1885 = .ok (.iaload, 1) := by decide +kernel
theorem dL_law_1886 : decode cL_law 1886 = .ok (.aload_n 0, 1) := by decide +kernel
theorem dL_law_1887 : decode cL_law 1887 = .ok (.iload_n 3, 1) := by decide +kernel
theorem dL_law_1888 : decode cL_law 1888 = .ok (.iconst 4, 1) := by decide +kernel
theorem dL_law_1889 : decode cL_law 1889 = .ok (.iadd, 1) := by decide +kernel
theorem dL_law_1890 : decode cL_law 1890 = .ok (.iaload, 1) := by decide +kernel
theorem dL_law_1891 : decode cL_law 1891 = .ok (.invokevirtual 198, 3) := by decide +kernel
theorem dL_law_1894 : decode cL_law 1894 = .ok (.if_icmp .eq 517, 3) := by decide +kernel
set_option maxHeartbeats 4000000 in
set_option maxRecDepth 100000 in
theorem lawc_clean {p : Program} {l : Launch} {e : Env} {s : State} {m : MethodId} {below : List Frame} {meth : Method} {c : Code} {b : Nat} {xs : Nat → Int32} (D : va_G) (cy : Nat → ClassId) (g1 g2 : Nat → Nat) (C0 : lw_At p s m meth c b 6 xs) (hK : va_K D clz (tyl cy) s) (H : Heap) (locs : List Loc) (ls : Array Slot) (hP : va_P D clz [(g1 0, .inr (8, xF g1)), (g1 3, .inr (0, [.int 0, .int 0, .int 0, .int 0, .int 0, .int 0, .ref (g1 4), .ref (g1 5), .ref (g1 6), .ref (g1 7)])), (g2 60, .inr (9, mF g2)), (g2 17, .inl (cy 0, 25, .inl (fun _ => 0)))] H) (hD : va_D (fun q : Nat => s.heap.size ≤ q) [(g1 0, .inr (8, xF g1)), (g1 3, .inr (0, [.int 0, .int 0, .int 0, .int 0, .int 0, .int 0, .ref (g1 4), .ref (g1 5), .ref (g1 6), .ref (g1 7)])), (g2 60, .inr (9, mF g2)), (g2 17, .inl (cy 0, 25, .inl (fun _ => 0)))]) (hS : va_S (fun q : Nat => s.heap.size ≤ q) s.heap H locs) (hl : lv_has ls 4 [(3, .int 0), (2, .ref (g2 60)), (1, .ref (g1 0)), (0, .ref b)]) : W p l e room_1 s m #[Value.ref b] below meth c H locs 200 700000 (lw_Z below #[Value.ref b] s) (F0 m 1846 ls []) := by
  obtain ⟨hx, hb, hr, hml, hown0, hts0, hX, hbl, hlocks, hgv⟩ := C0
  have hown : s.vm.findClass RL = some m.cls := hown0
  have hts : ∀ w ∈ lw_g, w.before #[Value.ref b] s = true := fun w h => hts0 w (lw_gt h)
  have hA : ∀ q : Nat, s.heap.size ≤ q → (fun q : Nat => s.heap.size ≤ q) q := fun _ h => h
  have hbA : ¬ (fun q : Nat => s.heap.size ≤ q) b := Nat.not_le.mpr hbl
  refine lv_aload_n hx hb dL_law_1846 rfl (lv_at hl 2 rfl) ?_
  refine lv_aload_n hx hb dL_law_1847 rfl (lv_at hl 3 rfl) ?_
  refine lv_iload_n hx hb dL_law_1848 rfl (lv_at hl 0 rfl) ?_
  refine lv_iconst (v := 1) hx hb dL_law_1849 (by decide) ?_
  refine lv_iadd hx hb dL_law_1850 ?_
  refine lv_topi (fun x_1 ex_1 => ?_)
  obtain rfl : x_1 = 1 := ex_1.trans (by decide)
  refine va_sld hx hb hX hbl hbA hS (vpi (by decide)) dL_law_1851 ?_
  refine lv_aload_n hx hb dL_law_1852 rfl (lv_at hl 3 rfl) ?_
  refine lv_iload_n hx hb dL_law_1853 rfl (lv_at hl 0 rfl) ?_
  refine lv_iconst (v := 2) hx hb dL_law_1854 (by decide) ?_
  refine lv_iadd hx hb dL_law_1855 ?_
  refine lv_topi (fun x_2 ex_2 => ?_)
  obtain rfl : x_2 = 2 := ex_2.trans (by decide)
  refine va_sld hx hb hX hbl hbA hS (vpi (by decide)) dL_law_1856 ?_
  refine lv_aload_n hx hb dL_law_1857 rfl (lv_at hl 3 rfl) ?_
  refine lv_iload_n hx hb dL_law_1858 rfl (lv_at hl 0 rfl) ?_
  refine lv_iconst (v := 3) hx hb dL_law_1859 (by decide) ?_
  refine lv_iadd hx hb dL_law_1860 ?_
  refine lv_topi (fun x_3 ex_3 => ?_)
  obtain rfl : x_3 = 3 := ex_3.trans (by decide)
  refine va_sld hx hb hX hbl hbA hS (vpi (by decide)) dL_law_1861 ?_
  refine lv_aload_n hx hb dL_law_1862 rfl (lv_at hl 3 rfl) ?_
  refine lv_iload_n hx hb dL_law_1863 rfl (lv_at hl 0 rfl) ?_
  refine lv_iconst (v := 4) hx hb dL_law_1864 (by decide) ?_
  refine lv_iadd hx hb dL_law_1865 ?_
  refine lv_topi (fun x_4 ex_4 => ?_)
  obtain rfl : x_4 = 4 := ex_4.trans (by decide)
  refine va_sld hx hb hX hbl hbA hS (vpi (by decide)) dL_law_1866 ?_
  have hPc := hP.sub (ws' := [(g1 0, .inr (8, xF g1)), (g1 3, .inr (0, [.int 0, .int 0, .int 0, .int 0, .int 0, .int 0, .ref (g1 4), .ref (g1 5), .ref (g1 6), .ref (g1 7)]))]) [0, 1] rfl
  have hDc := hD.sub (ws' := [(g1 0, .inr (8, xF g1)), (g1 3, .inr (0, [.int 0, .int 0, .int 0, .int 0, .int 0, .int 0, .ref (g1 4), .ref (g1 5), .ref (g1 6), .ref (g1 7)]))]) [0, 1] (by decide) rfl
  have hFc := va_free (wc := [(g1 0, .inr (8, xF g1)), (g1 3, .inr (0, [.int 0, .int 0, .int 0, .int 0, .int 0, .int 0, .ref (g1 4), .ref (g1 5), .ref (g1 6), .ref (g1 7)]))]) hD hS hA [0, 1] rfl
  refine va_calli (va_runV (As := [.int (xs (1 : Int32).toNatClampNeg), .int (xs (2 : Int32).toNatClampNeg), .int (xs (3 : Int32).toNatClampNeg), .int (xs (4 : Int32).toNatClampNeg)]) (rest := []) ⟨hx, hb, hml, hown, hts⟩ (c_X8_clean l D cy g1 (xs (1 : Int32).toNatClampNeg) (xs (2 : Int32).toNatClampNeg) (xs (3 : Int32).toNatClampNeg) (xs (4 : Int32).toNatClampNeg) H.size) (cwV 4 hts (gd_V q1324 q1325 q1326 q125 q1327) rfl rfl rfl (by decide +kernel) ⟨Nat.le_of_ble_eq_true rfl, Nat.le_of_ble_eq_true rfl⟩) (pr_V hPc hK hDc (va_recv hK hPc (ci := 8) (q0 := 0) rfl rfl)) rfl rfl hl.1 rfl (lv_room (Nat.le_of_ble_eq_true rfl)) dL_law_1867 ⟨Nat.le_of_ble_eq_true rfl, Nat.le_of_ble_eq_true rfl⟩) hS (fun q _ h => hFc q h) hFc (fun r_5 u tS H1 locs ht hvm hw hB hz1 hk1 hS => ?_)
  obtain ⟨hP1, hK1, hD1⟩ := hB
  rw [ht] at hP1
  try dsimp only at hw
  obtain ⟨hP, hD⟩ := va_join (wr := [(g2 60, .inr (9, mF g2)), (g2 17, .inl (cy 0, 25, .inl (fun _ => 0)))]) (w1 := [(g1 0, .inr (8, xF g1)), (g1 3, .inr (0, [.int 0, .int 0, .int 0, .int 0, .int 0, .int 0, .ref (g1 4), .ref (g1 5), .ref (g1 6), .ref (g1 7)]))]) hP hD [0, 1] [2, 3] rfl rfl (by decide) (by decide) hk1 hFc hP1 hD1
  generalize H1 = H at hP hS ⊢
  have hP : va_P D clz [(g2 60, .inr (9, mF g2)), (g2 17, .inl (cy 0, 25, .inl (fun _ => 0))), (g1 0, .inr (8, xF g1)), (g1 3, .inr (0, [.int 0, .int 0, .int 0, .int 0, .int 0, .int 0, .ref (g1 4), .ref (g1 5), .ref (g1 6), .ref (g1 7)]))] H := hP
  have hD : va_D (fun q : Nat => s.heap.size ≤ q) [(g2 60, .inr (9, mF g2)), (g2 17, .inl (cy 0, 25, .inl (fun _ => 0))), (g1 0, .inr (8, xF g1)), (g1 3, .inr (0, [.int 0, .int 0, .int 0, .int 0, .int 0, .int 0, .ref (g1 4), .ref (g1 5), .ref (g1 6), .ref (g1 7)]))] := hD
  subst hw
  refine lv_aload_n hx hb dL_law_1870 rfl (lv_at hl 1 rfl) ?_
  refine lv_aload_n hx hb dL_law_1871 rfl (lv_at hl 3 rfl) ?_
  refine lv_iload_n hx hb dL_law_1872 rfl (lv_at hl 0 rfl) ?_
  refine lv_iconst (v := 1) hx hb dL_law_1873 (by decide) ?_
  refine lv_iadd hx hb dL_law_1874 ?_
  refine lv_topi (fun x_6 ex_6 => ?_)
  obtain rfl : x_6 = 1 := ex_6.trans (by decide)
  refine va_sld hx hb hX hbl hbA hS (vpi (by decide)) dL_law_1875 ?_
  refine lv_aload_n hx hb dL_law_1876 rfl (lv_at hl 3 rfl) ?_
  refine lv_iload_n hx hb dL_law_1877 rfl (lv_at hl 0 rfl) ?_
  refine lv_iconst (v := 2) hx hb dL_law_1878 (by decide) ?_
  refine lv_iadd hx hb dL_law_1879 ?_
  refine lv_topi (fun x_7 ex_7 => ?_)
  obtain rfl : x_7 = 2 := ex_7.trans (by decide)
  refine va_sld hx hb hX hbl hbA hS (vpi (by decide)) dL_law_1880 ?_
  refine lv_aload_n hx hb dL_law_1881 rfl (lv_at hl 3 rfl) ?_
  refine lv_iload_n hx hb dL_law_1882 rfl (lv_at hl 0 rfl) ?_
  refine lv_iconst (v := 3) hx hb dL_law_1883 (by decide) ?_
  refine lv_iadd hx hb dL_law_1884 ?_
  refine lv_topi (fun x_8 ex_8 => ?_)
  obtain rfl : x_8 = 3 := ex_8.trans (by decide)
  refine va_sld hx hb hX hbl hbA hS (vpi (by decide)) dL_law_1885 ?_
  refine lv_aload_n hx hb dL_law_1886 rfl (lv_at hl 3 rfl) ?_
  refine lv_iload_n hx hb dL_law_1887 rfl (lv_at hl 0 rfl) ?_
  refine lv_iconst (v := 4) hx hb dL_law_1888 (by decide) ?_
  refine lv_iadd hx hb dL_law_1889 ?_
  refine lv_topi (fun x_9 ex_9 => ?_)
  obtain rfl : x_9 = 4 := ex_9.trans (by decide)
  refine va_sld hx hb hX hbl hbA hS (vpi (by decide)) dL_law_1890 ?_
  have hPc := hP.sub (ws' := [(g2 60, .inr (9, mF g2)), (g2 17, .inl (cy 0, 25, .inl (fun _ => 0)))]) [0, 1] rfl
  have hDc := hD.sub (ws' := [(g2 60, .inr (9, mF g2)), (g2 17, .inl (cy 0, 25, .inl (fun _ => 0)))]) [0, 1] (by decide) rfl
  have hFc := va_free (wc := [(g2 60, .inr (9, mF g2)), (g2 17, .inl (cy 0, 25, .inl (fun _ => 0)))]) hD hS hA [0, 1] rfl
  refine va_calli (va_runV (As := [.int (xs (1 : Int32).toNatClampNeg), .int (xs (2 : Int32).toNatClampNeg), .int (xs (3 : Int32).toNatClampNeg), .int (xs (4 : Int32).toNatClampNeg)]) (rest := [.int (-2)]) ⟨hx, hb, hml, hown, hts⟩ (c_X9_clean l D cy g2 (xs (1 : Int32).toNatClampNeg) (xs (2 : Int32).toNatClampNeg) (xs (3 : Int32).toNatClampNeg) (xs (4 : Int32).toNatClampNeg) H.size) (cwV 4 hts (gd_V q2097 q2098 q2099 q134 q2100) rfl rfl rfl (by decide +kernel) ⟨Nat.le_of_ble_eq_true rfl, Nat.le_of_ble_eq_true rfl⟩) (pr_V hPc hK hDc (va_recv hK hPc (ci := 9) (q0 := 0) rfl rfl)) rfl rfl hl.1 rfl (lv_room (Nat.le_of_ble_eq_true rfl)) dL_law_1891 ⟨Nat.le_of_ble_eq_true rfl, Nat.le_of_ble_eq_true rfl⟩) hS (fun q _ h => hFc q h) hFc (fun r_10 u tS H1 locs ht hvm hw hB hz1 hk1 hS => ?_)
  obtain ⟨hP1, hK1, hD1⟩ := hB
  rw [ht] at hP1
  try dsimp only at hw
  obtain ⟨hP, hD⟩ := va_join (wr := [(g1 0, .inr (8, xF g1)), (g1 3, .inr (0, [.int 0, .int 0, .int 0, .int 0, .int 0, .int 0, .ref (g1 4), .ref (g1 5), .ref (g1 6), .ref (g1 7)]))]) (w1 := [(g2 60, .inr (9, mF g2)), (g2 17, .inl (cy 0, 25, .inl (fun _ => 0)))]) hP hD [0, 1] [2, 3] rfl rfl (by decide) (by decide) hk1 hFc hP1 hD1
  generalize H1 = H at hP hS ⊢
  have hP : va_P D clz [(g1 0, .inr (8, xF g1)), (g1 3, .inr (0, [.int 0, .int 0, .int 0, .int 0, .int 0, .int 0, .ref (g1 4), .ref (g1 5), .ref (g1 6), .ref (g1 7)])), (g2 60, .inr (9, mF g2)), (g2 17, .inl (cy 0, 25, .inl (fun _ => 0)))] H := hP
  have hD : va_D (fun q : Nat => s.heap.size ≤ q) [(g1 0, .inr (8, xF g1)), (g1 3, .inr (0, [.int 0, .int 0, .int 0, .int 0, .int 0, .int 0, .ref (g1 4), .ref (g1 5), .ref (g1 6), .ref (g1 7)])), (g2 60, .inr (9, mF g2)), (g2 17, .inl (cy 0, 25, .inl (fun _ => 0)))] := hD
  subst hw
  refine lv_icmp_eq (tgt := 2411) hx hb dL_law_1894 (by decide) (fun _ => ?_) (fun c9 => absurd c9 (by decide))
  exact law_end ⟨hx, hb, hr, hml, hown0, hts0, hX, hbl, hlocks, hgv⟩ _ _ _ hS (lv_sub hl [0, 3] rfl)

theorem q763 : Cond.methodLink RL 199 yX8_train ∈ lw_g := lw_gm (List.mem_of_getElem? (i := 763) (by decide +kernel)) rfl
theorem q764 : Cond.instanceMethod yX8_train ∈ lw_g := lw_gm (List.mem_of_getElem? (i := 764) (by decide +kernel)) rfl
theorem q765 : Cond.selects RX8 yX8_train yX8_train ∈ lw_g := lw_gm (List.mem_of_getElem? (i := 765) (by decide +kernel)) rfl
theorem q2102 : Cond.methodLink RL 202 yX9_train ∈ lw_g := lw_gm (List.mem_of_getElem? (i := 2102) (by decide +kernel)) rfl
theorem q2103 : Cond.instanceMethod yX9_train ∈ lw_g := lw_gm (List.mem_of_getElem? (i := 2103) (by decide +kernel)) rfl
theorem q2104 : Cond.selects RX9 yX9_train yX9_train ∈ lw_g := lw_gm (List.mem_of_getElem? (i := 2104) (by decide +kernel)) rfl
theorem dL_law_1899 : decode cL_law 1899 = .ok (.aload_n 1, 1) := by decide +kernel
theorem dL_law_1900 : decode cL_law 1900 = .ok (.aload_n 0, 1) := by decide +kernel
theorem dL_law_1901 : decode cL_law 1901 = .ok (.iload_n 3, 1) := by decide +kernel
theorem dL_law_1902 : decode cL_law 1902 = .ok (.iconst 1, 1) := by decide +kernel
theorem dL_law_1903 : decode cL_law 1903 = .ok (.iadd, 1) := by decide +kernel
theorem dL_law_1904 : decode cL_law 1904 = .ok (.iaload, 1) := by decide +kernel
theorem dL_law_1905 : decode cL_law 1905 = .ok (.aload_n 0, 1) := by decide +kernel
theorem dL_law_1906 : decode cL_law 1906 = .ok (.iload_n 3, 1) := by decide +kernel
theorem dL_law_1907 : decode cL_law 1907 = .ok (.iconst 2, 1) := by decide +kernel
theorem dL_law_1908 : decode cL_law 1908 = .ok (.iadd, 1) := by decide +kernel
theorem dL_law_1909 : decode cL_law 1909 = .ok (.iaload, 1) := by decide +kernel
theorem dL_law_1910 : decode cL_law 1910 = .ok (.aload_n 0, 1) := by decide +kernel
theorem dL_law_1911 : decode cL_law 1911 = .ok (.iload_n 3, 1) := by decide +kernel
theorem dL_law_1912 : decode cL_law 1912 = .ok (.iconst 3, 1) := by decide +kernel
theorem dL_law_1913 : decode cL_law 1913 = .ok (.iadd, 1) := by decide +kernel
theorem dL_law_1914 : decode cL_law 1914 = .ok (.iaload, 1) := by decide +kernel
theorem dL_law_1915 : decode cL_law 1915 = .ok (.invokevirtual 199, 3) := by decide +kernel
theorem dL_law_1918 : decode cL_law 1918 = .ok (.aload_n 2, 1) := by decide +kernel
theorem dL_law_1919 : decode cL_law 1919 = .ok (.aload_n 0, 1) := by decide +kernel
theorem dL_law_1920 : decode cL_law 1920 = .ok (.iload_n 3, 1) := by decide +kernel
theorem dL_law_1921 : decode cL_law 1921 = .ok (.iconst 1, 1) := by decide +kernel
theorem dL_law_1922 : decode cL_law 1922 = .ok (.iadd, 1) := by decide +kernel
theorem dL_law_1923 : decode cL_law 1923 = .ok (.iaload, 1) := by decide +kernel
theorem dL_law_1924 : decode cL_law 1924 = .ok (.aload_n 0, 1) := by decide +kernel
theorem dL_law_1925 : decode cL_law 1925 = .ok (.iload_n 3, 1) := by decide +kernel
theorem dL_law_1926 : decode cL_law 1926 = .ok (.iconst 2, 1) := by decide +kernel
theorem dL_law_1927 : decode cL_law 1927 = .ok (.iadd, 1) := by decide +kernel
theorem dL_law_1928 : decode cL_law 1928 = .ok (.iaload, 1) := by decide +kernel
theorem dL_law_1929 : decode cL_law 1929 = .ok (.aload_n 0, 1) := by decide +kernel
theorem dL_law_1930 : decode cL_law 1930 = .ok (.iload_n 3, 1) := by decide +kernel
theorem dL_law_1931 : decode cL_law 1931 = .ok (.iconst 3, 1) := by decide +kernel
theorem dL_law_1932 : decode cL_law 1932 = .ok (.iadd, 1) := by decide +kernel
theorem dL_law_1933 : decode cL_law 1933 = .ok (.iaload, 1) := by decide +kernel
theorem dL_law_1934 : decode cL_law 1934 = .ok (.invokevirtual 202, 3) := by decide +kernel
theorem dL_law_1937 : decode cL_law 1937 = .ok (.if_icmp .eq 474, 3) := by decide +kernel
set_option maxHeartbeats 4000000 in
set_option maxRecDepth 100000 in
theorem lawc_train {p : Program} {l : Launch} {e : Env} {s : State} {m : MethodId} {below : List Frame} {meth : Method} {c : Code} {b : Nat} {xs : Nat → Int32} (D : va_G) (cy : Nat → ClassId) (g1 g2 : Nat → Nat) (C0 : lw_At p s m meth c b 6 xs) (hK : va_K D clz (tyl cy) s) (H : Heap) (locs : List Loc) (ls : Array Slot) (hP : va_P D clz [(g1 0, .inr (8, xF g1)), (g1 3, .inr (0, [.int 0, .int 0, .int 0, .int 0, .int 0, .int 0, .ref (g1 4), .ref (g1 5), .ref (g1 6), .ref (g1 7)])), (g2 60, .inr (9, mF g2)), (g2 17, .inl (cy 0, 25, .inl (fun _ => 0)))] H) (hD : va_D (fun q : Nat => s.heap.size ≤ q) [(g1 0, .inr (8, xF g1)), (g1 3, .inr (0, [.int 0, .int 0, .int 0, .int 0, .int 0, .int 0, .ref (g1 4), .ref (g1 5), .ref (g1 6), .ref (g1 7)])), (g2 60, .inr (9, mF g2)), (g2 17, .inl (cy 0, 25, .inl (fun _ => 0)))]) (hS : va_S (fun q : Nat => s.heap.size ≤ q) s.heap H locs) (hl : lv_has ls 4 [(3, .int 0), (2, .ref (g2 60)), (1, .ref (g1 0)), (0, .ref b)]) : W p l e room_1 s m #[Value.ref b] below meth c H locs 200 700000 (lw_Z below #[Value.ref b] s) (F0 m 1899 ls []) := by
  obtain ⟨hx, hb, hr, hml, hown0, hts0, hX, hbl, hlocks, hgv⟩ := C0
  have hown : s.vm.findClass RL = some m.cls := hown0
  have hts : ∀ w ∈ lw_g, w.before #[Value.ref b] s = true := fun w h => hts0 w (lw_gt h)
  have hA : ∀ q : Nat, s.heap.size ≤ q → (fun q : Nat => s.heap.size ≤ q) q := fun _ h => h
  have hbA : ¬ (fun q : Nat => s.heap.size ≤ q) b := Nat.not_le.mpr hbl
  refine lv_aload_n hx hb dL_law_1899 rfl (lv_at hl 2 rfl) ?_
  refine lv_aload_n hx hb dL_law_1900 rfl (lv_at hl 3 rfl) ?_
  refine lv_iload_n hx hb dL_law_1901 rfl (lv_at hl 0 rfl) ?_
  refine lv_iconst (v := 1) hx hb dL_law_1902 (by decide) ?_
  refine lv_iadd hx hb dL_law_1903 ?_
  refine lv_topi (fun x_1 ex_1 => ?_)
  obtain rfl : x_1 = 1 := ex_1.trans (by decide)
  refine va_sld hx hb hX hbl hbA hS (vpi (by decide)) dL_law_1904 ?_
  refine lv_aload_n hx hb dL_law_1905 rfl (lv_at hl 3 rfl) ?_
  refine lv_iload_n hx hb dL_law_1906 rfl (lv_at hl 0 rfl) ?_
  refine lv_iconst (v := 2) hx hb dL_law_1907 (by decide) ?_
  refine lv_iadd hx hb dL_law_1908 ?_
  refine lv_topi (fun x_2 ex_2 => ?_)
  obtain rfl : x_2 = 2 := ex_2.trans (by decide)
  refine va_sld hx hb hX hbl hbA hS (vpi (by decide)) dL_law_1909 ?_
  refine lv_aload_n hx hb dL_law_1910 rfl (lv_at hl 3 rfl) ?_
  refine lv_iload_n hx hb dL_law_1911 rfl (lv_at hl 0 rfl) ?_
  refine lv_iconst (v := 3) hx hb dL_law_1912 (by decide) ?_
  refine lv_iadd hx hb dL_law_1913 ?_
  refine lv_topi (fun x_3 ex_3 => ?_)
  obtain rfl : x_3 = 3 := ex_3.trans (by decide)
  refine va_sld hx hb hX hbl hbA hS (vpi (by decide)) dL_law_1914 ?_
  have hPc := hP.sub (ws' := [(g1 0, .inr (8, xF g1)), (g1 3, .inr (0, [.int 0, .int 0, .int 0, .int 0, .int 0, .int 0, .ref (g1 4), .ref (g1 5), .ref (g1 6), .ref (g1 7)]))]) [0, 1] rfl
  have hDc := hD.sub (ws' := [(g1 0, .inr (8, xF g1)), (g1 3, .inr (0, [.int 0, .int 0, .int 0, .int 0, .int 0, .int 0, .ref (g1 4), .ref (g1 5), .ref (g1 6), .ref (g1 7)]))]) [0, 1] (by decide) rfl
  have hFc := va_free (wc := [(g1 0, .inr (8, xF g1)), (g1 3, .inr (0, [.int 0, .int 0, .int 0, .int 0, .int 0, .int 0, .ref (g1 4), .ref (g1 5), .ref (g1 6), .ref (g1 7)]))]) hD hS hA [0, 1] rfl
  refine va_calli (va_runV (As := [.int (xs (1 : Int32).toNatClampNeg), .int (xs (2 : Int32).toNatClampNeg), .int (xs (3 : Int32).toNatClampNeg)]) (rest := []) ⟨hx, hb, hml, hown, hts⟩ (c_X8_train l D cy g1 (xs (1 : Int32).toNatClampNeg) (xs (2 : Int32).toNatClampNeg) (xs (3 : Int32).toNatClampNeg) H.size) (cwV 3 hts (gd_V q763 q764 q765 q125 q766) rfl rfl rfl (by decide +kernel) ⟨Nat.le_of_ble_eq_true rfl, Nat.le_of_ble_eq_true rfl⟩) (pr_V hPc hK hDc (va_recv hK hPc (ci := 8) (q0 := 0) rfl rfl)) rfl rfl hl.1 rfl (lv_room (Nat.le_of_ble_eq_true rfl)) dL_law_1915 ⟨Nat.le_of_ble_eq_true rfl, Nat.le_of_ble_eq_true rfl⟩) hS (fun q _ h => hFc q h) hFc (fun r_4 u tS H1 locs ht hvm hw hB hz1 hk1 hS => ?_)
  obtain ⟨hP1, hK1, hD1⟩ := hB
  rw [ht] at hP1
  try dsimp only at hw
  obtain ⟨hP, hD⟩ := va_join (wr := [(g2 60, .inr (9, mF g2)), (g2 17, .inl (cy 0, 25, .inl (fun _ => 0)))]) (w1 := [(g1 0, .inr (8, xF g1)), (g1 3, .inr (0, [.int 0, .int 0, .int 0, .int 0, .int 0, .int 0, .ref (g1 4), .ref (g1 5), .ref (g1 6), .ref (g1 7)]))]) hP hD [0, 1] [2, 3] rfl rfl (by decide) (by decide) hk1 hFc hP1 hD1
  generalize H1 = H at hP hS ⊢
  have hP : va_P D clz [(g2 60, .inr (9, mF g2)), (g2 17, .inl (cy 0, 25, .inl (fun _ => 0))), (g1 0, .inr (8, xF g1)), (g1 3, .inr (0, [.int 0, .int 0, .int 0, .int 0, .int 0, .int 0, .ref (g1 4), .ref (g1 5), .ref (g1 6), .ref (g1 7)]))] H := hP
  have hD : va_D (fun q : Nat => s.heap.size ≤ q) [(g2 60, .inr (9, mF g2)), (g2 17, .inl (cy 0, 25, .inl (fun _ => 0))), (g1 0, .inr (8, xF g1)), (g1 3, .inr (0, [.int 0, .int 0, .int 0, .int 0, .int 0, .int 0, .ref (g1 4), .ref (g1 5), .ref (g1 6), .ref (g1 7)]))] := hD
  subst hw
  refine lv_aload_n hx hb dL_law_1918 rfl (lv_at hl 1 rfl) ?_
  refine lv_aload_n hx hb dL_law_1919 rfl (lv_at hl 3 rfl) ?_
  refine lv_iload_n hx hb dL_law_1920 rfl (lv_at hl 0 rfl) ?_
  refine lv_iconst (v := 1) hx hb dL_law_1921 (by decide) ?_
  refine lv_iadd hx hb dL_law_1922 ?_
  refine lv_topi (fun x_5 ex_5 => ?_)
  obtain rfl : x_5 = 1 := ex_5.trans (by decide)
  refine va_sld hx hb hX hbl hbA hS (vpi (by decide)) dL_law_1923 ?_
  refine lv_aload_n hx hb dL_law_1924 rfl (lv_at hl 3 rfl) ?_
  refine lv_iload_n hx hb dL_law_1925 rfl (lv_at hl 0 rfl) ?_
  refine lv_iconst (v := 2) hx hb dL_law_1926 (by decide) ?_
  refine lv_iadd hx hb dL_law_1927 ?_
  refine lv_topi (fun x_6 ex_6 => ?_)
  obtain rfl : x_6 = 2 := ex_6.trans (by decide)
  refine va_sld hx hb hX hbl hbA hS (vpi (by decide)) dL_law_1928 ?_
  refine lv_aload_n hx hb dL_law_1929 rfl (lv_at hl 3 rfl) ?_
  refine lv_iload_n hx hb dL_law_1930 rfl (lv_at hl 0 rfl) ?_
  refine lv_iconst (v := 3) hx hb dL_law_1931 (by decide) ?_
  refine lv_iadd hx hb dL_law_1932 ?_
  refine lv_topi (fun x_7 ex_7 => ?_)
  obtain rfl : x_7 = 3 := ex_7.trans (by decide)
  refine va_sld hx hb hX hbl hbA hS (vpi (by decide)) dL_law_1933 ?_
  have hPc := hP.sub (ws' := [(g2 60, .inr (9, mF g2)), (g2 17, .inl (cy 0, 25, .inl (fun _ => 0)))]) [0, 1] rfl
  have hDc := hD.sub (ws' := [(g2 60, .inr (9, mF g2)), (g2 17, .inl (cy 0, 25, .inl (fun _ => 0)))]) [0, 1] (by decide) rfl
  have hFc := va_free (wc := [(g2 60, .inr (9, mF g2)), (g2 17, .inl (cy 0, 25, .inl (fun _ => 0)))]) hD hS hA [0, 1] rfl
  refine va_calli (va_runV (As := [.int (xs (1 : Int32).toNatClampNeg), .int (xs (2 : Int32).toNatClampNeg), .int (xs (3 : Int32).toNatClampNeg)]) (rest := [.int (-2)]) ⟨hx, hb, hml, hown, hts⟩ (c_X9_train l D cy g2 (xs (1 : Int32).toNatClampNeg) (xs (2 : Int32).toNatClampNeg) (xs (3 : Int32).toNatClampNeg) H.size) (cwV 3 hts (gd_V q2102 q2103 q2104 q134 q2105) rfl rfl rfl (by decide +kernel) ⟨Nat.le_of_ble_eq_true rfl, Nat.le_of_ble_eq_true rfl⟩) (pr_V hPc hK hDc (va_recv hK hPc (ci := 9) (q0 := 0) rfl rfl)) rfl rfl hl.1 rfl (lv_room (Nat.le_of_ble_eq_true rfl)) dL_law_1934 ⟨Nat.le_of_ble_eq_true rfl, Nat.le_of_ble_eq_true rfl⟩) hS (fun q _ h => hFc q h) hFc (fun r_8 u tS H1 locs ht hvm hw hB hz1 hk1 hS => ?_)
  obtain ⟨hP1, hK1, hD1⟩ := hB
  rw [ht] at hP1
  try dsimp only at hw
  obtain ⟨hP, hD⟩ := va_join (wr := [(g1 0, .inr (8, xF g1)), (g1 3, .inr (0, [.int 0, .int 0, .int 0, .int 0, .int 0, .int 0, .ref (g1 4), .ref (g1 5), .ref (g1 6), .ref (g1 7)]))]) (w1 := [(g2 60, .inr (9, mF g2)), (g2 17, .inl (cy 0, 25, .inl (fun _ => 0)))]) hP hD [0, 1] [2, 3] rfl rfl (by decide) (by decide) hk1 hFc hP1 hD1
  generalize H1 = H at hP hS ⊢
  have hP : va_P D clz [(g1 0, .inr (8, xF g1)), (g1 3, .inr (0, [.int 0, .int 0, .int 0, .int 0, .int 0, .int 0, .ref (g1 4), .ref (g1 5), .ref (g1 6), .ref (g1 7)])), (g2 60, .inr (9, mF g2)), (g2 17, .inl (cy 0, 25, .inl (fun _ => 0)))] H := hP
  have hD : va_D (fun q : Nat => s.heap.size ≤ q) [(g1 0, .inr (8, xF g1)), (g1 3, .inr (0, [.int 0, .int 0, .int 0, .int 0, .int 0, .int 0, .ref (g1 4), .ref (g1 5), .ref (g1 6), .ref (g1 7)])), (g2 60, .inr (9, mF g2)), (g2 17, .inl (cy 0, 25, .inl (fun _ => 0)))] := hD
  subst hw
  refine lv_icmp_eq (tgt := 2411) hx hb dL_law_1937 (by decide) (fun _ => ?_) (fun c9 => absurd c9 (by decide))
  exact law_end ⟨hx, hb, hr, hml, hown0, hts0, hX, hbl, hlocks, hgv⟩ _ _ _ hS (lv_sub hl [0, 3] rfl)

theorem q772 : Cond.methodLink RL 203 yX8_tune ∈ lw_g := lw_gm (List.mem_of_getElem? (i := 772) (by decide +kernel)) rfl
theorem q773 : Cond.instanceMethod yX8_tune ∈ lw_g := lw_gm (List.mem_of_getElem? (i := 773) (by decide +kernel)) rfl
theorem q774 : Cond.selects RX8 yX8_tune yX8_tune ∈ lw_g := lw_gm (List.mem_of_getElem? (i := 774) (by decide +kernel)) rfl
theorem q2112 : Cond.methodLink RL 206 yX9_tune ∈ lw_g := lw_gm (List.mem_of_getElem? (i := 2112) (by decide +kernel)) rfl
theorem q2113 : Cond.instanceMethod yX9_tune ∈ lw_g := lw_gm (List.mem_of_getElem? (i := 2113) (by decide +kernel)) rfl
theorem q2114 : Cond.selects RX9 yX9_tune yX9_tune ∈ lw_g := lw_gm (List.mem_of_getElem? (i := 2114) (by decide +kernel)) rfl
theorem dL_law_1942 : decode cL_law 1942 = .ok (.aload_n 1, 1) := by decide +kernel
theorem dL_law_1943 : decode cL_law 1943 = .ok (.aload_n 0, 1) := by decide +kernel
theorem dL_law_1944 : decode cL_law 1944 = .ok (.iload_n 3, 1) := by decide +kernel
theorem dL_law_1945 : decode cL_law 1945 = .ok (.iconst 1, 1) := by decide +kernel
theorem dL_law_1946 : decode cL_law 1946 = .ok (.iadd, 1) := by decide +kernel
theorem dL_law_1947 : decode cL_law 1947 = .ok (.iaload, 1) := by decide +kernel
theorem dL_law_1948 : decode cL_law 1948 = .ok (.aload_n 0, 1) := by decide +kernel
theorem dL_law_1949 : decode cL_law 1949 = .ok (.iload_n 3, 1) := by decide +kernel
theorem dL_law_1950 : decode cL_law 1950 = .ok (.iconst 2, 1) := by decide +kernel
theorem dL_law_1951 : decode cL_law 1951 = .ok (.iadd, 1) := by decide +kernel
theorem dL_law_1952 : decode cL_law 1952 = .ok (.iaload, 1) := by decide +kernel
theorem dL_law_1953 : decode cL_law 1953 = .ok (.invokevirtual 203, 3) := by decide +kernel
theorem dL_law_1956 : decode cL_law 1956 = .ok (.aload_n 2, 1) := by decide +kernel
theorem dL_law_1957 : decode cL_law 1957 = .ok (.aload_n 0, 1) := by decide +kernel
theorem dL_law_1958 : decode cL_law 1958 = .ok (.iload_n 3, 1) := by decide +kernel
theorem dL_law_1959 : decode cL_law 1959 = .ok (.iconst 1, 1) := by decide +kernel
theorem dL_law_1960 : decode cL_law 1960 = .ok (.iadd, 1) := by decide +kernel
theorem dL_law_1961 : decode cL_law 1961 = .ok (.iaload, 1) := by decide +kernel
theorem dL_law_1962 : decode cL_law 1962 = .ok (.aload_n 0, 1) := by decide +kernel
theorem dL_law_1963 : decode cL_law 1963 = .ok (.iload_n 3, 1) := by decide +kernel
theorem dL_law_1964 : decode cL_law 1964 = .ok (.iconst 2, 1) := by decide +kernel
theorem dL_law_1965 : decode cL_law 1965 = .ok (.iadd, 1) := by decide +kernel
theorem dL_law_1966 : decode cL_law 1966 = .ok (.iaload, 1) := by decide +kernel
theorem dL_law_1967 : decode cL_law 1967 = .ok (.invokevirtual 206, 3) := by decide +kernel
theorem dL_law_1970 : decode cL_law 1970 = .ok (.if_icmp .eq 441, 3) := by decide +kernel
set_option maxHeartbeats 4000000 in
set_option maxRecDepth 100000 in
theorem lawc_tune {p : Program} {l : Launch} {e : Env} {s : State} {m : MethodId} {below : List Frame} {meth : Method} {c : Code} {b : Nat} {xs : Nat → Int32} (D : va_G) (cy : Nat → ClassId) (g1 g2 : Nat → Nat) (C0 : lw_At p s m meth c b 6 xs) (hK : va_K D clz (tyl cy) s) (H : Heap) (locs : List Loc) (ls : Array Slot) (hP : va_P D clz [(g1 0, .inr (8, xF g1)), (g1 3, .inr (0, [.int 0, .int 0, .int 0, .int 0, .int 0, .int 0, .ref (g1 4), .ref (g1 5), .ref (g1 6), .ref (g1 7)])), (g2 60, .inr (9, mF g2)), (g2 17, .inl (cy 0, 25, .inl (fun _ => 0)))] H) (hD : va_D (fun q : Nat => s.heap.size ≤ q) [(g1 0, .inr (8, xF g1)), (g1 3, .inr (0, [.int 0, .int 0, .int 0, .int 0, .int 0, .int 0, .ref (g1 4), .ref (g1 5), .ref (g1 6), .ref (g1 7)])), (g2 60, .inr (9, mF g2)), (g2 17, .inl (cy 0, 25, .inl (fun _ => 0)))]) (hS : va_S (fun q : Nat => s.heap.size ≤ q) s.heap H locs) (hl : lv_has ls 4 [(3, .int 0), (2, .ref (g2 60)), (1, .ref (g1 0)), (0, .ref b)]) : W p l e room_1 s m #[Value.ref b] below meth c H locs 200 700000 (lw_Z below #[Value.ref b] s) (F0 m 1942 ls []) := by
  obtain ⟨hx, hb, hr, hml, hown0, hts0, hX, hbl, hlocks, hgv⟩ := C0
  have hown : s.vm.findClass RL = some m.cls := hown0
  have hts : ∀ w ∈ lw_g, w.before #[Value.ref b] s = true := fun w h => hts0 w (lw_gt h)
  have hA : ∀ q : Nat, s.heap.size ≤ q → (fun q : Nat => s.heap.size ≤ q) q := fun _ h => h
  have hbA : ¬ (fun q : Nat => s.heap.size ≤ q) b := Nat.not_le.mpr hbl
  refine lv_aload_n hx hb dL_law_1942 rfl (lv_at hl 2 rfl) ?_
  refine lv_aload_n hx hb dL_law_1943 rfl (lv_at hl 3 rfl) ?_
  refine lv_iload_n hx hb dL_law_1944 rfl (lv_at hl 0 rfl) ?_
  refine lv_iconst (v := 1) hx hb dL_law_1945 (by decide) ?_
  refine lv_iadd hx hb dL_law_1946 ?_
  refine lv_topi (fun x_1 ex_1 => ?_)
  obtain rfl : x_1 = 1 := ex_1.trans (by decide)
  refine va_sld hx hb hX hbl hbA hS (vpi (by decide)) dL_law_1947 ?_
  refine lv_aload_n hx hb dL_law_1948 rfl (lv_at hl 3 rfl) ?_
  refine lv_iload_n hx hb dL_law_1949 rfl (lv_at hl 0 rfl) ?_
  refine lv_iconst (v := 2) hx hb dL_law_1950 (by decide) ?_
  refine lv_iadd hx hb dL_law_1951 ?_
  refine lv_topi (fun x_2 ex_2 => ?_)
  obtain rfl : x_2 = 2 := ex_2.trans (by decide)
  refine va_sld hx hb hX hbl hbA hS (vpi (by decide)) dL_law_1952 ?_
  have hPc := hP.sub (ws' := [(g1 0, .inr (8, xF g1)), (g1 3, .inr (0, [.int 0, .int 0, .int 0, .int 0, .int 0, .int 0, .ref (g1 4), .ref (g1 5), .ref (g1 6), .ref (g1 7)]))]) [0, 1] rfl
  have hDc := hD.sub (ws' := [(g1 0, .inr (8, xF g1)), (g1 3, .inr (0, [.int 0, .int 0, .int 0, .int 0, .int 0, .int 0, .ref (g1 4), .ref (g1 5), .ref (g1 6), .ref (g1 7)]))]) [0, 1] (by decide) rfl
  have hFc := va_free (wc := [(g1 0, .inr (8, xF g1)), (g1 3, .inr (0, [.int 0, .int 0, .int 0, .int 0, .int 0, .int 0, .ref (g1 4), .ref (g1 5), .ref (g1 6), .ref (g1 7)]))]) hD hS hA [0, 1] rfl
  refine va_calli (va_runV (As := [.int (xs (1 : Int32).toNatClampNeg), .int (xs (2 : Int32).toNatClampNeg)]) (rest := []) ⟨hx, hb, hml, hown, hts⟩ (c_X8_tune l D cy g1 (xs (1 : Int32).toNatClampNeg) (xs (2 : Int32).toNatClampNeg) H.size) (cwV 2 hts (gd_V q772 q773 q774 q125 q775) rfl rfl rfl (by decide +kernel) ⟨Nat.le_of_ble_eq_true rfl, Nat.le_of_ble_eq_true rfl⟩) (pr_V hPc hK hDc (va_recv hK hPc (ci := 8) (q0 := 0) rfl rfl)) rfl rfl hl.1 rfl (lv_room (Nat.le_of_ble_eq_true rfl)) dL_law_1953 ⟨Nat.le_of_ble_eq_true rfl, Nat.le_of_ble_eq_true rfl⟩) hS (fun q _ h => hFc q h) hFc (fun r_3 u tS H1 locs ht hvm hw hB hz1 hk1 hS => ?_)
  obtain ⟨hP1, hK1, hD1⟩ := hB
  rw [ht] at hP1
  try dsimp only at hw
  obtain ⟨hP, hD⟩ := va_join (wr := [(g2 60, .inr (9, mF g2)), (g2 17, .inl (cy 0, 25, .inl (fun _ => 0)))]) (w1 := [(g1 0, .inr (8, xF g1)), (g1 3, .inr (0, [.int 0, .int 0, .int 0, .int 0, .int 0, .int 0, .ref (g1 4), .ref (g1 5), .ref (g1 6), .ref (g1 7)]))]) hP hD [0, 1] [2, 3] rfl rfl (by decide) (by decide) hk1 hFc hP1 hD1
  generalize H1 = H at hP hS ⊢
  have hP : va_P D clz [(g2 60, .inr (9, mF g2)), (g2 17, .inl (cy 0, 25, .inl (fun _ => 0))), (g1 0, .inr (8, xF g1)), (g1 3, .inr (0, [.int 0, .int 0, .int 0, .int 0, .int 0, .int 0, .ref (g1 4), .ref (g1 5), .ref (g1 6), .ref (g1 7)]))] H := hP
  have hD : va_D (fun q : Nat => s.heap.size ≤ q) [(g2 60, .inr (9, mF g2)), (g2 17, .inl (cy 0, 25, .inl (fun _ => 0))), (g1 0, .inr (8, xF g1)), (g1 3, .inr (0, [.int 0, .int 0, .int 0, .int 0, .int 0, .int 0, .ref (g1 4), .ref (g1 5), .ref (g1 6), .ref (g1 7)]))] := hD
  subst hw
  refine lv_aload_n hx hb dL_law_1956 rfl (lv_at hl 1 rfl) ?_
  refine lv_aload_n hx hb dL_law_1957 rfl (lv_at hl 3 rfl) ?_
  refine lv_iload_n hx hb dL_law_1958 rfl (lv_at hl 0 rfl) ?_
  refine lv_iconst (v := 1) hx hb dL_law_1959 (by decide) ?_
  refine lv_iadd hx hb dL_law_1960 ?_
  refine lv_topi (fun x_4 ex_4 => ?_)
  obtain rfl : x_4 = 1 := ex_4.trans (by decide)
  refine va_sld hx hb hX hbl hbA hS (vpi (by decide)) dL_law_1961 ?_
  refine lv_aload_n hx hb dL_law_1962 rfl (lv_at hl 3 rfl) ?_
  refine lv_iload_n hx hb dL_law_1963 rfl (lv_at hl 0 rfl) ?_
  refine lv_iconst (v := 2) hx hb dL_law_1964 (by decide) ?_
  refine lv_iadd hx hb dL_law_1965 ?_
  refine lv_topi (fun x_5 ex_5 => ?_)
  obtain rfl : x_5 = 2 := ex_5.trans (by decide)
  refine va_sld hx hb hX hbl hbA hS (vpi (by decide)) dL_law_1966 ?_
  have hPc := hP.sub (ws' := [(g2 60, .inr (9, mF g2)), (g2 17, .inl (cy 0, 25, .inl (fun _ => 0)))]) [0, 1] rfl
  have hDc := hD.sub (ws' := [(g2 60, .inr (9, mF g2)), (g2 17, .inl (cy 0, 25, .inl (fun _ => 0)))]) [0, 1] (by decide) rfl
  have hFc := va_free (wc := [(g2 60, .inr (9, mF g2)), (g2 17, .inl (cy 0, 25, .inl (fun _ => 0)))]) hD hS hA [0, 1] rfl
  refine va_calli (va_runV (As := [.int (xs (1 : Int32).toNatClampNeg), .int (xs (2 : Int32).toNatClampNeg)]) (rest := [.int (-2)]) ⟨hx, hb, hml, hown, hts⟩ (c_X9_tune l D cy g2 (xs (1 : Int32).toNatClampNeg) (xs (2 : Int32).toNatClampNeg) H.size) (cwV 2 hts (gd_V q2112 q2113 q2114 q134 q2115) rfl rfl rfl (by decide +kernel) ⟨Nat.le_of_ble_eq_true rfl, Nat.le_of_ble_eq_true rfl⟩) (pr_V hPc hK hDc (va_recv hK hPc (ci := 9) (q0 := 0) rfl rfl)) rfl rfl hl.1 rfl (lv_room (Nat.le_of_ble_eq_true rfl)) dL_law_1967 ⟨Nat.le_of_ble_eq_true rfl, Nat.le_of_ble_eq_true rfl⟩) hS (fun q _ h => hFc q h) hFc (fun r_6 u tS H1 locs ht hvm hw hB hz1 hk1 hS => ?_)
  obtain ⟨hP1, hK1, hD1⟩ := hB
  rw [ht] at hP1
  try dsimp only at hw
  obtain ⟨hP, hD⟩ := va_join (wr := [(g1 0, .inr (8, xF g1)), (g1 3, .inr (0, [.int 0, .int 0, .int 0, .int 0, .int 0, .int 0, .ref (g1 4), .ref (g1 5), .ref (g1 6), .ref (g1 7)]))]) (w1 := [(g2 60, .inr (9, mF g2)), (g2 17, .inl (cy 0, 25, .inl (fun _ => 0)))]) hP hD [0, 1] [2, 3] rfl rfl (by decide) (by decide) hk1 hFc hP1 hD1
  generalize H1 = H at hP hS ⊢
  have hP : va_P D clz [(g1 0, .inr (8, xF g1)), (g1 3, .inr (0, [.int 0, .int 0, .int 0, .int 0, .int 0, .int 0, .ref (g1 4), .ref (g1 5), .ref (g1 6), .ref (g1 7)])), (g2 60, .inr (9, mF g2)), (g2 17, .inl (cy 0, 25, .inl (fun _ => 0)))] H := hP
  have hD : va_D (fun q : Nat => s.heap.size ≤ q) [(g1 0, .inr (8, xF g1)), (g1 3, .inr (0, [.int 0, .int 0, .int 0, .int 0, .int 0, .int 0, .ref (g1 4), .ref (g1 5), .ref (g1 6), .ref (g1 7)])), (g2 60, .inr (9, mF g2)), (g2 17, .inl (cy 0, 25, .inl (fun _ => 0)))] := hD
  subst hw
  refine lv_icmp_eq (tgt := 2411) hx hb dL_law_1970 (by decide) (fun _ => ?_) (fun c9 => absurd c9 (by decide))
  exact law_end ⟨hx, hb, hr, hml, hown0, hts0, hX, hbl, hlocks, hgv⟩ _ _ _ hS (lv_sub hl [0, 3] rfl)

theorem q778 : Cond.methodLink RL 207 yX8_pitch ∈ lw_g := lw_gm (List.mem_of_getElem? (i := 778) (by decide +kernel)) rfl
theorem q779 : Cond.instanceMethod yX8_pitch ∈ lw_g := lw_gm (List.mem_of_getElem? (i := 779) (by decide +kernel)) rfl
theorem q780 : Cond.selects RX8 yX8_pitch yX8_pitch ∈ lw_g := lw_gm (List.mem_of_getElem? (i := 780) (by decide +kernel)) rfl
theorem q2116 : Cond.methodLink RL 210 yX9_pitch ∈ lw_g := lw_gm (List.mem_of_getElem? (i := 2116) (by decide +kernel)) rfl
theorem q2117 : Cond.instanceMethod yX9_pitch ∈ lw_g := lw_gm (List.mem_of_getElem? (i := 2117) (by decide +kernel)) rfl
theorem q2118 : Cond.selects RX9 yX9_pitch yX9_pitch ∈ lw_g := lw_gm (List.mem_of_getElem? (i := 2118) (by decide +kernel)) rfl
theorem dL_law_1975 : decode cL_law 1975 = .ok (.aload_n 1, 1) := by decide +kernel
theorem dL_law_1976 : decode cL_law 1976 = .ok (.aload_n 0, 1) := by decide +kernel
theorem dL_law_1977 : decode cL_law 1977 = .ok (.iload_n 3, 1) := by decide +kernel
theorem dL_law_1978 : decode cL_law 1978 = .ok (.iconst 1, 1) := by decide +kernel
theorem dL_law_1979 : decode cL_law 1979 = .ok (.iadd, 1) := by decide +kernel
theorem dL_law_1980 : decode cL_law 1980 = .ok (.iaload, 1) := by decide +kernel
theorem dL_law_1981 : decode cL_law 1981 = .ok (.aload_n 0, 1) := by decide +kernel
theorem dL_law_1982 : decode cL_law 1982 = .ok (.iload_n 3, 1) := by decide +kernel
theorem dL_law_1983 : decode cL_law 1983 = .ok (.iconst 2, 1) := by decide +kernel
theorem dL_law_1984 : decode cL_law 1984 = .ok (.iadd, 1) := by decide +kernel
theorem dL_law_1985 : decode cL_law 1985 = .ok (.iaload, 1) := by decide +kernel
theorem dL_law_1986 : decode cL_law 1986 = .ok (.aload_n 0, 1) := by decide +kernel
theorem dL_law_1987 : decode cL_law 1987 = .ok (.iload_n 3, 1) := by decide +kernel
theorem dL_law_1988 : decode cL_law 1988 = .ok (.iconst 3, 1) := by decide +kernel
theorem dL_law_1989 : decode cL_law 1989 = .ok (.iadd, 1) := by decide +kernel
theorem dL_law_1990 : decode cL_law 1990 = .ok (.iaload, 1) := by decide +kernel
theorem dL_law_1991 : decode cL_law 1991 = .ok (.invokevirtual 207, 3) := by decide +kernel
theorem dL_law_1994 : decode cL_law 1994 = .ok (.aload_n 2, 1) := by decide +kernel
theorem dL_law_1995 : decode cL_law 1995 = .ok (.aload_n 0, 1) := by decide +kernel
theorem dL_law_1996 : decode cL_law 1996 = .ok (.iload_n 3, 1) := by decide +kernel
theorem dL_law_1997 : decode cL_law 1997 = .ok (.iconst 1, 1) := by decide +kernel
theorem dL_law_1998 : decode cL_law 1998 = .ok (.iadd, 1) := by decide +kernel
theorem dL_law_1999 : decode cL_law 1999 = .ok (.iaload, 1) := by decide +kernel
theorem dL_law_2000 : decode cL_law 2000 = .ok (.aload_n 0, 1) := by decide +kernel
theorem dL_law_2001 : decode cL_law 2001 = .ok (.iload_n 3, 1) := by decide +kernel
theorem dL_law_2002 : decode cL_law 2002 = .ok (.iconst 2, 1) := by decide +kernel
theorem dL_law_2003 : decode cL_law 2003 = .ok (.iadd, 1) := by decide +kernel
theorem dL_law_2004 : decode cL_law 2004 = .ok (.iaload, 1) := by decide +kernel
theorem dL_law_2005 : decode cL_law 2005 = .ok (.aload_n 0, 1) := by decide +kernel
theorem dL_law_2006 : decode cL_law 2006 = .ok (.iload_n 3, 1) := by decide +kernel
theorem dL_law_2007 : decode cL_law 2007 = .ok (.iconst 3, 1) := by decide +kernel
theorem dL_law_2008 : decode cL_law 2008 = .ok (.iadd, 1) := by decide +kernel
theorem dL_law_2009 : decode cL_law 2009 = .ok (.iaload, 1) := by decide +kernel
theorem dL_law_2010 : decode cL_law 2010 = .ok (.invokevirtual 210, 3) := by decide +kernel
theorem dL_law_2013 : decode cL_law 2013 = .ok (.if_icmp .eq 398, 3) := by decide +kernel
set_option maxHeartbeats 4000000 in
set_option maxRecDepth 100000 in
theorem lawc_pitch {p : Program} {l : Launch} {e : Env} {s : State} {m : MethodId} {below : List Frame} {meth : Method} {c : Code} {b : Nat} {xs : Nat → Int32} (D : va_G) (cy : Nat → ClassId) (g1 g2 : Nat → Nat) (C0 : lw_At p s m meth c b 6 xs) (hK : va_K D clz (tyl cy) s) (H : Heap) (locs : List Loc) (ls : Array Slot) (hP : va_P D clz [(g1 0, .inr (8, xF g1)), (g1 3, .inr (0, [.int 0, .int 0, .int 0, .int 0, .int 0, .int 0, .ref (g1 4), .ref (g1 5), .ref (g1 6), .ref (g1 7)])), (g2 60, .inr (9, mF g2)), (g2 17, .inl (cy 0, 25, .inl (fun _ => 0)))] H) (hD : va_D (fun q : Nat => s.heap.size ≤ q) [(g1 0, .inr (8, xF g1)), (g1 3, .inr (0, [.int 0, .int 0, .int 0, .int 0, .int 0, .int 0, .ref (g1 4), .ref (g1 5), .ref (g1 6), .ref (g1 7)])), (g2 60, .inr (9, mF g2)), (g2 17, .inl (cy 0, 25, .inl (fun _ => 0)))]) (hS : va_S (fun q : Nat => s.heap.size ≤ q) s.heap H locs) (hl : lv_has ls 4 [(3, .int 0), (2, .ref (g2 60)), (1, .ref (g1 0)), (0, .ref b)]) : W p l e room_1 s m #[Value.ref b] below meth c H locs 200 700000 (lw_Z below #[Value.ref b] s) (F0 m 1975 ls []) := by
  obtain ⟨hx, hb, hr, hml, hown0, hts0, hX, hbl, hlocks, hgv⟩ := C0
  have hown : s.vm.findClass RL = some m.cls := hown0
  have hts : ∀ w ∈ lw_g, w.before #[Value.ref b] s = true := fun w h => hts0 w (lw_gt h)
  have hA : ∀ q : Nat, s.heap.size ≤ q → (fun q : Nat => s.heap.size ≤ q) q := fun _ h => h
  have hbA : ¬ (fun q : Nat => s.heap.size ≤ q) b := Nat.not_le.mpr hbl
  refine lv_aload_n hx hb dL_law_1975 rfl (lv_at hl 2 rfl) ?_
  refine lv_aload_n hx hb dL_law_1976 rfl (lv_at hl 3 rfl) ?_
  refine lv_iload_n hx hb dL_law_1977 rfl (lv_at hl 0 rfl) ?_
  refine lv_iconst (v := 1) hx hb dL_law_1978 (by decide) ?_
  refine lv_iadd hx hb dL_law_1979 ?_
  refine lv_topi (fun x_1 ex_1 => ?_)
  obtain rfl : x_1 = 1 := ex_1.trans (by decide)
  refine va_sld hx hb hX hbl hbA hS (vpi (by decide)) dL_law_1980 ?_
  refine lv_aload_n hx hb dL_law_1981 rfl (lv_at hl 3 rfl) ?_
  refine lv_iload_n hx hb dL_law_1982 rfl (lv_at hl 0 rfl) ?_
  refine lv_iconst (v := 2) hx hb dL_law_1983 (by decide) ?_
  refine lv_iadd hx hb dL_law_1984 ?_
  refine lv_topi (fun x_2 ex_2 => ?_)
  obtain rfl : x_2 = 2 := ex_2.trans (by decide)
  refine va_sld hx hb hX hbl hbA hS (vpi (by decide)) dL_law_1985 ?_
  refine lv_aload_n hx hb dL_law_1986 rfl (lv_at hl 3 rfl) ?_
  refine lv_iload_n hx hb dL_law_1987 rfl (lv_at hl 0 rfl) ?_
  refine lv_iconst (v := 3) hx hb dL_law_1988 (by decide) ?_
  refine lv_iadd hx hb dL_law_1989 ?_
  refine lv_topi (fun x_3 ex_3 => ?_)
  obtain rfl : x_3 = 3 := ex_3.trans (by decide)
  refine va_sld hx hb hX hbl hbA hS (vpi (by decide)) dL_law_1990 ?_
  have hPc := hP.sub (ws' := [(g1 0, .inr (8, xF g1)), (g1 3, .inr (0, [.int 0, .int 0, .int 0, .int 0, .int 0, .int 0, .ref (g1 4), .ref (g1 5), .ref (g1 6), .ref (g1 7)]))]) [0, 1] rfl
  have hDc := hD.sub (ws' := [(g1 0, .inr (8, xF g1)), (g1 3, .inr (0, [.int 0, .int 0, .int 0, .int 0, .int 0, .int 0, .ref (g1 4), .ref (g1 5), .ref (g1 6), .ref (g1 7)]))]) [0, 1] (by decide) rfl
  have hFc := va_free (wc := [(g1 0, .inr (8, xF g1)), (g1 3, .inr (0, [.int 0, .int 0, .int 0, .int 0, .int 0, .int 0, .ref (g1 4), .ref (g1 5), .ref (g1 6), .ref (g1 7)]))]) hD hS hA [0, 1] rfl
  refine va_calli (va_runV (As := [.int (xs (1 : Int32).toNatClampNeg), .int (xs (2 : Int32).toNatClampNeg), .int (xs (3 : Int32).toNatClampNeg)]) (rest := []) ⟨hx, hb, hml, hown, hts⟩ (c_X8_pitch l D cy g1 (xs (1 : Int32).toNatClampNeg) (xs (2 : Int32).toNatClampNeg) (xs (3 : Int32).toNatClampNeg) H.size) (cwV 3 hts (gd_V q778 q779 q780 q125 q781) rfl rfl rfl (by decide +kernel) ⟨Nat.le_of_ble_eq_true rfl, Nat.le_of_ble_eq_true rfl⟩) (pr_V hPc hK hDc (va_recv hK hPc (ci := 8) (q0 := 0) rfl rfl)) rfl rfl hl.1 rfl (lv_room (Nat.le_of_ble_eq_true rfl)) dL_law_1991 ⟨Nat.le_of_ble_eq_true rfl, Nat.le_of_ble_eq_true rfl⟩) hS (fun q _ h => hFc q h) hFc (fun r_4 u tS H1 locs ht hvm hw hB hz1 hk1 hS => ?_)
  obtain ⟨hP1, hK1, hD1⟩ := hB
  rw [ht] at hP1
  try dsimp only at hw
  obtain ⟨hP, hD⟩ := va_join (wr := [(g2 60, .inr (9, mF g2)), (g2 17, .inl (cy 0, 25, .inl (fun _ => 0)))]) (w1 := [(g1 0, .inr (8, xF g1)), (g1 3, .inr (0, [.int 0, .int 0, .int 0, .int 0, .int 0, .int 0, .ref (g1 4), .ref (g1 5), .ref (g1 6), .ref (g1 7)]))]) hP hD [0, 1] [2, 3] rfl rfl (by decide) (by decide) hk1 hFc hP1 hD1
  generalize H1 = H at hP hS ⊢
  have hP : va_P D clz [(g2 60, .inr (9, mF g2)), (g2 17, .inl (cy 0, 25, .inl (fun _ => 0))), (g1 0, .inr (8, xF g1)), (g1 3, .inr (0, [.int 0, .int 0, .int 0, .int 0, .int 0, .int 0, .ref (g1 4), .ref (g1 5), .ref (g1 6), .ref (g1 7)]))] H := hP
  have hD : va_D (fun q : Nat => s.heap.size ≤ q) [(g2 60, .inr (9, mF g2)), (g2 17, .inl (cy 0, 25, .inl (fun _ => 0))), (g1 0, .inr (8, xF g1)), (g1 3, .inr (0, [.int 0, .int 0, .int 0, .int 0, .int 0, .int 0, .ref (g1 4), .ref (g1 5), .ref (g1 6), .ref (g1 7)]))] := hD
  subst hw
  refine lv_aload_n hx hb dL_law_1994 rfl (lv_at hl 1 rfl) ?_
  refine lv_aload_n hx hb dL_law_1995 rfl (lv_at hl 3 rfl) ?_
  refine lv_iload_n hx hb dL_law_1996 rfl (lv_at hl 0 rfl) ?_
  refine lv_iconst (v := 1) hx hb dL_law_1997 (by decide) ?_
  refine lv_iadd hx hb dL_law_1998 ?_
  refine lv_topi (fun x_5 ex_5 => ?_)
  obtain rfl : x_5 = 1 := ex_5.trans (by decide)
  refine va_sld hx hb hX hbl hbA hS (vpi (by decide)) dL_law_1999 ?_
  refine lv_aload_n hx hb dL_law_2000 rfl (lv_at hl 3 rfl) ?_
  refine lv_iload_n hx hb dL_law_2001 rfl (lv_at hl 0 rfl) ?_
  refine lv_iconst (v := 2) hx hb dL_law_2002 (by decide) ?_
  refine lv_iadd hx hb dL_law_2003 ?_
  refine lv_topi (fun x_6 ex_6 => ?_)
  obtain rfl : x_6 = 2 := ex_6.trans (by decide)
  refine va_sld hx hb hX hbl hbA hS (vpi (by decide)) dL_law_2004 ?_
  refine lv_aload_n hx hb dL_law_2005 rfl (lv_at hl 3 rfl) ?_
  refine lv_iload_n hx hb dL_law_2006 rfl (lv_at hl 0 rfl) ?_
  refine lv_iconst (v := 3) hx hb dL_law_2007 (by decide) ?_
  refine lv_iadd hx hb dL_law_2008 ?_
  refine lv_topi (fun x_7 ex_7 => ?_)
  obtain rfl : x_7 = 3 := ex_7.trans (by decide)
  refine va_sld hx hb hX hbl hbA hS (vpi (by decide)) dL_law_2009 ?_
  have hPc := hP.sub (ws' := [(g2 60, .inr (9, mF g2)), (g2 17, .inl (cy 0, 25, .inl (fun _ => 0)))]) [0, 1] rfl
  have hDc := hD.sub (ws' := [(g2 60, .inr (9, mF g2)), (g2 17, .inl (cy 0, 25, .inl (fun _ => 0)))]) [0, 1] (by decide) rfl
  have hFc := va_free (wc := [(g2 60, .inr (9, mF g2)), (g2 17, .inl (cy 0, 25, .inl (fun _ => 0)))]) hD hS hA [0, 1] rfl
  refine va_calli (va_runV (As := [.int (xs (1 : Int32).toNatClampNeg), .int (xs (2 : Int32).toNatClampNeg), .int (xs (3 : Int32).toNatClampNeg)]) (rest := [.int (-2)]) ⟨hx, hb, hml, hown, hts⟩ (c_X9_pitch l D cy g2 (xs (1 : Int32).toNatClampNeg) (xs (2 : Int32).toNatClampNeg) (xs (3 : Int32).toNatClampNeg) H.size) (cwV 3 hts (gd_V q2116 q2117 q2118 q134 q2119) rfl rfl rfl (by decide +kernel) ⟨Nat.le_of_ble_eq_true rfl, Nat.le_of_ble_eq_true rfl⟩) (pr_V hPc hK hDc (va_recv hK hPc (ci := 9) (q0 := 0) rfl rfl)) rfl rfl hl.1 rfl (lv_room (Nat.le_of_ble_eq_true rfl)) dL_law_2010 ⟨Nat.le_of_ble_eq_true rfl, Nat.le_of_ble_eq_true rfl⟩) hS (fun q _ h => hFc q h) hFc (fun r_8 u tS H1 locs ht hvm hw hB hz1 hk1 hS => ?_)
  obtain ⟨hP1, hK1, hD1⟩ := hB
  rw [ht] at hP1
  try dsimp only at hw
  obtain ⟨hP, hD⟩ := va_join (wr := [(g1 0, .inr (8, xF g1)), (g1 3, .inr (0, [.int 0, .int 0, .int 0, .int 0, .int 0, .int 0, .ref (g1 4), .ref (g1 5), .ref (g1 6), .ref (g1 7)]))]) (w1 := [(g2 60, .inr (9, mF g2)), (g2 17, .inl (cy 0, 25, .inl (fun _ => 0)))]) hP hD [0, 1] [2, 3] rfl rfl (by decide) (by decide) hk1 hFc hP1 hD1
  generalize H1 = H at hP hS ⊢
  have hP : va_P D clz [(g1 0, .inr (8, xF g1)), (g1 3, .inr (0, [.int 0, .int 0, .int 0, .int 0, .int 0, .int 0, .ref (g1 4), .ref (g1 5), .ref (g1 6), .ref (g1 7)])), (g2 60, .inr (9, mF g2)), (g2 17, .inl (cy 0, 25, .inl (fun _ => 0)))] H := hP
  have hD : va_D (fun q : Nat => s.heap.size ≤ q) [(g1 0, .inr (8, xF g1)), (g1 3, .inr (0, [.int 0, .int 0, .int 0, .int 0, .int 0, .int 0, .ref (g1 4), .ref (g1 5), .ref (g1 6), .ref (g1 7)])), (g2 60, .inr (9, mF g2)), (g2 17, .inl (cy 0, 25, .inl (fun _ => 0)))] := hD
  subst hw
  refine lv_icmp_eq (tgt := 2411) hx hb dL_law_2013 (by decide) (fun _ => ?_) (fun c9 => absurd c9 (by decide))
  exact law_end ⟨hx, hb, hr, hml, hown0, hts0, hX, hbl, hlocks, hgv⟩ _ _ _ hS (lv_sub hl [0, 3] rfl)

