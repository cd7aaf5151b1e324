theorem q1129 : Cond.methodLink RL 139 yX8_load ∈ lw_g := lw_gm (List.mem_of_getElem? (i := 1129) (by decide +kernel)) rfl
theorem q1130 : Cond.instanceMethod yX8_load ∈ lw_g := lw_gm (List.mem_of_getElem? (i := 1130) (by decide +kernel)) rfl
theorem q1131 : Cond.selects RX8 yX8_load yX8_load ∈ lw_g := lw_gm (List.mem_of_getElem? (i := 1131) (by decide +kernel)) rfl
theorem q1972 : Cond.methodLink RL 142 yX9_load ∈ lw_g := lw_gm (List.mem_of_getElem? (i := 1972) (by decide +kernel)) rfl
theorem q1973 : Cond.instanceMethod yX9_load ∈ lw_g := lw_gm (List.mem_of_getElem? (i := 1973) (by decide +kernel)) rfl
theorem q1974 : Cond.selects RX9 yX9_load yX9_load ∈ lw_g := lw_gm (List.mem_of_getElem? (i := 1974) (by decide +kernel)) rfl
theorem dL_law_1384 : decode cL_law 1384 = .ok (.aload_n 1, 1) := by decide +kernel
theorem dL_law_1385 : decode cL_law 1385 = .ok (.aload_n 0, 1) := by decide +kernel
theorem dL_law_1386 : decode cL_law 1386 = .ok (.iload_n 3, 1) := by decide +kernel
theorem dL_law_1387 : decode cL_law 1387 = .ok (.iconst 1, 1) := by decide +kernel
theorem dL_law_1388 : decode cL_law 1388 = .ok (.iadd, 1) := by decide +kernel
theorem dL_law_1389 : decode cL_law 1389 = .ok (.iaload, 1) := by decide +kernel
theorem dL_law_1390 : decode cL_law 1390 = .ok (.aload_n 0, 1) := by decide +kernel
theorem dL_law_1391 : decode cL_law 1391 = .ok (.iload_n 3, 1) := by decide +kernel
theorem dL_law_1392 : decode cL_law 1392 = .ok (.iconst 2, 1) := by decide +kernel
theorem dL_law_1393 : decode cL_law 1393 = .ok (.iadd, 1) := by decide +kernel
theorem dL_law_1394 : decode cL_law 1394 = .ok (.iaload, 1) := by decide +kernel
theorem dL_law_1395 : decode cL_law 1395 = .ok (.aload_n 0, 1) := by decide +kernel
theorem dL_law_1396 : decode cL_law 1396 = .ok (.iload_n 3, 1) := by decide +kernel
theorem dL_law_1397 : decode cL_law 1397 = .ok (.iconst 3, 1) := by decide +kernel
theorem dL_law_1398 : decode cL_law 1398 = .ok (.iadd, 1) := by decide +kernel
theorem dL_law_1399 : decode cL_law 1399 = .ok (.iaload, 1) := by decide +kernel
theorem dL_law_1400 : decode cL_law 1400 = .ok (.invokevirtual 139, 3) := by decide +kernel
theorem dL_law_1403 : decode cL_law 1403 = .ok (.pop, 1) := by decide +kernel
theorem dL_law_1404 : decode cL_law 1404 = .ok (.aload_n 2, 1) := by decide +kernel
theorem dL_law_1405 : decode cL_law 1405 = .ok (.aload_n 0, 1) := by decide +kernel
theorem dL_law_1406 : decode cL_law 1406 = .ok (.iload_n 3, 1) := by decide +kernel
theorem dL_law_1407 : decode cL_law 1407 = .ok (.iconst 1, 1) := by decide +kernel
theorem dL_law_1408 : decode cL_law 1408 = .ok (.iadd, 1) := by decide +kernel
theorem dL_law_1409 : decode cL_law 1409 = .ok (.iaload, 1) := by decide +kernel
theorem dL_law_1410 : decode cL_law 1410 = .ok (.aload_n 0, 1) := by decide +kernel
theorem dL_law_1411 : decode cL_law 1411 = .ok (.iload_n 3, 1) := by decide +kernel
theorem dL_law_1412 : decode cL_law 1412 = .ok (.iconst 2, 1) := by decide +kernel
theorem dL_law_1413 : decode cL_law 1413 = .ok (.iadd, 1) := by decide +kernel
theorem dL_law_1414 : decode cL_law 1414 = .ok (.iaload, 1) := by decide +kernel
theorem dL_law_1415 : decode cL_law 1415 = .ok (.aload_n 0, 1) := by decide +kernel
theorem dL_law_1416 : decode cL_law 1416 = .ok (.iload_n 3, 1) := by decide +kernel
theorem dL_law_1417 : decode cL_law 1417 = .ok (.iconst 3, 1) := by decide +kernel
theorem dL_law_1418 : decode cL_law 1418 = .ok (.iadd, 1) := by decide +kernel
theorem dL_law_1419 : decode cL_law 1419 = .ok (.iaload, 1) := by decide +kernel
theorem dL_law_1420 : decode cL_law 1420 = .ok (.invokevirtual 142, 3) := by decide +kernel
theorem dL_law_1423 : decode cL_law 1423 = .ok (.pop, 1) := by decide +kernel
theorem dL_law_1424 : decode cL_law 1424 = .ok (.goto 987, 3) := by decide +kernel
set_option maxHeartbeats 4000000 in
set_option maxRecDepth 100000 in
theorem lawc_30 {p : Program} {l : Launch} {e : Env} {s : State} {m : MethodId} {below : List Frame} {meth : Method} {c : Code} {b L : Nat} {xs : Nat → Int32} {D : va_G} {cy : Nat → ClassId} {g1 g2 : Nat → Nat} (X : LX p s m meth c b L xs D cy g1 g2) (hL : L ≤ 3072) {i : Int32} (hi : (0 : Int) ≤ i.toInt ∧ i.toInt + 6 ≤ (L : Int)) (hnext : (∀ (σ8 σ9 : ST) (H : Heap) (locs : List Loc) (ls : Array Slot), J8 σ8 → J9 (σ9 9) → DKA (σ9 9) → KP σ8 (σ9 9) → va_P D clz (WD8 cy g1 σ8) H → va_P D clz (WD9 cy g2 σ9) H → va_S (lawA s) s.heap H locs → lv_has ls 4 [(3, .int i), (2, .ref (g2 60)), (1, .ref (gO g1 17)), (0, .ref b)] → W p l e room_1 s m #[Value.ref b] below meth c H locs 200 700000 (lw_Z below #[Value.ref b] s) (F0 m 2411 ls []))) (σ8 σ9 : ST) (H : Heap) (locs : List Loc) (ls : Array Slot) (hJ8 : J8 σ8) (hJ9 : J9 (σ9 9)) (hDK : DKA (σ9 9)) (hR : KP σ8 (σ9 9)) (hP8 : va_P D clz (WD8 cy g1 σ8) H) (hP9 : va_P D clz (WD9 cy g2 σ9) H) (hS : va_S (lawA s) s.heap H locs) (hl : lv_has ls 4 [(3, .int i), (2, .ref (g2 60)), (1, .ref (gO g1 17)), (0, .ref b)]) : W p l e room_1 s m #[Value.ref b] below meth c H locs 200 700000 (lw_Z below #[Value.ref b] s) (F0 m 1384 ls []) := by
  obtain ⟨⟨hx, hb, hr, hml, hown0, hts0, hX, hbl, hlocks, hgv⟩, hK, hDD, hC8, hC9⟩ := X
  have hown : s.vm.findClass RL = some m.cls := hown0
  have hts : ∀ w ∈ lw_g, w.before #[Value.ref b] s = true := fun w h => hts0 w (lw_gt h)
  have hbA : ¬ lawA s b := Nat.not_le.mpr hbl
  have hA8 := A8_law hDD
  have hA9 := A9_law hDD
  have hD8 : ∀ τ : ST, va_D (A8 cy g1 s.heap.size) (WD8 cy g1 τ) := fun τ => by rw [hA8]; exact map_D WD8_m (D_l hDD)
  have hD9 : ∀ τ : ST, va_D (A9 cy g2 s.heap.size) (WD9 cy g2 τ) := fun τ => by rw [hA9]; exact map_D WD9_m (D_r hDD)
  rw [← hA8] at hC8
  rw [← hA9] at hC9
  refine lv_aload_n hx hb dL_law_1384 rfl (lv_at hl 2 rfl) ?_
  refine lv_aload_n hx hb dL_law_1385 rfl (lv_at hl 3 rfl) ?_
  refine lv_iload_n hx hb dL_law_1386 rfl (lv_at hl 0 rfl) ?_
  refine lv_iconst (v := 1) hx hb dL_law_1387 (by decide) ?_
  refine lv_iadd hx hb dL_law_1388 ?_
  refine lv_topi (fun x1 ex1 => ?_)
  have t2 := addO ex1 (by have f0 := hi; have f1 := hL; have z1 : (1 : Int32).toInt = 1 := (by decide); omega)
  refine va_sld hx hb hX hbl hbA hS (vpo (by have f0 := t2; have f1 := hi; have f2 := hL; have g0 := rg32 x1; have z1 : (1 : Int32).toInt = 1 := (by decide); omega)) dL_law_1389 ?_
  refine lv_topi (fun x3 ex3 => ?_)
  refine lv_aload_n hx hb dL_law_1390 rfl (lv_at hl 3 rfl) ?_
  refine lv_iload_n hx hb dL_law_1391 rfl (lv_at hl 0 rfl) ?_
  refine lv_iconst (v := 2) hx hb dL_law_1392 (by decide) ?_
  refine lv_iadd hx hb dL_law_1393 ?_
  refine lv_topi (fun x4 ex4 => ?_)
  have t5 := addO ex4 (by have f0 := hi; have f1 := hL; have f2 := t2; have z1 : (1 : Int32).toInt = 1 := (by decide); have z2 : (2 : Int32).toInt = 2 := (by decide); omega)
  refine va_sld hx hb hX hbl hbA hS (vpo (by have f0 := t5; have f1 := hi; have f2 := hL; have f3 := t2; have g0 := rg32 x4; have z1 : (1 : Int32).toInt = 1 := (by decide); have z2 : (2 : Int32).toInt = 2 := (by decide); omega)) dL_law_1394 ?_
  refine lv_topi (fun x6 ex6 => ?_)
  refine lv_aload_n hx hb dL_law_1395 rfl (lv_at hl 3 rfl) ?_
  refine lv_iload_n hx hb dL_law_1396 rfl (lv_at hl 0 rfl) ?_
  refine lv_iconst (v := 3) hx hb dL_law_1397 (by decide) ?_
  refine lv_iadd hx hb dL_law_1398 ?_
  refine lv_topi (fun x7 ex7 => ?_)
  have t8 := addO ex7 (by have f0 := hi; have f1 := hL; have f2 := t2; have f3 := t5; have z1 : (1 : Int32).toInt = 1 := (by decide); have z2 : (2 : Int32).toInt = 2 := (by decide); have z3 : (3 : Int32).toInt = 3 := (by decide); omega)
  refine va_sld hx hb hX hbl hbA hS (vpo (by have f0 := t8; have f1 := hi; have f2 := hL; have f3 := t2; have f4 := t5; have g0 := rg32 x7; have z1 : (1 : Int32).toInt = 1 := (by decide); have z2 : (2 : Int32).toInt = 2 := (by decide); have z3 : (3 : Int32).toInt = 3 := (by decide); omega)) dL_law_1399 ?_
  refine lv_topi (fun x9 ex9 => ?_)
  have hSx : va_S (A8 cy g1 s.heap.size) s.heap H locs := by rw [hA8]; exact hS
  refine va_calli (va_runV (As := [.int x3, .int x6, .int x9]) (rest := []) ⟨hx, hb, hml, hown, hts⟩ (m_X8_load l D cy g1 σ8 x3 x6 x9 _ hJ8) (cwV 3 hts (gd_V q1129 q1130 q1131 q125 q1132) rfl rfl rfl (by decide +kernel) ⟨Nat.le_of_ble_eq_true rfl, Nat.le_of_ble_eq_true rfl⟩) (pv8 hP8 hK hD8 hC8 hSx (rv8_8 hK hP8)) rfl rfl hl.1 rfl (lv_room (Nat.le_of_ble_eq_true rfl)) dL_law_1400 ⟨Nat.le_of_ble_eq_true rfl, Nat.le_of_ble_eq_true rfl⟩) hSx (fun q _ h => up8 hSx q h) (up8 hSx) (fun r10 υ11 tS H1 locs ht hvm hw12 hB hz1 hk1 hSy => ?_)
  have hP8 : va_P D clz (WD8 cy g1 υ11) H1 := by rw [← ht]; exact hB
  have hP9 := kp9 hDD hP9 hk1
  have hS : va_S (lawA s) s.heap H1 locs := by rw [← hA8]; exact hSy
  clear hB hz1 hk1 hvm ht hSx hSy
  generalize H1 = H at hP8 hP9 hS ⊢
  have hJ13 : J8 υ11 := hw12.2.1
  have hR14 : KP υ11 (σ9 9) := KP.fr8 hR (show Fr (fO [11, 13]) σ8 υ11 from hw12.1) (by decide)
  refine lv_pop hx hb dL_law_1403 rfl ?_
  refine lv_aload_n hx hb dL_law_1404 rfl (lv_at hl 1 rfl) ?_
  refine lv_aload_n hx hb dL_law_1405 rfl (lv_at hl 3 rfl) ?_
  refine lv_iload_n hx hb dL_law_1406 rfl (lv_at hl 0 rfl) ?_
  refine lv_iconst (v := 1) hx hb dL_law_1407 (by decide) ?_
  refine lv_iadd hx hb dL_law_1408 ?_
  refine lv_topi (fun x15 ex15 => ?_)
  have t16 := addO ex15 (by have f0 := hi; have f1 := hL; have f2 := t2; have f3 := t5; have f4 := t8; have z1 : (1 : Int32).toInt = 1 := (by decide); have z2 : (2 : Int32).toInt = 2 := (by decide); have z3 : (3 : Int32).toInt = 3 := (by decide); omega)
  refine va_sld hx hb hX hbl hbA hS (vpo (by have f0 := t16; have f1 := hi; have f2 := hL; have f3 := t2; have f4 := t5; have f5 := t8; have g0 := rg32 x15; have z1 : (1 : Int32).toInt = 1 := (by decide); have z2 : (2 : Int32).toInt = 2 := (by decide); have z3 : (3 : Int32).toInt = 3 := (by decide); omega)) dL_law_1409 ?_
  refine lv_topi (fun x17 ex17 => ?_)
  refine lv_aload_n hx hb dL_law_1410 rfl (lv_at hl 3 rfl) ?_
  refine lv_iload_n hx hb dL_law_1411 rfl (lv_at hl 0 rfl) ?_
  refine lv_iconst (v := 2) hx hb dL_law_1412 (by decide) ?_
  refine lv_iadd hx hb dL_law_1413 ?_
  refine lv_topi (fun x18 ex18 => ?_)
  have t19 := addO ex18 (by have f0 := hi; have f1 := hL; have f2 := t2; have f3 := t5; have f4 := t8; have f5 := t16; have z1 : (1 : Int32).toInt = 1 := (by decide); have z2 : (2 : Int32).toInt = 2 := (by decide); have z3 : (3 : Int32).toInt = 3 := (by decide); omega)
  refine va_sld hx hb hX hbl hbA hS (vpo (by have f0 := t19; have f1 := hi; have f2 := hL; have f3 := t2; have f4 := t5; have f5 := t8; have f6 := t16; have g0 := rg32 x18; have z1 : (1 : Int32).toInt = 1 := (by decide); have z2 : (2 : Int32).toInt = 2 := (by decide); have z3 : (3 : Int32).toInt = 3 := (by decide); omega)) dL_law_1414 ?_
  refine lv_topi (fun x20 ex20 => ?_)
  refine lv_aload_n hx hb dL_law_1415 rfl (lv_at hl 3 rfl) ?_
  refine lv_iload_n hx hb dL_law_1416 rfl (lv_at hl 0 rfl) ?_
  refine lv_iconst (v := 3) hx hb dL_law_1417 (by decide) ?_
  refine lv_iadd hx hb dL_law_1418 ?_
  refine lv_topi (fun x21 ex21 => ?_)
  have t22 := addO ex21 (by have f0 := hi; have f1 := hL; have f2 := t2; have f3 := t5; have f4 := t8; have f5 := t16; have f6 := t19; have z1 : (1 : Int32).toInt = 1 := (by decide); have z2 : (2 : Int32).toInt = 2 := (by decide); have z3 : (3 : Int32).toInt = 3 := (by decide); omega)
  refine va_sld hx hb hX hbl hbA hS (vpo (by have f0 := t22; have f1 := hi; have f2 := hL; have f3 := t2; have f4 := t5; have f5 := t8; have f6 := t16; have f7 := t19; have g0 := rg32 x21; have z1 : (1 : Int32).toInt = 1 := (by decide); have z2 : (2 : Int32).toInt = 2 := (by decide); have z3 : (3 : Int32).toInt = 3 := (by decide); omega)) dL_law_1419 ?_
  refine lv_topi (fun x23 ex23 => ?_)
  have hSx : va_S (A9 cy g2 s.heap.size) s.heap H locs := by rw [hA9]; exact hS
  refine va_calli (va_runV (As := [.int x17, .int x20, .int x23]) (rest := []) ⟨hx, hb, hml, hown, hts⟩ (m_X9_load l D cy g2 σ9 x17 x20 x23 _ hJ9 (DKA.zero hDK)) (cwV 3 hts (gd_V q1972 q1973 q1974 q134 q1975) rfl rfl rfl (by decide +kernel) ⟨Nat.le_of_ble_eq_true rfl, Nat.le_of_ble_eq_true rfl⟩) (pv9 hP9 hK hD9 hC9 hSx (va_recv hK hP9 (ci := 9) (q0 := 0) rfl rfl)) rfl rfl hl.1 rfl (lv_room (Nat.le_of_ble_eq_true rfl)) dL_law_1420 ⟨Nat.le_of_ble_eq_true rfl, Nat.le_of_ble_eq_true rfl⟩) hSx (fun q _ h => up9 hSx q h) (up9 hSx) (fun r24 υ25 tS H1 locs ht hvm hw26 hB hz1 hk1 hSy => ?_)
  have hP9 : va_P D clz (WD9 cy g2 υ25) H1 := by rw [← ht]; exact hB
  have hP8 := kp8 hDD hP8 hk1
  have hS : va_S (lawA s) s.heap H1 locs := by rw [← hA9]; exact hSy
  clear hB hz1 hk1 hvm ht hSx hSy
  generalize H1 = H at hP8 hP9 hS ⊢
  have hF27 : Fr (fL [0, 23, 24, 25, 26, 27, 28, 29, 30, 31, 32, 33, 34, 35, 36, 37, 38, 39, 40, 41, 49]) σ9 υ25 := hw26.1
  have hJ28 : J9 (υ25 9) := hw26.2.1
  have hK29 : DKA (υ25 9) := DKA.mv hDK (hF27 9 17 rfl).2.2.1 (hF27 9 18 rfl).2.2.1 (hF27 9 19 rfl).2.2.1
  have hR30 : KP υ11 (υ25 9) := KP.fr9 hR14 (hF27 9 22 rfl).2.2.1
  refine lv_pop hx hb dL_law_1423 rfl ?_
  refine lv_goto (tgt := 2411) hx hb dL_law_1424 (by decide) ?_
  exact hnext _ _ _ _ _ hJ13 hJ28 hK29 hR30 hP8 hP9 hS hl

theorem q1143 : Cond.methodLink RL 143 yX8_tired ∈ lw_g := lw_gm (List.mem_of_getElem? (i := 1143) (by decide +kernel)) rfl
theorem q1144 : Cond.instanceMethod yX8_tired ∈ lw_g := lw_gm (List.mem_of_getElem? (i := 1144) (by decide +kernel)) rfl
theorem q1145 : Cond.selects RX8 yX8_tired yX8_tired ∈ lw_g := lw_gm (List.mem_of_getElem? (i := 1145) (by decide +kernel)) rfl
theorem q1980 : Cond.methodLink RL 146 yX9_tired ∈ lw_g := lw_gm (List.mem_of_getElem? (i := 1980) (by decide +kernel)) rfl
theorem q1981 : Cond.instanceMethod yX9_tired ∈ lw_g := lw_gm (List.mem_of_getElem? (i := 1981) (by decide +kernel)) rfl
theorem q1982 : Cond.selects RX9 yX9_tired yX9_tired ∈ lw_g := lw_gm (List.mem_of_getElem? (i := 1982) (by decide +kernel)) rfl
theorem dL_law_1427 : decode cL_law 1427 = .ok (.aload_n 1, 1) := by decide +kernel
theorem dL_law_1428 : decode cL_law 1428 = .ok (.aload_n 0, 1) := by decide +kernel
theorem dL_law_1429 : decode cL_law 1429 = .ok (.iload_n 3, 1) := by decide +kernel
theorem dL_law_1430 : decode cL_law 1430 = .ok (.iconst 1, 1) := by decide +kernel
theorem dL_law_1431 : decode cL_law 1431 = .ok (.iadd, 1) := by decide +kernel
theorem dL_law_1432 : decode cL_law 1432 = .ok (.iaload, 1) := by decide +kernel
theorem dL_law_1433 : decode cL_law 1433 = .ok (.aload_n 0, 1) := by decide +kernel
theorem dL_law_1434 : decode cL_law 1434 = .ok (.iload_n 3, 1) := by decide +kernel
theorem dL_law_1435 : decode cL_law 1435 = .ok (.iconst 2, 1) := by decide +kernel
theorem dL_law_1436 : decode cL_law 1436 = .ok (.iadd, 1) := by decide +kernel
theorem dL_law_1437 : decode cL_law 1437 = .ok (.iaload, 1) := by decide +kernel
theorem dL_law_1438 : decode cL_law 1438 = .ok (.invokevirtual 143, 3) := by decide +kernel
theorem dL_law_1441 : decode cL_law 1441 = .ok (.pop, 1) := by decide +kernel
theorem dL_law_1442 : decode cL_law 1442 = .ok (.aload_n 2, 1) := by decide +kernel
theorem dL_law_1443 : decode cL_law 1443 = .ok (.aload_n 0, 1) := by decide +kernel
theorem dL_law_1444 : decode cL_law 1444 = .ok (.iload_n 3, 1) := by decide +kernel
theorem dL_law_1445 : decode cL_law 1445 = .ok (.iconst 1, 1) := by decide +kernel
theorem dL_law_1446 : decode cL_law 1446 = .ok (.iadd, 1) := by decide +kernel
theorem dL_law_1447 : decode cL_law 1447 = .ok (.iaload, 1) := by decide +kernel
theorem dL_law_1448 : decode cL_law 1448 = .ok (.aload_n 0, 1) := by decide +kernel
theorem dL_law_1449 : decode cL_law 1449 = .ok (.iload_n 3, 1) := by decide +kernel
theorem dL_law_1450 : decode cL_law 1450 = .ok (.iconst 2, 1) := by decide +kernel
theorem dL_law_1451 : decode cL_law 1451 = .ok (.iadd, 1) := by decide +kernel
theorem dL_law_1452 : decode cL_law 1452 = .ok (.iaload, 1) := by decide +kernel
theorem dL_law_1453 : decode cL_law 1453 = .ok (.invokevirtual 146, 3) := by decide +kernel
theorem dL_law_1456 : decode cL_law 1456 = .ok (.pop, 1) := by decide +kernel
theorem dL_law_1457 : decode cL_law 1457 = .ok (.goto 954, 3) := by decide +kernel
set_option maxHeartbeats 4000000 in
set_option maxRecDepth 100000 in
theorem lawc_31 {p : Program} {l : Launch} {e : Env} {s : State} {m : MethodId} {below : List Frame} {meth : Method} {c : Code} {b L : Nat} {xs : Nat → Int32} {D : va_G} {cy : Nat → ClassId} {g1 g2 : Nat → Nat} (X : LX p s m meth c b L xs D cy g1 g2) (hL : L ≤ 3072) {i : Int32} (hi : (0 : Int) ≤ i.toInt ∧ i.toInt + 6 ≤ (L : Int)) (hnext : (∀ (σ8 σ9 : ST) (H : Heap) (locs : List Loc) (ls : Array Slot), J8 σ8 → J9 (σ9 9) → DKA (σ9 9) → KP σ8 (σ9 9) → va_P D clz (WD8 cy g1 σ8) H → va_P D clz (WD9 cy g2 σ9) H → va_S (lawA s) s.heap H locs → lv_has ls 4 [(3, .int i), (2, .ref (g2 60)), (1, .ref (gO g1 17)), (0, .ref b)] → W p l e room_1 s m #[Value.ref b] below meth c H locs 200 700000 (lw_Z below #[Value.ref b] s) (F0 m 2411 ls []))) (σ8 σ9 : ST) (H : Heap) (locs : List Loc) (ls : Array Slot) (hJ8 : J8 σ8) (hJ9 : J9 (σ9 9)) (hDK : DKA (σ9 9)) (hR : KP σ8 (σ9 9)) (hP8 : va_P D clz (WD8 cy g1 σ8) H) (hP9 : va_P D clz (WD9 cy g2 σ9) H) (hS : va_S (lawA s) s.heap H locs) (hl : lv_has ls 4 [(3, .int i), (2, .ref (g2 60)), (1, .ref (gO g1 17)), (0, .ref b)]) : W p l e room_1 s m #[Value.ref b] below meth c H locs 200 700000 (lw_Z below #[Value.ref b] s) (F0 m 1427 ls []) := by
  obtain ⟨⟨hx, hb, hr, hml, hown0, hts0, hX, hbl, hlocks, hgv⟩, hK, hDD, hC8, hC9⟩ := X
  have hown : s.vm.findClass RL = some m.cls := hown0
  have hts : ∀ w ∈ lw_g, w.before #[Value.ref b] s = true := fun w h => hts0 w (lw_gt h)
  have hbA : ¬ lawA s b := Nat.not_le.mpr hbl
  have hA8 := A8_law hDD
  have hA9 := A9_law hDD
  have hD8 : ∀ τ : ST, va_D (A8 cy g1 s.heap.size) (WD8 cy g1 τ) := fun τ => by rw [hA8]; exact map_D WD8_m (D_l hDD)
  have hD9 : ∀ τ : ST, va_D (A9 cy g2 s.heap.size) (WD9 cy g2 τ) := fun τ => by rw [hA9]; exact map_D WD9_m (D_r hDD)
  rw [← hA8] at hC8
  rw [← hA9] at hC9
  refine lv_aload_n hx hb dL_law_1427 rfl (lv_at hl 2 rfl) ?_
  refine lv_aload_n hx hb dL_law_1428 rfl (lv_at hl 3 rfl) ?_
  refine lv_iload_n hx hb dL_law_1429 rfl (lv_at hl 0 rfl) ?_
  refine lv_iconst (v := 1) hx hb dL_law_1430 (by decide) ?_
  refine lv_iadd hx hb dL_law_1431 ?_
  refine lv_topi (fun x1 ex1 => ?_)
  have t2 := addO ex1 (by have f0 := hi; have f1 := hL; have z1 : (1 : Int32).toInt = 1 := (by decide); omega)
  refine va_sld hx hb hX hbl hbA hS (vpo (by have f0 := t2; have f1 := hi; have f2 := hL; have g0 := rg32 x1; have z1 : (1 : Int32).toInt = 1 := (by decide); omega)) dL_law_1432 ?_
  refine lv_topi (fun x3 ex3 => ?_)
  refine lv_aload_n hx hb dL_law_1433 rfl (lv_at hl 3 rfl) ?_
  refine lv_iload_n hx hb dL_law_1434 rfl (lv_at hl 0 rfl) ?_
  refine lv_iconst (v := 2) hx hb dL_law_1435 (by decide) ?_
  refine lv_iadd hx hb dL_law_1436 ?_
  refine lv_topi (fun x4 ex4 => ?_)
  have t5 := addO ex4 (by have f0 := hi; have f1 := hL; have f2 := t2; have z1 : (1 : Int32).toInt = 1 := (by decide); have z2 : (2 : Int32).toInt = 2 := (by decide); omega)
  refine va_sld hx hb hX hbl hbA hS (vpo (by have f0 := t5; have f1 := hi; have f2 := hL; have f3 := t2; have g0 := rg32 x4; have z1 : (1 : Int32).toInt = 1 := (by decide); have z2 : (2 : Int32).toInt = 2 := (by decide); omega)) dL_law_1437 ?_
  refine lv_topi (fun x6 ex6 => ?_)
  have hSx : va_S (A8 cy g1 s.heap.size) s.heap H locs := by rw [hA8]; exact hS
  refine va_calli (va_runV (As := [.int x3, .int x6]) (rest := []) ⟨hx, hb, hml, hown, hts⟩ (m_X8_tired l D cy g1 σ8 x3 x6 _ hJ8) (cwV 2 hts (gd_V q1143 q1144 q1145 q125 q1146) rfl rfl rfl (by decide +kernel) ⟨Nat.le_of_ble_eq_true rfl, Nat.le_of_ble_eq_true rfl⟩) (pv8 hP8 hK hD8 hC8 hSx (rv8_8 hK hP8)) rfl rfl hl.1 rfl (lv_room (Nat.le_of_ble_eq_true rfl)) dL_law_1438 ⟨Nat.le_of_ble_eq_true rfl, Nat.le_of_ble_eq_true rfl⟩) hSx (fun q _ h => up8 hSx q h) (up8 hSx) (fun r7 υ8 tS H1 locs ht hvm hw9 hB hz1 hk1 hSy => ?_)
  have hP8 : va_P D clz (WD8 cy g1 υ8) H1 := by rw [← ht]; exact hB
  have hP9 := kp9 hDD hP9 hk1
  have hS : va_S (lawA s) s.heap H1 locs := by rw [← hA8]; exact hSy
  clear hB hz1 hk1 hvm ht hSx hSy
  generalize H1 = H at hP8 hP9 hS ⊢
  have hJ10 : J8 υ8 := hw9.2.1
  have hR11 : KP υ8 (σ9 9) := KP.fr8 hR (show Fr (fO [11, 13]) σ8 υ8 from hw9.1) (by decide)
  refine lv_pop hx hb dL_law_1441 rfl ?_
  refine lv_aload_n hx hb dL_law_1442 rfl (lv_at hl 1 rfl) ?_
  refine lv_aload_n hx hb dL_law_1443 rfl (lv_at hl 3 rfl) ?_
  refine lv_iload_n hx hb dL_law_1444 rfl (lv_at hl 0 rfl) ?_
  refine lv_iconst (v := 1) hx hb dL_law_1445 (by decide) ?_
  refine lv_iadd hx hb dL_law_1446 ?_
  refine lv_topi (fun x12 ex12 => ?_)
  have t13 := addO ex12 (by have f0 := hi; have f1 := hL; have f2 := t2; have f3 := t5; have z1 : (1 : Int32).toInt = 1 := (by decide); have z2 : (2 : Int32).toInt = 2 := (by decide); omega)
  refine va_sld hx hb hX hbl hbA hS (vpo (by have f0 := t13; have f1 := hi; have f2 := hL; have f3 := t2; have f4 := t5; have g0 := rg32 x12; have z1 : (1 : Int32).toInt = 1 := (by decide); have z2 : (2 : Int32).toInt = 2 := (by decide); omega)) dL_law_1447 ?_
  refine lv_topi (fun x14 ex14 => ?_)
  refine lv_aload_n hx hb dL_law_1448 rfl (lv_at hl 3 rfl) ?_
  refine lv_iload_n hx hb dL_law_1449 rfl (lv_at hl 0 rfl) ?_
  refine lv_iconst (v := 2) hx hb dL_law_1450 (by decide) ?_
  refine lv_iadd hx hb dL_law_1451 ?_
  refine lv_topi (fun x15 ex15 => ?_)
  have t16 := addO ex15 (by have f0 := hi; have f1 := hL; have f2 := t2; have f3 := t5; have f4 := t13; have z1 : (1 : Int32).toInt = 1 := (by decide); have z2 : (2 : Int32).toInt = 2 := (by decide); omega)
  refine va_sld hx hb hX hbl hbA hS (vpo (by have f0 := t16; have f1 := hi; have f2 := hL; have f3 := t2; have f4 := t5; have f5 := t13; have g0 := rg32 x15; have z1 : (1 : Int32).toInt = 1 := (by decide); have z2 : (2 : Int32).toInt = 2 := (by decide); omega)) dL_law_1452 ?_
  refine lv_topi (fun x17 ex17 => ?_)
  have hSx : va_S (A9 cy g2 s.heap.size) s.heap H locs := by rw [hA9]; exact hS
  refine va_calli (va_runV (As := [.int x14, .int x17]) (rest := []) ⟨hx, hb, hml, hown, hts⟩ (m_X9_tired l D cy g2 σ9 x14 x17 _ hJ9 (DKA.zero hDK)) (cwV 2 hts (gd_V q1980 q1981 q1982 q134 q1983) rfl rfl rfl (by decide +kernel) ⟨Nat.le_of_ble_eq_true rfl, Nat.le_of_ble_eq_true rfl⟩) (pv9 hP9 hK hD9 hC9 hSx (va_recv hK hP9 (ci := 9) (q0 := 0) rfl rfl)) rfl rfl hl.1 rfl (lv_room (Nat.le_of_ble_eq_true rfl)) dL_law_1453 ⟨Nat.le_of_ble_eq_true rfl, Nat.le_of_ble_eq_true rfl⟩) hSx (fun q _ h => up9 hSx q h) (up9 hSx) (fun r18 υ19 tS H1 locs ht hvm hw20 hB hz1 hk1 hSy => ?_)
  have hP9 : va_P D clz (WD9 cy g2 υ19) H1 := by rw [← ht]; exact hB
  have hP8 := kp8 hDD hP8 hk1
  have hS : va_S (lawA s) s.heap H1 locs := by rw [← hA9]; exact hSy
  clear hB hz1 hk1 hvm ht hSx hSy
  generalize H1 = H at hP8 hP9 hS ⊢
  have hF21 : Fr (fL [0, 23, 24, 25, 26, 27, 28, 29, 30, 31, 32, 33, 34, 35, 36, 37, 38, 39, 40, 41, 49]) σ9 υ19 := hw20.1
  have hJ22 : J9 (υ19 9) := hw20.2.1
  have hK23 : DKA (υ19 9) := DKA.mv hDK (hF21 9 17 rfl).2.2.1 (hF21 9 18 rfl).2.2.1 (hF21 9 19 rfl).2.2.1
  have hR24 : KP υ8 (υ19 9) := KP.fr9 hR11 (hF21 9 22 rfl).2.2.1
  refine lv_pop hx hb dL_law_1456 rfl ?_
  refine lv_goto (tgt := 2411) hx hb dL_law_1457 (by decide) ?_
  exact hnext _ _ _ _ _ hJ10 hJ22 hK23 hR24 hP8 hP9 hS hl

theorem q1151 : Cond.methodLink RL 147 yX8_spared ∈ lw_g := lw_gm (List.mem_of_getElem? (i := 1151) (by decide +kernel)) rfl
theorem q1152 : Cond.instanceMethod yX8_spared ∈ lw_g := lw_gm (List.mem_of_getElem? (i := 1152) (by decide +kernel)) rfl
theorem q1153 : Cond.selects RX8 yX8_spared yX8_spared ∈ lw_g := lw_gm (List.mem_of_getElem? (i := 1153) (by decide +kernel)) rfl
theorem q1988 : Cond.methodLink RL 150 yX9_spared ∈ lw_g := lw_gm (List.mem_of_getElem? (i := 1988) (by decide +kernel)) rfl
theorem q1989 : Cond.instanceMethod yX9_spared ∈ lw_g := lw_gm (List.mem_of_getElem? (i := 1989) (by decide +kernel)) rfl
theorem q1990 : Cond.selects RX9 yX9_spared yX9_spared ∈ lw_g := lw_gm (List.mem_of_getElem? (i := 1990) (by decide +kernel)) rfl
theorem dL_law_1460 : decode cL_law 1460 = .ok (.aload_n 1, 1) := by decide +kernel
theorem dL_law_1461 : decode cL_law 1461 = .ok (.aload_n 0, 1) := by decide +kernel
theorem dL_law_1462 : decode cL_law 1462 = .ok (.iload_n 3, 1) := by decide +kernel
theorem dL_law_1463 : decode cL_law 1463 = .ok (.iconst 1, 1) := by decide +kernel
theorem dL_law_1464 : decode cL_law 1464 = .ok (.iadd, 1) := by decide +kernel
theorem dL_law_1465 : decode cL_law 1465 = .ok (.iaload, 1) := by decide +kernel
theorem dL_law_1466 : decode cL_law 1466 = .ok (.aload_n 0, 1) := by decide +kernel
theorem dL_law_1467 : decode cL_law 1467 = .ok (.iload_n 3, 1) := by decide +kernel
theorem dL_law_1468 : decode cL_law 1468 = .ok (.iconst 2, 1) := by decide +kernel
theorem dL_law_1469 : decode cL_law 1469 = .ok (.iadd, 1) := by decide +kernel
theorem dL_law_1470 : decode cL_law 1470 = .ok (.iaload, 1) := by decide +kernel
theorem dL_law_1471 : decode cL_law 1471 = .ok (.invokevirtual 147, 3) := by decide +kernel
theorem dL_law_1474 : decode cL_law 1474 = .ok (.pop, 1) := by decide +kernel
theorem dL_law_1475 : decode cL_law 1475 = .ok (.aload_n 2, 1) := by decide +kernel
theorem dL_law_1476 : decode cL_law 1476 = .ok (.aload_n 0, 1) := by decide +kernel
theorem dL_law_1477 : decode cL_law 1477 = .ok (.iload_n 3, 1) := by decide +kernel
theorem dL_law_1478 : decode cL_law 1478 = .ok (.iconst 1, 1) := by decide +kernel
theorem dL_law_1479 : decode cL_law 1479 = .ok (.iadd, 1) := by decide +kernel
theorem dL_law_1480 : decode cL_law 1480 = .ok (.iaload, 1) := by decide +kernel
theorem dL_law_1481 : decode cL_law 1481 = .ok (.aload_n 0, 1) := by decide +kernel
theorem dL_law_1482 : decode cL_law 1482 = .ok (.iload_n 3, 1) := by decide +kernel
theorem dL_law_1483 : decode cL_law 1483 = .ok (.iconst 2, 1) := by decide +kernel
theorem dL_law_1484 : decode cL_law 1484 = .ok (.iadd, 1) := by decide +kernel
theorem dL_law_1485 : decode cL_law 1485 = .ok (.iaload, 1) := by decide +kernel
theorem dL_law_1486 : decode cL_law 1486 = .ok (.invokevirtual 150, 3) := by decide +kernel
theorem dL_law_1489 : decode cL_law 1489 = .ok (.pop, 1) := by decide +kernel
theorem dL_law_1490 : decode cL_law 1490 = .ok (.goto 921, 3) := by decide +kernel
set_option maxHeartbeats 4000000 in
set_option maxRecDepth 100000 in
theorem lawc_32 {p : Program} {l : Launch} {e : Env} {s : State} {m : MethodId} {below : List Frame} {meth : Method} {c : Code} {b L : Nat} {xs : Nat → Int32} {D : va_G} {cy : Nat → ClassId} {g1 g2 : Nat → Nat} (X : LX p s m meth c b L xs D cy g1 g2) (hL : L ≤ 3072) {i : Int32} (hi : (0 : Int) ≤ i.toInt ∧ i.toInt + 6 ≤ (L : Int)) (hnext : (∀ (σ8 σ9 : ST) (H : Heap) (locs : List Loc) (ls : Array Slot), J8 σ8 → J9 (σ9 9) → DKA (σ9 9) → KP σ8 (σ9 9) → va_P D clz (WD8 cy g1 σ8) H → va_P D clz (WD9 cy g2 σ9) H → va_S (lawA s) s.heap H locs → lv_has ls 4 [(3, .int i), (2, .ref (g2 60)), (1, .ref (gO g1 17)), (0, .ref b)] → W p l e room_1 s m #[Value.ref b] below meth c H locs 200 700000 (lw_Z below #[Value.ref b] s) (F0 m 2411 ls []))) (σ8 σ9 : ST) (H : Heap) (locs : List Loc) (ls : Array Slot) (hJ8 : J8 σ8) (hJ9 : J9 (σ9 9)) (hDK : DKA (σ9 9)) (hR : KP σ8 (σ9 9)) (hP8 : va_P D clz (WD8 cy g1 σ8) H) (hP9 : va_P D clz (WD9 cy g2 σ9) H) (hS : va_S (lawA s) s.heap H locs) (hl : lv_has ls 4 [(3, .int i), (2, .ref (g2 60)), (1, .ref (gO g1 17)), (0, .ref b)]) : W p l e room_1 s m #[Value.ref b] below meth c H locs 200 700000 (lw_Z below #[Value.ref b] s) (F0 m 1460 ls []) := by
  obtain ⟨⟨hx, hb, hr, hml, hown0, hts0, hX, hbl, hlocks, hgv⟩, hK, hDD, hC8, hC9⟩ := X
  have hown : s.vm.findClass RL = some m.cls := hown0
  have hts : ∀ w ∈ lw_g, w.before #[Value.ref b] s = true := fun w h => hts0 w (lw_gt h)
  have hbA : ¬ lawA s b := Nat.not_le.mpr hbl
  have hA8 := A8_law hDD
  have hA9 := A9_law hDD
  have hD8 : ∀ τ : ST, va_D (A8 cy g1 s.heap.size) (WD8 cy g1 τ) := fun τ => by rw [hA8]; exact map_D WD8_m (D_l hDD)
  have hD9 : ∀ τ : ST, va_D (A9 cy g2 s.heap.size) (WD9 cy g2 τ) := fun τ => by rw [hA9]; exact map_D WD9_m (D_r hDD)
  rw [← hA8] at hC8
  rw [← hA9] at hC9
  refine lv_aload_n hx hb dL_law_1460 rfl (lv_at hl 2 rfl) ?_
  refine lv_aload_n hx hb dL_law_1461 rfl (lv_at hl 3 rfl) ?_
  refine lv_iload_n hx hb dL_law_1462 rfl (lv_at hl 0 rfl) ?_
  refine lv_iconst (v := 1) hx hb dL_law_1463 (by decide) ?_
  refine lv_iadd hx hb dL_law_1464 ?_
  refine lv_topi (fun x1 ex1 => ?_)
  have t2 := addO ex1 (by have f0 := hi; have f1 := hL; have z1 : (1 : Int32).toInt = 1 := (by decide); omega)
  refine va_sld hx hb hX hbl hbA hS (vpo (by have f0 := t2; have f1 := hi; have f2 := hL; have g0 := rg32 x1; have z1 : (1 : Int32).toInt = 1 := (by decide); omega)) dL_law_1465 ?_
  refine lv_topi (fun x3 ex3 => ?_)
  refine lv_aload_n hx hb dL_law_1466 rfl (lv_at hl 3 rfl) ?_
  refine lv_iload_n hx hb dL_law_1467 rfl (lv_at hl 0 rfl) ?_
  refine lv_iconst (v := 2) hx hb dL_law_1468 (by decide) ?_
  refine lv_iadd hx hb dL_law_1469 ?_
  refine lv_topi (fun x4 ex4 => ?_)
  have t5 := addO ex4 (by have f0 := hi; have f1 := hL; have f2 := t2; have z1 : (1 : Int32).toInt = 1 := (by decide); have z2 : (2 : Int32).toInt = 2 := (by decide); omega)
  refine va_sld hx hb hX hbl hbA hS (vpo (by have f0 := t5; have f1 := hi; have f2 := hL; have f3 := t2; have g0 := rg32 x4; have z1 : (1 : Int32).toInt = 1 := (by decide); have z2 : (2 : Int32).toInt = 2 := (by decide); omega)) dL_law_1470 ?_
  refine lv_topi (fun x6 ex6 => ?_)
  have hSx : va_S (A8 cy g1 s.heap.size) s.heap H locs := by rw [hA8]; exact hS
  refine va_calli (va_runV (As := [.int x3, .int x6]) (rest := []) ⟨hx, hb, hml, hown, hts⟩ (m_X8_spared l D cy g1 σ8 x3 x6 _ hJ8) (cwV 2 hts (gd_V q1151 q1152 q1153 q125 q1154) rfl rfl rfl (by decide +kernel) ⟨Nat.le_of_ble_eq_true rfl, Nat.le_of_ble_eq_true rfl⟩) (pv8 hP8 hK hD8 hC8 hSx (rv8_8 hK hP8)) rfl rfl hl.1 rfl (lv_room (Nat.le_of_ble_eq_true rfl)) dL_law_1471 ⟨Nat.le_of_ble_eq_true rfl, Nat.le_of_ble_eq_true rfl⟩) hSx (fun q _ h => up8 hSx q h) (up8 hSx) (fun r7 υ8 tS H1 locs ht hvm hw9 hB hz1 hk1 hSy => ?_)
  have hP8 : va_P D clz (WD8 cy g1 υ8) H1 := by rw [← ht]; exact hB
  have hP9 := kp9 hDD hP9 hk1
  have hS : va_S (lawA s) s.heap H1 locs := by rw [← hA8]; exact hSy
  clear hB hz1 hk1 hvm ht hSx hSy
  generalize H1 = H at hP8 hP9 hS ⊢
  have hJ10 : J8 υ8 := hw9.2.1
  have hR11 : KP υ8 (σ9 9) := KP.fr8 hR (show Fr (fO [11, 13]) σ8 υ8 from hw9.1) (by decide)
  refine lv_pop hx hb dL_law_1474 rfl ?_
  refine lv_aload_n hx hb dL_law_1475 rfl (lv_at hl 1 rfl) ?_
  refine lv_aload_n hx hb dL_law_1476 rfl (lv_at hl 3 rfl) ?_
  refine lv_iload_n hx hb dL_law_1477 rfl (lv_at hl 0 rfl) ?_
  refine lv_iconst (v := 1) hx hb dL_law_1478 (by decide) ?_
  refine lv_iadd hx hb dL_law_1479 ?_
  refine lv_topi (fun x12 ex12 => ?_)
  have t13 := addO ex12 (by have f0 := hi; have f1 := hL; have f2 := t2; have f3 := t5; have z1 : (1 : Int32).toInt = 1 := (by decide); have z2 : (2 : Int32).toInt = 2 := (by decide); omega)
  refine va_sld hx hb hX hbl hbA hS (vpo (by have f0 := t13; have f1 := hi; have f2 := hL; have f3 := t2; have f4 := t5; have g0 := rg32 x12; have z1 : (1 : Int32).toInt = 1 := (by decide); have z2 : (2 : Int32).toInt = 2 := (by decide); omega)) dL_law_1480 ?_
  refine lv_topi (fun x14 ex14 => ?_)
  refine lv_aload_n hx hb dL_law_1481 rfl (lv_at hl 3 rfl) ?_
  refine lv_iload_n hx hb dL_law_1482 rfl (lv_at hl 0 rfl) ?_
  refine lv_iconst (v := 2) hx hb dL_law_1483 (by decide) ?_
  refine lv_iadd hx hb dL_law_1484 ?_
  refine lv_topi (fun x15 ex15 => ?_)
  have t16 := addO ex15 (by have f0 := hi; have f1 := hL; have f2 := t2; have f3 := t5; have f4 := t13; have z1 : (1 : Int32).toInt = 1 := (by decide); have z2 : (2 : Int32).toInt = 2 := (by decide); omega)
  refine va_sld hx hb hX hbl hbA hS (vpo (by have f0 := t16; have f1 := hi; have f2 := hL; have f3 := t2; have f4 := t5; have f5 := t13; have g0 := rg32 x15; have z1 : (1 : Int32).toInt = 1 := (by decide); have z2 : (2 : Int32).toInt = 2 := (by decide); omega)) dL_law_1485 ?_
  refine lv_topi (fun x17 ex17 => ?_)
  have hSx : va_S (A9 cy g2 s.heap.size) s.heap H locs := by rw [hA9]; exact hS
  refine va_calli (va_runV (As := [.int x14, .int x17]) (rest := []) ⟨hx, hb, hml, hown, hts⟩ (m_X9_spared l D cy g2 σ9 x14 x17 _ hJ9 (DKA.zero hDK)) (cwV 2 hts (gd_V q1988 q1989 q1990 q134 q1991) rfl rfl rfl (by decide +kernel) ⟨Nat.le_of_ble_eq_true rfl, Nat.le_of_ble_eq_true rfl⟩) (pv9 hP9 hK hD9 hC9 hSx (va_recv hK hP9 (ci := 9) (q0 := 0) rfl rfl)) rfl rfl hl.1 rfl (lv_room (Nat.le_of_ble_eq_true rfl)) dL_law_1486 ⟨Nat.le_of_ble_eq_true rfl, Nat.le_of_ble_eq_true rfl⟩) hSx (fun q _ h => up9 hSx q h) (up9 hSx) (fun r18 υ19 tS H1 locs ht hvm hw20 hB hz1 hk1 hSy => ?_)
  have hP9 : va_P D clz (WD9 cy g2 υ19) H1 := by rw [← ht]; exact hB
  have hP8 := kp8 hDD hP8 hk1
  have hS : va_S (lawA s) s.heap H1 locs := by rw [← hA9]; exact hSy
  clear hB hz1 hk1 hvm ht hSx hSy
  generalize H1 = H at hP8 hP9 hS ⊢
  have hF21 : Fr (fL [0, 23, 24, 25, 26, 27, 28, 29, 30, 31, 32, 33, 34, 35, 36, 37, 38, 39, 40, 41, 49]) σ9 υ19 := hw20.1
  have hJ22 : J9 (υ19 9) := hw20.2.1
  have hK23 : DKA (υ19 9) := DKA.mv hDK (hF21 9 17 rfl).2.2.1 (hF21 9 18 rfl).2.2.1 (hF21 9 19 rfl).2.2.1
  have hR24 : KP υ8 (υ19 9) := KP.fr9 hR11 (hF21 9 22 rfl).2.2.1
  refine lv_pop hx hb dL_law_1489 rfl ?_
  refine lv_goto (tgt := 2411) hx hb dL_law_1490 (by decide) ?_
  exact hnext _ _ _ _ _ hJ10 hJ22 hK23 hR24 hP8 hP9 hS hl

theorem q1160 : Cond.methodLink RL 151 yX8_doubles ∈ lw_g := lw_gm (List.mem_of_getElem? (i := 1160) (by decide +kernel)) rfl
theorem q1161 : Cond.instanceMethod yX8_doubles ∈ lw_g := lw_gm (List.mem_of_getElem? (i := 1161) (by decide +kernel)) rfl
theorem q1162 : Cond.selects RX8 yX8_doubles yX8_doubles ∈ lw_g := lw_gm (List.mem_of_getElem? (i := 1162) (by decide +kernel)) rfl
theorem q1992 : Cond.methodLink RL 154 yX9_doubles ∈ lw_g := lw_gm (List.mem_of_getElem? (i := 1992) (by decide +kernel)) rfl
theorem q1993 : Cond.instanceMethod yX9_doubles ∈ lw_g := lw_gm (List.mem_of_getElem? (i := 1993) (by decide +kernel)) rfl
theorem q1994 : Cond.selects RX9 yX9_doubles yX9_doubles ∈ lw_g := lw_gm (List.mem_of_getElem? (i := 1994) (by decide +kernel)) rfl
theorem dL_law_1493 : decode cL_law 1493 = .ok (.aload_n 1, 1) := by decide +kernel
theorem dL_law_1494 : decode cL_law 1494 = .ok (.aload_n 0, 1) := by decide +kernel
theorem dL_law_1495 : decode cL_law 1495 = .ok (.iload_n 3, 1) := by decide +kernel
theorem dL_law_1496 : decode cL_law 1496 = .ok (.iconst 1, 1) := by decide +kernel
theorem dL_law_1497 : decode cL_law 1497 = .ok (.iadd, 1) := by decide +kernel
theorem dL_law_1498 : decode cL_law 1498 = .ok (.iaload, 1) := by decide +kernel
theorem dL_law_1499 : decode cL_law 1499 = .ok (.aload_n 0, 1) := by decide +kernel
theorem dL_law_1500 : decode cL_law 1500 = .ok (.iload_n 3, 1) := by decide +kernel
theorem dL_law_1501 : decode cL_law 1501 = .ok (.iconst 2, 1) := by decide +kernel
theorem dL_law_1502 : decode cL_law 1502 = .ok (.iadd, 1) := by decide +kernel
theorem dL_law_1503 : decode cL_law 1503 = .ok (.iaload, 1) := by decide +kernel
theorem dL_law_1504 : decode cL_law 1504 = .ok (.invokevirtual 151, 3) := by decide +kernel
theorem dL_law_1507 : decode cL_law 1507 = .ok (.pop, 1) := by decide +kernel
theorem dL_law_1508 : decode cL_law 1508 = .ok (.aload_n 2, 1) := by decide +kernel
theorem dL_law_1509 : decode cL_law 1509 = .ok (.aload_n 0, 1) := by decide +kernel
theorem dL_law_1510 : decode cL_law 1510 = .ok (.iload_n 3, 1) := by decide +kernel
theorem dL_law_1511 : decode cL_law 1511 = .ok (.iconst 1, 1) := by decide +kernel
theorem dL_law_1512 : decode cL_law 1512 = .ok (.iadd, 1) := by decide +kernel
theorem dL_law_1513 : decode cL_law 1513 = .ok (.iaload, 1) := by decide +kernel
theorem dL_law_1514 : decode cL_law 1514 = .ok (.aload_n 0, 1) := by decide +kernel
theorem dL_law_1515 : decode cL_law 1515 = .ok (.iload_n 3, 1) := by decide +kernel
theorem dL_law_1516 : decode cL_law 1516 = .ok (.iconst 2, 1) := by decide +kernel
theorem dL_law_1517 : decode cL_law 1517 = .ok (.iadd, 1) := by decide +kernel
theorem dL_law_1518 : decode cL_law 1518 = .ok (.iaload, 1) := by decide +kernel
theorem dL_law_1519 : decode cL_law 1519 = .ok (.invokevirtual 154, 3) := by decide +kernel
theorem dL_law_1522 : decode cL_law 1522 = .ok (.pop, 1) := by decide +kernel
theorem dL_law_1523 : decode cL_law 1523 = .ok (.goto 888, 3) := by decide +kernel
set_option maxHeartbeats 4000000 in
set_option maxRecDepth 100000 in
theorem lawc_33 {p : Program} {l : Launch} {e : Env} {s : State} {m : MethodId} {below : List Frame} {meth : Method} {c : Code} {b L : Nat} {xs : Nat → Int32} {D : va_G} {cy : Nat → ClassId} {g1 g2 : Nat → Nat} (X : LX p s m meth c b L xs D cy g1 g2) (hL : L ≤ 3072) {i : Int32} (hi : (0 : Int) ≤ i.toInt ∧ i.toInt + 6 ≤ (L : Int)) (hnext : (∀ (σ8 σ9 : ST) (H : Heap) (locs : List Loc) (ls : Array Slot), J8 σ8 → J9 (σ9 9) → DKA (σ9 9) → KP σ8 (σ9 9) → va_P D clz (WD8 cy g1 σ8) H → va_P D clz (WD9 cy g2 σ9) H → va_S (lawA s) s.heap H locs → lv_has ls 4 [(3, .int i), (2, .ref (g2 60)), (1, .ref (gO g1 17)), (0, .ref b)] → W p l e room_1 s m #[Value.ref b] below meth c H locs 200 700000 (lw_Z below #[Value.ref b] s) (F0 m 2411 ls []))) (σ8 σ9 : ST) (H : Heap) (locs : List Loc) (ls : Array Slot) (hJ8 : J8 σ8) (hJ9 : J9 (σ9 9)) (hDK : DKA (σ9 9)) (hR : KP σ8 (σ9 9)) (hP8 : va_P D clz (WD8 cy g1 σ8) H) (hP9 : va_P D clz (WD9 cy g2 σ9) H) (hS : va_S (lawA s) s.heap H locs) (hl : lv_has ls 4 [(3, .int i), (2, .ref (g2 60)), (1, .ref (gO g1 17)), (0, .ref b)]) : W p l e room_1 s m #[Value.ref b] below meth c H locs 200 700000 (lw_Z below #[Value.ref b] s) (F0 m 1493 ls []) := by
  obtain ⟨⟨hx, hb, hr, hml, hown0, hts0, hX, hbl, hlocks, hgv⟩, hK, hDD, hC8, hC9⟩ := X
  have hown : s.vm.findClass RL = some m.cls := hown0
  have hts : ∀ w ∈ lw_g, w.before #[Value.ref b] s = true := fun w h => hts0 w (lw_gt h)
  have hbA : ¬ lawA s b := Nat.not_le.mpr hbl
  have hA8 := A8_law hDD
  have hA9 := A9_law hDD
  have hD8 : ∀ τ : ST, va_D (A8 cy g1 s.heap.size) (WD8 cy g1 τ) := fun τ => by rw [hA8]; exact map_D WD8_m (D_l hDD)
  have hD9 : ∀ τ : ST, va_D (A9 cy g2 s.heap.size) (WD9 cy g2 τ) := fun τ => by rw [hA9]; exact map_D WD9_m (D_r hDD)
  rw [← hA8] at hC8
  rw [← hA9] at hC9
  refine lv_aload_n hx hb dL_law_1493 rfl (lv_at hl 2 rfl) ?_
  refine lv_aload_n hx hb dL_law_1494 rfl (lv_at hl 3 rfl) ?_
  refine lv_iload_n hx hb dL_law_1495 rfl (lv_at hl 0 rfl) ?_
  refine lv_iconst (v := 1) hx hb dL_law_1496 (by decide) ?_
  refine lv_iadd hx hb dL_law_1497 ?_
  refine lv_topi (fun x1 ex1 => ?_)
  have t2 := addO ex1 (by have f0 := hi; have f1 := hL; have z1 : (1 : Int32).toInt = 1 := (by decide); omega)
  refine va_sld hx hb hX hbl hbA hS (vpo (by have f0 := t2; have f1 := hi; have f2 := hL; have g0 := rg32 x1; have z1 : (1 : Int32).toInt = 1 := (by decide); omega)) dL_law_1498 ?_
  refine lv_topi (fun x3 ex3 => ?_)
  refine lv_aload_n hx hb dL_law_1499 rfl (lv_at hl 3 rfl) ?_
  refine lv_iload_n hx hb dL_law_1500 rfl (lv_at hl 0 rfl) ?_
  refine lv_iconst (v := 2) hx hb dL_law_1501 (by decide) ?_
  refine lv_iadd hx hb dL_law_1502 ?_
  refine lv_topi (fun x4 ex4 => ?_)
  have t5 := addO ex4 (by have f0 := hi; have f1 := hL; have f2 := t2; have z1 : (1 : Int32).toInt = 1 := (by decide); have z2 : (2 : Int32).toInt = 2 := (by decide); omega)
  refine va_sld hx hb hX hbl hbA hS (vpo (by have f0 := t5; have f1 := hi; have f2 := hL; have f3 := t2; have g0 := rg32 x4; have z1 : (1 : Int32).toInt = 1 := (by decide); have z2 : (2 : Int32).toInt = 2 := (by decide); omega)) dL_law_1503 ?_
  refine lv_topi (fun x6 ex6 => ?_)
  have hSx : va_S (A8 cy g1 s.heap.size) s.heap H locs := by rw [hA8]; exact hS
  refine va_calli (va_runV (As := [.int x3, .int x6]) (rest := []) ⟨hx, hb, hml, hown, hts⟩ (m_X8_doubles l D cy g1 σ8 x3 x6 _ hJ8) (cwV 2 hts (gd_V q1160 q1161 q1162 q125 q1163) rfl rfl rfl (by decide +kernel) ⟨Nat.le_of_ble_eq_true rfl, Nat.le_of_ble_eq_true rfl⟩) (pv8 hP8 hK hD8 hC8 hSx (rv8_8 hK hP8)) rfl rfl hl.1 rfl (lv_room (Nat.le_of_ble_eq_true rfl)) dL_law_1504 ⟨Nat.le_of_ble_eq_true rfl, Nat.le_of_ble_eq_true rfl⟩) hSx (fun q _ h => up8 hSx q h) (up8 hSx) (fun r7 υ8 tS H1 locs ht hvm hw9 hB hz1 hk1 hSy => ?_)
  have hP8 : va_P D clz (WD8 cy g1 υ8) H1 := by rw [← ht]; exact hB
  have hP9 := kp9 hDD hP9 hk1
  have hS : va_S (lawA s) s.heap H1 locs := by rw [← hA8]; exact hSy
  clear hB hz1 hk1 hvm ht hSx hSy
  generalize H1 = H at hP8 hP9 hS ⊢
  have hJ10 : J8 υ8 := hw9.2.1
  have hR11 : KP υ8 (σ9 9) := KP.fr8 hR (show Fr (fO [15]) σ8 υ8 from hw9.1) (by decide)
  refine lv_pop hx hb dL_law_1507 rfl ?_
  refine lv_aload_n hx hb dL_law_1508 rfl (lv_at hl 1 rfl) ?_
  refine lv_aload_n hx hb dL_law_1509 rfl (lv_at hl 3 rfl) ?_
  refine lv_iload_n hx hb dL_law_1510 rfl (lv_at hl 0 rfl) ?_
  refine lv_iconst (v := 1) hx hb dL_law_1511 (by decide) ?_
  refine lv_iadd hx hb dL_law_1512 ?_
  refine lv_topi (fun x12 ex12 => ?_)
  have t13 := addO ex12 (by have f0 := hi; have f1 := hL; have f2 := t2; have f3 := t5; have z1 : (1 : Int32).toInt = 1 := (by decide); have z2 : (2 : Int32).toInt = 2 := (by decide); omega)
  refine va_sld hx hb hX hbl hbA hS (vpo (by have f0 := t13; have f1 := hi; have f2 := hL; have f3 := t2; have f4 := t5; have g0 := rg32 x12; have z1 : (1 : Int32).toInt = 1 := (by decide); have z2 : (2 : Int32).toInt = 2 := (by decide); omega)) dL_law_1513 ?_
  refine lv_topi (fun x14 ex14 => ?_)
  refine lv_aload_n hx hb dL_law_1514 rfl (lv_at hl 3 rfl) ?_
  refine lv_iload_n hx hb dL_law_1515 rfl (lv_at hl 0 rfl) ?_
  refine lv_iconst (v := 2) hx hb dL_law_1516 (by decide) ?_
  refine lv_iadd hx hb dL_law_1517 ?_
  refine lv_topi (fun x15 ex15 => ?_)
  have t16 := addO ex15 (by have f0 := hi; have f1 := hL; have f2 := t2; have f3 := t5; have f4 := t13; have z1 : (1 : Int32).toInt = 1 := (by decide); have z2 : (2 : Int32).toInt = 2 := (by decide); omega)
  refine va_sld hx hb hX hbl hbA hS (vpo (by have f0 := t16; have f1 := hi; have f2 := hL; have f3 := t2; have f4 := t5; have f5 := t13; have g0 := rg32 x15; have z1 : (1 : Int32).toInt = 1 := (by decide); have z2 : (2 : Int32).toInt = 2 := (by decide); omega)) dL_law_1518 ?_
  refine lv_topi (fun x17 ex17 => ?_)
  have hSx : va_S (A9 cy g2 s.heap.size) s.heap H locs := by rw [hA9]; exact hS
  refine va_calli (va_runV (As := [.int x14, .int x17]) (rest := []) ⟨hx, hb, hml, hown, hts⟩ (m_X9_doubles l D cy g2 σ9 x14 x17 _ hJ9 ) (cwV 2 hts (gd_V q1992 q1993 q1994 q134 q1995) rfl rfl rfl (by decide +kernel) ⟨Nat.le_of_ble_eq_true rfl, Nat.le_of_ble_eq_true rfl⟩) (pv9 hP9 hK hD9 hC9 hSx (va_recv hK hP9 (ci := 9) (q0 := 0) rfl rfl)) rfl rfl hl.1 rfl (lv_room (Nat.le_of_ble_eq_true rfl)) dL_law_1519 ⟨Nat.le_of_ble_eq_true rfl, Nat.le_of_ble_eq_true rfl⟩) hSx (fun q _ h => up9 hSx q h) (up9 hSx) (fun r18 υ19 tS H1 locs ht hvm hw20 hB hz1 hk1 hSy => ?_)
  have hP9 : va_P D clz (WD9 cy g2 υ19) H1 := by rw [← ht]; exact hB
  have hP8 := kp8 hDD hP8 hk1
  have hS : va_S (lawA s) s.heap H1 locs := by rw [← hA9]; exact hSy
  clear hB hz1 hk1 hvm ht hSx hSy
  generalize H1 = H at hP8 hP9 hS ⊢
  have hF21 : Fr (fL [0, 50, 51, 52, 53, 54]) σ9 υ19 := hw20.1
  have hJ22 : J9 (υ19 9) := hw20.2.1
  have hK23 : DKA (υ19 9) := DKA.mv hDK (hF21 9 17 rfl).2.2.1 (hF21 9 18 rfl).2.2.1 (hF21 9 19 rfl).2.2.1
  have hR24 : KP υ8 (υ19 9) := KP.fr9 hR11 (hF21 9 22 rfl).2.2.1
  refine lv_pop hx hb dL_law_1522 rfl ?_
  refine lv_goto (tgt := 2411) hx hb dL_law_1523 (by decide) ?_
  exact hnext _ _ _ _ _ hJ10 hJ22 hK23 hR24 hP8 hP9 hS hl

theorem q1201 : Cond.methodLink RL 155 yX8_leaves ∈ lw_g := lw_gm (List.mem_of_getElem? (i := 1201) (by decide +kernel)) rfl
theorem q1202 : Cond.instanceMethod yX8_leaves ∈ lw_g := lw_gm (List.mem_of_getElem? (i := 1202) (by decide +kernel)) rfl
theorem q1203 : Cond.selects RX8 yX8_leaves yX8_leaves ∈ lw_g := lw_gm (List.mem_of_getElem? (i := 1203) (by decide +kernel)) rfl
theorem q2016 : Cond.methodLink RL 158 yX9_leaves ∈ lw_g := lw_gm (List.mem_of_getElem? (i := 2016) (by decide +kernel)) rfl
theorem q2017 : Cond.instanceMethod yX9_leaves ∈ lw_g := lw_gm (List.mem_of_getElem? (i := 2017) (by decide +kernel)) rfl
theorem q2018 : Cond.selects RX9 yX9_leaves yX9_leaves ∈ lw_g := lw_gm (List.mem_of_getElem? (i := 2018) (by decide +kernel)) rfl
theorem dL_law_1526 : decode cL_law 1526 = .ok (.aload_n 1, 1) := by decide +kernel
theorem dL_law_1527 : decode cL_law 1527 = .ok (.aload_n 0, 1) := by decide +kernel
theorem dL_law_1528 : decode cL_law 1528 = .ok (.iload_n 3, 1) := by decide +kernel
theorem dL_law_1529 : decode cL_law 1529 = .ok (.iconst 1, 1) := by decide +kernel
theorem dL_law_1530 : decode cL_law 1530 = .ok (.iadd, 1) := by decide +kernel
theorem dL_law_1531 : decode cL_law 1531 = .ok (.iaload, 1) := by decide +kernel
theorem dL_law_1532 : decode cL_law 1532 = .ok (.aload_n 0, 1) := by decide +kernel
theorem dL_law_1533 : decode cL_law 1533 = .ok (.iload_n 3, 1) := by decide +kernel
theorem dL_law_1534 : decode cL_law 1534 = .ok (.iconst 2, 1) := by decide +kernel
theorem dL_law_1535 : decode cL_law 1535 = .ok (.iadd, 1) := by decide +kernel
theorem dL_law_1536 : decode cL_law 1536 = .ok (.iaload, 1) := by decide +kernel
theorem dL_law_1537 : decode cL_law 1537 = .ok (.aload_n 0, 1) := by decide +kernel
theorem dL_law_1538 : decode cL_law 1538 = .ok (.iload_n 3, 1) := by decide +kernel
theorem dL_law_1539 : decode cL_law 1539 = .ok (.iconst 3, 1) := by decide +kernel
theorem dL_law_1540 : decode cL_law 1540 = .ok (.iadd, 1) := by decide +kernel
theorem dL_law_1541 : decode cL_law 1541 = .ok (.iaload, 1) := by decide +kernel
theorem dL_law_1542 : decode cL_law 1542 = .ok (.invokevirtual 155, 3) := by decide +kernel
theorem dL_law_1545 : decode cL_law 1545 = .ok (.pop, 1) := by decide +kernel
theorem dL_law_1546 : decode cL_law 1546 = .ok (.aload_n 2, 1) := by decide +kernel
theorem dL_law_1547 : decode cL_law 1547 = .ok (.aload_n 0, 1) := by decide +kernel
theorem dL_law_1548 : decode cL_law 1548 = .ok (.iload_n 3, 1) := by decide +kernel
theorem dL_law_1549 : decode cL_law 1549 = .ok (.iconst 1, 1) := by decide +kernel
theorem dL_law_1550 : decode cL_law 1550 = .ok (.iadd, 1) := by decide +kernel
theorem dL_law_1551 : decode cL_law 1551 = .ok (.iaload, 1) := by decide +kernel
theorem dL_law_1552 : decode cL_law 1552 = .ok (.aload_n 0, 1) := by decide +kernel
theorem dL_law_1553 : decode cL_law 1553 = .ok (.iload_n 3, 1) := by decide +kernel
theorem dL_law_1554 : decode cL_law 1554 = .ok (.iconst 2, 1) := by decide +kernel
theorem dL_law_1555 : decode cL_law 1555 = .ok (.iadd, 1) := by decide +kernel
theorem dL_law_1556 : decode cL_law 1556 = .ok (.iaload, 1) := by decide +kernel
theorem dL_law_1557 : decode cL_law 1557 = .ok (.aload_n 0, 1) := by decide +kernel
theorem dL_law_1558 : decode cL_law 1558 = .ok (.iload_n 3, 1) := by decide +kernel
theorem dL_law_1559 : decode cL_law 1559 = .ok (.iconst 3, 1) := by decide +kernel
theorem dL_law_1560 : decode cL_law 1560 = .ok (.iadd, 1) := by decide +kernel
theorem dL_law_1561 : decode cL_law 1561 = .ok (.iaload, 1) := by decide +kernel
theorem dL_law_1562 : decode cL_law 1562 = .ok (.invokevirtual 158, 3) := by decide +kernel
theorem dL_law_1565 : decode cL_law 1565 = .ok (.pop, 1) := by decide +kernel
theorem dL_law_1566 : decode cL_law 1566 = .ok (.goto 845, 3) := by decide +kernel
set_option maxHeartbeats 4000000 in
set_option maxRecDepth 100000 in
theorem lawc_34 {p : Program} {l : Launch} {e : Env} {s : State} {m : MethodId} {below : List Frame} {meth : Method} {c : Code} {b L : Nat} {xs : Nat → Int32} {D : va_G} {cy : Nat → ClassId} {g1 g2 : Nat → Nat} (X : LX p s m meth c b L xs D cy g1 g2) (hL : L ≤ 3072) {i : Int32} (hi : (0 : Int) ≤ i.toInt ∧ i.toInt + 6 ≤ (L : Int)) (hnext : (∀ (σ8 σ9 : ST) (H : Heap) (locs : List Loc) (ls : Array Slot), J8 σ8 → J9 (σ9 9) → DKA (σ9 9) → KP σ8 (σ9 9) → va_P D clz (WD8 cy g1 σ8) H → va_P D clz (WD9 cy g2 σ9) H → va_S (lawA s) s.heap H locs → lv_has ls 4 [(3, .int i), (2, .ref (g2 60)), (1, .ref (gO g1 17)), (0, .ref b)] → W p l e room_1 s m #[Value.ref b] below meth c H locs 200 700000 (lw_Z below #[Value.ref b] s) (F0 m 2411 ls []))) (σ8 σ9 : ST) (H : Heap) (locs : List Loc) (ls : Array Slot) (hJ8 : J8 σ8) (hJ9 : J9 (σ9 9)) (hDK : DKA (σ9 9)) (hR : KP σ8 (σ9 9)) (hP8 : va_P D clz (WD8 cy g1 σ8) H) (hP9 : va_P D clz (WD9 cy g2 σ9) H) (hS : va_S (lawA s) s.heap H locs) (hl : lv_has ls 4 [(3, .int i), (2, .ref (g2 60)), (1, .ref (gO g1 17)), (0, .ref b)]) : W p l e room_1 s m #[Value.ref b] below meth c H locs 200 700000 (lw_Z below #[Value.ref b] s) (F0 m 1526 ls []) := by
  obtain ⟨⟨hx, hb, hr, hml, hown0, hts0, hX, hbl, hlocks, hgv⟩, hK, hDD, hC8, hC9⟩ := X
  have hown : s.vm.findClass RL = some m.cls := hown0
  have hts : ∀ w ∈ lw_g, w.before #[Value.ref b] s = true := fun w h => hts0 w (lw_gt h)
  have hbA : ¬ lawA s b := Nat.not_le.mpr hbl
  have hA8 := A8_law hDD
  have hA9 := A9_law hDD
  have hD8 : ∀ τ : ST, va_D (A8 cy g1 s.heap.size) (WD8 cy g1 τ) := fun τ => by rw [hA8]; exact map_D WD8_m (D_l hDD)
  have hD9 : ∀ τ : ST, va_D (A9 cy g2 s.heap.size) (WD9 cy g2 τ) := fun τ => by rw [hA9]; exact map_D WD9_m (D_r hDD)
  rw [← hA8] at hC8
  rw [← hA9] at hC9
  refine lv_aload_n hx hb dL_law_1526 rfl (lv_at hl 2 rfl) ?_
  refine lv_aload_n hx hb dL_law_1527 rfl (lv_at hl 3 rfl) ?_
  refine lv_iload_n hx hb dL_law_1528 rfl (lv_at hl 0 rfl) ?_
  refine lv_iconst (v := 1) hx hb dL_law_1529 (by decide) ?_
  refine lv_iadd hx hb dL_law_1530 ?_
  refine lv_topi (fun x1 ex1 => ?_)
  have t2 := addO ex1 (by have f0 := hi; have f1 := hL; have z1 : (1 : Int32).toInt = 1 := (by decide); omega)
  refine va_sld hx hb hX hbl hbA hS (vpo (by have f0 := t2; have f1 := hi; have f2 := hL; have g0 := rg32 x1; have z1 : (1 : Int32).toInt = 1 := (by decide); omega)) dL_law_1531 ?_
  refine lv_topi (fun x3 ex3 => ?_)
  refine lv_aload_n hx hb dL_law_1532 rfl (lv_at hl 3 rfl) ?_
  refine lv_iload_n hx hb dL_law_1533 rfl (lv_at hl 0 rfl) ?_
  refine lv_iconst (v := 2) hx hb dL_law_1534 (by decide) ?_
  refine lv_iadd hx hb dL_law_1535 ?_
  refine lv_topi (fun x4 ex4 => ?_)
  have t5 := addO ex4 (by have f0 := hi; have f1 := hL; have f2 := t2; have z1 : (1 : Int32).toInt = 1 := (by decide); have z2 : (2 : Int32).toInt = 2 := (by decide); omega)
  refine va_sld hx hb hX hbl hbA hS (vpo (by have f0 := t5; have f1 := hi; have f2 := hL; have f3 := t2; have g0 := rg32 x4; have z1 : (1 : Int32).toInt = 1 := (by decide); have z2 : (2 : Int32).toInt = 2 := (by decide); omega)) dL_law_1536 ?_
  refine lv_topi (fun x6 ex6 => ?_)
  refine lv_aload_n hx hb dL_law_1537 rfl (lv_at hl 3 rfl) ?_
  refine lv_iload_n hx hb dL_law_1538 rfl (lv_at hl 0 rfl) ?_
  refine lv_iconst (v := 3) hx hb dL_law_1539 (by decide) ?_
  refine lv_iadd hx hb dL_law_1540 ?_
  refine lv_topi (fun x7 ex7 => ?_)
  have t8 := addO ex7 (by have f0 := hi; have f1 := hL; have f2 := t2; have f3 := t5; have z1 : (1 : Int32).toInt = 1 := (by decide); have z2 : (2 : Int32).toInt = 2 := (by decide); have z3 : (3 : Int32).toInt = 3 := (by decide); omega)
  refine va_sld hx hb hX hbl hbA hS (vpo (by have f0 := t8; have f1 := hi; have f2 := hL; have f3 := t2; have f4 := t5; have g0 := rg32 x7; have z1 : (1 : Int32).toInt = 1 := (by decide); have z2 : (2 : Int32).toInt = 2 := (by decide); have z3 : (3 : Int32).toInt = 3 := (by decide); omega)) dL_law_1541 ?_
  refine lv_topi (fun x9 ex9 => ?_)
  have hSx : va_S (A8 cy g1 s.heap.size) s.heap H locs := by rw [hA8]; exact hS
  refine va_calli (va_runV (As := [.int x3, .int x6, .int x9]) (rest := []) ⟨hx, hb, hml, hown, hts⟩ (m_X8_leaves l D cy g1 σ8 x3 x6 x9 _ hJ8) (cwV 3 hts (gd_V q1201 q1202 q1203 q125 q1204) rfl rfl rfl (by decide +kernel) ⟨Nat.le_of_ble_eq_true rfl, Nat.le_of_ble_eq_true rfl⟩) (pv8 hP8 hK hD8 hC8 hSx (rv8_8 hK hP8)) rfl rfl hl.1 rfl (lv_room (Nat.le_of_ble_eq_true rfl)) dL_law_1542 ⟨Nat.le_of_ble_eq_true rfl, Nat.le_of_ble_eq_true rfl⟩) hSx (fun q _ h => up8 hSx q h) (up8 hSx) (fun r10 υ11 tS H1 locs ht hvm hw12 hB hz1 hk1 hSy => ?_)
  have hP8 : va_P D clz (WD8 cy g1 υ11) H1 := by rw [← ht]; exact hB
  have hP9 := kp9 hDD hP9 hk1
  have hS : va_S (lawA s) s.heap H1 locs := by rw [← hA8]; exact hSy
  clear hB hz1 hk1 hvm ht hSx hSy
  generalize H1 = H at hP8 hP9 hS ⊢
  have hJ13 : J8 υ11 := hw12.2.1
  have hR14 : KP υ11 (σ9 9) := KP.fr8 hR (show Fr (fO [15]) σ8 υ11 from hw12.1) (by decide)
  refine lv_pop hx hb dL_law_1545 rfl ?_
  refine lv_aload_n hx hb dL_law_1546 rfl (lv_at hl 1 rfl) ?_
  refine lv_aload_n hx hb dL_law_1547 rfl (lv_at hl 3 rfl) ?_
  refine lv_iload_n hx hb dL_law_1548 rfl (lv_at hl 0 rfl) ?_
  refine lv_iconst (v := 1) hx hb dL_law_1549 (by decide) ?_
  refine lv_iadd hx hb dL_law_1550 ?_
  refine lv_topi (fun x15 ex15 => ?_)
  have t16 := addO ex15 (by have f0 := hi; have f1 := hL; have f2 := t2; have f3 := t5; have f4 := t8; have z1 : (1 : Int32).toInt = 1 := (by decide); have z2 : (2 : Int32).toInt = 2 := (by decide); have z3 : (3 : Int32).toInt = 3 := (by decide); omega)
  refine va_sld hx hb hX hbl hbA hS (vpo (by have f0 := t16; have f1 := hi; have f2 := hL; have f3 := t2; have f4 := t5; have f5 := t8; have g0 := rg32 x15; have z1 : (1 : Int32).toInt = 1 := (by decide); have z2 : (2 : Int32).toInt = 2 := (by decide); have z3 : (3 : Int32).toInt = 3 := (by decide); omega)) dL_law_1551 ?_
  refine lv_topi (fun x17 ex17 => ?_)
  refine lv_aload_n hx hb dL_law_1552 rfl (lv_at hl 3 rfl) ?_
  refine lv_iload_n hx hb dL_law_1553 rfl (lv_at hl 0 rfl) ?_
  refine lv_iconst (v := 2) hx hb dL_law_1554 (by decide) ?_
  refine lv_iadd hx hb dL_law_1555 ?_
  refine lv_topi (fun x18 ex18 => ?_)
  have t19 := addO ex18 (by have f0 := hi; have f1 := hL; have f2 := t2; have f3 := t5; have f4 := t8; have f5 := t16; have z1 : (1 : Int32).toInt = 1 := (by decide); have z2 : (2 : Int32).toInt = 2 := (by decide); have z3 : (3 : Int32).toInt = 3 := (by decide); omega)
  refine va_sld hx hb hX hbl hbA hS (vpo (by have f0 := t19; have f1 := hi; have f2 := hL; have f3 := t2; have f4 := t5; have f5 := t8; have f6 := t16; have g0 := rg32 x18; have z1 : (1 : Int32).toInt = 1 := (by decide); have z2 : (2 : Int32).toInt = 2 := (by decide); have z3 : (3 : Int32).toInt = 3 := (by decide); omega)) dL_law_1556 ?_
  refine lv_topi (fun x20 ex20 => ?_)
  refine lv_aload_n hx hb dL_law_1557 rfl (lv_at hl 3 rfl) ?_
  refine lv_iload_n hx hb dL_law_1558 rfl (lv_at hl 0 rfl) ?_
  refine lv_iconst (v := 3) hx hb dL_law_1559 (by decide) ?_
  refine lv_iadd hx hb dL_law_1560 ?_
  refine lv_topi (fun x21 ex21 => ?_)
  have t22 := addO ex21 (by have f0 := hi; have f1 := hL; have f2 := t2; have f3 := t5; have f4 := t8; have f5 := t16; have f6 := t19; have z1 : (1 : Int32).toInt = 1 := (by decide); have z2 : (2 : Int32).toInt = 2 := (by decide); have z3 : (3 : Int32).toInt = 3 := (by decide); omega)
  refine va_sld hx hb hX hbl hbA hS (vpo (by have f0 := t22; have f1 := hi; have f2 := hL; have f3 := t2; have f4 := t5; have f5 := t8; have f6 := t16; have f7 := t19; have g0 := rg32 x21; have z1 : (1 : Int32).toInt = 1 := (by decide); have z2 : (2 : Int32).toInt = 2 := (by decide); have z3 : (3 : Int32).toInt = 3 := (by decide); omega)) dL_law_1561 ?_
  refine lv_topi (fun x23 ex23 => ?_)
  have hSx : va_S (A9 cy g2 s.heap.size) s.heap H locs := by rw [hA9]; exact hS
  refine va_calli (va_runV (As := [.int x17, .int x20, .int x23]) (rest := []) ⟨hx, hb, hml, hown, hts⟩ (m_X9_leaves l D cy g2 σ9 x17 x20 x23 _ hJ9 ) (cwV 3 hts (gd_V q2016 q2017 q2018 q134 q2019) rfl rfl rfl (by decide +kernel) ⟨Nat.le_of_ble_eq_true rfl, Nat.le_of_ble_eq_true rfl⟩) (pv9 hP9 hK hD9 hC9 hSx (va_recv hK hP9 (ci := 9) (q0 := 0) rfl rfl)) rfl rfl hl.1 rfl (lv_room (Nat.le_of_ble_eq_true rfl)) dL_law_1562 ⟨Nat.le_of_ble_eq_true rfl, Nat.le_of_ble_eq_true rfl⟩) hSx (fun q _ h => up9 hSx q h) (up9 hSx) (fun r24 υ25 tS H1 locs ht hvm hw26 hB hz1 hk1 hSy => ?_)
  have hP9 : va_P D clz (WD9 cy g2 υ25) H1 := by rw [← ht]; exact hB
  have hP8 := kp8 hDD hP8 hk1
  have hS : va_S (lawA s) s.heap H1 locs := by rw [← hA9]; exact hSy
  clear hB hz1 hk1 hvm ht hSx hSy
  generalize H1 = H at hP8 hP9 hS ⊢
  have hF27 : Fr (fL [0, 50, 51, 52, 53, 54]) σ9 υ25 := hw26.1
  have hJ28 : J9 (υ25 9) := hw26.2.1
  have hK29 : DKA (υ25 9) := DKA.mv hDK (hF27 9 17 rfl).2.2.1 (hF27 9 18 rfl).2.2.1 (hF27 9 19 rfl).2.2.1
  have hR30 : KP υ11 (υ25 9) := KP.fr9 hR14 (hF27 9 22 rfl).2.2.1
  refine lv_pop hx hb dL_law_1565 rfl ?_
  refine lv_goto (tgt := 2411) hx hb dL_law_1566 (by decide) ?_
  exact hnext _ _ _ _ _ hJ13 hJ28 hK29 hR30 hP8 hP9 hS hl

theorem q1217 : Cond.methodLink RL 159 yX8_line ∈ lw_g := lw_gm (List.mem_of_getElem? (i := 1217) (by decide +kernel)) rfl
theorem q1218 : Cond.instanceMethod yX8_line ∈ lw_g := lw_gm (List.mem_of_getElem? (i := 1218) (by decide +kernel)) rfl
theorem q1219 : Cond.selects RX8 yX8_line yX8_line ∈ lw_g := lw_gm (List.mem_of_getElem? (i := 1219) (by decide +kernel)) rfl
theorem q2020 : Cond.methodLink RL 162 yX9_line_ ∈ lw_g := lw_gm (List.mem_of_getElem? (i := 2020) (by decide +kernel)) rfl
theorem q2021 : Cond.instanceMethod yX9_line_ ∈ lw_g := lw_gm (List.mem_of_getElem? (i := 2021) (by decide +kernel)) rfl
theorem q2022 : Cond.selects RX9 yX9_line_ yX9_line_ ∈ lw_g := lw_gm (List.mem_of_getElem? (i := 2022) (by decide +kernel)) rfl
theorem dL_law_1569 : decode cL_law 1569 = .ok (.aload_n 1, 1) := by decide +kernel
theorem dL_law_1570 : decode cL_law 1570 = .ok (.aload_n 0, 1) := by decide +kernel
theorem dL_law_1571 : decode cL_law 1571 = .ok (.iload_n 3, 1) := by decide +kernel
theorem dL_law_1572 : decode cL_law 1572 = .ok (.iconst 1, 1) := by decide +kernel
theorem dL_law_1573 : decode cL_law 1573 = .ok (.iadd, 1) := by decide +kernel
theorem dL_law_1574 : decode cL_law 1574 = .ok (.iaload, 1) := by decide +kernel
theorem dL_law_1575 : decode cL_law 1575 = .ok (.invokevirtual 159, 3) := by decide +kernel
theorem dL_law_1578 : decode cL_law 1578 = .ok (.pop, 1) := by decide +kernel
theorem dL_law_1579 : decode cL_law 1579 = .ok (.aload_n 2, 1) := by decide +kernel
theorem dL_law_1580 : decode cL_law 1580 = .ok (.aload_n 0, 1) := by decide +kernel
theorem dL_law_1581 : decode cL_law 1581 = .ok (.iload_n 3, 1) := by decide +kernel
theorem dL_law_1582 : decode cL_law 1582 = .ok (.iconst 1, 1) := by decide +kernel
theorem dL_law_1583 : decode cL_law 1583 = .ok (.iadd, 1) := by decide +kernel
theorem dL_law_1584 : decode cL_law 1584 = .ok (.iaload, 1) := by decide +kernel
theorem dL_law_1585 : decode cL_law 1585 = .ok (.invokevirtual 162, 3) := by decide +kernel
theorem dL_law_1588 : decode cL_law 1588 = .ok (.pop, 1) := by decide +kernel
theorem dL_law_1589 : decode cL_law 1589 = .ok (.goto 822, 3) := by decide +kernel
set_option maxHeartbeats 4000000 in
set_option maxRecDepth 100000 in
theorem lawc_35 {p : Program} {l : Launch} {e : Env} {s : State} {m : MethodId} {below : List Frame} {meth : Method} {c : Code} {b L : Nat} {xs : Nat → Int32} {D : va_G} {cy : Nat → ClassId} {g1 g2 : Nat → Nat} (X : LX p s m meth c b L xs D cy g1 g2) (hL : L ≤ 3072) {i : Int32} (hi : (0 : Int) ≤ i.toInt ∧ i.toInt + 6 ≤ (L : Int)) (hnext : (∀ (σ8 σ9 : ST) (H : Heap) (locs : List Loc) (ls : Array Slot), J8 σ8 → J9 (σ9 9) → DKA (σ9 9) → KP σ8 (σ9 9) → va_P D clz (WD8 cy g1 σ8) H → va_P D clz (WD9 cy g2 σ9) H → va_S (lawA s) s.heap H locs → lv_has ls 4 [(3, .int i), (2, .ref (g2 60)), (1, .ref (gO g1 17)), (0, .ref b)] → W p l e room_1 s m #[Value.ref b] below meth c H locs 200 700000 (lw_Z below #[Value.ref b] s) (F0 m 2411 ls []))) (σ8 σ9 : ST) (H : Heap) (locs : List Loc) (ls : Array Slot) (hJ8 : J8 σ8) (hJ9 : J9 (σ9 9)) (hDK : DKA (σ9 9)) (hR : KP σ8 (σ9 9)) (hP8 : va_P D clz (WD8 cy g1 σ8) H) (hP9 : va_P D clz (WD9 cy g2 σ9) H) (hS : va_S (lawA s) s.heap H locs) (hl : lv_has ls 4 [(3, .int i), (2, .ref (g2 60)), (1, .ref (gO g1 17)), (0, .ref b)]) : W p l e room_1 s m #[Value.ref b] below meth c H locs 200 700000 (lw_Z below #[Value.ref b] s) (F0 m 1569 ls []) := by
  obtain ⟨⟨hx, hb, hr, hml, hown0, hts0, hX, hbl, hlocks, hgv⟩, hK, hDD, hC8, hC9⟩ := X
  have hown : s.vm.findClass RL = some m.cls := hown0
  have hts : ∀ w ∈ lw_g, w.before #[Value.ref b] s = true := fun w h => hts0 w (lw_gt h)
  have hbA : ¬ lawA s b := Nat.not_le.mpr hbl
  have hA8 := A8_law hDD
  have hA9 := A9_law hDD
  have hD8 : ∀ τ : ST, va_D (A8 cy g1 s.heap.size) (WD8 cy g1 τ) := fun τ => by rw [hA8]; exact map_D WD8_m (D_l hDD)
  have hD9 : ∀ τ : ST, va_D (A9 cy g2 s.heap.size) (WD9 cy g2 τ) := fun τ => by rw [hA9]; exact map_D WD9_m (D_r hDD)
  rw [← hA8] at hC8
  rw [← hA9] at hC9
  refine lv_aload_n hx hb dL_law_1569 rfl (lv_at hl 2 rfl) ?_
  refine lv_aload_n hx hb dL_law_1570 rfl (lv_at hl 3 rfl) ?_
  refine lv_iload_n hx hb dL_law_1571 rfl (lv_at hl 0 rfl) ?_
  refine lv_iconst (v := 1) hx hb dL_law_1572 (by decide) ?_
  refine lv_iadd hx hb dL_law_1573 ?_
  refine lv_topi (fun x1 ex1 => ?_)
  have t2 := addO ex1 (by have f0 := hi; have f1 := hL; have z1 : (1 : Int32).toInt = 1 := (by decide); omega)
  refine va_sld hx hb hX hbl hbA hS (vpo (by have f0 := t2; have f1 := hi; have f2 := hL; have g0 := rg32 x1; have z1 : (1 : Int32).toInt = 1 := (by decide); omega)) dL_law_1574 ?_
  refine lv_topi (fun x3 ex3 => ?_)
  have hSx : va_S (A8 cy g1 s.heap.size) s.heap H locs := by rw [hA8]; exact hS
  refine va_calli (va_runV (As := [.int x3]) (rest := []) ⟨hx, hb, hml, hown, hts⟩ (m_X8_line l D cy g1 σ8 x3 _ hJ8) (cwV 1 hts (gd_V q1217 q1218 q1219 q125 q1220) rfl rfl rfl (by decide +kernel) ⟨Nat.le_of_ble_eq_true rfl, Nat.le_of_ble_eq_true rfl⟩) (pv8 hP8 hK hD8 hC8 hSx (rv8_8 hK hP8)) rfl rfl hl.1 rfl (lv_room (Nat.le_of_ble_eq_true rfl)) dL_law_1575 ⟨Nat.le_of_ble_eq_true rfl, Nat.le_of_ble_eq_true rfl⟩) hSx (fun q _ h => up8 hSx q h) (up8 hSx) (fun r4 υ5 tS H1 locs ht hvm hw6 hB hz1 hk1 hSy => ?_)
  have hP8 : va_P D clz (WD8 cy g1 υ5) H1 := by rw [← ht]; exact hB
  have hP9 := kp9 hDD hP9 hk1
  have hS : va_S (lawA s) s.heap H1 locs := by rw [← hA8]; exact hSy
  clear hB hz1 hk1 hvm ht hSx hSy
  generalize H1 = H at hP8 hP9 hS ⊢
  have hJ7 : J8 υ5 := hw6.2.1
  have hR8 : KP υ5 (σ9 9) := KP.fr8 hR (show Fr (fO [15]) σ8 υ5 from hw6.1) (by decide)
  refine lv_pop hx hb dL_law_1578 rfl ?_
  refine lv_aload_n hx hb dL_law_1579 rfl (lv_at hl 1 rfl) ?_
  refine lv_aload_n hx hb dL_law_1580 rfl (lv_at hl 3 rfl) ?_
  refine lv_iload_n hx hb dL_law_1581 rfl (lv_at hl 0 rfl) ?_
  refine lv_iconst (v := 1) hx hb dL_law_1582 (by decide) ?_
  refine lv_iadd hx hb dL_law_1583 ?_
  refine lv_topi (fun x9 ex9 => ?_)
  have t10 := addO ex9 (by have f0 := hi; have f1 := hL; have f2 := t2; have z1 : (1 : Int32).toInt = 1 := (by decide); omega)
  refine va_sld hx hb hX hbl hbA hS (vpo (by have f0 := t10; have f1 := hi; have f2 := hL; have f3 := t2; have g0 := rg32 x9; have z1 : (1 : Int32).toInt = 1 := (by decide); omega)) dL_law_1584 ?_
  refine lv_topi (fun x11 ex11 => ?_)
  have hSx : va_S (A9 cy g2 s.heap.size) s.heap H locs := by rw [hA9]; exact hS
  refine va_calli (va_runV (As := [.int x11]) (rest := []) ⟨hx, hb, hml, hown, hts⟩ (m_X9_line_ l D cy g2 σ9 x11 _ hJ9 ) (cwV 1 hts (gd_V q2020 q2021 q2022 q134 q2023) rfl rfl rfl (by decide +kernel) ⟨Nat.le_of_ble_eq_true rfl, Nat.le_of_ble_eq_true rfl⟩) (pv9 hP9 hK hD9 hC9 hSx (va_recv hK hP9 (ci := 9) (q0 := 0) rfl rfl)) rfl rfl hl.1 rfl (lv_room (Nat.le_of_ble_eq_true rfl)) dL_law_1585 ⟨Nat.le_of_ble_eq_true rfl, Nat.le_of_ble_eq_true rfl⟩) hSx (fun q _ h => up9 hSx q h) (up9 hSx) (fun r12 υ13 tS H1 locs ht hvm hw14 hB hz1 hk1 hSy => ?_)
  have hP9 : va_P D clz (WD9 cy g2 υ13) H1 := by rw [← ht]; exact hB
  have hP8 := kp8 hDD hP8 hk1
  have hS : va_S (lawA s) s.heap H1 locs := by rw [← hA9]; exact hSy
  clear hB hz1 hk1 hvm ht hSx hSy
  generalize H1 = H at hP8 hP9 hS ⊢
  have hF15 : Fr (fL [0, 50, 51, 52, 53, 54]) σ9 υ13 := hw14.1
  have hJ16 : J9 (υ13 9) := hw14.2.1
  have hK17 : DKA (υ13 9) := DKA.mv hDK (hF15 9 17 rfl).2.2.1 (hF15 9 18 rfl).2.2.1 (hF15 9 19 rfl).2.2.1
  have hR18 : KP υ5 (υ13 9) := KP.fr9 hR8 (hF15 9 22 rfl).2.2.1
  refine lv_pop hx hb dL_law_1588 rfl ?_
  refine lv_goto (tgt := 2411) hx hb dL_law_1589 (by decide) ?_
  exact hnext _ _ _ _ _ hJ7 hJ16 hK17 hR18 hP8 hP9 hS hl

theorem q1225 : Cond.methodLink RL 163 yX8_best ∈ lw_g := lw_gm (List.mem_of_getElem? (i := 1225) (by decide +kernel)) rfl
theorem q1226 : Cond.instanceMethod yX8_best ∈ lw_g := lw_gm (List.mem_of_getElem? (i := 1226) (by decide +kernel)) rfl
theorem q1227 : Cond.selects RX8 yX8_best yX8_best ∈ lw_g := lw_gm (List.mem_of_getElem? (i := 1227) (by decide +kernel)) rfl
theorem q2024 : Cond.methodLink RL 166 yX9_best ∈ lw_g := lw_gm (List.mem_of_getElem? (i := 2024) (by decide +kernel)) rfl
theorem q2025 : Cond.instanceMethod yX9_best ∈ lw_g := lw_gm (List.mem_of_getElem? (i := 2025) (by decide +kernel)) rfl
theorem q2026 : Cond.selects RX9 yX9_best yX9_best ∈ lw_g := lw_gm (List.mem_of_getElem? (i := 2026) (by decide +kernel)) rfl
theorem dL_law_1592 : decode cL_law 1592 = .ok (.aload_n 1, 1) := by decide +kernel
theorem dL_law_1593 : decode cL_law 1593 = .ok (.aload_n 0, 1) := by decide +kernel
theorem dL_law_1594 : decode cL_law 1594 = .ok (.iload_n 3, 1) := by decide +kernel
theorem dL_law_1595 : decode cL_law 1595 = .ok (.iconst 1, 1) := by decide +kernel
theorem dL_law_1596 : decode cL_law 1596 = .ok (.iadd, 1) := by decide +kernel
theorem dL_law_1597 : decode cL_law 1597 = .ok (.iaload, 1) := by decide +kernel
theorem dL_law_1598 : decode cL_law 1598 = .ok (.invokevirtual 163, 3) := by decide +kernel
theorem dL_law_1601 : decode cL_law 1601 = .ok (.pop, 1) := by decide +kernel
theorem dL_law_1602 : decode cL_law 1602 = .ok (.aload_n 2, 1) := by decide +kernel
theorem dL_law_1603 : decode cL_law 1603 = .ok (.aload_n 0, 1) := by decide +kernel
theorem dL_law_1604 : decode cL_law 1604 = .ok (.iload_n 3, 1) := by decide +kernel
theorem dL_law_1605 : decode cL_law 1605 = .ok (.iconst 1, 1) := by decide +kernel
theorem dL_law_1606 : decode cL_law 1606 = .ok (.iadd, 1) := by decide +kernel
theorem dL_law_1607 : decode cL_law 1607 = .ok (.iaload, 1) := by decide +kernel
theorem dL_law_1608 : decode cL_law 1608 = .ok (.invokevirtual 166, 3) := by decide +kernel
theorem dL_law_1611 : decode cL_law 1611 = .ok (.pop, 1) := by decide +kernel
theorem dL_law_1612 : decode cL_law 1612 = .ok (.goto 799, 3) := by decide +kernel
set_option maxHeartbeats 4000000 in
set_option maxRecDepth 100000 in
theorem lawc_36 {p : Program} {l : Launch} {e : Env} {s : State} {m : MethodId} {below : List Frame} {meth : Method} {c : Code} {b L : Nat} {xs : Nat → Int32} {D : va_G} {cy : Nat → ClassId} {g1 g2 : Nat → Nat} (X : LX p s m meth c b L xs D cy g1 g2) (hL : L ≤ 3072) {i : Int32} (hi : (0 : Int) ≤ i.toInt ∧ i.toInt + 6 ≤ (L : Int)) (hnext : (∀ (σ8 σ9 : ST) (H : Heap) (locs : List Loc) (ls : Array Slot), J8 σ8 → J9 (σ9 9) → DKA (σ9 9) → KP σ8 (σ9 9) → va_P D clz (WD8 cy g1 σ8) H → va_P D clz (WD9 cy g2 σ9) H → va_S (lawA s) s.heap H locs → lv_has ls 4 [(3, .int i), (2, .ref (g2 60)), (1, .ref (gO g1 17)), (0, .ref b)] → W p l e room_1 s m #[Value.ref b] below meth c H locs 200 700000 (lw_Z below #[Value.ref b] s) (F0 m 2411 ls []))) (σ8 σ9 : ST) (H : Heap) (locs : List Loc) (ls : Array Slot) (hJ8 : J8 σ8) (hJ9 : J9 (σ9 9)) (hDK : DKA (σ9 9)) (hR : KP σ8 (σ9 9)) (hP8 : va_P D clz (WD8 cy g1 σ8) H) (hP9 : va_P D clz (WD9 cy g2 σ9) H) (hS : va_S (lawA s) s.heap H locs) (hl : lv_has ls 4 [(3, .int i), (2, .ref (g2 60)), (1, .ref (gO g1 17)), (0, .ref b)]) : W p l e room_1 s m #[Value.ref b] below meth c H locs 200 700000 (lw_Z below #[Value.ref b] s) (F0 m 1592 ls []) := by
  obtain ⟨⟨hx, hb, hr, hml, hown0, hts0, hX, hbl, hlocks, hgv⟩, hK, hDD, hC8, hC9⟩ := X
  have hown : s.vm.findClass RL = some m.cls := hown0
  have hts : ∀ w ∈ lw_g, w.before #[Value.ref b] s = true := fun w h => hts0 w (lw_gt h)
  have hbA : ¬ lawA s b := Nat.not_le.mpr hbl
  have hA8 := A8_law hDD
  have hA9 := A9_law hDD
  have hD8 : ∀ τ : ST, va_D (A8 cy g1 s.heap.size) (WD8 cy g1 τ) := fun τ => by rw [hA8]; exact map_D WD8_m (D_l hDD)
  have hD9 : ∀ τ : ST, va_D (A9 cy g2 s.heap.size) (WD9 cy g2 τ) := fun τ => by rw [hA9]; exact map_D WD9_m (D_r hDD)
  rw [← hA8] at hC8
  rw [← hA9] at hC9
  refine lv_aload_n hx hb dL_law_1592 rfl (lv_at hl 2 rfl) ?_
  refine lv_aload_n hx hb dL_law_1593 rfl (lv_at hl 3 rfl) ?_
  refine lv_iload_n hx hb dL_law_1594 rfl (lv_at hl 0 rfl) ?_
  refine lv_iconst (v := 1) hx hb dL_law_1595 (by decide) ?_
  refine lv_iadd hx hb dL_law_1596 ?_
  refine lv_topi (fun x1 ex1 => ?_)
  have t2 := addO ex1 (by have f0 := hi; have f1 := hL; have z1 : (1 : Int32).toInt = 1 := (by decide); omega)
  refine va_sld hx hb hX hbl hbA hS (vpo (by have f0 := t2; have f1 := hi; have f2 := hL; have g0 := rg32 x1; have z1 : (1 : Int32).toInt = 1 := (by decide); omega)) dL_law_1597 ?_
  refine lv_topi (fun x3 ex3 => ?_)
  have hSx : va_S (A8 cy g1 s.heap.size) s.heap H locs := by rw [hA8]; exact hS
  refine va_calli (va_runV (As := [.int x3]) (rest := []) ⟨hx, hb, hml, hown, hts⟩ (m_X8_best l D cy g1 σ8 x3 _ hJ8) (cwV 1 hts (gd_V q1225 q1226 q1227 q125 q1228) rfl rfl rfl (by decide +kernel) ⟨Nat.le_of_ble_eq_true rfl, Nat.le_of_ble_eq_true rfl⟩) (pv8 hP8 hK hD8 hC8 hSx (rv8_8 hK hP8)) rfl rfl hl.1 rfl (lv_room (Nat.le_of_ble_eq_true rfl)) dL_law_1598 ⟨Nat.le_of_ble_eq_true rfl, Nat.le_of_ble_eq_true rfl⟩) hSx (fun q _ h => up8 hSx q h) (up8 hSx) (fun r4 υ5 tS H1 locs ht hvm hw6 hB hz1 hk1 hSy => ?_)
  have hP8 : va_P D clz (WD8 cy g1 υ5) H1 := by rw [← ht]; exact hB
  have hP9 := kp9 hDD hP9 hk1
  have hS : va_S (lawA s) s.heap H1 locs := by rw [← hA8]; exact hSy
  clear hB hz1 hk1 hvm ht hSx hSy
  generalize H1 = H at hP8 hP9 hS ⊢
  have hJ7 : J8 υ5 := hw6.2.1
  have hR8 : KP υ5 (σ9 9) := KP.fr8 hR (show Fr (fO [11, 13]) σ8 υ5 from hw6.1) (by decide)
  refine lv_pop hx hb dL_law_1601 rfl ?_
  refine lv_aload_n hx hb dL_law_1602 rfl (lv_at hl 1 rfl) ?_
  refine lv_aload_n hx hb dL_law_1603 rfl (lv_at hl 3 rfl) ?_
  refine lv_iload_n hx hb dL_law_1604 rfl (lv_at hl 0 rfl) ?_
  refine lv_iconst (v := 1) hx hb dL_law_1605 (by decide) ?_
  refine lv_iadd hx hb dL_law_1606 ?_
  refine lv_topi (fun x9 ex9 => ?_)
  have t10 := addO ex9 (by have f0 := hi; have f1 := hL; have f2 := t2; have z1 : (1 : Int32).toInt = 1 := (by decide); omega)
  refine va_sld hx hb hX hbl hbA hS (vpo (by have f0 := t10; have f1 := hi; have f2 := hL; have f3 := t2; have g0 := rg32 x9; have z1 : (1 : Int32).toInt = 1 := (by decide); omega)) dL_law_1607 ?_
  refine lv_topi (fun x11 ex11 => ?_)
  have hSx : va_S (A9 cy g2 s.heap.size) s.heap H locs := by rw [hA9]; exact hS
  refine va_calli (va_runV (As := [.int x11]) (rest := []) ⟨hx, hb, hml, hown, hts⟩ (m_X9_best l D cy g2 σ9 x11 _ hJ9 (DKA.zero hDK)) (cwV 1 hts (gd_V q2024 q2025 q2026 q134 q2027) rfl rfl rfl (by decide +kernel) ⟨Nat.le_of_ble_eq_true rfl, Nat.le_of_ble_eq_true rfl⟩) (pv9 hP9 hK hD9 hC9 hSx (va_recv hK hP9 (ci := 9) (q0 := 0) rfl rfl)) rfl rfl hl.1 rfl (lv_room (Nat.le_of_ble_eq_true rfl)) dL_law_1608 ⟨Nat.le_of_ble_eq_true rfl, Nat.le_of_ble_eq_true rfl⟩) hSx (fun q _ h => up9 hSx q h) (up9 hSx) (fun r12 υ13 tS H1 locs ht hvm hw14 hB hz1 hk1 hSy => ?_)
  have hP9 : va_P D clz (WD9 cy g2 υ13) H1 := by rw [← ht]; exact hB
  have hP8 := kp8 hDD hP8 hk1
  have hS : va_S (lawA s) s.heap H1 locs := by rw [← hA9]; exact hSy
  clear hB hz1 hk1 hvm ht hSx hSy
  generalize H1 = H at hP8 hP9 hS ⊢
  have hF15 : Fr (fL [0, 23, 24, 25, 26, 27, 28, 29, 30, 31, 32, 33, 34, 35, 36, 37, 38, 39, 40, 41]) σ9 υ13 := hw14.1
  have hJ16 : J9 (υ13 9) := hw14.2.1
  have hK17 : DKA (υ13 9) := DKA.mv hDK (hF15 9 17 rfl).2.2.1 (hF15 9 18 rfl).2.2.1 (hF15 9 19 rfl).2.2.1
  have hR18 : KP υ5 (υ13 9) := KP.fr9 hR8 (hF15 9 22 rfl).2.2.1
  refine lv_pop hx hb dL_law_1611 rfl ?_
  refine lv_goto (tgt := 2411) hx hb dL_law_1612 (by decide) ?_
  exact hnext _ _ _ _ _ hJ7 hJ16 hK17 hR18 hP8 hP9 hS hl

theorem q1229 : Cond.methodLink RL 167 yX8_shared ∈ lw_g := lw_gm (List.mem_of_getElem? (i := 1229) (by decide +kernel)) rfl
theorem q1230 : Cond.instanceMethod yX8_shared ∈ lw_g := lw_gm (List.mem_of_getElem? (i := 1230) (by decide +kernel)) rfl
theorem q1231 : Cond.selects RX8 yX8_shared yX8_shared ∈ lw_g := lw_gm (List.mem_of_getElem? (i := 1231) (by decide +kernel)) rfl
theorem q2028 : Cond.methodLink RL 170 yX9_shared ∈ lw_g := lw_gm (List.mem_of_getElem? (i := 2028) (by decide +kernel)) rfl
theorem q2029 : Cond.instanceMethod yX9_shared ∈ lw_g := lw_gm (List.mem_of_getElem? (i := 2029) (by decide +kernel)) rfl
theorem q2030 : Cond.selects RX9 yX9_shared yX9_shared ∈ lw_g := lw_gm (List.mem_of_getElem? (i := 2030) (by decide +kernel)) rfl
theorem dL_law_1615 : decode cL_law 1615 = .ok (.aload_n 1, 1) := by decide +kernel
theorem dL_law_1616 : decode cL_law 1616 = .ok (.invokevirtual 167, 3) := by decide +kernel
theorem dL_law_1619 : decode cL_law 1619 = .ok (.pop, 1) := by decide +kernel
theorem dL_law_1620 : decode cL_law 1620 = .ok (.aload_n 2, 1) := by decide +kernel
theorem dL_law_1621 : decode cL_law 1621 = .ok (.invokevirtual 170, 3) := by decide +kernel
theorem dL_law_1624 : decode cL_law 1624 = .ok (.pop, 1) := by decide +kernel
theorem dL_law_1625 : decode cL_law 1625 = .ok (.goto 786, 3) := by decide +kernel
set_option maxHeartbeats 4000000 in
set_option maxRecDepth 100000 in
theorem lawc_37 {p : Program} {l : Launch} {e : Env} {s : State} {m : MethodId} {below : List Frame} {meth : Method} {c : Code} {b L : Nat} {xs : Nat → Int32} {D : va_G} {cy : Nat → ClassId} {g1 g2 : Nat → Nat} (X : LX p s m meth c b L xs D cy g1 g2) (hL : L ≤ 3072) {i : Int32} (hi : (0 : Int) ≤ i.toInt ∧ i.toInt + 6 ≤ (L : Int)) (hnext : (∀ (σ8 σ9 : ST) (H : Heap) (locs : List Loc) (ls : Array Slot), J8 σ8 → J9 (σ9 9) → DKA (σ9 9) → KP σ8 (σ9 9) → va_P D clz (WD8 cy g1 σ8) H → va_P D clz (WD9 cy g2 σ9) H → va_S (lawA s) s.heap H locs → lv_has ls 4 [(3, .int i), (2, .ref (g2 60)), (1, .ref (gO g1 17)), (0, .ref b)] → W p l e room_1 s m #[Value.ref b] below meth c H locs 200 700000 (lw_Z below #[Value.ref b] s) (F0 m 2411 ls []))) (σ8 σ9 : ST) (H : Heap) (locs : List Loc) (ls : Array Slot) (hJ8 : J8 σ8) (hJ9 : J9 (σ9 9)) (hDK : DKA (σ9 9)) (hR : KP σ8 (σ9 9)) (hP8 : va_P D clz (WD8 cy g1 σ8) H) (hP9 : va_P D clz (WD9 cy g2 σ9) H) (hS : va_S (lawA s) s.heap H locs) (hl : lv_has ls 4 [(3, .int i), (2, .ref (g2 60)), (1, .ref (gO g1 17)), (0, .ref b)]) : W p l e room_1 s m #[Value.ref b] below meth c H locs 200 700000 (lw_Z below #[Value.ref b] s) (F0 m 1615 ls []) := by
  obtain ⟨⟨hx, hb, hr, hml, hown0, hts0, hX, hbl, hlocks, hgv⟩, hK, hDD, hC8, hC9⟩ := X
  have hown : s.vm.findClass RL = some m.cls := hown0
  have hts : ∀ w ∈ lw_g, w.before #[Value.ref b] s = true := fun w h => hts0 w (lw_gt h)
  have hbA : ¬ lawA s b := Nat.not_le.mpr hbl
  have hA8 := A8_law hDD
  have hA9 := A9_law hDD
  have hD8 : ∀ τ : ST, va_D (A8 cy g1 s.heap.size) (WD8 cy g1 τ) := fun τ => by rw [hA8]; exact map_D WD8_m (D_l hDD)
  have hD9 : ∀ τ : ST, va_D (A9 cy g2 s.heap.size) (WD9 cy g2 τ) := fun τ => by rw [hA9]; exact map_D WD9_m (D_r hDD)
  rw [← hA8] at hC8
  rw [← hA9] at hC9
  refine lv_aload_n hx hb dL_law_1615 rfl (lv_at hl 2 rfl) ?_
  have hSx : va_S (A8 cy g1 s.heap.size) s.heap H locs := by rw [hA8]; exact hS
  refine va_calli (va_runV (As := []) (rest := []) ⟨hx, hb, hml, hown, hts⟩ (m_X8_shared l D cy g1 σ8  _ hJ8) (cwV 0 hts (gd_V q1229 q1230 q1231 q125 q1232) rfl rfl rfl (by decide +kernel) ⟨Nat.le_of_ble_eq_true rfl, Nat.le_of_ble_eq_true rfl⟩) (pv8 hP8 hK hD8 hC8 hSx (rv8_8 hK hP8)) rfl rfl hl.1 rfl (lv_room (Nat.le_of_ble_eq_true rfl)) dL_law_1616 ⟨Nat.le_of_ble_eq_true rfl, Nat.le_of_ble_eq_true rfl⟩) hSx (fun q _ h => up8 hSx q h) (up8 hSx) (fun r1 υ2 tS H1 locs ht hvm hw3 hB hz1 hk1 hSy => ?_)
  have hP8 : va_P D clz (WD8 cy g1 υ2) H1 := by rw [← ht]; exact hB
  have hP9 := kp9 hDD hP9 hk1
  have hS : va_S (lawA s) s.heap H1 locs := by rw [← hA8]; exact hSy
  clear hB hz1 hk1 hvm ht hSx hSy
  generalize H1 = H at hP8 hP9 hS ⊢
  have hJ4 : J8 υ2 := hw3.2.1
  have hR5 : KP υ2 (σ9 9) := KP.fr8 hR (show Fr (fO [11, 13, 16]) σ8 υ2 from hw3.1) (by decide)
  refine lv_pop hx hb dL_law_1619 rfl ?_
  refine lv_aload_n hx hb dL_law_1620 rfl (lv_at hl 1 rfl) ?_
  have hSx : va_S (A9 cy g2 s.heap.size) s.heap H locs := by rw [hA9]; exact hS
  refine va_calli (va_runV (As := []) (rest := []) ⟨hx, hb, hml, hown, hts⟩ (m_X9_shared l D cy g2 σ9  _ hJ9 (DKA.zero hDK)) (cwV 0 hts (gd_V q2028 q2029 q2030 q134 q2031) rfl rfl rfl (by decide +kernel) ⟨Nat.le_of_ble_eq_true rfl, Nat.le_of_ble_eq_true rfl⟩) (pv9 hP9 hK hD9 hC9 hSx (va_recv hK hP9 (ci := 9) (q0 := 0) rfl rfl)) rfl rfl hl.1 rfl (lv_room (Nat.le_of_ble_eq_true rfl)) dL_law_1621 ⟨Nat.le_of_ble_eq_true rfl, Nat.le_of_ble_eq_true rfl⟩) hSx (fun q _ h => up9 hSx q h) (up9 hSx) (fun r6 υ7 tS H1 locs ht hvm hw8 hB hz1 hk1 hSy => ?_)
  have hP9 : va_P D clz (WD9 cy g2 υ7) H1 := by rw [← ht]; exact hB
  have hP8 := kp8 hDD hP8 hk1
  have hS : va_S (lawA s) s.heap H1 locs := by rw [← hA9]; exact hSy
  clear hB hz1 hk1 hvm ht hSx hSy
  generalize H1 = H at hP8 hP9 hS ⊢
  have hF9 : Fr (fL [0, 23, 24, 25, 26, 27, 28, 29, 30, 31, 32, 33, 34, 35, 36, 37, 38, 39, 40, 41, 55, 56, 57, 58]) σ9 υ7 := hw8.1
  have hJ10 : J9 (υ7 9) := hw8.2.1
  have hK11 : DKA (υ7 9) := DKA.mv hDK (hF9 9 17 rfl).2.2.1 (hF9 9 18 rfl).2.2.1 (hF9 9 19 rfl).2.2.1
  have hR12 : KP υ2 (υ7 9) := KP.fr9 hR5 (hF9 9 22 rfl).2.2.1
  refine lv_pop hx hb dL_law_1624 rfl ?_
  refine lv_goto (tgt := 2411) hx hb dL_law_1625 (by decide) ?_
  exact hnext _ _ _ _ _ hJ4 hJ10 hK11 hR12 hP8 hP9 hS hl

theorem q1251 : Cond.methodLink RL 171 yX8_given ∈ lw_g := lw_gm (List.mem_of_getElem? (i := 1251) (by decide +kernel)) rfl
theorem q1252 : Cond.instanceMethod yX8_given ∈ lw_g := lw_gm (List.mem_of_getElem? (i := 1252) (by decide +kernel)) rfl
theorem q1253 : Cond.selects RX8 yX8_given yX8_given ∈ lw_g := lw_gm (List.mem_of_getElem? (i := 1253) (by decide +kernel)) rfl
theorem q2044 : Cond.methodLink RL 174 yX9_given ∈ lw_g := lw_gm (List.mem_of_getElem? (i := 2044) (by decide +kernel)) rfl
theorem q2045 : Cond.instanceMethod yX9_given ∈ lw_g := lw_gm (List.mem_of_getElem? (i := 2045) (by decide +kernel)) rfl
theorem q2046 : Cond.selects RX9 yX9_given yX9_given ∈ lw_g := lw_gm (List.mem_of_getElem? (i := 2046) (by decide +kernel)) rfl
theorem dL_law_1628 : decode cL_law 1628 = .ok (.aload_n 1, 1) := by decide +kernel
theorem dL_law_1629 : decode cL_law 1629 = .ok (.aload_n 0, 1) := by decide +kernel
theorem dL_law_1630 : decode cL_law 1630 = .ok (.iload_n 3, 1) := by decide +kernel
theorem dL_law_1631 : decode cL_law 1631 = .ok (.iconst 1, 1) := by decide +kernel
theorem dL_law_1632 : decode cL_law 1632 = .ok (.iadd, 1) := by decide +kernel
theorem dL_law_1633 : decode cL_law 1633 = .ok (.iaload, 1) := by decide +kernel
theorem dL_law_1634 : decode cL_law 1634 = .ok (.invokevirtual 171, 3) := by decide +kernel
theorem dL_law_1637 : decode cL_law 1637 = .ok (.pop, 1) := by decide +kernel
theorem dL_law_1638 : decode cL_law 1638 = .ok (.aload_n 2, 1) := by decide +kernel
theorem dL_law_1639 : decode cL_law 1639 = .ok (.aload_n 0, 1) := by decide +kernel
theorem dL_law_1640 : decode cL_law 1640 = .ok (.iload_n 3, 1) := by decide +kernel
theorem dL_law_1641 : decode cL_law 1641 = .ok (.iconst 1, 1) := by decide +kernel
theorem dL_law_1642 : decode cL_law 1642 = .ok (.iadd, 1) := by decide +kernel
theorem dL_law_1643 : decode cL_law 1643 = .ok (.iaload, 1) := by decide +kernel
theorem dL_law_1644 : decode cL_law 1644 = .ok (.invokevirtual 174, 3) := by decide +kernel
theorem dL_law_1647 : decode cL_law 1647 = .ok (.pop, 1) := by decide +kernel
theorem dL_law_1648 : decode cL_law 1648 = .ok (.goto 763, 3) := by decide +kernel
set_option maxHeartbeats 4000000 in
set_option maxRecDepth 100000 in
theorem lawc_38 {p : Program} {l : Launch} {e : Env} {s : State} {m : MethodId} {below : List Frame} {meth : Method} {c : Code} {b L : Nat} {xs : Nat → Int32} {D : va_G} {cy : Nat → ClassId} {g1 g2 : Nat → Nat} (X : LX p s m meth c b L xs D cy g1 g2) (hL : L ≤ 3072) {i : Int32} (hi : (0 : Int) ≤ i.toInt ∧ i.toInt + 6 ≤ (L : Int)) (hnext : (∀ (σ8 σ9 : ST) (H : Heap) (locs : List Loc) (ls : Array Slot), J8 σ8 → J9 (σ9 9) → DKA (σ9 9) → KP σ8 (σ9 9) → va_P D clz (WD8 cy g1 σ8) H → va_P D clz (WD9 cy g2 σ9) H → va_S (lawA s) s.heap H locs → lv_has ls 4 [(3, .int i), (2, .ref (g2 60)), (1, .ref (gO g1 17)), (0, .ref b)] → W p l e room_1 s m #[Value.ref b] below meth c H locs 200 700000 (lw_Z below #[Value.ref b] s) (F0 m 2411 ls []))) (σ8 σ9 : ST) (H : Heap) (locs : List Loc) (ls : Array Slot) (hJ8 : J8 σ8) (hJ9 : J9 (σ9 9)) (hDK : DKA (σ9 9)) (hR : KP σ8 (σ9 9)) (hP8 : va_P D clz (WD8 cy g1 σ8) H) (hP9 : va_P D clz (WD9 cy g2 σ9) H) (hS : va_S (lawA s) s.heap H locs) (hl : lv_has ls 4 [(3, .int i), (2, .ref (g2 60)), (1, .ref (gO g1 17)), (0, .ref b)]) : W p l e room_1 s m #[Value.ref b] below meth c H locs 200 700000 (lw_Z below #[Value.ref b] s) (F0 m 1628 ls []) := by
  obtain ⟨⟨hx, hb, hr, hml, hown0, hts0, hX, hbl, hlocks, hgv⟩, hK, hDD, hC8, hC9⟩ := X
  have hown : s.vm.findClass RL = some m.cls := hown0
  have hts : ∀ w ∈ lw_g, w.before #[Value.ref b] s = true := fun w h => hts0 w (lw_gt h)
  have hbA : ¬ lawA s b := Nat.not_le.mpr hbl
  have hA8 := A8_law hDD
  have hA9 := A9_law hDD
  have hD8 : ∀ τ : ST, va_D (A8 cy g1 s.heap.size) (WD8 cy g1 τ) := fun τ => by rw [hA8]; exact map_D WD8_m (D_l hDD)
  have hD9 : ∀ τ : ST, va_D (A9 cy g2 s.heap.size) (WD9 cy g2 τ) := fun τ => by rw [hA9]; exact map_D WD9_m (D_r hDD)
  rw [← hA8] at hC8
  rw [← hA9] at hC9
  refine lv_aload_n hx hb dL_law_1628 rfl (lv_at hl 2 rfl) ?_
  refine lv_aload_n hx hb dL_law_1629 rfl (lv_at hl 3 rfl) ?_
  refine lv_iload_n hx hb dL_law_1630 rfl (lv_at hl 0 rfl) ?_
  refine lv_iconst (v := 1) hx hb dL_law_1631 (by decide) ?_
  refine lv_iadd hx hb dL_law_1632 ?_
  refine lv_topi (fun x1 ex1 => ?_)
  have t2 := addO ex1 (by have f0 := hi; have f1 := hL; have z1 : (1 : Int32).toInt = 1 := (by decide); omega)
  refine va_sld hx hb hX hbl hbA hS (vpo (by have f0 := t2; have f1 := hi; have f2 := hL; have g0 := rg32 x1; have z1 : (1 : Int32).toInt = 1 := (by decide); omega)) dL_law_1633 ?_
  refine lv_topi (fun x3 ex3 => ?_)
  have hSx : va_S (A8 cy g1 s.heap.size) s.heap H locs := by rw [hA8]; exact hS
  refine va_calli (va_runV (As := [.int x3]) (rest := []) ⟨hx, hb, hml, hown, hts⟩ (m_X8_given l D cy g1 σ8 x3 _ hJ8) (cwV 1 hts (gd_V q1251 q1252 q1253 q125 q1254) rfl rfl rfl (by decide +kernel) ⟨Nat.le_of_ble_eq_true rfl, Nat.le_of_ble_eq_true rfl⟩) (pv8 hP8 hK hD8 hC8 hSx (rv8_8 hK hP8)) rfl rfl hl.1 rfl (lv_room (Nat.le_of_ble_eq_true rfl)) dL_law_1634 ⟨Nat.le_of_ble_eq_true rfl, Nat.le_of_ble_eq_true rfl⟩) hSx (fun q _ h => up8 hSx q h) (up8 hSx) (fun r4 υ5 tS H1 locs ht hvm hw6 hB hz1 hk1 hSy => ?_)
  have hP8 : va_P D clz (WD8 cy g1 υ5) H1 := by rw [← ht]; exact hB
  have hP9 := kp9 hDD hP9 hk1
  have hS : va_S (lawA s) s.heap H1 locs := by rw [← hA8]; exact hSy
  clear hB hz1 hk1 hvm ht hSx hSy
  generalize H1 = H at hP8 hP9 hS ⊢
  have hJ7 : J8 υ5 := hw6.2.1
  have hR8 : KP υ5 (σ9 9) := KP.fr8 hR (show Fr (fO [11, 13, 16]) σ8 υ5 from hw6.1) (by decide)
  refine lv_pop hx hb dL_law_1637 rfl ?_
  refine lv_aload_n hx hb dL_law_1638 rfl (lv_at hl 1 rfl) ?_
  refine lv_aload_n hx hb dL_law_1639 rfl (lv_at hl 3 rfl) ?_
  refine lv_iload_n hx hb dL_law_1640 rfl (lv_at hl 0 rfl) ?_
  refine lv_iconst (v := 1) hx hb dL_law_1641 (by decide) ?_
  refine lv_iadd hx hb dL_law_1642 ?_
  refine lv_topi (fun x9 ex9 => ?_)
  have t10 := addO ex9 (by have f0 := hi; have f1 := hL; have f2 := t2; have z1 : (1 : Int32).toInt = 1 := (by decide); omega)
  refine va_sld hx hb hX hbl hbA hS (vpo (by have f0 := t10; have f1 := hi; have f2 := hL; have f3 := t2; have g0 := rg32 x9; have z1 : (1 : Int32).toInt = 1 := (by decide); omega)) dL_law_1643 ?_
  refine lv_topi (fun x11 ex11 => ?_)
  have hSx : va_S (A9 cy g2 s.heap.size) s.heap H locs := by rw [hA9]; exact hS
  refine va_calli (va_runV (As := [.int x11]) (rest := []) ⟨hx, hb, hml, hown, hts⟩ (m_X9_given l D cy g2 σ9 x11 _ hJ9 (DKA.zero hDK)) (cwV 1 hts (gd_V q2044 q2045 q2046 q134 q2047) rfl rfl rfl (by decide +kernel) ⟨Nat.le_of_ble_eq_true rfl, Nat.le_of_ble_eq_true rfl⟩) (pv9 hP9 hK hD9 hC9 hSx (va_recv hK hP9 (ci := 9) (q0 := 0) rfl rfl)) rfl rfl hl.1 rfl (lv_room (Nat.le_of_ble_eq_true rfl)) dL_law_1644 ⟨Nat.le_of_ble_eq_true rfl, Nat.le_of_ble_eq_true rfl⟩) hSx (fun q _ h => up9 hSx q h) (up9 hSx) (fun r12 υ13 tS H1 locs ht hvm hw14 hB hz1 hk1 hSy => ?_)
  have hP9 : va_P D clz (WD9 cy g2 υ13) H1 := by rw [← ht]; exact hB
  have hP8 := kp8 hDD hP8 hk1
  have hS : va_S (lawA s) s.heap H1 locs := by rw [← hA9]; exact hSy
  clear hB hz1 hk1 hvm ht hSx hSy
  generalize H1 = H at hP8 hP9 hS ⊢
  have hF15 : Fr (fL [0, 23, 24, 25, 26, 27, 28, 29, 30, 31, 32, 33, 34, 35, 36, 37, 38, 39, 40, 41, 55, 56, 57, 58]) σ9 υ13 := hw14.1
  have hJ16 : J9 (υ13 9) := hw14.2.1
  have hK17 : DKA (υ13 9) := DKA.mv hDK (hF15 9 17 rfl).2.2.1 (hF15 9 18 rfl).2.2.1 (hF15 9 19 rfl).2.2.1
  have hR18 : KP υ5 (υ13 9) := KP.fr9 hR8 (hF15 9 22 rfl).2.2.1
  refine lv_pop hx hb dL_law_1647 rfl ?_
  refine lv_goto (tgt := 2411) hx hb dL_law_1648 (by decide) ?_
  exact hnext _ _ _ _ _ hJ7 hJ16 hK17 hR18 hP8 hP9 hS hl

theorem q1259 : Cond.methodLink RL 175 yX8_judge ∈ lw_g := lw_gm (List.mem_of_getElem? (i := 1259) (by decide +kernel)) rfl
theorem q1260 : Cond.instanceMethod yX8_judge ∈ lw_g := lw_gm (List.mem_of_getElem? (i := 1260) (by decide +kernel)) rfl
theorem q1261 : Cond.selects RX8 yX8_judge yX8_judge ∈ lw_g := lw_gm (List.mem_of_getElem? (i := 1261) (by decide +kernel)) rfl
theorem q2048 : Cond.methodLink RL 178 yX9_judge ∈ lw_g := lw_gm (List.mem_of_getElem? (i := 2048) (by decide +kernel)) rfl
theorem q2049 : Cond.instanceMethod yX9_judge ∈ lw_g := lw_gm (List.mem_of_getElem? (i := 2049) (by decide +kernel)) rfl
theorem q2050 : Cond.selects RX9 yX9_judge yX9_judge ∈ lw_g := lw_gm (List.mem_of_getElem? (i := 2050) (by decide +kernel)) rfl
theorem dL_law_1651 : decode cL_law 1651 = .ok (.aload_n 1, 1) := by decide +kernel
theorem dL_law_1652 : decode cL_law 1652 = .ok (.aload_n 0, 1) := by decide +kernel
theorem dL_law_1653 : decode cL_law 1653 = .ok (.iload_n 3, 1) := by decide +kernel
theorem dL_law_1654 : decode cL_law 1654 = .ok (.iconst 1, 1) := by decide +kernel
theorem dL_law_1655 : decode cL_law 1655 = .ok (.iadd, 1) := by decide +kernel
theorem dL_law_1656 : decode cL_law 1656 = .ok (.iaload, 1) := by decide +kernel
theorem dL_law_1657 : decode cL_law 1657 = .ok (.aload_n 0, 1) := by decide +kernel
theorem dL_law_1658 : decode cL_law 1658 = .ok (.iload_n 3, 1) := by decide +kernel
theorem dL_law_1659 : decode cL_law 1659 = .ok (.iconst 2, 1) := by decide +kernel
theorem dL_law_1660 : decode cL_law 1660 = .ok (.iadd, 1) := by decide +kernel
theorem dL_law_1661 : decode cL_law 1661 = .ok (.iaload, 1) := by decide +kernel
theorem dL_law_1662 : decode cL_law 1662 = .ok (.aload_n 0, 1) := by decide +kernel
theorem dL_law_1663 : decode cL_law 1663 = .ok (.iload_n 3, 1) := by decide +kernel
theorem dL_law_1664 : decode cL_law 1664 = .ok (.iconst 3, 1) := by decide +kernel
theorem dL_law_1665 : decode cL_law 1665 = .ok (.iadd, 1) := by decide +kernel
theorem dL_law_1666 : decode cL_law 1666 = .ok (.iaload, 1) := by decide +kernel
theorem dL_law_1667 : decode cL_law 1667 = .ok (.invokevirtual 175, 3) := by decide +kernel
theorem dL_law_1670 : decode cL_law 1670 = .ok (.pop, 1) := by decide +kernel
theorem dL_law_1671 : decode cL_law 1671 = .ok (.aload_n 2, 1) := by decide +kernel
theorem dL_law_1672 : decode cL_law 1672 = .ok (.aload_n 0, 1) := by decide +kernel
theorem dL_law_1673 : decode cL_law 1673 = .ok (.iload_n 3, 1) := by decide +kernel
theorem dL_law_1674 : decode cL_law 1674 = .ok (.iconst 1, 1) := by decide +kernel
theorem dL_law_1675 : decode cL_law 1675 = .ok (.iadd, 1) := by decide +kernel
theorem dL_law_1676 : decode cL_law 1676 = .ok (.iaload, 1) := by decide +kernel
theorem dL_law_1677 : decode cL_law 1677 = .ok (.aload_n 0, 1) := by decide +kernel
theorem dL_law_1678 : decode cL_law 1678 = .ok (.iload_n 3, 1) := by decide +kernel
theorem dL_law_1679 : decode cL_law 1679 = .ok (.iconst 2, 1) := by decide +kernel
theorem dL_law_1680 : decode cL_law 1680 = .ok (.iadd, 1) := by decide +kernel
theorem dL_law_1681 : decode cL_law 1681 = .ok (.iaload, 1) := by decide +kernel
theorem dL_law_1682 : decode cL_law 1682 = .ok (.aload_n 0, 1) := by decide +kernel
theorem dL_law_1683 : decode cL_law 1683 = .ok (.iload_n 3, 1) := by decide +kernel
theorem dL_law_1684 : decode cL_law 1684 = .ok (.iconst 3, 1) := by decide +kernel
theorem dL_law_1685 : decode cL_law 1685 = .ok (.iadd, 1) := by decide +kernel
theorem dL_law_1686 : decode cL_law 1686 = .ok (.iaload, 1) := by decide +kernel
theorem dL_law_1687 : decode cL_law 1687 = .ok (.invokevirtual 178, 3) := by decide +kernel
theorem dL_law_1690 : decode cL_law 1690 = .ok (.pop, 1) := by decide +kernel
theorem dL_law_1691 : decode cL_law 1691 = .ok (.goto 720, 3) := by decide +kernel
set_option maxHeartbeats 4000000 in
set_option maxRecDepth 100000 in
theorem lawc_39 {p : Program} {l : Launch} {e : Env} {s : State} {m : MethodId} {below : List Frame} {meth : Method} {c : Code} {b L : Nat} {xs : Nat → Int32} {D : va_G} {cy : Nat → ClassId} {g1 g2 : Nat → Nat} (X : LX p s m meth c b L xs D cy g1 g2) (hL : L ≤ 3072) {i : Int32} (hi : (0 : Int) ≤ i.toInt ∧ i.toInt + 6 ≤ (L : Int)) (hnext : (∀ (σ8 σ9 : ST) (H : Heap) (locs : List Loc) (ls : Array Slot), J8 σ8 → J9 (σ9 9) → DKA (σ9 9) → KP σ8 (σ9 9) → va_P D clz (WD8 cy g1 σ8) H → va_P D clz (WD9 cy g2 σ9) H → va_S (lawA s) s.heap H locs → lv_has ls 4 [(3, .int i), (2, .ref (g2 60)), (1, .ref (gO g1 17)), (0, .ref b)] → W p l e room_1 s m #[Value.ref b] below meth c H locs 200 700000 (lw_Z below #[Value.ref b] s) (F0 m 2411 ls []))) (σ8 σ9 : ST) (H : Heap) (locs : List Loc) (ls : Array Slot) (hJ8 : J8 σ8) (hJ9 : J9 (σ9 9)) (hDK : DKA (σ9 9)) (hR : KP σ8 (σ9 9)) (hP8 : va_P D clz (WD8 cy g1 σ8) H) (hP9 : va_P D clz (WD9 cy g2 σ9) H) (hS : va_S (lawA s) s.heap H locs) (hl : lv_has ls 4 [(3, .int i), (2, .ref (g2 60)), (1, .ref (gO g1 17)), (0, .ref b)]) : W p l e room_1 s m #[Value.ref b] below meth c H locs 200 700000 (lw_Z below #[Value.ref b] s) (F0 m 1651 ls []) := by
  obtain ⟨⟨hx, hb, hr, hml, hown0, hts0, hX, hbl, hlocks, hgv⟩, hK, hDD, hC8, hC9⟩ := X
  have hown : s.vm.findClass RL = some m.cls := hown0
  have hts : ∀ w ∈ lw_g, w.before #[Value.ref b] s = true := fun w h => hts0 w (lw_gt h)
  have hbA : ¬ lawA s b := Nat.not_le.mpr hbl
  have hA8 := A8_law hDD
  have hA9 := A9_law hDD
  have hD8 : ∀ τ : ST, va_D (A8 cy g1 s.heap.size) (WD8 cy g1 τ) := fun τ => by rw [hA8]; exact map_D WD8_m (D_l hDD)
  have hD9 : ∀ τ : ST, va_D (A9 cy g2 s.heap.size) (WD9 cy g2 τ) := fun τ => by rw [hA9]; exact map_D WD9_m (D_r hDD)
  rw [← hA8] at hC8
  rw [← hA9] at hC9
  refine lv_aload_n hx hb dL_law_1651 rfl (lv_at hl 2 rfl) ?_
  refine lv_aload_n hx hb dL_law_1652 rfl (lv_at hl 3 rfl) ?_
  refine lv_iload_n hx hb dL_law_1653 rfl (lv_at hl 0 rfl) ?_
  refine lv_iconst (v := 1) hx hb dL_law_1654 (by decide) ?_
  refine lv_iadd hx hb dL_law_1655 ?_
  refine lv_topi (fun x1 ex1 => ?_)
  have t2 := addO ex1 (by have f0 := hi; have f1 := hL; have z1 : (1 : Int32).toInt = 1 := (by decide); omega)
  refine va_sld hx hb hX hbl hbA hS (vpo (by have f0 := t2; have f1 := hi; have f2 := hL; have g0 := rg32 x1; have z1 : (1 : Int32).toInt = 1 := (by decide); omega)) dL_law_1656 ?_
  refine lv_topi (fun x3 ex3 => ?_)
  refine lv_aload_n hx hb dL_law_1657 rfl (lv_at hl 3 rfl) ?_
  refine lv_iload_n hx hb dL_law_1658 rfl (lv_at hl 0 rfl) ?_
  refine lv_iconst (v := 2) hx hb dL_law_1659 (by decide) ?_
  refine lv_iadd hx hb dL_law_1660 ?_
  refine lv_topi (fun x4 ex4 => ?_)
  have t5 := addO ex4 (by have f0 := hi; have f1 := hL; have f2 := t2; have z1 : (1 : Int32).toInt = 1 := (by decide); have z2 : (2 : Int32).toInt = 2 := (by decide); omega)
  refine va_sld hx hb hX hbl hbA hS (vpo (by have f0 := t5; have f1 := hi; have f2 := hL; have f3 := t2; have g0 := rg32 x4; have z1 : (1 : Int32).toInt = 1 := (by decide); have z2 : (2 : Int32).toInt = 2 := (by decide); omega)) dL_law_1661 ?_
  refine lv_topi (fun x6 ex6 => ?_)
  refine lv_aload_n hx hb dL_law_1662 rfl (lv_at hl 3 rfl) ?_
  refine lv_iload_n hx hb dL_law_1663 rfl (lv_at hl 0 rfl) ?_
  refine lv_iconst (v := 3) hx hb dL_law_1664 (by decide) ?_
  refine lv_iadd hx hb dL_law_1665 ?_
  refine lv_topi (fun x7 ex7 => ?_)
  have t8 := addO ex7 (by have f0 := hi; have f1 := hL; have f2 := t2; have f3 := t5; have z1 : (1 : Int32).toInt = 1 := (by decide); have z2 : (2 : Int32).toInt = 2 := (by decide); have z3 : (3 : Int32).toInt = 3 := (by decide); omega)
  refine va_sld hx hb hX hbl hbA hS (vpo (by have f0 := t8; have f1 := hi; have f2 := hL; have f3 := t2; have f4 := t5; have g0 := rg32 x7; have z1 : (1 : Int32).toInt = 1 := (by decide); have z2 : (2 : Int32).toInt = 2 := (by decide); have z3 : (3 : Int32).toInt = 3 := (by decide); omega)) dL_law_1666 ?_
  refine lv_topi (fun x9 ex9 => ?_)
  have hSx : va_S (A8 cy g1 s.heap.size) s.heap H locs := by rw [hA8]; exact hS
  refine va_calli (va_runV (As := [.int x3, .int x6, .int x9]) (rest := []) ⟨hx, hb, hml, hown, hts⟩ (m_X8_judge l D cy g1 σ8 x3 x6 x9 _ hJ8) (cwV 3 hts (gd_V q1259 q1260 q1261 q125 q1262) rfl rfl rfl (by decide +kernel) ⟨Nat.le_of_ble_eq_true rfl, Nat.le_of_ble_eq_true rfl⟩) (pv8 hP8 hK hD8 hC8 hSx (rv8_8 hK hP8)) rfl rfl hl.1 rfl (lv_room (Nat.le_of_ble_eq_true rfl)) dL_law_1667 ⟨Nat.le_of_ble_eq_true rfl, Nat.le_of_ble_eq_true rfl⟩) hSx (fun q _ h => up8 hSx q h) (up8 hSx) (fun r10 υ11 tS H1 locs ht hvm hw12 hB hz1 hk1 hSy => ?_)
  have hP8 : va_P D clz (WD8 cy g1 υ11) H1 := by rw [← ht]; exact hB
  have hP9 := kp9 hDD hP9 hk1
  have hS : va_S (lawA s) s.heap H1 locs := by rw [← hA8]; exact hSy
  clear hB hz1 hk1 hvm ht hSx hSy
  generalize H1 = H at hP8 hP9 hS ⊢
  have hJ13 : J8 υ11 := hw12.2.1
  have hR14 : KP υ11 (σ9 9) := KP.fr8 hR (show Fr (fO [11, 13]) σ8 υ11 from hw12.1) (by decide)
  refine lv_pop hx hb dL_law_1670 rfl ?_
  refine lv_aload_n hx hb dL_law_1671 rfl (lv_at hl 1 rfl) ?_
  refine lv_aload_n hx hb dL_law_1672 rfl (lv_at hl 3 rfl) ?_
  refine lv_iload_n hx hb dL_law_1673 rfl (lv_at hl 0 rfl) ?_
  refine lv_iconst (v := 1) hx hb dL_law_1674 (by decide) ?_
  refine lv_iadd hx hb dL_law_1675 ?_
  refine lv_topi (fun x15 ex15 => ?_)
  have t16 := addO ex15 (by have f0 := hi; have f1 := hL; have f2 := t2; have f3 := t5; have f4 := t8; have z1 : (1 : Int32).toInt = 1 := (by decide); have z2 : (2 : Int32).toInt = 2 := (by decide); have z3 : (3 : Int32).toInt = 3 := (by decide); omega)
  refine va_sld hx hb hX hbl hbA hS (vpo (by have f0 := t16; have f1 := hi; have f2 := hL; have f3 := t2; have f4 := t5; have f5 := t8; have g0 := rg32 x15; have z1 : (1 : Int32).toInt = 1 := (by decide); have z2 : (2 : Int32).toInt = 2 := (by decide); have z3 : (3 : Int32).toInt = 3 := (by decide); omega)) dL_law_1676 ?_
  refine lv_topi (fun x17 ex17 => ?_)
  refine lv_aload_n hx hb dL_law_1677 rfl (lv_at hl 3 rfl) ?_
  refine lv_iload_n hx hb dL_law_1678 rfl (lv_at hl 0 rfl) ?_
  refine lv_iconst (v := 2) hx hb dL_law_1679 (by decide) ?_
  refine lv_iadd hx hb dL_law_1680 ?_
  refine lv_topi (fun x18 ex18 => ?_)
  have t19 := addO ex18 (by have f0 := hi; have f1 := hL; have f2 := t2; have f3 := t5; have f4 := t8; have f5 := t16; have z1 : (1 : Int32).toInt = 1 := (by decide); have z2 : (2 : Int32).toInt = 2 := (by decide); have z3 : (3 : Int32).toInt = 3 := (by decide); omega)
  refine va_sld hx hb hX hbl hbA hS (vpo (by have f0 := t19; have f1 := hi; have f2 := hL; have f3 := t2; have f4 := t5; have f5 := t8; have f6 := t16; have g0 := rg32 x18; have z1 : (1 : Int32).toInt = 1 := (by decide); have z2 : (2 : Int32).toInt = 2 := (by decide); have z3 : (3 : Int32).toInt = 3 := (by decide); omega)) dL_law_1681 ?_
  refine lv_topi (fun x20 ex20 => ?_)
  refine lv_aload_n hx hb dL_law_1682 rfl (lv_at hl 3 rfl) ?_
  refine lv_iload_n hx hb dL_law_1683 rfl (lv_at hl 0 rfl) ?_
  refine lv_iconst (v := 3) hx hb dL_law_1684 (by decide) ?_
  refine lv_iadd hx hb dL_law_1685 ?_
  refine lv_topi (fun x21 ex21 => ?_)
  have t22 := addO ex21 (by have f0 := hi; have f1 := hL; have f2 := t2; have f3 := t5; have f4 := t8; have f5 := t16; have f6 := t19; have z1 : (1 : Int32).toInt = 1 := (by decide); have z2 : (2 : Int32).toInt = 2 := (by decide); have z3 : (3 : Int32).toInt = 3 := (by decide); omega)
  refine va_sld hx hb hX hbl hbA hS (vpo (by have f0 := t22; have f1 := hi; have f2 := hL; have f3 := t2; have f4 := t5; have f5 := t8; have f6 := t16; have f7 := t19; have g0 := rg32 x21; have z1 : (1 : Int32).toInt = 1 := (by decide); have z2 : (2 : Int32).toInt = 2 := (by decide); have z3 : (3 : Int32).toInt = 3 := (by decide); omega)) dL_law_1686 ?_
  refine lv_topi (fun x23 ex23 => ?_)
  have hSx : va_S (A9 cy g2 s.heap.size) s.heap H locs := by rw [hA9]; exact hS
  refine va_calli (va_runV (As := [.int x17, .int x20, .int x23]) (rest := []) ⟨hx, hb, hml, hown, hts⟩ (m_X9_judge l D cy g2 σ9 x17 x20 x23 _ hJ9 (DKA.zero hDK)) (cwV 3 hts (gd_V q2048 q2049 q2050 q134 q2051) rfl rfl rfl (by decide +kernel) ⟨Nat.le_of_ble_eq_true rfl, Nat.le_of_ble_eq_true rfl⟩) (pv9 hP9 hK hD9 hC9 hSx (va_recv hK hP9 (ci := 9) (q0 := 0) rfl rfl)) rfl rfl hl.1 rfl (lv_room (Nat.le_of_ble_eq_true rfl)) dL_law_1687 ⟨Nat.le_of_ble_eq_true rfl, Nat.le_of_ble_eq_true rfl⟩) hSx (fun q _ h => up9 hSx q h) (up9 hSx) (fun r24 υ25 tS H1 locs ht hvm hw26 hB hz1 hk1 hSy => ?_)
  have hP9 : va_P D clz (WD9 cy g2 υ25) H1 := by rw [← ht]; exact hB
  have hP8 := kp8 hDD hP8 hk1
  have hS : va_S (lawA s) s.heap H1 locs := by rw [← hA9]; exact hSy
  clear hB hz1 hk1 hvm ht hSx hSy
  generalize H1 = H at hP8 hP9 hS ⊢
  have hF27 : Fr (fL [0, 23, 24, 25, 26, 27, 28, 29, 30, 31, 32, 33, 34]) σ9 υ25 := hw26.1
  have hJ28 : J9 (υ25 9) := hw26.2.1
  have hK29 : DKA (υ25 9) := DKA.mv hDK (hF27 9 17 rfl).2.2.1 (hF27 9 18 rfl).2.2.1 (hF27 9 19 rfl).2.2.1
  have hR30 : KP υ11 (υ25 9) := KP.fr9 hR14 (hF27 9 22 rfl).2.2.1
  refine lv_pop hx hb dL_law_1690 rfl ?_
  refine lv_goto (tgt := 2411) hx hb dL_law_1691 (by decide) ?_
  exact hnext _ _ _ _ _ hJ13 hJ28 hK29 hR30 hP8 hP9 hS hl

theorem q1279 : Cond.methodLink RL 179 yX8_told ∈ lw_g := lw_gm (List.mem_of_getElem? (i := 1279) (by decide +kernel)) rfl
theorem q1280 : Cond.instanceMethod yX8_told ∈ lw_g := lw_gm (List.mem_of_getElem? (i := 1280) (by decide +kernel)) rfl
theorem q1281 : Cond.selects RX8 yX8_told yX8_told ∈ lw_g := lw_gm (List.mem_of_getElem? (i := 1281) (by decide +kernel)) rfl
theorem q2064 : Cond.methodLink RL 182 yX9_told ∈ lw_g := lw_gm (List.mem_of_getElem? (i := 2064) (by decide +kernel)) rfl
theorem q2065 : Cond.instanceMethod yX9_told ∈ lw_g := lw_gm (List.mem_of_getElem? (i := 2065) (by decide +kernel)) rfl
theorem q2066 : Cond.selects RX9 yX9_told yX9_told ∈ lw_g := lw_gm (List.mem_of_getElem? (i := 2066) (by decide +kernel)) rfl
theorem dL_law_1694 : decode cL_law 1694 = .ok (.aload_n 1, 1) := by decide +kernel
theorem dL_law_1695 : decode cL_law 1695 = .ok (.aload_n 0, 1) := by decide +kernel
theorem dL_law_1696 : decode cL_law 1696 = .ok (.iload_n 3, 1) := by decide +kernel
theorem dL_law_1697 : decode cL_law 1697 = .ok (.iconst 1, 1) := by decide +kernel
theorem dL_law_1698 : decode cL_law 1698 = .ok (.iadd, 1) := by decide +kernel
theorem dL_law_1699 : decode cL_law 1699 = .ok (.iaload, 1) := by decide +kernel
theorem dL_law_1700 : decode cL_law 1700 = .ok (.aload_n 0, 1) := by decide +kernel
theorem dL_law_1701 : decode cL_law 1701 = .ok (.iload_n 3, 1) := by decide +kernel
theorem dL_law_1702 : decode cL_law 1702 = .ok (.iconst 2, 1) := by decide +kernel
theorem dL_law_1703 : decode cL_law 1703 = .ok (.iadd, 1) := by decide +kernel
theorem dL_law_1704 : decode cL_law 1704 = .ok (.iaload, 1) := by decide +kernel
theorem dL_law_1705 : decode cL_law 1705 = .ok (.aload_n 0, 1) := by decide +kernel
theorem dL_law_1706 : decode cL_law 1706 = .ok (.iload_n 3, 1) := by decide +kernel
theorem dL_law_1707 : decode cL_law 1707 = .ok (.iconst 3, 1) := by decide +kernel
theorem dL_law_1708 : decode cL_law 1708 = .ok (.iadd, 1) := by decide +kernel
theorem dL_law_1709 : decode cL_law 1709 = .ok (.iaload, 1) := by decide +kernel
theorem dL_law_1710 : decode cL_law 1710 = .ok (.invokevirtual 179, 3) := by decide +kernel
theorem dL_law_1713 : decode cL_law 1713 = .ok (.pop, 1) := by decide +kernel
theorem dL_law_1714 : decode cL_law 1714 = .ok (.aload_n 2, 1) := by decide +kernel
theorem dL_law_1715 : decode cL_law 1715 = .ok (.aload_n 0, 1) := by decide +kernel
theorem dL_law_1716 : decode cL_law 1716 = .ok (.iload_n 3, 1) := by decide +kernel
theorem dL_law_1717 : decode cL_law 1717 = .ok (.iconst 1, 1) := by decide +kernel
theorem dL_law_1718 : decode cL_law 1718 = .ok (.iadd, 1) := by decide +kernel
theorem dL_law_1719 : decode cL_law 1719 = .ok (.iaload, 1) := by decide +kernel
theorem dL_law_1720 : decode cL_law 1720 = .ok (.aload_n 0, 1) := by decide +kernel
theorem dL_law_1721 : decode cL_law 1721 = .ok (.iload_n 3, 1) := by decide +kernel
theorem dL_law_1722 : decode cL_law 1722 = .ok (.iconst 2, 1) := by decide +kernel
theorem dL_law_1723 : decode cL_law 1723 = .ok (.iadd, 1) := by decide +kernel
theorem dL_law_1724 : decode cL_law 1724 = .ok (.iaload, 1) := by decide +kernel
theorem dL_law_1725 : decode cL_law 1725 = .ok (.aload_n 0, 1) := by decide +kernel
theorem dL_law_1726 : decode cL_law 1726 = .ok (.iload_n 3, 1) := by decide +kernel
theorem dL_law_1727 : decode cL_law 1727 = .ok (.iconst 3, 1) := by decide +kernel
theorem dL_law_1728 : decode cL_law 1728 = .ok (.iadd, 1) := by decide +kernel
theorem dL_law_1729 : decode cL_law 1729 = .ok (.iaload, 1) := by decide +kernel
theorem dL_law_1730 : decode cL_law 1730 = .ok (.invokevirtual 182, 3) := by decide +kernel
theorem dL_law_1733 : decode cL_law 1733 = .ok (.pop, 1) := by decide +kernel
theorem dL_law_1734 : decode cL_law 1734 = .ok (.goto 677, 3) := by decide +kernel
set_option maxHeartbeats 4000000 in
set_option maxRecDepth 100000 in
theorem lawc_40 {p : Program} {l : Launch} {e : Env} {s : State} {m : MethodId} {below : List Frame} {meth : Method} {c : Code} {b L : Nat} {xs : Nat → Int32} {D : va_G} {cy : Nat → ClassId} {g1 g2 : Nat → Nat} (X : LX p s m meth c b L xs D cy g1 g2) (hL : L ≤ 3072) {i : Int32} (hi : (0 : Int) ≤ i.toInt ∧ i.toInt + 6 ≤ (L : Int)) (hnext : (∀ (σ8 σ9 : ST) (H : Heap) (locs : List Loc) (ls : Array Slot), J8 σ8 → J9 (σ9 9) → DKA (σ9 9) → KP σ8 (σ9 9) → va_P D clz (WD8 cy g1 σ8) H → va_P D clz (WD9 cy g2 σ9) H → va_S (lawA s) s.heap H locs → lv_has ls 4 [(3, .int i), (2, .ref (g2 60)), (1, .ref (gO g1 17)), (0, .ref b)] → W p l e room_1 s m #[Value.ref b] below meth c H locs 200 700000 (lw_Z below #[Value.ref b] s) (F0 m 2411 ls []))) (σ8 σ9 : ST) (H : Heap) (locs : List Loc) (ls : Array Slot) (hJ8 : J8 σ8) (hJ9 : J9 (σ9 9)) (hDK : DKA (σ9 9)) (hR : KP σ8 (σ9 9)) (hP8 : va_P D clz (WD8 cy g1 σ8) H) (hP9 : va_P D clz (WD9 cy g2 σ9) H) (hS : va_S (lawA s) s.heap H locs) (hl : lv_has ls 4 [(3, .int i), (2, .ref (g2 60)), (1, .ref (gO g1 17)), (0, .ref b)]) : W p l e room_1 s m #[Value.ref b] below meth c H locs 200 700000 (lw_Z below #[Value.ref b] s) (F0 m 1694 ls []) := by
  obtain ⟨⟨hx, hb, hr, hml, hown0, hts0, hX, hbl, hlocks, hgv⟩, hK, hDD, hC8, hC9⟩ := X
  have hown : s.vm.findClass RL = some m.cls := hown0
  have hts : ∀ w ∈ lw_g, w.before #[Value.ref b] s = true := fun w h => hts0 w (lw_gt h)
  have hbA : ¬ lawA s b := Nat.not_le.mpr hbl
  have hA8 := A8_law hDD
  have hA9 := A9_law hDD
  have hD8 : ∀ τ : ST, va_D (A8 cy g1 s.heap.size) (WD8 cy g1 τ) := fun τ => by rw [hA8]; exact map_D WD8_m (D_l hDD)
  have hD9 : ∀ τ : ST, va_D (A9 cy g2 s.heap.size) (WD9 cy g2 τ) := fun τ => by rw [hA9]; exact map_D WD9_m (D_r hDD)
  rw [← hA8] at hC8
  rw [← hA9] at hC9
  refine lv_aload_n hx hb dL_law_1694 rfl (lv_at hl 2 rfl) ?_
  refine lv_aload_n hx hb dL_law_1695 rfl (lv_at hl 3 rfl) ?_
  refine lv_iload_n hx hb dL_law_1696 rfl (lv_at hl 0 rfl) ?_
  refine lv_iconst (v := 1) hx hb dL_law_1697 (by decide) ?_
  refine lv_iadd hx hb dL_law_1698 ?_
  refine lv_topi (fun x1 ex1 => ?_)
  have t2 := addO ex1 (by have f0 := hi; have f1 := hL; have z1 : (1 : Int32).toInt = 1 := (by decide); omega)
  refine va_sld hx hb hX hbl hbA hS (vpo (by have f0 := t2; have f1 := hi; have f2 := hL; have g0 := rg32 x1; have z1 : (1 : Int32).toInt = 1 := (by decide); omega)) dL_law_1699 ?_
  refine lv_topi (fun x3 ex3 => ?_)
  refine lv_aload_n hx hb dL_law_1700 rfl (lv_at hl 3 rfl) ?_
  refine lv_iload_n hx hb dL_law_1701 rfl (lv_at hl 0 rfl) ?_
  refine lv_iconst (v := 2) hx hb dL_law_1702 (by decide) ?_
  refine lv_iadd hx hb dL_law_1703 ?_
  refine lv_topi (fun x4 ex4 => ?_)
  have t5 := addO ex4 (by have f0 := hi; have f1 := hL; have f2 := t2; have z1 : (1 : Int32).toInt = 1 := (by decide); have z2 : (2 : Int32).toInt = 2 := (by decide); omega)
  refine va_sld hx hb hX hbl hbA hS (vpo (by have f0 := t5; have f1 := hi; have f2 := hL; have f3 := t2; have g0 := rg32 x4; have z1 : (1 : Int32).toInt = 1 := (by decide); have z2 : (2 : Int32).toInt = 2 := (by decide); omega)) dL_law_1704 ?_
  refine lv_topi (fun x6 ex6 => ?_)
  refine lv_aload_n hx hb dL_law_1705 rfl (lv_at hl 3 rfl) ?_
  refine lv_iload_n hx hb dL_law_1706 rfl (lv_at hl 0 rfl) ?_
  refine lv_iconst (v := 3) hx hb dL_law_1707 (by decide) ?_
  refine lv_iadd hx hb dL_law_1708 ?_
  refine lv_topi (fun x7 ex7 => ?_)
  have t8 := addO ex7 (by have f0 := hi; have f1 := hL; have f2 := t2; have f3 := t5; have z1 : (1 : Int32).toInt = 1 := (by decide); have z2 : (2 : Int32).toInt = 2 := (by decide); have z3 : (3 : Int32).toInt = 3 := (by decide); omega)
  refine va_sld hx hb hX hbl hbA hS (vpo (by have f0 := t8; have f1 := hi; have f2 := hL; have f3 := t2; have f4 := t5; have g0 := rg32 x7; have z1 : (1 : Int32).toInt = 1 := (by decide); have z2 : (2 : Int32).toInt = 2 := (by decide); have z3 : (3 : Int32).toInt = 3 := (by decide); omega)) dL_law_1709 ?_
  refine lv_topi (fun x9 ex9 => ?_)
  have hSx : va_S (A8 cy g1 s.heap.size) s.heap H locs := by rw [hA8]; exact hS
  refine va_calli (va_runV (As := [.int x3, .int x6, .int x9]) (rest := []) ⟨hx, hb, hml, hown, hts⟩ (m_X8_told l D cy g1 σ8 x3 x6 x9 _ hJ8) (cwV 3 hts (gd_V q1279 q1280 q1281 q125 q1282) rfl rfl rfl (by decide +kernel) ⟨Nat.le_of_ble_eq_true rfl, Nat.le_of_ble_eq_true rfl⟩) (pv8 hP8 hK hD8 hC8 hSx (rv8_8 hK hP8)) rfl rfl hl.1 rfl (lv_room (Nat.le_of_ble_eq_true rfl)) dL_law_1710 ⟨Nat.le_of_ble_eq_true rfl, Nat.le_of_ble_eq_true rfl⟩) hSx (fun q _ h => up8 hSx q h) (up8 hSx) (fun r10 υ11 tS H1 locs ht hvm hw12 hB hz1 hk1 hSy => ?_)
  have hP8 : va_P D clz (WD8 cy g1 υ11) H1 := by rw [← ht]; exact hB
  have hP9 := kp9 hDD hP9 hk1
  have hS : va_S (lawA s) s.heap H1 locs := by rw [← hA8]; exact hSy
  clear hB hz1 hk1 hvm ht hSx hSy
  generalize H1 = H at hP8 hP9 hS ⊢
  have hJ13 : J8 υ11 := hw12.2.1
  have hR14 : KP υ11 (σ9 9) := KP.fr8 hR (show Fr (fO [11, 13]) σ8 υ11 from hw12.1) (by decide)
  refine lv_pop hx hb dL_law_1713 rfl ?_
  refine lv_aload_n hx hb dL_law_1714 rfl (lv_at hl 1 rfl) ?_
  refine lv_aload_n hx hb dL_law_1715 rfl (lv_at hl 3 rfl) ?_
  refine lv_iload_n hx hb dL_law_1716 rfl (lv_at hl 0 rfl) ?_
  refine lv_iconst (v := 1) hx hb dL_law_1717 (by decide) ?_
  refine lv_iadd hx hb dL_law_1718 ?_
  refine lv_topi (fun x15 ex15 => ?_)
  have t16 := addO ex15 (by have f0 := hi; have f1 := hL; have f2 := t2; have f3 := t5; have f4 := t8; have z1 : (1 : Int32).toInt = 1 := (by decide); have z2 : (2 : Int32).toInt = 2 := (by decide); have z3 : (3 : Int32).toInt = 3 := (by decide); omega)
  refine va_sld hx hb hX hbl hbA hS (vpo (by have f0 := t16; have f1 := hi; have f2 := hL; have f3 := t2; have f4 := t5; have f5 := t8; have g0 := rg32 x15; have z1 : (1 : Int32).toInt = 1 := (by decide); have z2 : (2 : Int32).toInt = 2 := (by decide); have z3 : (3 : Int32).toInt = 3 := (by decide); omega)) dL_law_1719 ?_
  refine lv_topi (fun x17 ex17 => ?_)
  refine lv_aload_n hx hb dL_law_1720 rfl (lv_at hl 3 rfl) ?_
  refine lv_iload_n hx hb dL_law_1721 rfl (lv_at hl 0 rfl) ?_
  refine lv_iconst (v := 2) hx hb dL_law_1722 (by decide) ?_
  refine lv_iadd hx hb dL_law_1723 ?_
  refine lv_topi (fun x18 ex18 => ?_)
  have t19 := addO ex18 (by have f0 := hi; have f1 := hL; have f2 := t2; have f3 := t5; have f4 := t8; have f5 := t16; have z1 : (1 : Int32).toInt = 1 := (by decide); have z2 : (2 : Int32).toInt = 2 := (by decide); have z3 : (3 : Int32).toInt = 3 := (by decide); omega)
  refine va_sld hx hb hX hbl hbA hS (vpo (by have f0 := t19; have f1 := hi; have f2 := hL; have f3 := t2; have f4 := t5; have f5 := t8; have f6 := t16; have g0 := rg32 x18; have z1 : (1 : Int32).toInt = 1 := (by decide); have z2 : (2 : Int32).toInt = 2 := (by decide); have z3 : (3 : Int32).toInt = 3 := (by decide); omega)) dL_law_1724 ?_
  refine lv_topi (fun x20 ex20 => ?_)
  refine lv_aload_n hx hb dL_law_1725 rfl (lv_at hl 3 rfl) ?_
  refine lv_iload_n hx hb dL_law_1726 rfl (lv_at hl 0 rfl) ?_
  refine lv_iconst (v := 3) hx hb dL_law_1727 (by decide) ?_
  refine lv_iadd hx hb dL_law_1728 ?_
  refine lv_topi (fun x21 ex21 => ?_)
  have t22 := addO ex21 (by have f0 := hi; have f1 := hL; have f2 := t2; have f3 := t5; have f4 := t8; have f5 := t16; have f6 := t19; have z1 : (1 : Int32).toInt = 1 := (by decide); have z2 : (2 : Int32).toInt = 2 := (by decide); have z3 : (3 : Int32).toInt = 3 := (by decide); omega)
  refine va_sld hx hb hX hbl hbA hS (vpo (by have f0 := t22; have f1 := hi; have f2 := hL; have f3 := t2; have f4 := t5; have f5 := t8; have f6 := t16; have f7 := t19; have g0 := rg32 x21; have z1 : (1 : Int32).toInt = 1 := (by decide); have z2 : (2 : Int32).toInt = 2 := (by decide); have z3 : (3 : Int32).toInt = 3 := (by decide); omega)) dL_law_1729 ?_
  refine lv_topi (fun x23 ex23 => ?_)
  have hSx : va_S (A9 cy g2 s.heap.size) s.heap H locs := by rw [hA9]; exact hS
  refine va_calli (va_runV (As := [.int x17, .int x20, .int x23]) (rest := []) ⟨hx, hb, hml, hown, hts⟩ (m_X9_told l D cy g2 σ9 x17 x20 x23 _ hJ9 (DKA.zero hDK)) (cwV 3 hts (gd_V q2064 q2065 q2066 q134 q2067) rfl rfl rfl (by decide +kernel) ⟨Nat.le_of_ble_eq_true rfl, Nat.le_of_ble_eq_true rfl⟩) (pv9 hP9 hK hD9 hC9 hSx (va_recv hK hP9 (ci := 9) (q0 := 0) rfl rfl)) rfl rfl hl.1 rfl (lv_room (Nat.le_of_ble_eq_true rfl)) dL_law_1730 ⟨Nat.le_of_ble_eq_true rfl, Nat.le_of_ble_eq_true rfl⟩) hSx (fun q _ h => up9 hSx q h) (up9 hSx) (fun r24 υ25 tS H1 locs ht hvm hw26 hB hz1 hk1 hSy => ?_)
  have hP9 : va_P D clz (WD9 cy g2 υ25) H1 := by rw [← ht]; exact hB
  have hP8 := kp8 hDD hP8 hk1
  have hS : va_S (lawA s) s.heap H1 locs := by rw [← hA9]; exact hSy
  clear hB hz1 hk1 hvm ht hSx hSy
  generalize H1 = H at hP8 hP9 hS ⊢
  have hF27 : Fr (fL [0, 23, 24, 25, 26, 27, 28, 29, 30, 31, 32, 33, 34]) σ9 υ25 := hw26.1
  have hJ28 : J9 (υ25 9) := hw26.2.1
  have hK29 : DKA (υ25 9) := DKA.mv hDK (hF27 9 17 rfl).2.2.1 (hF27 9 18 rfl).2.2.1 (hF27 9 19 rfl).2.2.1
  have hR30 : KP υ11 (υ25 9) := KP.fr9 hR14 (hF27 9 22 rfl).2.2.1
  refine lv_pop hx hb dL_law_1733 rfl ?_
  refine lv_goto (tgt := 2411) hx hb dL_law_1734 (by decide) ?_
  exact hnext _ _ _ _ _ hJ13 hJ28 hK29 hR30 hP8 hP9 hS hl

theorem q1287 : Cond.methodLink RL 183 yX8_heard ∈ lw_g := lw_gm (List.mem_of_getElem? (i := 1287) (by decide +kernel)) rfl
theorem q1288 : Cond.instanceMethod yX8_heard ∈ lw_g := lw_gm (List.mem_of_getElem? (i := 1288) (by decide +kernel)) rfl
theorem q1289 : Cond.selects RX8 yX8_heard yX8_heard ∈ lw_g := lw_gm (List.mem_of_getElem? (i := 1289) (by decide +kernel)) rfl
theorem q2068 : Cond.methodLink RL 186 yX9_heard ∈ lw_g := lw_gm (List.mem_of_getElem? (i := 2068) (by decide +kernel)) rfl
theorem q2069 : Cond.instanceMethod yX9_heard ∈ lw_g := lw_gm (List.mem_of_getElem? (i := 2069) (by decide +kernel)) rfl
theorem q2070 : Cond.selects RX9 yX9_heard yX9_heard ∈ lw_g := lw_gm (List.mem_of_getElem? (i := 2070) (by decide +kernel)) rfl
theorem dL_law_1737 : decode cL_law 1737 = .ok (.aload_n 1, 1) := by decide +kernel
theorem dL_law_1738 : decode cL_law 1738 = .ok (.aload_n 0, 1) := by decide +kernel
theorem dL_law_1739 : decode cL_law 1739 = .ok (.iload_n 3, 1) := by decide +kernel
theorem dL_law_1740 : decode cL_law 1740 = .ok (.iconst 1, 1) := by decide +kernel
theorem dL_law_1741 : decode cL_law 1741 = .ok (.iadd, 1) := by decide +kernel
theorem dL_law_1742 : decode cL_law 1742 = .ok (.iaload, 1) := by decide +kernel
theorem dL_law_1743 : decode cL_law 1743 = .ok (.invokevirtual 183, 3) := by decide +kernel
theorem dL_law_1746 : decode cL_law 1746 = .ok (.pop, 1) := by decide +kernel
theorem dL_law_1747 : decode cL_law 1747 = .ok (.aload_n 2, 1) := by decide +kernel
theorem dL_law_1748 : decode cL_law 1748 = .ok (.aload_n 0, 1) := by decide +kernel
theorem dL_law_1749 : decode cL_law 1749 = .ok (.iload_n 3, 1) := by decide +kernel
theorem dL_law_1750 : decode cL_law 1750 = .ok (.iconst 1, 1) := by decide +kernel
theorem dL_law_1751 : decode cL_law 1751 = .ok (.iadd, 1) := by decide +kernel
theorem dL_law_1752 : decode cL_law 1752 = .ok (.iaload, 1) := by decide +kernel
theorem dL_law_1753 : decode cL_law 1753 = .ok (.invokevirtual 186, 3) := by decide +kernel
theorem dL_law_1756 : decode cL_law 1756 = .ok (.pop, 1) := by decide +kernel
theorem dL_law_1757 : decode cL_law 1757 = .ok (.goto 654, 3) := by decide +kernel
set_option maxHeartbeats 4000000 in
set_option maxRecDepth 100000 in
theorem lawc_41 {p : Program} {l : Launch} {e : Env} {s : State} {m : MethodId} {below : List Frame} {meth : Method} {c : Code} {b L : Nat} {xs : Nat → Int32} {D : va_G} {cy : Nat → ClassId} {g1 g2 : Nat → Nat} (X : LX p s m meth c b L xs D cy g1 g2) (hL : L ≤ 3072) {i : Int32} (hi : (0 : Int) ≤ i.toInt ∧ i.toInt + 6 ≤ (L : Int)) (hnext : (∀ (σ8 σ9 : ST) (H : Heap) (locs : List Loc) (ls : Array Slot), J8 σ8 → J9 (σ9 9) → DKA (σ9 9) → KP σ8 (σ9 9) → va_P D clz (WD8 cy g1 σ8) H → va_P D clz (WD9 cy g2 σ9) H → va_S (lawA s) s.heap H locs → lv_has ls 4 [(3, .int i), (2, .ref (g2 60)), (1, .ref (gO g1 17)), (0, .ref b)] → W p l e room_1 s m #[Value.ref b] below meth c H locs 200 700000 (lw_Z below #[Value.ref b] s) (F0 m 2411 ls []))) (σ8 σ9 : ST) (H : Heap) (locs : List Loc) (ls : Array Slot) (hJ8 : J8 σ8) (hJ9 : J9 (σ9 9)) (hDK : DKA (σ9 9)) (hR : KP σ8 (σ9 9)) (hP8 : va_P D clz (WD8 cy g1 σ8) H) (hP9 : va_P D clz (WD9 cy g2 σ9) H) (hS : va_S (lawA s) s.heap H locs) (hl : lv_has ls 4 [(3, .int i), (2, .ref (g2 60)), (1, .ref (gO g1 17)), (0, .ref b)]) : W p l e room_1 s m #[Value.ref b] below meth c H locs 200 700000 (lw_Z below #[Value.ref b] s) (F0 m 1737 ls []) := by
  obtain ⟨⟨hx, hb, hr, hml, hown0, hts0, hX, hbl, hlocks, hgv⟩, hK, hDD, hC8, hC9⟩ := X
  have hown : s.vm.findClass RL = some m.cls := hown0
  have hts : ∀ w ∈ lw_g, w.before #[Value.ref b] s = true := fun w h => hts0 w (lw_gt h)
  have hbA : ¬ lawA s b := Nat.not_le.mpr hbl
  have hA8 := A8_law hDD
  have hA9 := A9_law hDD
  have hD8 : ∀ τ : ST, va_D (A8 cy g1 s.heap.size) (WD8 cy g1 τ) := fun τ => by rw [hA8]; exact map_D WD8_m (D_l hDD)
  have hD9 : ∀ τ : ST, va_D (A9 cy g2 s.heap.size) (WD9 cy g2 τ) := fun τ => by rw [hA9]; exact map_D WD9_m (D_r hDD)
  rw [← hA8] at hC8
  rw [← hA9] at hC9
  refine lv_aload_n hx hb dL_law_1737 rfl (lv_at hl 2 rfl) ?_
  refine lv_aload_n hx hb dL_law_1738 rfl (lv_at hl 3 rfl) ?_
  refine lv_iload_n hx hb dL_law_1739 rfl (lv_at hl 0 rfl) ?_
  refine lv_iconst (v := 1) hx hb dL_law_1740 (by decide) ?_
  refine lv_iadd hx hb dL_law_1741 ?_
  refine lv_topi (fun x1 ex1 => ?_)
  have t2 := addO ex1 (by have f0 := hi; have f1 := hL; have z1 : (1 : Int32).toInt = 1 := (by decide); omega)
  refine va_sld hx hb hX hbl hbA hS (vpo (by have f0 := t2; have f1 := hi; have f2 := hL; have g0 := rg32 x1; have z1 : (1 : Int32).toInt = 1 := (by decide); omega)) dL_law_1742 ?_
  refine lv_topi (fun x3 ex3 => ?_)
  have hSx : va_S (A8 cy g1 s.heap.size) s.heap H locs := by rw [hA8]; exact hS
  refine va_calli (va_runV (As := [.int x3]) (rest := []) ⟨hx, hb, hml, hown, hts⟩ (m_X8_heard l D cy g1 σ8 x3 _ hJ8) (cwV 1 hts (gd_V q1287 q1288 q1289 q125 q1290) rfl rfl rfl (by decide +kernel) ⟨Nat.le_of_ble_eq_true rfl, Nat.le_of_ble_eq_true rfl⟩) (pv8 hP8 hK hD8 hC8 hSx (rv8_8 hK hP8)) rfl rfl hl.1 rfl (lv_room (Nat.le_of_ble_eq_true rfl)) dL_law_1743 ⟨Nat.le_of_ble_eq_true rfl, Nat.le_of_ble_eq_true rfl⟩) hSx (fun q _ h => up8 hSx q h) (up8 hSx) (fun r4 υ5 tS H1 locs ht hvm hw6 hB hz1 hk1 hSy => ?_)
  have hP8 : va_P D clz (WD8 cy g1 υ5) H1 := by rw [← ht]; exact hB
  have hP9 := kp9 hDD hP9 hk1
  have hS : va_S (lawA s) s.heap H1 locs := by rw [← hA8]; exact hSy
  clear hB hz1 hk1 hvm ht hSx hSy
  generalize H1 = H at hP8 hP9 hS ⊢
  have hJ7 : J8 υ5 := hw6.2.1
  have hR8 : KP υ5 (σ9 9) := KP.fr8 hR (show Fr (fO [9]) σ8 υ5 from hw6.1) (by decide)
  refine lv_pop hx hb dL_law_1746 rfl ?_
  refine lv_aload_n hx hb dL_law_1747 rfl (lv_at hl 1 rfl) ?_
  refine lv_aload_n hx hb dL_law_1748 rfl (lv_at hl 3 rfl) ?_
  refine lv_iload_n hx hb dL_law_1749 rfl (lv_at hl 0 rfl) ?_
  refine lv_iconst (v := 1) hx hb dL_law_1750 (by decide) ?_
  refine lv_iadd hx hb dL_law_1751 ?_
  refine lv_topi (fun x9 ex9 => ?_)
  have t10 := addO ex9 (by have f0 := hi; have f1 := hL; have f2 := t2; have z1 : (1 : Int32).toInt = 1 := (by decide); omega)
  refine va_sld hx hb hX hbl hbA hS (vpo (by have f0 := t10; have f1 := hi; have f2 := hL; have f3 := t2; have g0 := rg32 x9; have z1 : (1 : Int32).toInt = 1 := (by decide); omega)) dL_law_1752 ?_
  refine lv_topi (fun x11 ex11 => ?_)
  have hSx : va_S (A9 cy g2 s.heap.size) s.heap H locs := by rw [hA9]; exact hS
  refine va_calli (va_runV (As := [.int x11]) (rest := []) ⟨hx, hb, hml, hown, hts⟩ (m_X9_heard l D cy g2 σ9 x11 _ hJ9 (DKA.zero hDK)) (cwV 1 hts (gd_V q2068 q2069 q2070 q134 q2071) rfl rfl rfl (by decide +kernel) ⟨Nat.le_of_ble_eq_true rfl, Nat.le_of_ble_eq_true rfl⟩) (pv9 hP9 hK hD9 hC9 hSx (va_recv hK hP9 (ci := 9) (q0 := 0) rfl rfl)) rfl rfl hl.1 rfl (lv_room (Nat.le_of_ble_eq_true rfl)) dL_law_1753 ⟨Nat.le_of_ble_eq_true rfl, Nat.le_of_ble_eq_true rfl⟩) hSx (fun q _ h => up9 hSx q h) (up9 hSx) (fun r12 υ13 tS H1 locs ht hvm hw14 hB hz1 hk1 hSy => ?_)
  have hP9 : va_P D clz (WD9 cy g2 υ13) H1 := by rw [← ht]; exact hB
  have hP8 := kp8 hDD hP8 hk1
  have hS : va_S (lawA s) s.heap H1 locs := by rw [← hA9]; exact hSy
  clear hB hz1 hk1 hvm ht hSx hSy
  generalize H1 = H at hP8 hP9 hS ⊢
  have hF15 : Fr (fL [0, 23]) σ9 υ13 := hw14.1
  have hJ16 : J9 (υ13 9) := hw14.2.1
  have hK17 : DKA (υ13 9) := DKA.mv hDK (hF15 9 17 rfl).2.2.1 (hF15 9 18 rfl).2.2.1 (hF15 9 19 rfl).2.2.1
  have hR18 : KP υ5 (υ13 9) := KP.fr9 hR8 (hF15 9 22 rfl).2.2.1
  refine lv_pop hx hb dL_law_1756 rfl ?_
  refine lv_goto (tgt := 2411) hx hb dL_law_1757 (by decide) ?_
  exact hnext _ _ _ _ _ hJ7 hJ16 hK17 hR18 hP8 hP9 hS hl

theorem q1303 : Cond.methodLink RL 187 yX8_cracks ∈ lw_g := lw_gm (List.mem_of_getElem? (i := 1303) (by decide +kernel)) rfl
theorem q1304 : Cond.instanceMethod yX8_cracks ∈ lw_g := lw_gm (List.mem_of_getElem? (i := 1304) (by decide +kernel)) rfl
theorem q1305 : Cond.selects RX8 yX8_cracks yX8_cracks ∈ lw_g := lw_gm (List.mem_of_getElem? (i := 1305) (by decide +kernel)) rfl
theorem q2076 : Cond.methodLink RL 190 yX9_cracks ∈ lw_g := lw_gm (List.mem_of_getElem? (i := 2076) (by decide +kernel)) rfl
theorem q2077 : Cond.instanceMethod yX9_cracks ∈ lw_g := lw_gm (List.mem_of_getElem? (i := 2077) (by decide +kernel)) rfl
theorem q2078 : Cond.selects RX9 yX9_cracks yX9_cracks ∈ lw_g := lw_gm (List.mem_of_getElem? (i := 2078) (by decide +kernel)) rfl
theorem dL_law_1760 : decode cL_law 1760 = .ok (.aload_n 1, 1) := by decide +kernel
theorem dL_law_1761 : decode cL_law 1761 = .ok (.aload_n 0, 1) := by decide +kernel
theorem dL_law_1762 : decode cL_law 1762 = .ok (.iload_n 3, 1) := by decide +kernel
theorem dL_law_1763 : decode cL_law 1763 = .ok (.iconst 1, 1) := by decide +kernel
theorem dL_law_1764 : decode cL_law 1764 = .ok (.iadd, 1) := by decide +kernel
theorem dL_law_1765 : decode cL_law 1765 = .ok (.iaload, 1) := by decide +kernel
theorem dL_law_1766 : decode cL_law 1766 = .ok (.aload_n 0, 1) := by decide +kernel
theorem dL_law_1767 : decode cL_law 1767 = .ok (.iload_n 3, 1) := by decide +kernel
theorem dL_law_1768 : decode cL_law 1768 = .ok (.iconst 2, 1) := by decide +kernel
theorem dL_law_1769 : decode cL_law 1769 = .ok (.iadd, 1) := by decide +kernel
theorem dL_law_1770 : decode cL_law 1770 = .ok (.iaload, 1) := by decide +kernel
theorem dL_law_1771 : decode cL_law 1771 = .ok (.aload_n 0, 1) := by decide +kernel
theorem dL_law_1772 : decode cL_law 1772 = .ok (.iload_n 3, 1) := by decide +kernel
theorem dL_law_1773 : decode cL_law 1773 = .ok (.iconst 3, 1) := by decide +kernel
theorem dL_law_1774 : decode cL_law 1774 = .ok (.iadd, 1) := by decide +kernel
theorem dL_law_1775 : decode cL_law 1775 = .ok (.iaload, 1) := by decide +kernel
theorem dL_law_1776 : decode cL_law 1776 = .ok (.invokevirtual 187, 3) := by decide +kernel
theorem dL_law_1779 : decode cL_law 1779 = .ok (.pop, 1) := by decide +kernel
theorem dL_law_1780 : decode cL_law 1780 = .ok (.aload_n 2, 1) := by decide +kernel
theorem dL_law_1781 : decode cL_law 1781 = .ok (.aload_n 0, 1) := by decide +kernel
theorem dL_law_1782 : decode cL_law 1782 = .ok (.iload_n 3, 1) := by decide +kernel
theorem dL_law_1783 : decode cL_law 1783 = .ok (.iconst 1, 1) := by decide +kernel
theorem dL_law_1784 : decode cL_law 1784 = .ok (.iadd, 1) := by decide +kernel
theorem dL_law_1785 : decode cL_law 1785 = .ok (.iaload, 1) := by decide +kernel
theorem dL_law_1786 : decode cL_law 1786 = .ok (.aload_n 0, 1) := by decide +kernel
theorem dL_law_1787 : decode cL_law 1787 = .ok (.iload_n 3, 1) := by decide +kernel
theorem dL_law_1788 : decode cL_law 1788 = .ok (.iconst 2, 1) := by decide +kernel
theorem dL_law_1789 : decode cL_law 1789 = .ok (.iadd, 1) := by decide +kernel
theorem dL_law_1790 : decode cL_law 1790 = .ok (.iaload, 1) := by decide +kernel
theorem dL_law_1791 : decode cL_law 1791 = .ok (.aload_n 0, 1) := by decide +kernel
theorem dL_law_1792 : decode cL_law 1792 = .ok (.iload_n 3, 1) := by decide +kernel
theorem dL_law_1793 : decode cL_law 1793 = .ok (.iconst 3, 1) := by decide +kernel
theorem dL_law_1794 : decode cL_law 1794 = .ok (.iadd, 1) := by decide +kernel
theorem dL_law_1795 : decode cL_law 1795 = .ok (.iaload, 1) := by decide +kernel
theorem dL_law_1796 : decode cL_law 1796 = .ok (.invokevirtual 190, 3) := by decide +kernel
theorem dL_law_1799 : decode cL_law 1799 = .ok (.pop, 1) := by decide +kernel
theorem dL_law_1800 : decode cL_law 1800 = .ok (.goto 611, 3) := by decide +kernel
set_option maxHeartbeats 4000000 in
set_option maxRecDepth 100000 in
theorem lawc_42 {p : Program} {l : Launch} {e : Env} {s : State} {m : MethodId} {below : List Frame} {meth : Method} {c : Code} {b L : Nat} {xs : Nat → Int32} {D : va_G} {cy : Nat → ClassId} {g1 g2 : Nat → Nat} (X : LX p s m meth c b L xs D cy g1 g2) (hL : L ≤ 3072) {i : Int32} (hi : (0 : Int) ≤ i.toInt ∧ i.toInt + 6 ≤ (L : Int)) (hnext : (∀ (σ8 σ9 : ST) (H : Heap) (locs : List Loc) (ls : Array Slot), J8 σ8 → J9 (σ9 9) → DKA (σ9 9) → KP σ8 (σ9 9) → va_P D clz (WD8 cy g1 σ8) H → va_P D clz (WD9 cy g2 σ9) H → va_S (lawA s) s.heap H locs → lv_has ls 4 [(3, .int i), (2, .ref (g2 60)), (1, .ref (gO g1 17)), (0, .ref b)] → W p l e room_1 s m #[Value.ref b] below meth c H locs 200 700000 (lw_Z below #[Value.ref b] s) (F0 m 2411 ls []))) (σ8 σ9 : ST) (H : Heap) (locs : List Loc) (ls : Array Slot) (hJ8 : J8 σ8) (hJ9 : J9 (σ9 9)) (hDK : DKA (σ9 9)) (hR : KP σ8 (σ9 9)) (hP8 : va_P D clz (WD8 cy g1 σ8) H) (hP9 : va_P D clz (WD9 cy g2 σ9) H) (hS : va_S (lawA s) s.heap H locs) (hl : lv_has ls 4 [(3, .int i), (2, .ref (g2 60)), (1, .ref (gO g1 17)), (0, .ref b)]) : W p l e room_1 s m #[Value.ref b] below meth c H locs 200 700000 (lw_Z below #[Value.ref b] s) (F0 m 1760 ls []) := by
  obtain ⟨⟨hx, hb, hr, hml, hown0, hts0, hX, hbl, hlocks, hgv⟩, hK, hDD, hC8, hC9⟩ := X
  have hown : s.vm.findClass RL = some m.cls := hown0
  have hts : ∀ w ∈ lw_g, w.before #[Value.ref b] s = true := fun w h => hts0 w (lw_gt h)
  have hbA : ¬ lawA s b := Nat.not_le.mpr hbl
  have hA8 := A8_law hDD
  have hA9 := A9_law hDD
  have hD8 : ∀ τ : ST, va_D (A8 cy g1 s.heap.size) (WD8 cy g1 τ) := fun τ => by rw [hA8]; exact map_D WD8_m (D_l hDD)
  have hD9 : ∀ τ : ST, va_D (A9 cy g2 s.heap.size) (WD9 cy g2 τ) := fun τ => by rw [hA9]; exact map_D WD9_m (D_r hDD)
  rw [← hA8] at hC8
  rw [← hA9] at hC9
  refine lv_aload_n hx hb dL_law_1760 rfl (lv_at hl 2 rfl) ?_
  refine lv_aload_n hx hb dL_law_1761 rfl (lv_at hl 3 rfl) ?_
  refine lv_iload_n hx hb dL_law_1762 rfl (lv_at hl 0 rfl) ?_
  refine lv_iconst (v := 1) hx hb dL_law_1763 (by decide) ?_
  refine lv_iadd hx hb dL_law_1764 ?_
  refine lv_topi (fun x1 ex1 => ?_)
  have t2 := addO ex1 (by have f0 := hi; have f1 := hL; have z1 : (1 : Int32).toInt = 1 := (by decide); omega)
  refine va_sld hx hb hX hbl hbA hS (vpo (by have f0 := t2; have f1 := hi; have f2 := hL; have g0 := rg32 x1; have z1 : (1 : Int32).toInt = 1 := (by decide); omega)) dL_law_1765 ?_
  refine lv_topi (fun x3 ex3 => ?_)
  refine lv_aload_n hx hb dL_law_1766 rfl (lv_at hl 3 rfl) ?_
  refine lv_iload_n hx hb dL_law_1767 rfl (lv_at hl 0 rfl) ?_
  refine lv_iconst (v := 2) hx hb dL_law_1768 (by decide) ?_
  refine lv_iadd hx hb dL_law_1769 ?_
  refine lv_topi (fun x4 ex4 => ?_)
  have t5 := addO ex4 (by have f0 := hi; have f1 := hL; have f2 := t2; have z1 : (1 : Int32).toInt = 1 := (by decide); have z2 : (2 : Int32).toInt = 2 := (by decide); omega)
  refine va_sld hx hb hX hbl hbA hS (vpo (by have f0 := t5; have f1 := hi; have f2 := hL; have f3 := t2; have g0 := rg32 x4; have z1 : (1 : Int32).toInt = 1 := (by decide); have z2 : (2 : Int32).toInt = 2 := (by decide); omega)) dL_law_1770 ?_
  refine lv_topi (fun x6 ex6 => ?_)
  refine lv_aload_n hx hb dL_law_1771 rfl (lv_at hl 3 rfl) ?_
  refine lv_iload_n hx hb dL_law_1772 rfl (lv_at hl 0 rfl) ?_
  refine lv_iconst (v := 3) hx hb dL_law_1773 (by decide) ?_
  refine lv_iadd hx hb dL_law_1774 ?_
  refine lv_topi (fun x7 ex7 => ?_)
  have t8 := addO ex7 (by have f0 := hi; have f1 := hL; have f2 := t2; have f3 := t5; have z1 : (1 : Int32).toInt = 1 := (by decide); have z2 : (2 : Int32).toInt = 2 := (by decide); have z3 : (3 : Int32).toInt = 3 := (by decide); omega)
  refine va_sld hx hb hX hbl hbA hS (vpo (by have f0 := t8; have f1 := hi; have f2 := hL; have f3 := t2; have f4 := t5; have g0 := rg32 x7; have z1 : (1 : Int32).toInt = 1 := (by decide); have z2 : (2 : Int32).toInt = 2 := (by decide); have z3 : (3 : Int32).toInt = 3 := (by decide); omega)) dL_law_1775 ?_
  refine lv_topi (fun x9 ex9 => ?_)
  have hSx : va_S (A8 cy g1 s.heap.size) s.heap H locs := by rw [hA8]; exact hS
  refine va_calli (va_runV (As := [.int x3, .int x6, .int x9]) (rest := []) ⟨hx, hb, hml, hown, hts⟩ (m_X8_cracks l D cy g1 σ8 x3 x6 x9 _ hJ8) (cwV 3 hts (gd_V q1303 q1304 q1305 q125 q1306) rfl rfl rfl (by decide +kernel) ⟨Nat.le_of_ble_eq_true rfl, Nat.le_of_ble_eq_true rfl⟩) (pv8 hP8 hK hD8 hC8 hSx (rv8_8 hK hP8)) rfl rfl hl.1 rfl (lv_room (Nat.le_of_ble_eq_true rfl)) dL_law_1776 ⟨Nat.le_of_ble_eq_true rfl, Nat.le_of_ble_eq_true rfl⟩) hSx (fun q _ h => up8 hSx q h) (up8 hSx) (fun r10 υ11 tS H1 locs ht hvm hw12 hB hz1 hk1 hSy => ?_)
  have hP8 : va_P D clz (WD8 cy g1 υ11) H1 := by rw [← ht]; exact hB
  have hP9 := kp9 hDD hP9 hk1
  have hS : va_S (lawA s) s.heap H1 locs := by rw [← hA8]; exact hSy
  clear hB hz1 hk1 hvm ht hSx hSy
  generalize H1 = H at hP8 hP9 hS ⊢
  have hJ13 : J8 υ11 := hw12.2.1
  have hR14 : KP υ11 (σ9 9) := KP.fr8 hR (show Fr (fO [11, 13]) σ8 υ11 from hw12.1) (by decide)
  refine lv_pop hx hb dL_law_1779 rfl ?_
  refine lv_aload_n hx hb dL_law_1780 rfl (lv_at hl 1 rfl) ?_
  refine lv_aload_n hx hb dL_law_1781 rfl (lv_at hl 3 rfl) ?_
  refine lv_iload_n hx hb dL_law_1782 rfl (lv_at hl 0 rfl) ?_
  refine lv_iconst (v := 1) hx hb dL_law_1783 (by decide) ?_
  refine lv_iadd hx hb dL_law_1784 ?_
  refine lv_topi (fun x15 ex15 => ?_)
  have t16 := addO ex15 (by have f0 := hi; have f1 := hL; have f2 := t2; have f3 := t5; have f4 := t8; have z1 : (1 : Int32).toInt = 1 := (by decide); have z2 : (2 : Int32).toInt = 2 := (by decide); have z3 : (3 : Int32).toInt = 3 := (by decide); omega)
  refine va_sld hx hb hX hbl hbA hS (vpo (by have f0 := t16; have f1 := hi; have f2 := hL; have f3 := t2; have f4 := t5; have f5 := t8; have g0 := rg32 x15; have z1 : (1 : Int32).toInt = 1 := (by decide); have z2 : (2 : Int32).toInt = 2 := (by decide); have z3 : (3 : Int32).toInt = 3 := (by decide); omega)) dL_law_1785 ?_
  refine lv_topi (fun x17 ex17 => ?_)
  refine lv_aload_n hx hb dL_law_1786 rfl (lv_at hl 3 rfl) ?_
  refine lv_iload_n hx hb dL_law_1787 rfl (lv_at hl 0 rfl) ?_
  refine lv_iconst (v := 2) hx hb dL_law_1788 (by decide) ?_
  refine lv_iadd hx hb dL_law_1789 ?_
  refine lv_topi (fun x18 ex18 => ?_)
  have t19 := addO ex18 (by have f0 := hi; have f1 := hL; have f2 := t2; have f3 := t5; have f4 := t8; have f5 := t16; have z1 : (1 : Int32).toInt = 1 := (by decide); have z2 : (2 : Int32).toInt = 2 := (by decide); have z3 : (3 : Int32).toInt = 3 := (by decide); omega)
  refine va_sld hx hb hX hbl hbA hS (vpo (by have f0 := t19; have f1 := hi; have f2 := hL; have f3 := t2; have f4 := t5; have f5 := t8; have f6 := t16; have g0 := rg32 x18; have z1 : (1 : Int32).toInt = 1 := (by decide); have z2 : (2 : Int32).toInt = 2 := (by decide); have z3 : (3 : Int32).toInt = 3 := (by decide); omega)) dL_law_1790 ?_
  refine lv_topi (fun x20 ex20 => ?_)
  refine lv_aload_n hx hb dL_law_1791 rfl (lv_at hl 3 rfl) ?_
  refine lv_iload_n hx hb dL_law_1792 rfl (lv_at hl 0 rfl) ?_
  refine lv_iconst (v := 3) hx hb dL_law_1793 (by decide) ?_
  refine lv_iadd hx hb dL_law_1794 ?_
  refine lv_topi (fun x21 ex21 => ?_)
  have t22 := addO ex21 (by have f0 := hi; have f1 := hL; have f2 := t2; have f3 := t5; have f4 := t8; have f5 := t16; have f6 := t19; have z1 : (1 : Int32).toInt = 1 := (by decide); have z2 : (2 : Int32).toInt = 2 := (by decide); have z3 : (3 : Int32).toInt = 3 := (by decide); omega)
  refine va_sld hx hb hX hbl hbA hS (vpo (by have f0 := t22; have f1 := hi; have f2 := hL; have f3 := t2; have f4 := t5; have f5 := t8; have f6 := t16; have f7 := t19; have g0 := rg32 x21; have z1 : (1 : Int32).toInt = 1 := (by decide); have z2 : (2 : Int32).toInt = 2 := (by decide); have z3 : (3 : Int32).toInt = 3 := (by decide); omega)) dL_law_1795 ?_
  refine lv_topi (fun x23 ex23 => ?_)
  have hSx : va_S (A9 cy g2 s.heap.size) s.heap H locs := by rw [hA9]; exact hS
  refine va_calli (va_runV (As := [.int x17, .int x20, .int x23]) (rest := []) ⟨hx, hb, hml, hown, hts⟩ (m_X9_cracks l D cy g2 σ9 x17 x20 x23 _ hJ9 (DKA.zero hDK)) (cwV 3 hts (gd_V q2076 q2077 q2078 q134 q2079) rfl rfl rfl (by decide +kernel) ⟨Nat.le_of_ble_eq_true rfl, Nat.le_of_ble_eq_true rfl⟩) (pv9 hP9 hK hD9 hC9 hSx (va_recv hK hP9 (ci := 9) (q0 := 0) rfl rfl)) rfl rfl hl.1 rfl (lv_room (Nat.le_of_ble_eq_true rfl)) dL_law_1796 ⟨Nat.le_of_ble_eq_true rfl, Nat.le_of_ble_eq_true rfl⟩) hSx (fun q _ h => up9 hSx q h) (up9 hSx) (fun r24 υ25 tS H1 locs ht hvm hw26 hB hz1 hk1 hSy => ?_)
  have hP9 : va_P D clz (WD9 cy g2 υ25) H1 := by rw [← ht]; exact hB
  have hP8 := kp8 hDD hP8 hk1
  have hS : va_S (lawA s) s.heap H1 locs := by rw [← hA9]; exact hSy
  clear hB hz1 hk1 hvm ht hSx hSy
  generalize H1 = H at hP8 hP9 hS ⊢
  have hF27 : Fr (fL [0, 23, 24, 25, 26, 27, 28, 29, 30, 31, 32, 33, 34, 35, 36, 37, 38, 39, 40, 41, 59]) σ9 υ25 := hw26.1
  have hJ28 : J9 (υ25 9) := hw26.2.1
  have hK29 : DKA (υ25 9) := DKA.mv hDK (hF27 9 17 rfl).2.2.1 (hF27 9 18 rfl).2.2.1 (hF27 9 19 rfl).2.2.1
  have hR30 : KP υ11 (υ25 9) := KP.fr9 hR14 (hF27 9 22 rfl).2.2.1
  refine lv_pop hx hb dL_law_1799 rfl ?_
  refine lv_goto (tgt := 2411) hx hb dL_law_1800 (by decide) ?_
  exact hnext _ _ _ _ _ hJ13 hJ28 hK29 hR30 hP8 hP9 hS hl

theorem q1320 : Cond.methodLink RL 191 yX8_cracked ∈ lw_g := lw_gm (List.mem_of_getElem? (i := 1320) (by decide +kernel)) rfl
theorem q1321 : Cond.instanceMethod yX8_cracked ∈ lw_g := lw_gm (List.mem_of_getElem? (i := 1321) (by decide +kernel)) rfl
theorem q1322 : Cond.selects RX8 yX8_cracked yX8_cracked ∈ lw_g := lw_gm (List.mem_of_getElem? (i := 1322) (by decide +kernel)) rfl
theorem q2093 : Cond.methodLink RL 194 yX9_cracked ∈ lw_g := lw_gm (List.mem_of_getElem? (i := 2093) (by decide +kernel)) rfl
theorem q2094 : Cond.instanceMethod yX9_cracked ∈ lw_g := lw_gm (List.mem_of_getElem? (i := 2094) (by decide +kernel)) rfl
theorem q2095 : Cond.selects RX9 yX9_cracked yX9_cracked ∈ lw_g := lw_gm (List.mem_of_getElem? (i := 2095) (by decide +kernel)) rfl
theorem dL_law_1803 : decode cL_law 1803 = .ok (.aload_n 1, 1) := by decide +kernel
theorem dL_law_1804 : decode cL_law 1804 = .ok (.aload_n 0, 1) := by decide +kernel
theorem dL_law_1805 : decode cL_law 1805 = .ok (.iload_n 3, 1) := by decide +kernel
theorem dL_law_1806 : decode cL_law 1806 = .ok (.iconst 1, 1) := by decide +kernel
theorem dL_law_1807 : decode cL_law 1807 = .ok (.iadd, 1) := by decide +kernel
theorem dL_law_1808 : decode cL_law 1808 = .ok (.iaload, 1) := by decide +kernel
theorem dL_law_1809 : decode cL_law 1809 = .ok (.aload_n 0, 1) := by decide +kernel
theorem dL_law_1810 : decode cL_law 1810 = .ok (.iload_n 3, 1) := by decide +kernel
theorem dL_law_1811 : decode cL_law 1811 = .ok (.iconst 2, 1) := by decide +kernel
theorem dL_law_1812 : decode cL_law 1812 = .ok (.iadd, 1) := by decide +kernel
theorem dL_law_1813 : decode cL_law 1813 = .ok (.iaload, 1) := by decide +kernel
theorem dL_law_1814 : decode cL_law 1814 = .ok (.aload_n 0, 1) := by decide +kernel
theorem dL_law_1815 : decode cL_law 1815 = .ok (.iload_n 3, 1) := by decide +kernel
theorem dL_law_1816 : decode cL_law 1816 = .ok (.iconst 3, 1) := by decide +kernel
theorem dL_law_1817 : decode cL_law 1817 = .ok (.iadd, 1) := by decide +kernel
theorem dL_law_1818 : decode cL_law 1818 = .ok (.iaload, 1) := by decide +kernel
theorem dL_law_1819 : decode cL_law 1819 = .ok (.invokevirtual 191, 3) := by decide +kernel
theorem dL_law_1822 : decode cL_law 1822 = .ok (.pop, 1) := by decide +kernel
theorem dL_law_1823 : decode cL_law 1823 = .ok (.aload_n 2, 1) := by decide +kernel
theorem dL_law_1824 : decode cL_law 1824 = .ok (.aload_n 0, 1) := by decide +kernel
theorem dL_law_1825 : decode cL_law 1825 = .ok (.iload_n 3, 1) := by decide +kernel
theorem dL_law_1826 : decode cL_law 1826 = .ok (.iconst 1, 1) := by decide +kernel
theorem dL_law_1827 : decode cL_law 1827 = .ok (.iadd, 1) := by decide +kernel
theorem dL_law_1828 : decode cL_law 1828 = .ok (.iaload, 1) := by decide +kernel
theorem dL_law_1829 : decode cL_law 1829 = .ok (.aload_n 0, 1) := by decide +kernel
theorem dL_law_1830 : decode cL_law 1830 = .ok (.iload_n 3, 1) := by decide +kernel
theorem dL_law_1831 : decode cL_law 1831 = .ok (.iconst 2, 1) := by decide +kernel
theorem dL_law_1832 : decode cL_law 1832 = .ok (.iadd, 1) := by decide +kernel
theorem dL_law_1833 : decode cL_law 1833 = .ok (.iaload, 1) := by decide +kernel
theorem dL_law_1834 : decode cL_law 1834 = .ok (.aload_n 0, 1) := by decide +kernel
theorem dL_law_1835 : decode cL_law 1835 = .ok (.iload_n 3, 1) := by decide +kernel
theorem dL_law_1836 : decode cL_law 1836 = .ok (.iconst 3, 1) := by decide +kernel
theorem dL_law_1837 : decode cL_law 1837 = .ok (.iadd, 1) := by decide +kernel
theorem dL_law_1838 : decode cL_law 1838 = .ok (.iaload, 1) := by decide +kernel
theorem dL_law_1839 : decode cL_law 1839 = .ok (.invokevirtual 194, 3) := by decide +kernel
theorem dL_law_1842 : decode cL_law 1842 = .ok (.pop, 1) := by decide +kernel
theorem dL_law_1843 : decode cL_law 1843 = .ok (.goto 568, 3) := by decide +kernel
set_option maxHeartbeats 4000000 in
set_option maxRecDepth 100000 in
theorem lawc_43 {p : Program} {l : Launch} {e : Env} {s : State} {m : MethodId} {below : List Frame} {meth : Method} {c : Code} {b L : Nat} {xs : Nat → Int32} {D : va_G} {cy : Nat → ClassId} {g1 g2 : Nat → Nat} (X : LX p s m meth c b L xs D cy g1 g2) (hL : L ≤ 3072) {i : Int32} (hi : (0 : Int) ≤ i.toInt ∧ i.toInt + 6 ≤ (L : Int)) (hnext : (∀ (σ8 σ9 : ST) (H : Heap) (locs : List Loc) (ls : Array Slot), J8 σ8 → J9 (σ9 9) → DKA (σ9 9) → KP σ8 (σ9 9) → va_P D clz (WD8 cy g1 σ8) H → va_P D clz (WD9 cy g2 σ9) H → va_S (lawA s) s.heap H locs → lv_has ls 4 [(3, .int i), (2, .ref (g2 60)), (1, .ref (gO g1 17)), (0, .ref b)] → W p l e room_1 s m #[Value.ref b] below meth c H locs 200 700000 (lw_Z below #[Value.ref b] s) (F0 m 2411 ls []))) (σ8 σ9 : ST) (H : Heap) (locs : List Loc) (ls : Array Slot) (hJ8 : J8 σ8) (hJ9 : J9 (σ9 9)) (hDK : DKA (σ9 9)) (hR : KP σ8 (σ9 9)) (hP8 : va_P D clz (WD8 cy g1 σ8) H) (hP9 : va_P D clz (WD9 cy g2 σ9) H) (hS : va_S (lawA s) s.heap H locs) (hl : lv_has ls 4 [(3, .int i), (2, .ref (g2 60)), (1, .ref (gO g1 17)), (0, .ref b)]) : W p l e room_1 s m #[Value.ref b] below meth c H locs 200 700000 (lw_Z below #[Value.ref b] s) (F0 m 1803 ls []) := by
  obtain ⟨⟨hx, hb, hr, hml, hown0, hts0, hX, hbl, hlocks, hgv⟩, hK, hDD, hC8, hC9⟩ := X
  have hown : s.vm.findClass RL = some m.cls := hown0
  have hts : ∀ w ∈ lw_g, w.before #[Value.ref b] s = true := fun w h => hts0 w (lw_gt h)
  have hbA : ¬ lawA s b := Nat.not_le.mpr hbl
  have hA8 := A8_law hDD
  have hA9 := A9_law hDD
  have hD8 : ∀ τ : ST, va_D (A8 cy g1 s.heap.size) (WD8 cy g1 τ) := fun τ => by rw [hA8]; exact map_D WD8_m (D_l hDD)
  have hD9 : ∀ τ : ST, va_D (A9 cy g2 s.heap.size) (WD9 cy g2 τ) := fun τ => by rw [hA9]; exact map_D WD9_m (D_r hDD)
  rw [← hA8] at hC8
  rw [← hA9] at hC9
  refine lv_aload_n hx hb dL_law_1803 rfl (lv_at hl 2 rfl) ?_
  refine lv_aload_n hx hb dL_law_1804 rfl (lv_at hl 3 rfl) ?_
  refine lv_iload_n hx hb dL_law_1805 rfl (lv_at hl 0 rfl) ?_
  refine lv_iconst (v := 1) hx hb dL_law_1806 (by decide) ?_
  refine lv_iadd hx hb dL_law_1807 ?_
  refine lv_topi (fun x1 ex1 => ?_)
  have t2 := addO ex1 (by have f0 := hi; have f1 := hL; have z1 : (1 : Int32).toInt = 1 := (by decide); omega)
  refine va_sld hx hb hX hbl hbA hS (vpo (by have f0 := t2; have f1 := hi; have f2 := hL; have g0 := rg32 x1; have z1 : (1 : Int32).toInt = 1 := (by decide); omega)) dL_law_1808 ?_
  refine lv_topi (fun x3 ex3 => ?_)
  refine lv_aload_n hx hb dL_law_1809 rfl (lv_at hl 3 rfl) ?_
  refine lv_iload_n hx hb dL_law_1810 rfl (lv_at hl 0 rfl) ?_
  refine lv_iconst (v := 2) hx hb dL_law_1811 (by decide) ?_
  refine lv_iadd hx hb dL_law_1812 ?_
  refine lv_topi (fun x4 ex4 => ?_)
  have t5 := addO ex4 (by have f0 := hi; have f1 := hL; have f2 := t2; have z1 : (1 : Int32).toInt = 1 := (by decide); have z2 : (2 : Int32).toInt = 2 := (by decide); omega)
  refine va_sld hx hb hX hbl hbA hS (vpo (by have f0 := t5; have f1 := hi; have f2 := hL; have f3 := t2; have g0 := rg32 x4; have z1 : (1 : Int32).toInt = 1 := (by decide); have z2 : (2 : Int32).toInt = 2 := (by decide); omega)) dL_law_1813 ?_
  refine lv_topi (fun x6 ex6 => ?_)
  refine lv_aload_n hx hb dL_law_1814 rfl (lv_at hl 3 rfl) ?_
  refine lv_iload_n hx hb dL_law_1815 rfl (lv_at hl 0 rfl) ?_
  refine lv_iconst (v := 3) hx hb dL_law_1816 (by decide) ?_
  refine lv_iadd hx hb dL_law_1817 ?_
  refine lv_topi (fun x7 ex7 => ?_)
  have t8 := addO ex7 (by have f0 := hi; have f1 := hL; have f2 := t2; have f3 := t5; have z1 : (1 : Int32).toInt = 1 := (by decide); have z2 : (2 : Int32).toInt = 2 := (by decide); have z3 : (3 : Int32).toInt = 3 := (by decide); omega)
  refine va_sld hx hb hX hbl hbA hS (vpo (by have f0 := t8; have f1 := hi; have f2 := hL; have f3 := t2; have f4 := t5; have g0 := rg32 x7; have z1 : (1 : Int32).toInt = 1 := (by decide); have z2 : (2 : Int32).toInt = 2 := (by decide); have z3 : (3 : Int32).toInt = 3 := (by decide); omega)) dL_law_1818 ?_
  refine lv_topi (fun x9 ex9 => ?_)
  have hSx : va_S (A8 cy g1 s.heap.size) s.heap H locs := by rw [hA8]; exact hS
  refine va_calli (va_runV (As := [.int x3, .int x6, .int x9]) (rest := []) ⟨hx, hb, hml, hown, hts⟩ (m_X8_cracked l D cy g1 σ8 x3 x6 x9 _ hJ8) (cwV 3 hts (gd_V q1320 q1321 q1322 q125 q1323) rfl rfl rfl (by decide +kernel) ⟨Nat.le_of_ble_eq_true rfl, Nat.le_of_ble_eq_true rfl⟩) (pv8 hP8 hK hD8 hC8 hSx (rv8_8 hK hP8)) rfl rfl hl.1 rfl (lv_room (Nat.le_of_ble_eq_true rfl)) dL_law_1819 ⟨Nat.le_of_ble_eq_true rfl, Nat.le_of_ble_eq_true rfl⟩) hSx (fun q _ h => up8 hSx q h) (up8 hSx) (fun r10 υ11 tS H1 locs ht hvm hw12 hB hz1 hk1 hSy => ?_)
  have hP8 : va_P D clz (WD8 cy g1 υ11) H1 := by rw [← ht]; exact hB
  have hP9 := kp9 hDD hP9 hk1
  have hS : va_S (lawA s) s.heap H1 locs := by rw [← hA8]; exact hSy
  clear hB hz1 hk1 hvm ht hSx hSy
  generalize H1 = H at hP8 hP9 hS ⊢
  have hJ13 : J8 υ11 := hw12.2.1
  have hR14 : KP υ11 (σ9 9) := KP.fr8 hR (show Fr (fO [11, 13]) σ8 υ11 from hw12.1) (by decide)
  refine lv_pop hx hb dL_law_1822 rfl ?_
  refine lv_aload_n hx hb dL_law_1823 rfl (lv_at hl 1 rfl) ?_
  refine lv_aload_n hx hb dL_law_1824 rfl (lv_at hl 3 rfl) ?_
  refine lv_iload_n hx hb dL_law_1825 rfl (lv_at hl 0 rfl) ?_
  refine lv_iconst (v := 1) hx hb dL_law_1826 (by decide) ?_
  refine lv_iadd hx hb dL_law_1827 ?_
  refine lv_topi (fun x15 ex15 => ?_)
  have t16 := addO ex15 (by have f0 := hi; have f1 := hL; have f2 := t2; have f3 := t5; have f4 := t8; have z1 : (1 : Int32).toInt = 1 := (by decide); have z2 : (2 : Int32).toInt = 2 := (by decide); have z3 : (3 : Int32).toInt = 3 := (by decide); omega)
  refine va_sld hx hb hX hbl hbA hS (vpo (by have f0 := t16; have f1 := hi; have f2 := hL; have f3 := t2; have f4 := t5; have f5 := t8; have g0 := rg32 x15; have z1 : (1 : Int32).toInt = 1 := (by decide); have z2 : (2 : Int32).toInt = 2 := (by decide); have z3 : (3 : Int32).toInt = 3 := (by decide); omega)) dL_law_1828 ?_
  refine lv_topi (fun x17 ex17 => ?_)
  refine lv_aload_n hx hb dL_law_1829 rfl (lv_at hl 3 rfl) ?_
  refine lv_iload_n hx hb dL_law_1830 rfl (lv_at hl 0 rfl) ?_
  refine lv_iconst (v := 2) hx hb dL_law_1831 (by decide) ?_
  refine lv_iadd hx hb dL_law_1832 ?_
  refine lv_topi (fun x18 ex18 => ?_)
  have t19 := addO ex18 (by have f0 := hi; have f1 := hL; have f2 := t2; have f3 := t5; have f4 := t8; have f5 := t16; have z1 : (1 : Int32).toInt = 1 := (by decide); have z2 : (2 : Int32).toInt = 2 := (by decide); have z3 : (3 : Int32).toInt = 3 := (by decide); omega)
  refine va_sld hx hb hX hbl hbA hS (vpo (by have f0 := t19; have f1 := hi; have f2 := hL; have f3 := t2; have f4 := t5; have f5 := t8; have f6 := t16; have g0 := rg32 x18; have z1 : (1 : Int32).toInt = 1 := (by decide); have z2 : (2 : Int32).toInt = 2 := (by decide); have z3 : (3 : Int32).toInt = 3 := (by decide); omega)) dL_law_1833 ?_
  refine lv_topi (fun x20 ex20 => ?_)
  refine lv_aload_n hx hb dL_law_1834 rfl (lv_at hl 3 rfl) ?_
  refine lv_iload_n hx hb dL_law_1835 rfl (lv_at hl 0 rfl) ?_
  refine lv_iconst (v := 3) hx hb dL_law_1836 (by decide) ?_
  refine lv_iadd hx hb dL_law_1837 ?_
  refine lv_topi (fun x21 ex21 => ?_)
  have t22 := addO ex21 (by have f0 := hi; have f1 := hL; have f2 := t2; have f3 := t5; have f4 := t8; have f5 := t16; have f6 := t19; have z1 : (1 : Int32).toInt = 1 := (by decide); have z2 : (2 : Int32).toInt = 2 := (by decide); have z3 : (3 : Int32).toInt = 3 := (by decide); omega)
  refine va_sld hx hb hX hbl hbA hS (vpo (by have f0 := t22; have f1 := hi; have f2 := hL; have f3 := t2; have f4 := t5; have f5 := t8; have f6 := t16; have f7 := t19; have g0 := rg32 x21; have z1 : (1 : Int32).toInt = 1 := (by decide); have z2 : (2 : Int32).toInt = 2 := (by decide); have z3 : (3 : Int32).toInt = 3 := (by decide); omega)) dL_law_1838 ?_
  refine lv_topi (fun x23 ex23 => ?_)
  have hSx : va_S (A9 cy g2 s.heap.size) s.heap H locs := by rw [hA9]; exact hS
  refine va_calli (va_runV (As := [.int x17, .int x20, .int x23]) (rest := []) ⟨hx, hb, hml, hown, hts⟩ (m_X9_cracked l D cy g2 σ9 x17 x20 x23 _ hJ9 (DKA.zero hDK)) (cwV 3 hts (gd_V q2093 q2094 q2095 q134 q2096) rfl rfl rfl (by decide +kernel) ⟨Nat.le_of_ble_eq_true rfl, Nat.le_of_ble_eq_true rfl⟩) (pv9 hP9 hK hD9 hC9 hSx (va_recv hK hP9 (ci := 9) (q0 := 0) rfl rfl)) rfl rfl hl.1 rfl (lv_room (Nat.le_of_ble_eq_true rfl)) dL_law_1839 ⟨Nat.le_of_ble_eq_true rfl, Nat.le_of_ble_eq_true rfl⟩) hSx (fun q _ h => up9 hSx q h) (up9 hSx) (fun r24 υ25 tS H1 locs ht hvm hw26 hB hz1 hk1 hSy => ?_)
  have hP9 : va_P D clz (WD9 cy g2 υ25) H1 := by rw [← ht]; exact hB
  have hP8 := kp8 hDD hP8 hk1
  have hS : va_S (lawA s) s.heap H1 locs := by rw [← hA9]; exact hSy
  clear hB hz1 hk1 hvm ht hSx hSy
  generalize H1 = H at hP8 hP9 hS ⊢
  have hF27 : Fr (fL [0, 23, 24, 25, 26, 27, 28, 29, 30, 31, 32, 33, 34, 35, 36, 37, 38, 39, 40, 41, 59]) σ9 υ25 := hw26.1
  have hJ28 : J9 (υ25 9) := hw26.2.1
  have hK29 : DKA (υ25 9) := DKA.mv hDK (hF27 9 17 rfl).2.2.1 (hF27 9 18 rfl).2.2.1 (hF27 9 19 rfl).2.2.1
  have hR30 : KP υ11 (υ25 9) := KP.fr9 hR14 (hF27 9 22 rfl).2.2.1
  refine lv_pop hx hb dL_law_1842 rfl ?_
  refine lv_goto (tgt := 2411) hx hb dL_law_1843 (by decide) ?_
  exact hnext _ _ _ _ _ hJ13 hJ28 hK29 hR30 hP8 hP9 hS hl

theorem q1324 : Cond.methodLink RL 195 yX8_clean ∈ lw_g := lw_gm (List.mem_of_getElem? (i := 1324) (by decide +kernel)) rfl
theorem q1325 : Cond.instanceMethod yX8_clean ∈ lw_g := lw_gm (List.mem_of_getElem? (i := 1325) (by decide +kernel)) rfl
theorem q1326 : Cond.selects RX8 yX8_clean yX8_clean ∈ lw_g := lw_gm (List.mem_of_getElem? (i := 1326) (by decide +kernel)) rfl
theorem q2097 : Cond.methodLink RL 198 yX9_clean ∈ lw_g := lw_gm (List.mem_of_getElem? (i := 2097) (by decide +kernel)) rfl
theorem q2098 : Cond.instanceMethod yX9_clean ∈ lw_g := lw_gm (List.mem_of_getElem? (i := 2098) (by decide +kernel)) rfl
theorem q2099 : Cond.selects RX9 yX9_clean yX9_clean ∈ lw_g := lw_gm (List.mem_of_getElem? (i := 2099) (by decide +kernel)) rfl
theorem dL_law_1846 : decode cL_law 1846 = .ok (.aload_n 1, 1) := by decide +kernel
theorem dL_law_1847 : decode cL_law 1847 = .ok (.aload_n 0, 1) := by decide +kernel
theorem dL_law_1848 : decode cL_law 1848 = .ok (.iload_n 3, 1) := by decide +kernel
theorem dL_law_1849 : decode cL_law 1849 = .ok (.iconst 1, 1) := by decide +kernel
theorem dL_law_1850 : decode cL_law 1850 = .ok (.iadd, 1) := by decide +kernel
theorem dL_law_1851 : decode cL_law 1851 = .ok (.iaload, 1) := by decide +kernel
theorem dL_law_1852 : decode cL_law 1852 = .ok (.aload_n 0, 1) := by decide +kernel
theorem dL_law_1853 : decode cL_law 1853 = .ok (.iload_n 3, 1) := by decide +kernel
theorem dL_law_1854 : decode cL_law 1854 = .ok (.iconst 2, 1) := by decide +kernel
theorem dL_law_1855 : decode cL_law 1855 = .ok (.iadd, 1) := by decide +kernel
theorem dL_law_1856 : decode cL_law 1856 = .ok (.iaload, 1) := by decide +kernel
theorem dL_law_1857 : decode cL_law 1857 = .ok (.aload_n 0, 1) := by decide +kernel
theorem dL_law_1858 : decode cL_law 1858 = .ok (.iload_n 3, 1) := by decide +kernel
theorem dL_law_1859 : decode cL_law 1859 = .ok (.iconst 3, 1) := by decide +kernel
theorem dL_law_1860 : decode cL_law 1860 = .ok (.iadd, 1) := by decide +kernel
theorem dL_law_1861 : decode cL_law 1861 = .ok (.iaload, 1) := by decide +kernel
theorem dL_law_1862 : decode cL_law 1862 = .ok (.aload_n 0, 1) := by decide +kernel
theorem dL_law_1863 : decode cL_law 1863 = .ok (.iload_n 3, 1) := by decide +kernel
theorem dL_law_1864 : decode cL_law 1864 = .ok (.iconst 4, 1) := by decide +kernel
theorem dL_law_1865 : decode cL_law 1865 = .ok (.iadd, 1) := by decide +kernel
theorem dL_law_1866 : decode cL_law 1866 = .ok (.iaload, 1) := by decide +kernel
theorem dL_law_1867 : decode cL_law 1867 = .ok (.invokevirtual 195, 3) := by decide +kernel
theorem dL_law_1870 : decode cL_law 1870 = .ok (.pop, 1) := by decide +kernel
theorem dL_law_1871 : decode cL_law 1871 = .ok (.aload_n 2, 1) := by decide +kernel
theorem dL_law_1872 : decode cL_law 1872 = .ok (.aload_n 0, 1) := by decide +kernel
theorem dL_law_1873 : decode cL_law 1873 = .ok (.iload_n 3, 1) := by decide +kernel
theorem dL_law_1874 : decode cL_law 1874 = .ok (.iconst 1, 1) := by decide +kernel
theorem dL_law_1875 : decode cL_law 1875 = .ok (.iadd, 1) := by decide +kernel
theorem dL_law_1876 : decode cL_law 1876 = .ok (.iaload, 1) := by decide +kernel
theorem dL_law_1877 : decode cL_law 1877 = .ok (.aload_n 0, 1) := by decide +kernel
theorem dL_law_1878 : decode cL_law 1878 = .ok (.iload_n 3, 1) := by decide +kernel
theorem dL_law_1879 : decode cL_law 1879 = .ok (.iconst 2, 1) := by decide +kernel
theorem dL_law_1880 : decode cL_law 1880 = .ok (.iadd, 1) := by decide +kernel
theorem dL_law_1881 : decode cL_law 1881 = .ok (.iaload, 1) := by decide +kernel
theorem dL_law_1882 : decode cL_law 1882 = .ok (.aload_n 0, 1) := by decide +kernel
theorem dL_law_1883 : decode cL_law 1883 = .ok (.iload_n 3, 1) := by decide +kernel
theorem dL_law_1884 : decode cL_law 1884 = .ok (.iconst 3, 1) := by decide +kernel
theorem dL_law_1885 : decode cL_law 1885 = .ok (.iadd, 1) := by decide +kernel
theorem dL_law_1886 : decode cL_law 1886 = .ok (.iaload, 1) := by decide +kernel
theorem dL_law_1887 : decode cL_law 1887 = .ok (.aload_n 0, 1) := by decide +kernel
theorem dL_law_1888 : decode cL_law 1888 = .ok (.iload_n 3, 1) := by decide +kernel
theorem dL_law_1889 : decode cL_law 1889 = .ok (.iconst 4, 1) := by decide +kernel
theorem dL_law_1890 : decode cL_law 1890 = .ok (.iadd, 1) := by decide +kernel
theorem dL_law_1891 : decode cL_law 1891 = .ok (.iaload, 1) := by decide +kernel
theorem dL_law_1892 : decode cL_law 1892 = .ok (.invokevirtual 198, 3) := by decide +kernel
theorem dL_law_1895 : decode cL_law 1895 = .ok (.pop, 1) := by decide +kernel
theorem dL_law_1896 : decode cL_law 1896 = .ok (.goto 515, 3) := by decide +kernel
set_option maxHeartbeats 4000000 in
set_option maxRecDepth 100000 in
theorem lawc_44 {p : Program} {l : Launch} {e : Env} {s : State} {m : MethodId} {below : List Frame} {meth : Method} {c : Code} {b L : Nat} {xs : Nat → Int32} {D : va_G} {cy : Nat → ClassId} {g1 g2 : Nat → Nat} (X : LX p s m meth c b L xs D cy g1 g2) (hL : L ≤ 3072) {i : Int32} (hi : (0 : Int) ≤ i.toInt ∧ i.toInt + 6 ≤ (L : Int)) (hnext : (∀ (σ8 σ9 : ST) (H : Heap) (locs : List Loc) (ls : Array Slot), J8 σ8 → J9 (σ9 9) → DKA (σ9 9) → KP σ8 (σ9 9) → va_P D clz (WD8 cy g1 σ8) H → va_P D clz (WD9 cy g2 σ9) H → va_S (lawA s) s.heap H locs → lv_has ls 4 [(3, .int i), (2, .ref (g2 60)), (1, .ref (gO g1 17)), (0, .ref b)] → W p l e room_1 s m #[Value.ref b] below meth c H locs 200 700000 (lw_Z below #[Value.ref b] s) (F0 m 2411 ls []))) (σ8 σ9 : ST) (H : Heap) (locs : List Loc) (ls : Array Slot) (hJ8 : J8 σ8) (hJ9 : J9 (σ9 9)) (hDK : DKA (σ9 9)) (hR : KP σ8 (σ9 9)) (hP8 : va_P D clz (WD8 cy g1 σ8) H) (hP9 : va_P D clz (WD9 cy g2 σ9) H) (hS : va_S (lawA s) s.heap H locs) (hl : lv_has ls 4 [(3, .int i), (2, .ref (g2 60)), (1, .ref (gO g1 17)), (0, .ref b)]) : W p l e room_1 s m #[Value.ref b] below meth c H locs 200 700000 (lw_Z below #[Value.ref b] s) (F0 m 1846 ls []) := by
  obtain ⟨⟨hx, hb, hr, hml, hown0, hts0, hX, hbl, hlocks, hgv⟩, hK, hDD, hC8, hC9⟩ := X
  have hown : s.vm.findClass RL = some m.cls := hown0
  have hts : ∀ w ∈ lw_g, w.before #[Value.ref b] s = true := fun w h => hts0 w (lw_gt h)
  have hbA : ¬ lawA s b := Nat.not_le.mpr hbl
  have hA8 := A8_law hDD
  have hA9 := A9_law hDD
  have hD8 : ∀ τ : ST, va_D (A8 cy g1 s.heap.size) (WD8 cy g1 τ) := fun τ => by rw [hA8]; exact map_D WD8_m (D_l hDD)
  have hD9 : ∀ τ : ST, va_D (A9 cy g2 s.heap.size) (WD9 cy g2 τ) := fun τ => by rw [hA9]; exact map_D WD9_m (D_r hDD)
  rw [← hA8] at hC8
  rw [← hA9] at hC9
  refine lv_aload_n hx hb dL_law_1846 rfl (lv_at hl 2 rfl) ?_
  refine lv_aload_n hx hb dL_law_1847 rfl (lv_at hl 3 rfl) ?_
  refine lv_iload_n hx hb dL_law_1848 rfl (lv_at hl 0 rfl) ?_
  refine lv_iconst (v := 1) hx hb dL_law_1849 (by decide) ?_
  refine lv_iadd hx hb dL_law_1850 ?_
  refine lv_topi (fun x1 ex1 => ?_)
  have t2 := addO ex1 (by have f0 := hi; have f1 := hL; have z1 : (1 : Int32).toInt = 1 := (by decide); omega)
  refine va_sld hx hb hX hbl hbA hS (vpo (by have f0 := t2; have f1 := hi; have f2 := hL; have g0 := rg32 x1; have z1 : (1 : Int32).toInt = 1 := (by decide); omega)) dL_law_1851 ?_
  refine lv_topi (fun x3 ex3 => ?_)
  refine lv_aload_n hx hb dL_law_1852 rfl (lv_at hl 3 rfl) ?_
  refine lv_iload_n hx hb dL_law_1853 rfl (lv_at hl 0 rfl) ?_
  refine lv_iconst (v := 2) hx hb dL_law_1854 (by decide) ?_
  refine lv_iadd hx hb dL_law_1855 ?_
  refine lv_topi (fun x4 ex4 => ?_)
  have t5 := addO ex4 (by have f0 := hi; have f1 := hL; have f2 := t2; have z1 : (1 : Int32).toInt = 1 := (by decide); have z2 : (2 : Int32).toInt = 2 := (by decide); omega)
  refine va_sld hx hb hX hbl hbA hS (vpo (by have f0 := t5; have f1 := hi; have f2 := hL; have f3 := t2; have g0 := rg32 x4; have z1 : (1 : Int32).toInt = 1 := (by decide); have z2 : (2 : Int32).toInt = 2 := (by decide); omega)) dL_law_1856 ?_
  refine lv_topi (fun x6 ex6 => ?_)
  refine lv_aload_n hx hb dL_law_1857 rfl (lv_at hl 3 rfl) ?_
  refine lv_iload_n hx hb dL_law_1858 rfl (lv_at hl 0 rfl) ?_
  refine lv_iconst (v := 3) hx hb dL_law_1859 (by decide) ?_
  refine lv_iadd hx hb dL_law_1860 ?_
  refine lv_topi (fun x7 ex7 => ?_)
  have t8 := addO ex7 (by have f0 := hi; have f1 := hL; have f2 := t2; have f3 := t5; have z1 : (1 : Int32).toInt = 1 := (by decide); have z2 : (2 : Int32).toInt = 2 := (by decide); have z3 : (3 : Int32).toInt = 3 := (by decide); omega)
  refine va_sld hx hb hX hbl hbA hS (vpo (by have f0 := t8; have f1 := hi; have f2 := hL; have f3 := t2; have f4 := t5; have g0 := rg32 x7; have z1 : (1 : Int32).toInt = 1 := (by decide); have z2 : (2 : Int32).toInt = 2 := (by decide); have z3 : (3 : Int32).toInt = 3 := (by decide); omega)) dL_law_1861 ?_
  refine lv_topi (fun x9 ex9 => ?_)
  refine lv_aload_n hx hb dL_law_1862 rfl (lv_at hl 3 rfl) ?_
  refine lv_iload_n hx hb dL_law_1863 rfl (lv_at hl 0 rfl) ?_
  refine lv_iconst (v := 4) hx hb dL_law_1864 (by decide) ?_
  refine lv_iadd hx hb dL_law_1865 ?_
  refine lv_topi (fun x10 ex10 => ?_)
  have t11 := addO ex10 (by have f0 := hi; have f1 := hL; have f2 := t2; have f3 := t5; have f4 := t8; have z1 : (1 : Int32).toInt = 1 := (by decide); have z2 : (2 : Int32).toInt = 2 := (by decide); have z3 : (3 : Int32).toInt = 3 := (by decide); have z4 : (4 : Int32).toInt = 4 := (by decide); omega)
  refine va_sld hx hb hX hbl hbA hS (vpo (by have f0 := t11; have f1 := hi; have f2 := hL; have f3 := t2; have f4 := t5; have f5 := t8; have g0 := rg32 x10; have z1 : (1 : Int32).toInt = 1 := (by decide); have z2 : (2 : Int32).toInt = 2 := (by decide); have z3 : (3 : Int32).toInt = 3 := (by decide); have z4 : (4 : Int32).toInt = 4 := (by decide); omega)) dL_law_1866 ?_
  refine lv_topi (fun x12 ex12 => ?_)
  have hSx : va_S (A8 cy g1 s.heap.size) s.heap H locs := by rw [hA8]; exact hS
  refine va_calli (va_runV (As := [.int x3, .int x6, .int x9, .int x12]) (rest := []) ⟨hx, hb, hml, hown, hts⟩ (m_X8_clean l D cy g1 σ8 x3 x6 x9 x12 _ hJ8) (cwV 4 hts (gd_V q1324 q1325 q1326 q125 q1327) rfl rfl rfl (by decide +kernel) ⟨Nat.le_of_ble_eq_true rfl, Nat.le_of_ble_eq_true rfl⟩) (pv8 hP8 hK hD8 hC8 hSx (rv8_8 hK hP8)) rfl rfl hl.1 rfl (lv_room (Nat.le_of_ble_eq_true rfl)) dL_law_1867 ⟨Nat.le_of_ble_eq_true rfl, Nat.le_of_ble_eq_true rfl⟩) hSx (fun q _ h => up8 hSx q h) (up8 hSx) (fun r13 υ14 tS H1 locs ht hvm hw15 hB hz1 hk1 hSy => ?_)
  have hP8 : va_P D clz (WD8 cy g1 υ14) H1 := by rw [← ht]; exact hB
  have hP9 := kp9 hDD hP9 hk1
  have hS : va_S (lawA s) s.heap H1 locs := by rw [← hA8]; exact hSy
  clear hB hz1 hk1 hvm ht hSx hSy
  generalize H1 = H at hP8 hP9 hS ⊢
  have hJ16 : J8 υ14 := hw15.2.1
  have hR17 : KP υ14 (σ9 9) := KP.fr8 hR (show Fr (fO [11, 13]) σ8 υ14 from hw15.1) (by decide)
  refine lv_pop hx hb dL_law_1870 rfl ?_
  refine lv_aload_n hx hb dL_law_1871 rfl (lv_at hl 1 rfl) ?_
  refine lv_aload_n hx hb dL_law_1872 rfl (lv_at hl 3 rfl) ?_
  refine lv_iload_n hx hb dL_law_1873 rfl (lv_at hl 0 rfl) ?_
  refine lv_iconst (v := 1) hx hb dL_law_1874 (by decide) ?_
  refine lv_iadd hx hb dL_law_1875 ?_
  refine lv_topi (fun x18 ex18 => ?_)
  have t19 := addO ex18 (by have f0 := hi; have f1 := hL; have f2 := t2; have f3 := t5; have f4 := t8; have f5 := t11; have z1 : (1 : Int32).toInt = 1 := (by decide); have z2 : (2 : Int32).toInt = 2 := (by decide); have z3 : (3 : Int32).toInt = 3 := (by decide); have z4 : (4 : Int32).toInt = 4 := (by decide); omega)
  refine va_sld hx hb hX hbl hbA hS (vpo (by have f0 := t19; have f1 := hi; have f2 := hL; have f3 := t2; have f4 := t5; have f5 := t8; have f6 := t11; have g0 := rg32 x18; have z1 : (1 : Int32).toInt = 1 := (by decide); have z2 : (2 : Int32).toInt = 2 := (by decide); have z3 : (3 : Int32).toInt = 3 := (by decide); have z4 : (4 : Int32).toInt = 4 := (by decide); omega)) dL_law_1876 ?_
  refine lv_topi (fun x20 ex20 => ?_)
  refine lv_aload_n hx hb dL_law_1877 rfl (lv_at hl 3 rfl) ?_
  refine lv_iload_n hx hb dL_law_1878 rfl (lv_at hl 0 rfl) ?_
  refine lv_iconst (v := 2) hx hb dL_law_1879 (by decide) ?_
  refine lv_iadd hx hb dL_law_1880 ?_
  refine lv_topi (fun x21 ex21 => ?_)
  have t22 := addO ex21 (by have f0 := hi; have f1 := hL; have f2 := t2; have f3 := t5; have f4 := t8; have f5 := t11; have f6 := t19; have z1 : (1 : Int32).toInt = 1 := (by decide); have z2 : (2 : Int32).toInt = 2 := (by decide); have z3 : (3 : Int32).toInt = 3 := (by decide); have z4 : (4 : Int32).toInt = 4 := (by decide); omega)
  refine va_sld hx hb hX hbl hbA hS (vpo (by have f0 := t22; have f1 := hi; have f2 := hL; have f3 := t2; have f4 := t5; have f5 := t8; have f6 := t11; have f7 := t19; have g0 := rg32 x21; have z1 : (1 : Int32).toInt = 1 := (by decide); have z2 : (2 : Int32).toInt = 2 := (by decide); have z3 : (3 : Int32).toInt = 3 := (by decide); have z4 : (4 : Int32).toInt = 4 := (by decide); omega)) dL_law_1881 ?_
  refine lv_topi (fun x23 ex23 => ?_)
  refine lv_aload_n hx hb dL_law_1882 rfl (lv_at hl 3 rfl) ?_
  refine lv_iload_n hx hb dL_law_1883 rfl (lv_at hl 0 rfl) ?_
  refine lv_iconst (v := 3) hx hb dL_law_1884 (by decide) ?_
  refine lv_iadd hx hb dL_law_1885 ?_
  refine lv_topi (fun x24 ex24 => ?_)
  have t25 := addO ex24 (by have f0 := hi; have f1 := hL; have f2 := t2; have f3 := t5; have f4 := t8; have f5 := t11; have f6 := t19; have f7 := t22; have z1 : (1 : Int32).toInt = 1 := (by decide); have z2 : (2 : Int32).toInt = 2 := (by decide); have z3 : (3 : Int32).toInt = 3 := (by decide); have z4 : (4 : Int32).toInt = 4 := (by decide); omega)
  refine va_sld hx hb hX hbl hbA hS (vpo (by have f0 := t25; have f1 := hi; have f2 := hL; have f3 := t2; have f4 := t5; have f5 := t8; have f6 := t11; have f7 := t19; have f8 := t22; have g0 := rg32 x24; have z1 : (1 : Int32).toInt = 1 := (by decide); have z2 : (2 : Int32).toInt = 2 := (by decide); have z3 : (3 : Int32).toInt = 3 := (by decide); have z4 : (4 : Int32).toInt = 4 := (by decide); omega)) dL_law_1886 ?_
  refine lv_topi (fun x26 ex26 => ?_)
  refine lv_aload_n hx hb dL_law_1887 rfl (lv_at hl 3 rfl) ?_
  refine lv_iload_n hx hb dL_law_1888 rfl (lv_at hl 0 rfl) ?_
  refine lv_iconst (v := 4) hx hb dL_law_1889 (by decide) ?_
  refine lv_iadd hx hb dL_law_1890 ?_
  refine lv_topi (fun x27 ex27 => ?_)
  have t28 := addO ex27 (by have f0 := hi; have f1 := hL; have f2 := t2; have f3 := t5; have f4 := t8; have f5 := t11; have f6 := t19; have f7 := t22; have f8 := t25; have z1 : (1 : Int32).toInt = 1 := (by decide); have z2 : (2 : Int32).toInt = 2 := (by decide); have z3 : (3 : Int32).toInt = 3 := (by decide); have z4 : (4 : Int32).toInt = 4 := (by decide); omega)
  refine va_sld hx hb hX hbl hbA hS (vpo (by have f0 := t28; have f1 := hi; have f2 := hL; have f3 := t2; have f4 := t5; have f5 := t8; have f6 := t11; have f7 := t19; have f8 := t22; have f9 := t25; have g0 := rg32 x27; have z1 : (1 : Int32).toInt = 1 := (by decide); have z2 : (2 : Int32).toInt = 2 := (by decide); have z3 : (3 : Int32).toInt = 3 := (by decide); have z4 : (4 : Int32).toInt = 4 := (by decide); omega)) dL_law_1891 ?_
  refine lv_topi (fun x29 ex29 => ?_)
  have hSx : va_S (A9 cy g2 s.heap.size) s.heap H locs := by rw [hA9]; exact hS
  refine va_calli (va_runV (As := [.int x20, .int x23, .int x26, .int x29]) (rest := []) ⟨hx, hb, hml, hown, hts⟩ (m_X9_clean l D cy g2 σ9 x20 x23 x26 x29 _ hJ9 (DKA.zero hDK)) (cwV 4 hts (gd_V q2097 q2098 q2099 q134 q2100) rfl rfl rfl (by decide +kernel) ⟨Nat.le_of_ble_eq_true rfl, Nat.le_of_ble_eq_true rfl⟩) (pv9 hP9 hK hD9 hC9 hSx (va_recv hK hP9 (ci := 9) (q0 := 0) rfl rfl)) rfl rfl hl.1 rfl (lv_room (Nat.le_of_ble_eq_true rfl)) dL_law_1892 ⟨Nat.le_of_ble_eq_true rfl, Nat.le_of_ble_eq_true rfl⟩) hSx (fun q _ h => up9 hSx q h) (up9 hSx) (fun r30 υ31 tS H1 locs ht hvm hw32 hB hz1 hk1 hSy => ?_)
  have hP9 : va_P D clz (WD9 cy g2 υ31) H1 := by rw [← ht]; exact hB
  have hP8 := kp8 hDD hP8 hk1
  have hS : va_S (lawA s) s.heap H1 locs := by rw [← hA9]; exact hSy
  clear hB hz1 hk1 hvm ht hSx hSy
  generalize H1 = H at hP8 hP9 hS ⊢
  have hF33 : Fr (fL [0, 23, 24, 25, 26, 27, 28, 29, 30, 31, 32, 33, 34, 35, 36, 37, 38, 39, 40, 41, 59]) σ9 υ31 := hw32.1
  have hJ34 : J9 (υ31 9) := hw32.2.1
  have hK35 : DKA (υ31 9) := DKA.mv hDK (hF33 9 17 rfl).2.2.1 (hF33 9 18 rfl).2.2.1 (hF33 9 19 rfl).2.2.1
  have hR36 : KP υ14 (υ31 9) := KP.fr9 hR17 (hF33 9 22 rfl).2.2.1
  refine lv_pop hx hb dL_law_1895 rfl ?_
  refine lv_goto (tgt := 2411) hx hb dL_law_1896 (by decide) ?_
  exact hnext _ _ _ _ _ hJ16 hJ34 hK35 hR36 hP8 hP9 hS hl

