theorem q471 : Cond.methodLink RL 13 yX8_feed ∈ lw_g := lw_gm (List.mem_of_getElem? (i := 471) (by decide +kernel)) rfl
theorem q472 : Cond.instanceMethod yX8_feed ∈ lw_g := lw_gm (List.mem_of_getElem? (i := 472) (by decide +kernel)) rfl
theorem q473 : Cond.selects RX8 yX8_feed yX8_feed ∈ lw_g := lw_gm (List.mem_of_getElem? (i := 473) (by decide +kernel)) rfl
theorem q1564 : Cond.methodLink RL 17 yX9_feed ∈ lw_g := lw_gm (List.mem_of_getElem? (i := 1564) (by decide +kernel)) rfl
theorem q1565 : Cond.instanceMethod yX9_feed ∈ lw_g := lw_gm (List.mem_of_getElem? (i := 1565) (by decide +kernel)) rfl
theorem q1566 : Cond.selects RX9 yX9_feed yX9_feed ∈ lw_g := lw_gm (List.mem_of_getElem? (i := 1566) (by decide +kernel)) rfl
theorem dL_law_284 : decode cL_law 284 = .ok (.aload_n 1, 1) := by decide +kernel
theorem dL_law_285 : decode cL_law 285 = .ok (.aload_n 0, 1) := by decide +kernel
theorem dL_law_286 : decode cL_law 286 = .ok (.iload_n 3, 1) := by decide +kernel
theorem dL_law_287 : decode cL_law 287 = .ok (.iconst 1, 1) := by decide +kernel
theorem dL_law_288 : decode cL_law 288 = .ok (.iadd, 1) := by decide +kernel
theorem dL_law_289 : decode cL_law 289 = .ok (.iaload, 1) := by decide +kernel
theorem dL_law_290 : decode cL_law 290 = .ok (.aload_n 0, 1) := by decide +kernel
theorem dL_law_291 : decode cL_law 291 = .ok (.iload_n 3, 1) := by decide +kernel
theorem dL_law_292 : decode cL_law 292 = .ok (.iconst 2, 1) := by decide +kernel
theorem dL_law_293 : decode cL_law 293 = .ok (.iadd, 1) := by decide +kernel
theorem dL_law_294 : decode cL_law 294 = .ok (.iaload, 1) := by decide +kernel
theorem dL_law_295 : decode cL_law 295 = .ok (.aload_n 0, 1) := by decide +kernel
theorem dL_law_296 : decode cL_law 296 = .ok (.iload_n 3, 1) := by decide +kernel
theorem dL_law_297 : decode cL_law 297 = .ok (.iconst 3, 1) := by decide +kernel
theorem dL_law_298 : decode cL_law 298 = .ok (.iadd, 1) := by decide +kernel
theorem dL_law_299 : decode cL_law 299 = .ok (.iaload, 1) := by decide +kernel
theorem dL_law_300 : decode cL_law 300 = .ok (.aload_n 0, 1) := by decide +kernel
theorem dL_law_301 : decode cL_law 301 = .ok (.iload_n 3, 1) := by decide +kernel
theorem dL_law_302 : decode cL_law 302 = .ok (.iconst 4, 1) := by decide +kernel
theorem dL_law_303 : decode cL_law 303 = .ok (.iadd, 1) := by decide +kernel
theorem dL_law_304 : decode cL_law 304 = .ok (.iaload, 1) := by decide +kernel
theorem dL_law_305 : decode cL_law 305 = .ok (.aload_n 0, 1) := by decide +kernel
theorem dL_law_306 : decode cL_law 306 = .ok (.iload_n 3, 1) := by decide +kernel
theorem dL_law_307 : decode cL_law 307 = .ok (.iconst 5, 1) := by decide +kernel
theorem dL_law_308 : decode cL_law 308 = .ok (.iadd, 1) := by decide +kernel
theorem dL_law_309 : decode cL_law 309 = .ok (.iaload, 1) := by decide +kernel
theorem dL_law_310 : decode cL_law 310 = .ok (.invokevirtual 13, 3) := by decide +kernel
theorem dL_law_313 : decode cL_law 313 = .ok (.pop, 1) := by decide +kernel
theorem dL_law_314 : decode cL_law 314 = .ok (.aload_n 2, 1) := by decide +kernel
theorem dL_law_315 : decode cL_law 315 = .ok (.aload_n 0, 1) := by decide +kernel
theorem dL_law_316 : decode cL_law 316 = .ok (.iload_n 3, 1) := by decide +kernel
theorem dL_law_317 : decode cL_law 317 = .ok (.iconst 1, 1) := by decide +kernel
theorem dL_law_318 : decode cL_law 318 = .ok (.iadd, 1) := by decide +kernel
theorem dL_law_319 : decode cL_law 319 = .ok (.iaload, 1) := by decide +kernel
theorem dL_law_320 : decode cL_law 320 = .ok (.aload_n 0, 1) := by decide +kernel
theorem dL_law_321 : decode cL_law 321 = .ok (.iload_n 3, 1) := by decide +kernel
theorem dL_law_322 : decode cL_law 322 = .ok (.iconst 2, 1) := by decide +kernel
theorem dL_law_323 : decode cL_law 323 = .ok (.iadd, 1) := by decide +kernel
theorem dL_law_324 : decode cL_law 324 = .ok (.iaload, 1) := by decide +kernel
theorem dL_law_325 : decode cL_law 325 = .ok (.aload_n 0, 1) := by decide +kernel
theorem dL_law_326 : decode cL_law 326 = .ok (.iload_n 3, 1) := by decide +kernel
theorem dL_law_327 : decode cL_law 327 = .ok (.iconst 3, 1) := by decide +kernel
theorem dL_law_328 : decode cL_law 328 = .ok (.iadd, 1) := by decide +kernel
theorem dL_law_329 : decode cL_law 329 = .ok (.iaload, 1) := by decide +kernel
theorem dL_law_330 : decode cL_law 330 = .ok (.aload_n 0, 1) := by decide +kernel
theorem dL_law_331 : decode cL_law 331 = .ok (.iload_n 3, 1) := by decide +kernel
theorem dL_law_332 : decode cL_law 332 = .ok (.iconst 4, 1) := by decide +kernel
theorem dL_law_333 : decode cL_law 333 = .ok (.iadd, 1) := by decide +kernel
theorem dL_law_334 : decode cL_law 334 = .ok (.iaload, 1) := by decide +kernel
theorem dL_law_335 : decode cL_law 335 = .ok (.aload_n 0, 1) := by decide +kernel
theorem dL_law_336 : decode cL_law 336 = .ok (.iload_n 3, 1) := by decide +kernel
theorem dL_law_337 : decode cL_law 337 = .ok (.iconst 5, 1) := by decide +kernel
theorem dL_law_338 : decode cL_law 338 = .ok (.iadd, 1) := by decide +kernel
theorem dL_law_339 : decode cL_law 339 = .ok (.iaload, 1) := by decide +kernel
theorem dL_law_340 : decode cL_law 340 = .ok (.invokevirtual 17, 3) := by decide +kernel
theorem dL_law_343 : decode cL_law 343 = .ok (.pop, 1) := by decide +kernel
theorem dL_law_344 : decode cL_law 344 = .ok (.goto 2067, 3) := by decide +kernel
set_option maxHeartbeats 4000000 in
set_option maxRecDepth 100000 in
theorem lawc_0 {p : Program} {l : Launch} {e : Env} {s : State} {m : MethodId} {below : List Frame} {meth : Method} {c : Code} {b L : Nat} {xs : Nat → Int32} {D : va_G} {cy : Nat → ClassId} {g1 g2 : Nat → Nat} (X : LX p s m meth c b L xs D cy g1 g2) (hL : L ≤ 3072) {i : Int32} (hi : (0 : Int) ≤ i.toInt ∧ i.toInt + 6 ≤ (L : Int)) (hnext : (∀ (σ8 σ9 : ST) (H : Heap) (locs : List Loc) (ls : Array Slot), J8 σ8 → J9 (σ9 9) → DKA (σ9 9) → KP σ8 (σ9 9) → va_P D clz (WD8 cy g1 σ8) H → va_P D clz (WD9 cy g2 σ9) H → va_S (lawA s) s.heap H locs → lv_has ls 4 [(3, .int i), (2, .ref (g2 60)), (1, .ref (gO g1 17)), (0, .ref b)] → W p l e room_1 s m #[Value.ref b] below meth c H locs 200 700000 (lw_Z below #[Value.ref b] s) (F0 m 2411 ls []))) (σ8 σ9 : ST) (H : Heap) (locs : List Loc) (ls : Array Slot) (hJ8 : J8 σ8) (hJ9 : J9 (σ9 9)) (hDK : DKA (σ9 9)) (hR : KP σ8 (σ9 9)) (hP8 : va_P D clz (WD8 cy g1 σ8) H) (hP9 : va_P D clz (WD9 cy g2 σ9) H) (hS : va_S (lawA s) s.heap H locs) (hl : lv_has ls 4 [(3, .int i), (2, .ref (g2 60)), (1, .ref (gO g1 17)), (0, .ref b)]) : W p l e room_1 s m #[Value.ref b] below meth c H locs 200 700000 (lw_Z below #[Value.ref b] s) (F0 m 284 ls []) := by
  obtain ⟨⟨hx, hb, hr, hml, hown0, hts0, hX, hbl, hlocks, hgv⟩, hK, hDD, hC8, hC9⟩ := X
  have hown : s.vm.findClass RL = some m.cls := hown0
  have hts : ∀ w ∈ lw_g, w.before #[Value.ref b] s = true := fun w h => hts0 w (lw_gt h)
  have hbA : ¬ lawA s b := Nat.not_le.mpr hbl
  have hA8 := A8_law hDD
  have hA9 := A9_law hDD
  have hD8 : ∀ τ : ST, va_D (A8 cy g1 s.heap.size) (WD8 cy g1 τ) := fun τ => by rw [hA8]; exact map_D WD8_m (D_l hDD)
  have hD9 : ∀ τ : ST, va_D (A9 cy g2 s.heap.size) (WD9 cy g2 τ) := fun τ => by rw [hA9]; exact map_D WD9_m (D_r hDD)
  rw [← hA8] at hC8
  rw [← hA9] at hC9
  refine lv_aload_n hx hb dL_law_284 rfl (lv_at hl 2 rfl) ?_
  refine lv_aload_n hx hb dL_law_285 rfl (lv_at hl 3 rfl) ?_
  refine lv_iload_n hx hb dL_law_286 rfl (lv_at hl 0 rfl) ?_
  refine lv_iconst (v := 1) hx hb dL_law_287 (by decide) ?_
  refine lv_iadd hx hb dL_law_288 ?_
  refine lv_topi (fun x1 ex1 => ?_)
  have t2 := addO ex1 (by have f0 := hi; have f1 := hL; have z1 : (1 : Int32).toInt = 1 := (by decide); omega)
  refine va_sld hx hb hX hbl hbA hS (vpo (by have f0 := t2; have f1 := hi; have f2 := hL; have g0 := rg32 x1; have z1 : (1 : Int32).toInt = 1 := (by decide); omega)) dL_law_289 ?_
  refine lv_topi (fun x3 ex3 => ?_)
  refine lv_aload_n hx hb dL_law_290 rfl (lv_at hl 3 rfl) ?_
  refine lv_iload_n hx hb dL_law_291 rfl (lv_at hl 0 rfl) ?_
  refine lv_iconst (v := 2) hx hb dL_law_292 (by decide) ?_
  refine lv_iadd hx hb dL_law_293 ?_
  refine lv_topi (fun x4 ex4 => ?_)
  have t5 := addO ex4 (by have f0 := hi; have f1 := hL; have f2 := t2; have z1 : (1 : Int32).toInt = 1 := (by decide); have z2 : (2 : Int32).toInt = 2 := (by decide); omega)
  refine va_sld hx hb hX hbl hbA hS (vpo (by have f0 := t5; have f1 := hi; have f2 := hL; have f3 := t2; have g0 := rg32 x4; have z1 : (1 : Int32).toInt = 1 := (by decide); have z2 : (2 : Int32).toInt = 2 := (by decide); omega)) dL_law_294 ?_
  refine lv_topi (fun x6 ex6 => ?_)
  refine lv_aload_n hx hb dL_law_295 rfl (lv_at hl 3 rfl) ?_
  refine lv_iload_n hx hb dL_law_296 rfl (lv_at hl 0 rfl) ?_
  refine lv_iconst (v := 3) hx hb dL_law_297 (by decide) ?_
  refine lv_iadd hx hb dL_law_298 ?_
  refine lv_topi (fun x7 ex7 => ?_)
  have t8 := addO ex7 (by have f0 := hi; have f1 := hL; have f2 := t2; have f3 := t5; have z1 : (1 : Int32).toInt = 1 := (by decide); have z2 : (2 : Int32).toInt = 2 := (by decide); have z3 : (3 : Int32).toInt = 3 := (by decide); omega)
  refine va_sld hx hb hX hbl hbA hS (vpo (by have f0 := t8; have f1 := hi; have f2 := hL; have f3 := t2; have f4 := t5; have g0 := rg32 x7; have z1 : (1 : Int32).toInt = 1 := (by decide); have z2 : (2 : Int32).toInt = 2 := (by decide); have z3 : (3 : Int32).toInt = 3 := (by decide); omega)) dL_law_299 ?_
  refine lv_topi (fun x9 ex9 => ?_)
  refine lv_aload_n hx hb dL_law_300 rfl (lv_at hl 3 rfl) ?_
  refine lv_iload_n hx hb dL_law_301 rfl (lv_at hl 0 rfl) ?_
  refine lv_iconst (v := 4) hx hb dL_law_302 (by decide) ?_
  refine lv_iadd hx hb dL_law_303 ?_
  refine lv_topi (fun x10 ex10 => ?_)
  have t11 := addO ex10 (by have f0 := hi; have f1 := hL; have f2 := t2; have f3 := t5; have f4 := t8; have z1 : (1 : Int32).toInt = 1 := (by decide); have z2 : (2 : Int32).toInt = 2 := (by decide); have z3 : (3 : Int32).toInt = 3 := (by decide); have z4 : (4 : Int32).toInt = 4 := (by decide); omega)
  refine va_sld hx hb hX hbl hbA hS (vpo (by have f0 := t11; have f1 := hi; have f2 := hL; have f3 := t2; have f4 := t5; have f5 := t8; have g0 := rg32 x10; have z1 : (1 : Int32).toInt = 1 := (by decide); have z2 : (2 : Int32).toInt = 2 := (by decide); have z3 : (3 : Int32).toInt = 3 := (by decide); have z4 : (4 : Int32).toInt = 4 := (by decide); omega)) dL_law_304 ?_
  refine lv_topi (fun x12 ex12 => ?_)
  refine lv_aload_n hx hb dL_law_305 rfl (lv_at hl 3 rfl) ?_
  refine lv_iload_n hx hb dL_law_306 rfl (lv_at hl 0 rfl) ?_
  refine lv_iconst (v := 5) hx hb dL_law_307 (by decide) ?_
  refine lv_iadd hx hb dL_law_308 ?_
  refine lv_topi (fun x13 ex13 => ?_)
  have t14 := addO ex13 (by have f0 := hi; have f1 := hL; have f2 := t2; have f3 := t5; have f4 := t8; have f5 := t11; have z1 : (1 : Int32).toInt = 1 := (by decide); have z2 : (2 : Int32).toInt = 2 := (by decide); have z3 : (3 : Int32).toInt = 3 := (by decide); have z4 : (4 : Int32).toInt = 4 := (by decide); have z5 : (5 : Int32).toInt = 5 := (by decide); omega)
  refine va_sld hx hb hX hbl hbA hS (vpo (by have f0 := t14; have f1 := hi; have f2 := hL; have f3 := t2; have f4 := t5; have f5 := t8; have f6 := t11; have g0 := rg32 x13; have z1 : (1 : Int32).toInt = 1 := (by decide); have z2 : (2 : Int32).toInt = 2 := (by decide); have z3 : (3 : Int32).toInt = 3 := (by decide); have z4 : (4 : Int32).toInt = 4 := (by decide); have z5 : (5 : Int32).toInt = 5 := (by decide); omega)) dL_law_309 ?_
  refine lv_topi (fun x15 ex15 => ?_)
  have hSx : va_S (A8 cy g1 s.heap.size) s.heap H locs := by rw [hA8]; exact hS
  refine va_calli (va_runV (As := [.int x3, .int x6, .int x9, .int x12, .int x15]) (rest := []) ⟨hx, hb, hml, hown, hts⟩ (m_X8_feed l D cy g1 σ8 x3 x6 x9 x12 x15 _ hJ8) (cwV 5 hts (gd_V q471 q472 q473 q125 q474) rfl rfl rfl (by decide +kernel) ⟨Nat.le_of_ble_eq_true rfl, Nat.le_of_ble_eq_true rfl⟩) (pv8 hP8 hK hD8 hC8 hSx (rv8_8 hK hP8)) rfl rfl hl.1 rfl (lv_room (Nat.le_of_ble_eq_true rfl)) dL_law_310 ⟨Nat.le_of_ble_eq_true rfl, Nat.le_of_ble_eq_true rfl⟩) hSx (fun q _ h => up8 hSx q h) (up8 hSx) (fun r16 υ17 tS H1 locs ht hvm hw18 hB hz1 hk1 hSy => ?_)
  have hP8 : va_P D clz (WD8 cy g1 υ17) H1 := by rw [← ht]; exact hB
  have hP9 := kp9 hDD hP9 hk1
  have hS : va_S (lawA s) s.heap H1 locs := by rw [← hA8]; exact hSy
  clear hB hz1 hk1 hvm ht hSx hSy
  generalize H1 = H at hP8 hP9 hS ⊢
  have hJ19 : J8 υ17 := hw18.2.1
  have hR20 : KP υ17 (σ9 9) := KP.fr8 hR (show Fr (fO [12]) σ8 υ17 from hw18.1) (by decide)
  refine lv_pop hx hb dL_law_313 rfl ?_
  refine lv_aload_n hx hb dL_law_314 rfl (lv_at hl 1 rfl) ?_
  refine lv_aload_n hx hb dL_law_315 rfl (lv_at hl 3 rfl) ?_
  refine lv_iload_n hx hb dL_law_316 rfl (lv_at hl 0 rfl) ?_
  refine lv_iconst (v := 1) hx hb dL_law_317 (by decide) ?_
  refine lv_iadd hx hb dL_law_318 ?_
  refine lv_topi (fun x21 ex21 => ?_)
  have t22 := addO ex21 (by have f0 := hi; have f1 := hL; have f2 := t2; have f3 := t5; have f4 := t8; have f5 := t11; have f6 := t14; have z1 : (1 : Int32).toInt = 1 := (by decide); have z2 : (2 : Int32).toInt = 2 := (by decide); have z3 : (3 : Int32).toInt = 3 := (by decide); have z4 : (4 : Int32).toInt = 4 := (by decide); have z5 : (5 : Int32).toInt = 5 := (by decide); omega)
  refine va_sld hx hb hX hbl hbA hS (vpo (by have f0 := t22; have f1 := hi; have f2 := hL; have f3 := t2; have f4 := t5; have f5 := t8; have f6 := t11; have f7 := t14; have g0 := rg32 x21; have z1 : (1 : Int32).toInt = 1 := (by decide); have z2 : (2 : Int32).toInt = 2 := (by decide); have z3 : (3 : Int32).toInt = 3 := (by decide); have z4 : (4 : Int32).toInt = 4 := (by decide); have z5 : (5 : Int32).toInt = 5 := (by decide); omega)) dL_law_319 ?_
  refine lv_topi (fun x23 ex23 => ?_)
  refine lv_aload_n hx hb dL_law_320 rfl (lv_at hl 3 rfl) ?_
  refine lv_iload_n hx hb dL_law_321 rfl (lv_at hl 0 rfl) ?_
  refine lv_iconst (v := 2) hx hb dL_law_322 (by decide) ?_
  refine lv_iadd hx hb dL_law_323 ?_
  refine lv_topi (fun x24 ex24 => ?_)
  have t25 := addO ex24 (by have f0 := hi; have f1 := hL; have f2 := t2; have f3 := t5; have f4 := t8; have f5 := t11; have f6 := t14; have f7 := t22; have z1 : (1 : Int32).toInt = 1 := (by decide); have z2 : (2 : Int32).toInt = 2 := (by decide); have z3 : (3 : Int32).toInt = 3 := (by decide); have z4 : (4 : Int32).toInt = 4 := (by decide); have z5 : (5 : Int32).toInt = 5 := (by decide); omega)
  refine va_sld hx hb hX hbl hbA hS (vpo (by have f0 := t25; have f1 := hi; have f2 := hL; have f3 := t2; have f4 := t5; have f5 := t8; have f6 := t11; have f7 := t14; have f8 := t22; have g0 := rg32 x24; have z1 : (1 : Int32).toInt = 1 := (by decide); have z2 : (2 : Int32).toInt = 2 := (by decide); have z3 : (3 : Int32).toInt = 3 := (by decide); have z4 : (4 : Int32).toInt = 4 := (by decide); have z5 : (5 : Int32).toInt = 5 := (by decide); omega)) dL_law_324 ?_
  refine lv_topi (fun x26 ex26 => ?_)
  refine lv_aload_n hx hb dL_law_325 rfl (lv_at hl 3 rfl) ?_
  refine lv_iload_n hx hb dL_law_326 rfl (lv_at hl 0 rfl) ?_
  refine lv_iconst (v := 3) hx hb dL_law_327 (by decide) ?_
  refine lv_iadd hx hb dL_law_328 ?_
  refine lv_topi (fun x27 ex27 => ?_)
  have t28 := addO ex27 (by have f0 := hi; have f1 := hL; have f2 := t2; have f3 := t5; have f4 := t8; have f5 := t11; have f6 := t14; have f7 := t22; have f8 := t25; have z1 : (1 : Int32).toInt = 1 := (by decide); have z2 : (2 : Int32).toInt = 2 := (by decide); have z3 : (3 : Int32).toInt = 3 := (by decide); have z4 : (4 : Int32).toInt = 4 := (by decide); have z5 : (5 : Int32).toInt = 5 := (by decide); omega)
  refine va_sld hx hb hX hbl hbA hS (vpo (by have f0 := t28; have f1 := hi; have f2 := hL; have f3 := t2; have f4 := t5; have f5 := t8; have f6 := t11; have f7 := t14; have f8 := t22; have f9 := t25; have g0 := rg32 x27; have z1 : (1 : Int32).toInt = 1 := (by decide); have z2 : (2 : Int32).toInt = 2 := (by decide); have z3 : (3 : Int32).toInt = 3 := (by decide); have z4 : (4 : Int32).toInt = 4 := (by decide); have z5 : (5 : Int32).toInt = 5 := (by decide); omega)) dL_law_329 ?_
  refine lv_topi (fun x29 ex29 => ?_)
  refine lv_aload_n hx hb dL_law_330 rfl (lv_at hl 3 rfl) ?_
  refine lv_iload_n hx hb dL_law_331 rfl (lv_at hl 0 rfl) ?_
  refine lv_iconst (v := 4) hx hb dL_law_332 (by decide) ?_
  refine lv_iadd hx hb dL_law_333 ?_
  refine lv_topi (fun x30 ex30 => ?_)
  have t31 := addO ex30 (by have f0 := hi; have f1 := hL; have f2 := t2; have f3 := t5; have f4 := t8; have f5 := t11; have f6 := t14; have f7 := t22; have f8 := t25; have f9 := t28; have z1 : (1 : Int32).toInt = 1 := (by decide); have z2 : (2 : Int32).toInt = 2 := (by decide); have z3 : (3 : Int32).toInt = 3 := (by decide); have z4 : (4 : Int32).toInt = 4 := (by decide); have z5 : (5 : Int32).toInt = 5 := (by decide); omega)
  refine va_sld hx hb hX hbl hbA hS (vpo (by have f0 := t31; have f1 := hi; have f2 := hL; have f3 := t2; have f4 := t5; have f5 := t8; have f6 := t11; have f7 := t14; have f8 := t22; have f9 := t25; have f10 := t28; have g0 := rg32 x30; have z1 : (1 : Int32).toInt = 1 := (by decide); have z2 : (2 : Int32).toInt = 2 := (by decide); have z3 : (3 : Int32).toInt = 3 := (by decide); have z4 : (4 : Int32).toInt = 4 := (by decide); have z5 : (5 : Int32).toInt = 5 := (by decide); omega)) dL_law_334 ?_
  refine lv_topi (fun x32 ex32 => ?_)
  refine lv_aload_n hx hb dL_law_335 rfl (lv_at hl 3 rfl) ?_
  refine lv_iload_n hx hb dL_law_336 rfl (lv_at hl 0 rfl) ?_
  refine lv_iconst (v := 5) hx hb dL_law_337 (by decide) ?_
  refine lv_iadd hx hb dL_law_338 ?_
  refine lv_topi (fun x33 ex33 => ?_)
  have t34 := addO ex33 (by have f0 := hi; have f1 := hL; have f2 := t2; have f3 := t5; have f4 := t8; have f5 := t11; have f6 := t14; have f7 := t22; have f8 := t25; have f9 := t28; have f10 := t31; have z1 : (1 : Int32).toInt = 1 := (by decide); have z2 : (2 : Int32).toInt = 2 := (by decide); have z3 : (3 : Int32).toInt = 3 := (by decide); have z4 : (4 : Int32).toInt = 4 := (by decide); have z5 : (5 : Int32).toInt = 5 := (by decide); omega)
  refine va_sld hx hb hX hbl hbA hS (vpo (by have f0 := t34; have f1 := hi; have f2 := hL; have f3 := t2; have f4 := t5; have f5 := t8; have f6 := t11; have f7 := t14; have f8 := t22; have f9 := t25; have f10 := t28; have f11 := t31; have g0 := rg32 x33; have z1 : (1 : Int32).toInt = 1 := (by decide); have z2 : (2 : Int32).toInt = 2 := (by decide); have z3 : (3 : Int32).toInt = 3 := (by decide); have z4 : (4 : Int32).toInt = 4 := (by decide); have z5 : (5 : Int32).toInt = 5 := (by decide); omega)) dL_law_339 ?_
  refine lv_topi (fun x35 ex35 => ?_)
  have hSx : va_S (A9 cy g2 s.heap.size) s.heap H locs := by rw [hA9]; exact hS
  refine va_calli (va_runV (As := [.int x23, .int x26, .int x29, .int x32, .int x35]) (rest := []) ⟨hx, hb, hml, hown, hts⟩ (m_X9_feed l D cy g2 σ9 x23 x26 x29 x32 x35 _ hJ9 ) (cwV 5 hts (gd_V q1564 q1565 q1566 q134 q1567) rfl rfl rfl (by decide +kernel) ⟨Nat.le_of_ble_eq_true rfl, Nat.le_of_ble_eq_true rfl⟩) (pv9 hP9 hK hD9 hC9 hSx (va_recv hK hP9 (ci := 9) (q0 := 0) rfl rfl)) rfl rfl hl.1 rfl (lv_room (Nat.le_of_ble_eq_true rfl)) dL_law_340 ⟨Nat.le_of_ble_eq_true rfl, Nat.le_of_ble_eq_true rfl⟩) hSx (fun q _ h => up9 hSx q h) (up9 hSx) (fun r36 υ37 tS H1 locs ht hvm hw38 hB hz1 hk1 hSy => ?_)
  have hP9 : va_P D clz (WD9 cy g2 υ37) H1 := by rw [← ht]; exact hB
  have hP8 := kp8 hDD hP8 hk1
  have hS : va_S (lawA s) s.heap H1 locs := by rw [← hA9]; exact hSy
  clear hB hz1 hk1 hvm ht hSx hSy
  generalize H1 = H at hP8 hP9 hS ⊢
  have hF39 : Fr (fL [0, 5, 6]) σ9 υ37 := hw38.1
  have hJ40 : J9 (υ37 9) := hw38.2.1
  have hK41 : DKA (υ37 9) := DKA.mv hDK (hF39 9 17 rfl).2.2.1 (hF39 9 18 rfl).2.2.1 (hF39 9 19 rfl).2.2.1
  have hR42 : KP υ17 (υ37 9) := KP.fr9 hR20 (hF39 9 22 rfl).2.2.1
  refine lv_pop hx hb dL_law_343 rfl ?_
  refine lv_goto (tgt := 2411) hx hb dL_law_344 (by decide) ?_
  exact hnext _ _ _ _ _ hJ19 hJ40 hK41 hR42 hP8 hP9 hS hl

theorem q483 : Cond.methodLink RL 18 yX8_end ∈ lw_g := lw_gm (List.mem_of_getElem? (i := 483) (by decide +kernel)) rfl
theorem q484 : Cond.instanceMethod yX8_end ∈ lw_g := lw_gm (List.mem_of_getElem? (i := 484) (by decide +kernel)) rfl
theorem q485 : Cond.selects RX8 yX8_end yX8_end ∈ lw_g := lw_gm (List.mem_of_getElem? (i := 485) (by decide +kernel)) rfl
theorem q1572 : Cond.methodLink RL 22 yX9_end ∈ lw_g := lw_gm (List.mem_of_getElem? (i := 1572) (by decide +kernel)) rfl
theorem q1573 : Cond.instanceMethod yX9_end ∈ lw_g := lw_gm (List.mem_of_getElem? (i := 1573) (by decide +kernel)) rfl
theorem q1574 : Cond.selects RX9 yX9_end yX9_end ∈ lw_g := lw_gm (List.mem_of_getElem? (i := 1574) (by decide +kernel)) rfl
theorem dL_law_347 : decode cL_law 347 = .ok (.aload_n 1, 1) := by decide +kernel
theorem dL_law_348 : decode cL_law 348 = .ok (.aload_n 0, 1) := by decide +kernel
theorem dL_law_349 : decode cL_law 349 = .ok (.iload_n 3, 1) := by decide +kernel
theorem dL_law_350 : decode cL_law 350 = .ok (.iconst 1, 1) := by decide +kernel
theorem dL_law_351 : decode cL_law 351 = .ok (.iadd, 1) := by decide +kernel
theorem dL_law_352 : decode cL_law 352 = .ok (.iaload, 1) := by decide +kernel
theorem dL_law_353 : decode cL_law 353 = .ok (.invokevirtual 18, 3) := by decide +kernel
theorem dL_law_356 : decode cL_law 356 = .ok (.pop, 1) := by decide +kernel
theorem dL_law_357 : decode cL_law 357 = .ok (.aload_n 2, 1) := by decide +kernel
theorem dL_law_358 : decode cL_law 358 = .ok (.aload_n 0, 1) := by decide +kernel
theorem dL_law_359 : decode cL_law 359 = .ok (.iload_n 3, 1) := by decide +kernel
theorem dL_law_360 : decode cL_law 360 = .ok (.iconst 1, 1) := by decide +kernel
theorem dL_law_361 : decode cL_law 361 = .ok (.iadd, 1) := by decide +kernel
theorem dL_law_362 : decode cL_law 362 = .ok (.iaload, 1) := by decide +kernel
theorem dL_law_363 : decode cL_law 363 = .ok (.invokevirtual 22, 3) := by decide +kernel
theorem dL_law_366 : decode cL_law 366 = .ok (.pop, 1) := by decide +kernel
theorem dL_law_367 : decode cL_law 367 = .ok (.goto 2044, 3) := by decide +kernel
set_option maxHeartbeats 4000000 in
set_option maxRecDepth 100000 in
theorem lawc_1 {p : Program} {l : Launch} {e : Env} {s : State} {m : MethodId} {below : List Frame} {meth : Method} {c : Code} {b L : Nat} {xs : Nat → Int32} {D : va_G} {cy : Nat → ClassId} {g1 g2 : Nat → Nat} (X : LX p s m meth c b L xs D cy g1 g2) (hL : L ≤ 3072) {i : Int32} (hi : (0 : Int) ≤ i.toInt ∧ i.toInt + 6 ≤ (L : Int)) (hnext : (∀ (σ8 σ9 : ST) (H : Heap) (locs : List Loc) (ls : Array Slot), J8 σ8 → J9 (σ9 9) → DKA (σ9 9) → KP σ8 (σ9 9) → va_P D clz (WD8 cy g1 σ8) H → va_P D clz (WD9 cy g2 σ9) H → va_S (lawA s) s.heap H locs → lv_has ls 4 [(3, .int i), (2, .ref (g2 60)), (1, .ref (gO g1 17)), (0, .ref b)] → W p l e room_1 s m #[Value.ref b] below meth c H locs 200 700000 (lw_Z below #[Value.ref b] s) (F0 m 2411 ls []))) (σ8 σ9 : ST) (H : Heap) (locs : List Loc) (ls : Array Slot) (hJ8 : J8 σ8) (hJ9 : J9 (σ9 9)) (hDK : DKA (σ9 9)) (hR : KP σ8 (σ9 9)) (hP8 : va_P D clz (WD8 cy g1 σ8) H) (hP9 : va_P D clz (WD9 cy g2 σ9) H) (hS : va_S (lawA s) s.heap H locs) (hl : lv_has ls 4 [(3, .int i), (2, .ref (g2 60)), (1, .ref (gO g1 17)), (0, .ref b)]) : W p l e room_1 s m #[Value.ref b] below meth c H locs 200 700000 (lw_Z below #[Value.ref b] s) (F0 m 347 ls []) := by
  obtain ⟨⟨hx, hb, hr, hml, hown0, hts0, hX, hbl, hlocks, hgv⟩, hK, hDD, hC8, hC9⟩ := X
  have hown : s.vm.findClass RL = some m.cls := hown0
  have hts : ∀ w ∈ lw_g, w.before #[Value.ref b] s = true := fun w h => hts0 w (lw_gt h)
  have hbA : ¬ lawA s b := Nat.not_le.mpr hbl
  have hA8 := A8_law hDD
  have hA9 := A9_law hDD
  have hD8 : ∀ τ : ST, va_D (A8 cy g1 s.heap.size) (WD8 cy g1 τ) := fun τ => by rw [hA8]; exact map_D WD8_m (D_l hDD)
  have hD9 : ∀ τ : ST, va_D (A9 cy g2 s.heap.size) (WD9 cy g2 τ) := fun τ => by rw [hA9]; exact map_D WD9_m (D_r hDD)
  rw [← hA8] at hC8
  rw [← hA9] at hC9
  refine lv_aload_n hx hb dL_law_347 rfl (lv_at hl 2 rfl) ?_
  refine lv_aload_n hx hb dL_law_348 rfl (lv_at hl 3 rfl) ?_
  refine lv_iload_n hx hb dL_law_349 rfl (lv_at hl 0 rfl) ?_
  refine lv_iconst (v := 1) hx hb dL_law_350 (by decide) ?_
  refine lv_iadd hx hb dL_law_351 ?_
  refine lv_topi (fun x1 ex1 => ?_)
  have t2 := addO ex1 (by have f0 := hi; have f1 := hL; have z1 : (1 : Int32).toInt = 1 := (by decide); omega)
  refine va_sld hx hb hX hbl hbA hS (vpo (by have f0 := t2; have f1 := hi; have f2 := hL; have g0 := rg32 x1; have z1 : (1 : Int32).toInt = 1 := (by decide); omega)) dL_law_352 ?_
  refine lv_topi (fun x3 ex3 => ?_)
  have hSx : va_S (A8 cy g1 s.heap.size) s.heap H locs := by rw [hA8]; exact hS
  refine va_calli (va_runV (As := [.int x3]) (rest := []) ⟨hx, hb, hml, hown, hts⟩ (m_X8_end l D cy g1 σ8 x3 _ hJ8) (cwV 1 hts (gd_V q483 q484 q485 q125 q486) rfl rfl rfl (by decide +kernel) ⟨Nat.le_of_ble_eq_true rfl, Nat.le_of_ble_eq_true rfl⟩) (pv8 hP8 hK hD8 hC8 hSx (rv8_8 hK hP8)) rfl rfl hl.1 rfl (lv_room (Nat.le_of_ble_eq_true rfl)) dL_law_353 ⟨Nat.le_of_ble_eq_true rfl, Nat.le_of_ble_eq_true rfl⟩) hSx (fun q _ h => up8 hSx q h) (up8 hSx) (fun r4 υ5 tS H1 locs ht hvm hw6 hB hz1 hk1 hSy => ?_)
  have hP8 : va_P D clz (WD8 cy g1 υ5) H1 := by rw [← ht]; exact hB
  have hP9 := kp9 hDD hP9 hk1
  have hS : va_S (lawA s) s.heap H1 locs := by rw [← hA8]; exact hSy
  clear hB hz1 hk1 hvm ht hSx hSy
  generalize H1 = H at hP8 hP9 hS ⊢
  have hJ7 : J8 υ5 := hw6.2.1
  have hR8 : KP υ5 (σ9 9) := KP.fr8 hR (show Fr (fO [12]) σ8 υ5 from hw6.1) (by decide)
  refine lv_pop hx hb dL_law_356 rfl ?_
  refine lv_aload_n hx hb dL_law_357 rfl (lv_at hl 1 rfl) ?_
  refine lv_aload_n hx hb dL_law_358 rfl (lv_at hl 3 rfl) ?_
  refine lv_iload_n hx hb dL_law_359 rfl (lv_at hl 0 rfl) ?_
  refine lv_iconst (v := 1) hx hb dL_law_360 (by decide) ?_
  refine lv_iadd hx hb dL_law_361 ?_
  refine lv_topi (fun x9 ex9 => ?_)
  have t10 := addO ex9 (by have f0 := hi; have f1 := hL; have f2 := t2; have z1 : (1 : Int32).toInt = 1 := (by decide); omega)
  refine va_sld hx hb hX hbl hbA hS (vpo (by have f0 := t10; have f1 := hi; have f2 := hL; have f3 := t2; have g0 := rg32 x9; have z1 : (1 : Int32).toInt = 1 := (by decide); omega)) dL_law_362 ?_
  refine lv_topi (fun x11 ex11 => ?_)
  have hSx : va_S (A9 cy g2 s.heap.size) s.heap H locs := by rw [hA9]; exact hS
  refine va_calli (va_runV (As := [.int x11]) (rest := []) ⟨hx, hb, hml, hown, hts⟩ (m_X9_end l D cy g2 σ9 x11 _ hJ9 ) (cwV 1 hts (gd_V q1572 q1573 q1574 q134 q1575) rfl rfl rfl (by decide +kernel) ⟨Nat.le_of_ble_eq_true rfl, Nat.le_of_ble_eq_true rfl⟩) (pv9 hP9 hK hD9 hC9 hSx (va_recv hK hP9 (ci := 9) (q0 := 0) rfl rfl)) rfl rfl hl.1 rfl (lv_room (Nat.le_of_ble_eq_true rfl)) dL_law_363 ⟨Nat.le_of_ble_eq_true rfl, Nat.le_of_ble_eq_true rfl⟩) hSx (fun q _ h => up9 hSx q h) (up9 hSx) (fun r12 υ13 tS H1 locs ht hvm hw14 hB hz1 hk1 hSy => ?_)
  have hP9 : va_P D clz (WD9 cy g2 υ13) H1 := by rw [← ht]; exact hB
  have hP8 := kp8 hDD hP8 hk1
  have hS : va_S (lawA s) s.heap H1 locs := by rw [← hA9]; exact hSy
  clear hB hz1 hk1 hvm ht hSx hSy
  generalize H1 = H at hP8 hP9 hS ⊢
  have hF15 : Fr (fL [0, 6]) σ9 υ13 := hw14.1
  have hJ16 : J9 (υ13 9) := hw14.2.1
  have hK17 : DKA (υ13 9) := DKA.mv hDK (hF15 9 17 rfl).2.2.1 (hF15 9 18 rfl).2.2.1 (hF15 9 19 rfl).2.2.1
  have hR18 : KP υ5 (υ13 9) := KP.fr9 hR8 (hF15 9 22 rfl).2.2.1
  refine lv_pop hx hb dL_law_366 rfl ?_
  refine lv_goto (tgt := 2411) hx hb dL_law_367 (by decide) ?_
  exact hnext _ _ _ _ _ hJ7 hJ16 hK17 hR18 hP8 hP9 hS hl

theorem q487 : Cond.methodLink RL 23 yX8_desk ∈ lw_g := lw_gm (List.mem_of_getElem? (i := 487) (by decide +kernel)) rfl
theorem q488 : Cond.instanceMethod yX8_desk ∈ lw_g := lw_gm (List.mem_of_getElem? (i := 488) (by decide +kernel)) rfl
theorem q489 : Cond.selects RX8 yX8_desk yX8_desk ∈ lw_g := lw_gm (List.mem_of_getElem? (i := 489) (by decide +kernel)) rfl
theorem q1580 : Cond.methodLink RL 27 yX9_desk ∈ lw_g := lw_gm (List.mem_of_getElem? (i := 1580) (by decide +kernel)) rfl
theorem q1581 : Cond.instanceMethod yX9_desk ∈ lw_g := lw_gm (List.mem_of_getElem? (i := 1581) (by decide +kernel)) rfl
theorem q1582 : Cond.selects RX9 yX9_desk yX9_desk ∈ lw_g := lw_gm (List.mem_of_getElem? (i := 1582) (by decide +kernel)) rfl
theorem dL_law_370 : decode cL_law 370 = .ok (.aload_n 1, 1) := by decide +kernel
theorem dL_law_371 : decode cL_law 371 = .ok (.invokevirtual 23, 3) := by decide +kernel
theorem dL_law_374 : decode cL_law 374 = .ok (.pop, 1) := by decide +kernel
theorem dL_law_375 : decode cL_law 375 = .ok (.aload_n 2, 1) := by decide +kernel
theorem dL_law_376 : decode cL_law 376 = .ok (.invokevirtual 27, 3) := by decide +kernel
theorem dL_law_379 : decode cL_law 379 = .ok (.pop, 1) := by decide +kernel
theorem dL_law_380 : decode cL_law 380 = .ok (.goto 2031, 3) := by decide +kernel
set_option maxHeartbeats 4000000 in
set_option maxRecDepth 100000 in
theorem lawc_2 {p : Program} {l : Launch} {e : Env} {s : State} {m : MethodId} {below : List Frame} {meth : Method} {c : Code} {b L : Nat} {xs : Nat → Int32} {D : va_G} {cy : Nat → ClassId} {g1 g2 : Nat → Nat} (X : LX p s m meth c b L xs D cy g1 g2) (hL : L ≤ 3072) {i : Int32} (hi : (0 : Int) ≤ i.toInt ∧ i.toInt + 6 ≤ (L : Int)) (hnext : (∀ (σ8 σ9 : ST) (H : Heap) (locs : List Loc) (ls : Array Slot), J8 σ8 → J9 (σ9 9) → DKA (σ9 9) → KP σ8 (σ9 9) → va_P D clz (WD8 cy g1 σ8) H → va_P D clz (WD9 cy g2 σ9) H → va_S (lawA s) s.heap H locs → lv_has ls 4 [(3, .int i), (2, .ref (g2 60)), (1, .ref (gO g1 17)), (0, .ref b)] → W p l e room_1 s m #[Value.ref b] below meth c H locs 200 700000 (lw_Z below #[Value.ref b] s) (F0 m 2411 ls []))) (σ8 σ9 : ST) (H : Heap) (locs : List Loc) (ls : Array Slot) (hJ8 : J8 σ8) (hJ9 : J9 (σ9 9)) (hDK : DKA (σ9 9)) (hR : KP σ8 (σ9 9)) (hP8 : va_P D clz (WD8 cy g1 σ8) H) (hP9 : va_P D clz (WD9 cy g2 σ9) H) (hS : va_S (lawA s) s.heap H locs) (hl : lv_has ls 4 [(3, .int i), (2, .ref (g2 60)), (1, .ref (gO g1 17)), (0, .ref b)]) : W p l e room_1 s m #[Value.ref b] below meth c H locs 200 700000 (lw_Z below #[Value.ref b] s) (F0 m 370 ls []) := by
  obtain ⟨⟨hx, hb, hr, hml, hown0, hts0, hX, hbl, hlocks, hgv⟩, hK, hDD, hC8, hC9⟩ := X
  have hown : s.vm.findClass RL = some m.cls := hown0
  have hts : ∀ w ∈ lw_g, w.before #[Value.ref b] s = true := fun w h => hts0 w (lw_gt h)
  have hbA : ¬ lawA s b := Nat.not_le.mpr hbl
  have hA8 := A8_law hDD
  have hA9 := A9_law hDD
  have hD8 : ∀ τ : ST, va_D (A8 cy g1 s.heap.size) (WD8 cy g1 τ) := fun τ => by rw [hA8]; exact map_D WD8_m (D_l hDD)
  have hD9 : ∀ τ : ST, va_D (A9 cy g2 s.heap.size) (WD9 cy g2 τ) := fun τ => by rw [hA9]; exact map_D WD9_m (D_r hDD)
  rw [← hA8] at hC8
  rw [← hA9] at hC9
  refine lv_aload_n hx hb dL_law_370 rfl (lv_at hl 2 rfl) ?_
  have hSx : va_S (A8 cy g1 s.heap.size) s.heap H locs := by rw [hA8]; exact hS
  refine va_calli (va_runV (As := []) (rest := []) ⟨hx, hb, hml, hown, hts⟩ (m_X8_desk l D cy g1 σ8  _ hJ8) (cwV 0 hts (gd_V q487 q488 q489 q125 q490) rfl rfl rfl (by decide +kernel) ⟨Nat.le_of_ble_eq_true rfl, Nat.le_of_ble_eq_true rfl⟩) (pv8 hP8 hK hD8 hC8 hSx (rv8_8 hK hP8)) rfl rfl hl.1 rfl (lv_room (Nat.le_of_ble_eq_true rfl)) dL_law_371 ⟨Nat.le_of_ble_eq_true rfl, Nat.le_of_ble_eq_true rfl⟩) hSx (fun q _ h => up8 hSx q h) (up8 hSx) (fun r1 υ2 tS H1 locs ht hvm hw3 hB hz1 hk1 hSy => ?_)
  have hP8 : va_P D clz (WD8 cy g1 υ2) H1 := by rw [← ht]; exact hB
  have hP9 := kp9 hDD hP9 hk1
  have hS : va_S (lawA s) s.heap H1 locs := by rw [← hA8]; exact hSy
  clear hB hz1 hk1 hvm ht hSx hSy
  generalize H1 = H at hP8 hP9 hS ⊢
  have hJ4 : J8 υ2 := hw3.2.1
  have b5 : (υ2 17).2.2.1 4 = (σ8 17).2.2.1 4 := hw3.2.2.1
  have hR6 : KP υ2 (σ9 9) := KP.eq8 hR b5
  refine lv_pop hx hb dL_law_374 rfl ?_
  refine lv_aload_n hx hb dL_law_375 rfl (lv_at hl 1 rfl) ?_
  have hSx : va_S (A9 cy g2 s.heap.size) s.heap H locs := by rw [hA9]; exact hS
  refine va_calli (va_runV (As := []) (rest := []) ⟨hx, hb, hml, hown, hts⟩ (m_X9_desk l D cy g2 σ9  _ hJ9 hDK) (cwV 0 hts (gd_V q1580 q1581 q1582 q134 q1583) rfl rfl rfl (by decide +kernel) ⟨Nat.le_of_ble_eq_true rfl, Nat.le_of_ble_eq_true rfl⟩) (pv9 hP9 hK hD9 hC9 hSx (va_recv hK hP9 (ci := 9) (q0 := 0) rfl rfl)) rfl rfl hl.1 rfl (lv_room (Nat.le_of_ble_eq_true rfl)) dL_law_376 ⟨Nat.le_of_ble_eq_true rfl, Nat.le_of_ble_eq_true rfl⟩) hSx (fun q _ h => up9 hSx q h) (up9 hSx) (fun r7 υ8 tS H1 locs ht hvm hw9 hB hz1 hk1 hSy => ?_)
  have hP9 : va_P D clz (WD9 cy g2 υ8) H1 := by rw [← ht]; exact hB
  have hP8 := kp8 hDD hP8 hk1
  have hS : va_S (lawA s) s.heap H1 locs := by rw [← hA9]; exact hSy
  clear hB hz1 hk1 hvm ht hSx hSy
  generalize H1 = H at hP8 hP9 hS ⊢
  have hF10 : Fr (fL [0, 6, 7, 8, 9, 10, 11, 12, 13, 14, 15, 16, 17, 18, 19, 20, 21]) σ9 υ8 := hw9.1
  have hJ11 : J9 (υ8 9) := hw9.2.1
  have hK12 : DKA (υ8 9) := hw9.2.2.1
  have hR13 : KP υ2 (υ8 9) := KP.fr9 hR6 (hF10 9 22 rfl).2.2.1
  refine lv_pop hx hb dL_law_379 rfl ?_
  refine lv_goto (tgt := 2411) hx hb dL_law_380 (by decide) ?_
  exact hnext _ _ _ _ _ hJ4 hJ11 hK12 hR13 hP8 hP9 hS hl

theorem q686 : Cond.methodLink RL 28 yX8_fault ∈ lw_g := lw_gm (List.mem_of_getElem? (i := 686) (by decide +kernel)) rfl
theorem q687 : Cond.instanceMethod yX8_fault ∈ lw_g := lw_gm (List.mem_of_getElem? (i := 687) (by decide +kernel)) rfl
theorem q688 : Cond.selects RX8 yX8_fault yX8_fault ∈ lw_g := lw_gm (List.mem_of_getElem? (i := 688) (by decide +kernel)) rfl
theorem q1576 : Cond.methodLink RL 31 yX9_fault ∈ lw_g := lw_gm (List.mem_of_getElem? (i := 1576) (by decide +kernel)) rfl
theorem q1577 : Cond.instanceMethod yX9_fault ∈ lw_g := lw_gm (List.mem_of_getElem? (i := 1577) (by decide +kernel)) rfl
theorem q1578 : Cond.selects RX9 yX9_fault yX9_fault ∈ lw_g := lw_gm (List.mem_of_getElem? (i := 1578) (by decide +kernel)) rfl
theorem dL_law_383 : decode cL_law 383 = .ok (.aload_n 1, 1) := by decide +kernel
theorem dL_law_384 : decode cL_law 384 = .ok (.aload_n 0, 1) := by decide +kernel
theorem dL_law_385 : decode cL_law 385 = .ok (.iload_n 3, 1) := by decide +kernel
theorem dL_law_386 : decode cL_law 386 = .ok (.iconst 1, 1) := by decide +kernel
theorem dL_law_387 : decode cL_law 387 = .ok (.iadd, 1) := by decide +kernel
theorem dL_law_388 : decode cL_law 388 = .ok (.iaload, 1) := by decide +kernel
theorem dL_law_389 : decode cL_law 389 = .ok (.invokevirtual 28, 3) := by decide +kernel
theorem dL_law_392 : decode cL_law 392 = .ok (.pop, 1) := by decide +kernel
theorem dL_law_393 : decode cL_law 393 = .ok (.aload_n 2, 1) := by decide +kernel
theorem dL_law_394 : decode cL_law 394 = .ok (.aload_n 0, 1) := by decide +kernel
theorem dL_law_395 : decode cL_law 395 = .ok (.iload_n 3, 1) := by decide +kernel
theorem dL_law_396 : decode cL_law 396 = .ok (.iconst 1, 1) := by decide +kernel
theorem dL_law_397 : decode cL_law 397 = .ok (.iadd, 1) := by decide +kernel
theorem dL_law_398 : decode cL_law 398 = .ok (.iaload, 1) := by decide +kernel
theorem dL_law_399 : decode cL_law 399 = .ok (.invokevirtual 31, 3) := by decide +kernel
theorem dL_law_402 : decode cL_law 402 = .ok (.pop, 1) := by decide +kernel
theorem dL_law_403 : decode cL_law 403 = .ok (.goto 2008, 3) := by decide +kernel
set_option maxHeartbeats 4000000 in
set_option maxRecDepth 100000 in
theorem lawc_3 {p : Program} {l : Launch} {e : Env} {s : State} {m : MethodId} {below : List Frame} {meth : Method} {c : Code} {b L : Nat} {xs : Nat → Int32} {D : va_G} {cy : Nat → ClassId} {g1 g2 : Nat → Nat} (X : LX p s m meth c b L xs D cy g1 g2) (hL : L ≤ 3072) {i : Int32} (hi : (0 : Int) ≤ i.toInt ∧ i.toInt + 6 ≤ (L : Int)) (hnext : (∀ (σ8 σ9 : ST) (H : Heap) (locs : List Loc) (ls : Array Slot), J8 σ8 → J9 (σ9 9) → DKA (σ9 9) → KP σ8 (σ9 9) → va_P D clz (WD8 cy g1 σ8) H → va_P D clz (WD9 cy g2 σ9) H → va_S (lawA s) s.heap H locs → lv_has ls 4 [(3, .int i), (2, .ref (g2 60)), (1, .ref (gO g1 17)), (0, .ref b)] → W p l e room_1 s m #[Value.ref b] below meth c H locs 200 700000 (lw_Z below #[Value.ref b] s) (F0 m 2411 ls []))) (σ8 σ9 : ST) (H : Heap) (locs : List Loc) (ls : Array Slot) (hJ8 : J8 σ8) (hJ9 : J9 (σ9 9)) (hDK : DKA (σ9 9)) (hR : KP σ8 (σ9 9)) (hP8 : va_P D clz (WD8 cy g1 σ8) H) (hP9 : va_P D clz (WD9 cy g2 σ9) H) (hS : va_S (lawA s) s.heap H locs) (hl : lv_has ls 4 [(3, .int i), (2, .ref (g2 60)), (1, .ref (gO g1 17)), (0, .ref b)]) : W p l e room_1 s m #[Value.ref b] below meth c H locs 200 700000 (lw_Z below #[Value.ref b] s) (F0 m 383 ls []) := by
  obtain ⟨⟨hx, hb, hr, hml, hown0, hts0, hX, hbl, hlocks, hgv⟩, hK, hDD, hC8, hC9⟩ := X
  have hown : s.vm.findClass RL = some m.cls := hown0
  have hts : ∀ w ∈ lw_g, w.before #[Value.ref b] s = true := fun w h => hts0 w (lw_gt h)
  have hbA : ¬ lawA s b := Nat.not_le.mpr hbl
  have hA8 := A8_law hDD
  have hA9 := A9_law hDD
  have hD8 : ∀ τ : ST, va_D (A8 cy g1 s.heap.size) (WD8 cy g1 τ) := fun τ => by rw [hA8]; exact map_D WD8_m (D_l hDD)
  have hD9 : ∀ τ : ST, va_D (A9 cy g2 s.heap.size) (WD9 cy g2 τ) := fun τ => by rw [hA9]; exact map_D WD9_m (D_r hDD)
  rw [← hA8] at hC8
  rw [← hA9] at hC9
  refine lv_aload_n hx hb dL_law_383 rfl (lv_at hl 2 rfl) ?_
  refine lv_aload_n hx hb dL_law_384 rfl (lv_at hl 3 rfl) ?_
  refine lv_iload_n hx hb dL_law_385 rfl (lv_at hl 0 rfl) ?_
  refine lv_iconst (v := 1) hx hb dL_law_386 (by decide) ?_
  refine lv_iadd hx hb dL_law_387 ?_
  refine lv_topi (fun x1 ex1 => ?_)
  have t2 := addO ex1 (by have f0 := hi; have f1 := hL; have z1 : (1 : Int32).toInt = 1 := (by decide); omega)
  refine va_sld hx hb hX hbl hbA hS (vpo (by have f0 := t2; have f1 := hi; have f2 := hL; have g0 := rg32 x1; have z1 : (1 : Int32).toInt = 1 := (by decide); omega)) dL_law_388 ?_
  refine lv_topi (fun x3 ex3 => ?_)
  have hSx : va_S (A8 cy g1 s.heap.size) s.heap H locs := by rw [hA8]; exact hS
  refine va_calli (va_runV (As := [.int x3]) (rest := []) ⟨hx, hb, hml, hown, hts⟩ (m_X8_fault l D cy g1 σ8 x3 _ hJ8) (cwV 1 hts (gd_V q686 q687 q688 q125 q689) rfl rfl rfl (by decide +kernel) ⟨Nat.le_of_ble_eq_true rfl, Nat.le_of_ble_eq_true rfl⟩) (pv8 hP8 hK hD8 hC8 hSx (rv8_8 hK hP8)) rfl rfl hl.1 rfl (lv_room (Nat.le_of_ble_eq_true rfl)) dL_law_389 ⟨Nat.le_of_ble_eq_true rfl, Nat.le_of_ble_eq_true rfl⟩) hSx (fun q _ h => up8 hSx q h) (up8 hSx) (fun r4 υ5 tS H1 locs ht hvm hw6 hB hz1 hk1 hSy => ?_)
  have hP8 : va_P D clz (WD8 cy g1 υ5) H1 := by rw [← ht]; exact hB
  have hP9 := kp9 hDD hP9 hk1
  have hS : va_S (lawA s) s.heap H1 locs := by rw [← hA8]; exact hSy
  clear hB hz1 hk1 hvm ht hSx hSy
  generalize H1 = H at hP8 hP9 hS ⊢
  have hw6E : σ8 = υ5 := (hw6.1).symm
  subst hw6E
  refine lv_pop hx hb dL_law_392 rfl ?_
  refine lv_aload_n hx hb dL_law_393 rfl (lv_at hl 1 rfl) ?_
  refine lv_aload_n hx hb dL_law_394 rfl (lv_at hl 3 rfl) ?_
  refine lv_iload_n hx hb dL_law_395 rfl (lv_at hl 0 rfl) ?_
  refine lv_iconst (v := 1) hx hb dL_law_396 (by decide) ?_
  refine lv_iadd hx hb dL_law_397 ?_
  refine lv_topi (fun x7 ex7 => ?_)
  have t8 := addO ex7 (by have f0 := hi; have f1 := hL; have f2 := t2; have z1 : (1 : Int32).toInt = 1 := (by decide); omega)
  refine va_sld hx hb hX hbl hbA hS (vpo (by have f0 := t8; have f1 := hi; have f2 := hL; have f3 := t2; have g0 := rg32 x7; have z1 : (1 : Int32).toInt = 1 := (by decide); omega)) dL_law_398 ?_
  refine lv_topi (fun x9 ex9 => ?_)
  have hSx : va_S (A9 cy g2 s.heap.size) s.heap H locs := by rw [hA9]; exact hS
  refine va_calli (va_runV (As := [.int x9]) (rest := []) ⟨hx, hb, hml, hown, hts⟩ (m_X9_fault l D cy g2 σ9 x9 _ hJ9 ) (cwV 1 hts (gd_V q1576 q1577 q1578 q134 q1579) rfl rfl rfl (by decide +kernel) ⟨Nat.le_of_ble_eq_true rfl, Nat.le_of_ble_eq_true rfl⟩) (pv9 hP9 hK hD9 hC9 hSx (va_recv hK hP9 (ci := 9) (q0 := 0) rfl rfl)) rfl rfl hl.1 rfl (lv_room (Nat.le_of_ble_eq_true rfl)) dL_law_399 ⟨Nat.le_of_ble_eq_true rfl, Nat.le_of_ble_eq_true rfl⟩) hSx (fun q _ h => up9 hSx q h) (up9 hSx) (fun r10 υ11 tS H1 locs ht hvm hw12 hB hz1 hk1 hSy => ?_)
  have hP9 : va_P D clz (WD9 cy g2 υ11) H1 := by rw [← ht]; exact hB
  have hP8 := kp8 hDD hP8 hk1
  have hS : va_S (lawA s) s.heap H1 locs := by rw [← hA9]; exact hSy
  clear hB hz1 hk1 hvm ht hSx hSy
  generalize H1 = H at hP8 hP9 hS ⊢
  have hF13 : Fr (fL [0]) σ9 υ11 := hw12.1
  have hJ14 : J9 (υ11 9) := hw12.2.1
  have hK15 : DKA (υ11 9) := DKA.mv hDK (hF13 9 17 rfl).2.2.1 (hF13 9 18 rfl).2.2.1 (hF13 9 19 rfl).2.2.1
  have hR16 : KP σ8 (υ11 9) := KP.fr9 hR (hF13 9 22 rfl).2.2.1
  refine lv_pop hx hb dL_law_402 rfl ?_
  refine lv_goto (tgt := 2411) hx hb dL_law_403 (by decide) ?_
  exact hnext _ _ _ _ _ hJ8 hJ14 hK15 hR16 hP8 hP9 hS hl

theorem q713 : Cond.methodLink RL 32 yX8_brass ∈ lw_g := lw_gm (List.mem_of_getElem? (i := 713) (by decide +kernel)) rfl
theorem q714 : Cond.instanceMethod yX8_brass ∈ lw_g := lw_gm (List.mem_of_getElem? (i := 714) (by decide +kernel)) rfl
theorem q715 : Cond.selects RX8 yX8_brass yX8_brass ∈ lw_g := lw_gm (List.mem_of_getElem? (i := 715) (by decide +kernel)) rfl
theorem q1697 : Cond.methodLink RL 36 yX9_brass ∈ lw_g := lw_gm (List.mem_of_getElem? (i := 1697) (by decide +kernel)) rfl
theorem q1698 : Cond.instanceMethod yX9_brass ∈ lw_g := lw_gm (List.mem_of_getElem? (i := 1698) (by decide +kernel)) rfl
theorem q1699 : Cond.selects RX9 yX9_brass yX9_brass ∈ lw_g := lw_gm (List.mem_of_getElem? (i := 1699) (by decide +kernel)) rfl
theorem dL_law_406 : decode cL_law 406 = .ok (.aload_n 1, 1) := by decide +kernel
theorem dL_law_407 : decode cL_law 407 = .ok (.aload_n 0, 1) := by decide +kernel
theorem dL_law_408 : decode cL_law 408 = .ok (.iload_n 3, 1) := by decide +kernel
theorem dL_law_409 : decode cL_law 409 = .ok (.iconst 1, 1) := by decide +kernel
theorem dL_law_410 : decode cL_law 410 = .ok (.iadd, 1) := by decide +kernel
theorem dL_law_411 : decode cL_law 411 = .ok (.iaload, 1) := by decide +kernel
theorem dL_law_412 : decode cL_law 412 = .ok (.aload_n 0, 1) := by decide +kernel
theorem dL_law_413 : decode cL_law 413 = .ok (.iload_n 3, 1) := by decide +kernel
theorem dL_law_414 : decode cL_law 414 = .ok (.iconst 2, 1) := by decide +kernel
theorem dL_law_415 : decode cL_law 415 = .ok (.iadd, 1) := by decide +kernel
theorem dL_law_416 : decode cL_law 416 = .ok (.iaload, 1) := by decide +kernel
theorem dL_law_417 : decode cL_law 417 = .ok (.invokevirtual 32, 3) := by decide +kernel
theorem dL_law_420 : decode cL_law 420 = .ok (.pop, 1) := by decide +kernel
theorem dL_law_421 : decode cL_law 421 = .ok (.aload_n 2, 1) := by decide +kernel
theorem dL_law_422 : decode cL_law 422 = .ok (.aload_n 0, 1) := by decide +kernel
theorem dL_law_423 : decode cL_law 423 = .ok (.iload_n 3, 1) := by decide +kernel
theorem dL_law_424 : decode cL_law 424 = .ok (.iconst 1, 1) := by decide +kernel
theorem dL_law_425 : decode cL_law 425 = .ok (.iadd, 1) := by decide +kernel
theorem dL_law_426 : decode cL_law 426 = .ok (.iaload, 1) := by decide +kernel
theorem dL_law_427 : decode cL_law 427 = .ok (.aload_n 0, 1) := by decide +kernel
theorem dL_law_428 : decode cL_law 428 = .ok (.iload_n 3, 1) := by decide +kernel
theorem dL_law_429 : decode cL_law 429 = .ok (.iconst 2, 1) := by decide +kernel
theorem dL_law_430 : decode cL_law 430 = .ok (.iadd, 1) := by decide +kernel
theorem dL_law_431 : decode cL_law 431 = .ok (.iaload, 1) := by decide +kernel
theorem dL_law_432 : decode cL_law 432 = .ok (.invokevirtual 36, 3) := by decide +kernel
theorem dL_law_435 : decode cL_law 435 = .ok (.pop, 1) := by decide +kernel
theorem dL_law_436 : decode cL_law 436 = .ok (.goto 1975, 3) := by decide +kernel
set_option maxHeartbeats 4000000 in
set_option maxRecDepth 100000 in
theorem lawc_4 {p : Program} {l : Launch} {e : Env} {s : State} {m : MethodId} {below : List Frame} {meth : Method} {c : Code} {b L : Nat} {xs : Nat → Int32} {D : va_G} {cy : Nat → ClassId} {g1 g2 : Nat → Nat} (X : LX p s m meth c b L xs D cy g1 g2) (hL : L ≤ 3072) {i : Int32} (hi : (0 : Int) ≤ i.toInt ∧ i.toInt + 6 ≤ (L : Int)) (hnext : (∀ (σ8 σ9 : ST) (H : Heap) (locs : List Loc) (ls : Array Slot), J8 σ8 → J9 (σ9 9) → DKA (σ9 9) → KP σ8 (σ9 9) → va_P D clz (WD8 cy g1 σ8) H → va_P D clz (WD9 cy g2 σ9) H → va_S (lawA s) s.heap H locs → lv_has ls 4 [(3, .int i), (2, .ref (g2 60)), (1, .ref (gO g1 17)), (0, .ref b)] → W p l e room_1 s m #[Value.ref b] below meth c H locs 200 700000 (lw_Z below #[Value.ref b] s) (F0 m 2411 ls []))) (σ8 σ9 : ST) (H : Heap) (locs : List Loc) (ls : Array Slot) (hJ8 : J8 σ8) (hJ9 : J9 (σ9 9)) (hDK : DKA (σ9 9)) (hR : KP σ8 (σ9 9)) (hP8 : va_P D clz (WD8 cy g1 σ8) H) (hP9 : va_P D clz (WD9 cy g2 σ9) H) (hS : va_S (lawA s) s.heap H locs) (hl : lv_has ls 4 [(3, .int i), (2, .ref (g2 60)), (1, .ref (gO g1 17)), (0, .ref b)]) : W p l e room_1 s m #[Value.ref b] below meth c H locs 200 700000 (lw_Z below #[Value.ref b] s) (F0 m 406 ls []) := by
  obtain ⟨⟨hx, hb, hr, hml, hown0, hts0, hX, hbl, hlocks, hgv⟩, hK, hDD, hC8, hC9⟩ := X
  have hown : s.vm.findClass RL = some m.cls := hown0
  have hts : ∀ w ∈ lw_g, w.before #[Value.ref b] s = true := fun w h => hts0 w (lw_gt h)
  have hbA : ¬ lawA s b := Nat.not_le.mpr hbl
  have hA8 := A8_law hDD
  have hA9 := A9_law hDD
  have hD8 : ∀ τ : ST, va_D (A8 cy g1 s.heap.size) (WD8 cy g1 τ) := fun τ => by rw [hA8]; exact map_D WD8_m (D_l hDD)
  have hD9 : ∀ τ : ST, va_D (A9 cy g2 s.heap.size) (WD9 cy g2 τ) := fun τ => by rw [hA9]; exact map_D WD9_m (D_r hDD)
  rw [← hA8] at hC8
  rw [← hA9] at hC9
  refine lv_aload_n hx hb dL_law_406 rfl (lv_at hl 2 rfl) ?_
  refine lv_aload_n hx hb dL_law_407 rfl (lv_at hl 3 rfl) ?_
  refine lv_iload_n hx hb dL_law_408 rfl (lv_at hl 0 rfl) ?_
  refine lv_iconst (v := 1) hx hb dL_law_409 (by decide) ?_
  refine lv_iadd hx hb dL_law_410 ?_
  refine lv_topi (fun x1 ex1 => ?_)
  have t2 := addO ex1 (by have f0 := hi; have f1 := hL; have z1 : (1 : Int32).toInt = 1 := (by decide); omega)
  refine va_sld hx hb hX hbl hbA hS (vpo (by have f0 := t2; have f1 := hi; have f2 := hL; have g0 := rg32 x1; have z1 : (1 : Int32).toInt = 1 := (by decide); omega)) dL_law_411 ?_
  refine lv_topi (fun x3 ex3 => ?_)
  refine lv_aload_n hx hb dL_law_412 rfl (lv_at hl 3 rfl) ?_
  refine lv_iload_n hx hb dL_law_413 rfl (lv_at hl 0 rfl) ?_
  refine lv_iconst (v := 2) hx hb dL_law_414 (by decide) ?_
  refine lv_iadd hx hb dL_law_415 ?_
  refine lv_topi (fun x4 ex4 => ?_)
  have t5 := addO ex4 (by have f0 := hi; have f1 := hL; have f2 := t2; have z1 : (1 : Int32).toInt = 1 := (by decide); have z2 : (2 : Int32).toInt = 2 := (by decide); omega)
  refine va_sld hx hb hX hbl hbA hS (vpo (by have f0 := t5; have f1 := hi; have f2 := hL; have f3 := t2; have g0 := rg32 x4; have z1 : (1 : Int32).toInt = 1 := (by decide); have z2 : (2 : Int32).toInt = 2 := (by decide); omega)) dL_law_416 ?_
  refine lv_topi (fun x6 ex6 => ?_)
  have hSx : va_S (A8 cy g1 s.heap.size) s.heap H locs := by rw [hA8]; exact hS
  refine va_calli (va_runV (As := [.int x3, .int x6]) (rest := []) ⟨hx, hb, hml, hown, hts⟩ (m_X8_brass l D cy g1 σ8 x3 x6 _ hJ8) (cwV 2 hts (gd_V q713 q714 q715 q125 q716) rfl rfl rfl (by decide +kernel) ⟨Nat.le_of_ble_eq_true rfl, Nat.le_of_ble_eq_true rfl⟩) (pv8 hP8 hK hD8 hC8 hSx (rv8_8 hK hP8)) rfl rfl hl.1 rfl (lv_room (Nat.le_of_ble_eq_true rfl)) dL_law_417 ⟨Nat.le_of_ble_eq_true rfl, Nat.le_of_ble_eq_true rfl⟩) hSx (fun q _ h => up8 hSx q h) (up8 hSx) (fun r7 υ8 tS H1 locs ht hvm hw9 hB hz1 hk1 hSy => ?_)
  have hP8 : va_P D clz (WD8 cy g1 υ8) H1 := by rw [← ht]; exact hB
  have hP9 := kp9 hDD hP9 hk1
  have hS : va_S (lawA s) s.heap H1 locs := by rw [← hA8]; exact hSy
  clear hB hz1 hk1 hvm ht hSx hSy
  generalize H1 = H at hP8 hP9 hS ⊢
  have hw9E : σ8 = υ8 := (hw9.1).symm
  subst hw9E
  refine lv_pop hx hb dL_law_420 rfl ?_
  refine lv_aload_n hx hb dL_law_421 rfl (lv_at hl 1 rfl) ?_
  refine lv_aload_n hx hb dL_law_422 rfl (lv_at hl 3 rfl) ?_
  refine lv_iload_n hx hb dL_law_423 rfl (lv_at hl 0 rfl) ?_
  refine lv_iconst (v := 1) hx hb dL_law_424 (by decide) ?_
  refine lv_iadd hx hb dL_law_425 ?_
  refine lv_topi (fun x10 ex10 => ?_)
  have t11 := addO ex10 (by have f0 := hi; have f1 := hL; have f2 := t2; have f3 := t5; have z1 : (1 : Int32).toInt = 1 := (by decide); have z2 : (2 : Int32).toInt = 2 := (by decide); omega)
  refine va_sld hx hb hX hbl hbA hS (vpo (by have f0 := t11; have f1 := hi; have f2 := hL; have f3 := t2; have f4 := t5; have g0 := rg32 x10; have z1 : (1 : Int32).toInt = 1 := (by decide); have z2 : (2 : Int32).toInt = 2 := (by decide); omega)) dL_law_426 ?_
  refine lv_topi (fun x12 ex12 => ?_)
  refine lv_aload_n hx hb dL_law_427 rfl (lv_at hl 3 rfl) ?_
  refine lv_iload_n hx hb dL_law_428 rfl (lv_at hl 0 rfl) ?_
  refine lv_iconst (v := 2) hx hb dL_law_429 (by decide) ?_
  refine lv_iadd hx hb dL_law_430 ?_
  refine lv_topi (fun x13 ex13 => ?_)
  have t14 := addO ex13 (by have f0 := hi; have f1 := hL; have f2 := t2; have f3 := t5; have f4 := t11; have z1 : (1 : Int32).toInt = 1 := (by decide); have z2 : (2 : Int32).toInt = 2 := (by decide); omega)
  refine va_sld hx hb hX hbl hbA hS (vpo (by have f0 := t14; have f1 := hi; have f2 := hL; have f3 := t2; have f4 := t5; have f5 := t11; have g0 := rg32 x13; have z1 : (1 : Int32).toInt = 1 := (by decide); have z2 : (2 : Int32).toInt = 2 := (by decide); omega)) dL_law_431 ?_
  refine lv_topi (fun x15 ex15 => ?_)
  have hSx : va_S (A9 cy g2 s.heap.size) s.heap H locs := by rw [hA9]; exact hS
  refine va_calli (va_runV (As := [.int x12, .int x15]) (rest := []) ⟨hx, hb, hml, hown, hts⟩ (m_X9_brass l D cy g2 σ9 x12 x15 _ hJ9 ) (cwV 2 hts (gd_V q1697 q1698 q1699 q134 q1700) rfl rfl rfl (by decide +kernel) ⟨Nat.le_of_ble_eq_true rfl, Nat.le_of_ble_eq_true rfl⟩) (pv9 hP9 hK hD9 hC9 hSx (va_recv hK hP9 (ci := 9) (q0 := 0) rfl rfl)) rfl rfl hl.1 rfl (lv_room (Nat.le_of_ble_eq_true rfl)) dL_law_432 ⟨Nat.le_of_ble_eq_true rfl, Nat.le_of_ble_eq_true rfl⟩) hSx (fun q _ h => up9 hSx q h) (up9 hSx) (fun r16 υ17 tS H1 locs ht hvm hw18 hB hz1 hk1 hSy => ?_)
  have hP9 : va_P D clz (WD9 cy g2 υ17) H1 := by rw [← ht]; exact hB
  have hP8 := kp8 hDD hP8 hk1
  have hS : va_S (lawA s) s.heap H1 locs := by rw [← hA9]; exact hSy
  clear hB hz1 hk1 hvm ht hSx hSy
  generalize H1 = H at hP8 hP9 hS ⊢
  have hF19 : Fr (fL [0]) σ9 υ17 := hw18.1
  have hJ20 : J9 (υ17 9) := hw18.2.1
  have hK21 : DKA (υ17 9) := DKA.mv hDK (hF19 9 17 rfl).2.2.1 (hF19 9 18 rfl).2.2.1 (hF19 9 19 rfl).2.2.1
  have hR22 : KP σ8 (υ17 9) := KP.fr9 hR (hF19 9 22 rfl).2.2.1
  refine lv_pop hx hb dL_law_435 rfl ?_
  refine lv_goto (tgt := 2411) hx hb dL_law_436 (by decide) ?_
  exact hnext _ _ _ _ _ hJ8 hJ20 hK21 hR22 hP8 hP9 hS hl

theorem q721 : Cond.methodLink RL 37 yX8_player ∈ lw_g := lw_gm (List.mem_of_getElem? (i := 721) (by decide +kernel)) rfl
theorem q722 : Cond.instanceMethod yX8_player ∈ lw_g := lw_gm (List.mem_of_getElem? (i := 722) (by decide +kernel)) rfl
theorem q723 : Cond.selects RX8 yX8_player yX8_player ∈ lw_g := lw_gm (List.mem_of_getElem? (i := 723) (by decide +kernel)) rfl
theorem q1706 : Cond.methodLink RL 40 yX9_player ∈ lw_g := lw_gm (List.mem_of_getElem? (i := 1706) (by decide +kernel)) rfl
theorem q1707 : Cond.instanceMethod yX9_player ∈ lw_g := lw_gm (List.mem_of_getElem? (i := 1707) (by decide +kernel)) rfl
theorem q1708 : Cond.selects RX9 yX9_player yX9_player ∈ lw_g := lw_gm (List.mem_of_getElem? (i := 1708) (by decide +kernel)) rfl
theorem dL_law_439 : decode cL_law 439 = .ok (.aload_n 1, 1) := by decide +kernel
theorem dL_law_440 : decode cL_law 440 = .ok (.aload_n 0, 1) := by decide +kernel
theorem dL_law_441 : decode cL_law 441 = .ok (.iload_n 3, 1) := by decide +kernel
theorem dL_law_442 : decode cL_law 442 = .ok (.iconst 1, 1) := by decide +kernel
theorem dL_law_443 : decode cL_law 443 = .ok (.iadd, 1) := by decide +kernel
theorem dL_law_444 : decode cL_law 444 = .ok (.iaload, 1) := by decide +kernel
theorem dL_law_445 : decode cL_law 445 = .ok (.aload_n 0, 1) := by decide +kernel
theorem dL_law_446 : decode cL_law 446 = .ok (.iload_n 3, 1) := by decide +kernel
theorem dL_law_447 : decode cL_law 447 = .ok (.iconst 2, 1) := by decide +kernel
theorem dL_law_448 : decode cL_law 448 = .ok (.iadd, 1) := by decide +kernel
theorem dL_law_449 : decode cL_law 449 = .ok (.iaload, 1) := by decide +kernel
theorem dL_law_450 : decode cL_law 450 = .ok (.invokevirtual 37, 3) := by decide +kernel
theorem dL_law_453 : decode cL_law 453 = .ok (.pop, 1) := by decide +kernel
theorem dL_law_454 : decode cL_law 454 = .ok (.aload_n 2, 1) := by decide +kernel
theorem dL_law_455 : decode cL_law 455 = .ok (.aload_n 0, 1) := by decide +kernel
theorem dL_law_456 : decode cL_law 456 = .ok (.iload_n 3, 1) := by decide +kernel
theorem dL_law_457 : decode cL_law 457 = .ok (.iconst 1, 1) := by decide +kernel
theorem dL_law_458 : decode cL_law 458 = .ok (.iadd, 1) := by decide +kernel
theorem dL_law_459 : decode cL_law 459 = .ok (.iaload, 1) := by decide +kernel
theorem dL_law_460 : decode cL_law 460 = .ok (.aload_n 0, 1) := by decide +kernel
theorem dL_law_461 : decode cL_law 461 = .ok (.iload_n 3, 1) := by decide +kernel
theorem dL_law_462 : decode cL_law 462 = .ok (.iconst 2, 1) := by decide +kernel
theorem dL_law_463 : decode cL_law 463 = .ok (.iadd, 1) := by decide +kernel
theorem dL_law_464 : decode cL_law 464 = .ok (.iaload, 1) := by decide +kernel
theorem dL_law_465 : decode cL_law 465 = .ok (.invokevirtual 40, 3) := by decide +kernel
theorem dL_law_468 : decode cL_law 468 = .ok (.pop, 1) := by decide +kernel
theorem dL_law_469 : decode cL_law 469 = .ok (.goto 1942, 3) := by decide +kernel
set_option maxHeartbeats 4000000 in
set_option maxRecDepth 100000 in
theorem lawc_5 {p : Program} {l : Launch} {e : Env} {s : State} {m : MethodId} {below : List Frame} {meth : Method} {c : Code} {b L : Nat} {xs : Nat → Int32} {D : va_G} {cy : Nat → ClassId} {g1 g2 : Nat → Nat} (X : LX p s m meth c b L xs D cy g1 g2) (hL : L ≤ 3072) {i : Int32} (hi : (0 : Int) ≤ i.toInt ∧ i.toInt + 6 ≤ (L : Int)) (hnext : (∀ (σ8 σ9 : ST) (H : Heap) (locs : List Loc) (ls : Array Slot), J8 σ8 → J9 (σ9 9) → DKA (σ9 9) → KP σ8 (σ9 9) → va_P D clz (WD8 cy g1 σ8) H → va_P D clz (WD9 cy g2 σ9) H → va_S (lawA s) s.heap H locs → lv_has ls 4 [(3, .int i), (2, .ref (g2 60)), (1, .ref (gO g1 17)), (0, .ref b)] → W p l e room_1 s m #[Value.ref b] below meth c H locs 200 700000 (lw_Z below #[Value.ref b] s) (F0 m 2411 ls []))) (σ8 σ9 : ST) (H : Heap) (locs : List Loc) (ls : Array Slot) (hJ8 : J8 σ8) (hJ9 : J9 (σ9 9)) (hDK : DKA (σ9 9)) (hR : KP σ8 (σ9 9)) (hP8 : va_P D clz (WD8 cy g1 σ8) H) (hP9 : va_P D clz (WD9 cy g2 σ9) H) (hS : va_S (lawA s) s.heap H locs) (hl : lv_has ls 4 [(3, .int i), (2, .ref (g2 60)), (1, .ref (gO g1 17)), (0, .ref b)]) : W p l e room_1 s m #[Value.ref b] below meth c H locs 200 700000 (lw_Z below #[Value.ref b] s) (F0 m 439 ls []) := by
  obtain ⟨⟨hx, hb, hr, hml, hown0, hts0, hX, hbl, hlocks, hgv⟩, hK, hDD, hC8, hC9⟩ := X
  have hown : s.vm.findClass RL = some m.cls := hown0
  have hts : ∀ w ∈ lw_g, w.before #[Value.ref b] s = true := fun w h => hts0 w (lw_gt h)
  have hbA : ¬ lawA s b := Nat.not_le.mpr hbl
  have hA8 := A8_law hDD
  have hA9 := A9_law hDD
  have hD8 : ∀ τ : ST, va_D (A8 cy g1 s.heap.size) (WD8 cy g1 τ) := fun τ => by rw [hA8]; exact map_D WD8_m (D_l hDD)
  have hD9 : ∀ τ : ST, va_D (A9 cy g2 s.heap.size) (WD9 cy g2 τ) := fun τ => by rw [hA9]; exact map_D WD9_m (D_r hDD)
  rw [← hA8] at hC8
  rw [← hA9] at hC9
  refine lv_aload_n hx hb dL_law_439 rfl (lv_at hl 2 rfl) ?_
  refine lv_aload_n hx hb dL_law_440 rfl (lv_at hl 3 rfl) ?_
  refine lv_iload_n hx hb dL_law_441 rfl (lv_at hl 0 rfl) ?_
  refine lv_iconst (v := 1) hx hb dL_law_442 (by decide) ?_
  refine lv_iadd hx hb dL_law_443 ?_
  refine lv_topi (fun x1 ex1 => ?_)
  have t2 := addO ex1 (by have f0 := hi; have f1 := hL; have z1 : (1 : Int32).toInt = 1 := (by decide); omega)
  refine va_sld hx hb hX hbl hbA hS (vpo (by have f0 := t2; have f1 := hi; have f2 := hL; have g0 := rg32 x1; have z1 : (1 : Int32).toInt = 1 := (by decide); omega)) dL_law_444 ?_
  refine lv_topi (fun x3 ex3 => ?_)
  refine lv_aload_n hx hb dL_law_445 rfl (lv_at hl 3 rfl) ?_
  refine lv_iload_n hx hb dL_law_446 rfl (lv_at hl 0 rfl) ?_
  refine lv_iconst (v := 2) hx hb dL_law_447 (by decide) ?_
  refine lv_iadd hx hb dL_law_448 ?_
  refine lv_topi (fun x4 ex4 => ?_)
  have t5 := addO ex4 (by have f0 := hi; have f1 := hL; have f2 := t2; have z1 : (1 : Int32).toInt = 1 := (by decide); have z2 : (2 : Int32).toInt = 2 := (by decide); omega)
  refine va_sld hx hb hX hbl hbA hS (vpo (by have f0 := t5; have f1 := hi; have f2 := hL; have f3 := t2; have g0 := rg32 x4; have z1 : (1 : Int32).toInt = 1 := (by decide); have z2 : (2 : Int32).toInt = 2 := (by decide); omega)) dL_law_449 ?_
  refine lv_topi (fun x6 ex6 => ?_)
  have hSx : va_S (A8 cy g1 s.heap.size) s.heap H locs := by rw [hA8]; exact hS
  refine va_calli (va_runV (As := [.int x3, .int x6]) (rest := []) ⟨hx, hb, hml, hown, hts⟩ (m_X8_player l D cy g1 σ8 x3 x6 _ hJ8) (cwV 2 hts (gd_V q721 q722 q723 q125 q724) rfl rfl rfl (by decide +kernel) ⟨Nat.le_of_ble_eq_true rfl, Nat.le_of_ble_eq_true rfl⟩) (pv8 hP8 hK hD8 hC8 hSx (rv8_8 hK hP8)) rfl rfl hl.1 rfl (lv_room (Nat.le_of_ble_eq_true rfl)) dL_law_450 ⟨Nat.le_of_ble_eq_true rfl, Nat.le_of_ble_eq_true rfl⟩) hSx (fun q _ h => up8 hSx q h) (up8 hSx) (fun r7 υ8 tS H1 locs ht hvm hw9 hB hz1 hk1 hSy => ?_)
  have hP8 : va_P D clz (WD8 cy g1 υ8) H1 := by rw [← ht]; exact hB
  have hP9 := kp9 hDD hP9 hk1
  have hS : va_S (lawA s) s.heap H1 locs := by rw [← hA8]; exact hSy
  clear hB hz1 hk1 hvm ht hSx hSy
  generalize H1 = H at hP8 hP9 hS ⊢
  have hw9E : σ8 = υ8 := (hw9.1).symm
  subst hw9E
  refine lv_pop hx hb dL_law_453 rfl ?_
  refine lv_aload_n hx hb dL_law_454 rfl (lv_at hl 1 rfl) ?_
  refine lv_aload_n hx hb dL_law_455 rfl (lv_at hl 3 rfl) ?_
  refine lv_iload_n hx hb dL_law_456 rfl (lv_at hl 0 rfl) ?_
  refine lv_iconst (v := 1) hx hb dL_law_457 (by decide) ?_
  refine lv_iadd hx hb dL_law_458 ?_
  refine lv_topi (fun x10 ex10 => ?_)
  have t11 := addO ex10 (by have f0 := hi; have f1 := hL; have f2 := t2; have f3 := t5; have z1 : (1 : Int32).toInt = 1 := (by decide); have z2 : (2 : Int32).toInt = 2 := (by decide); omega)
  refine va_sld hx hb hX hbl hbA hS (vpo (by have f0 := t11; have f1 := hi; have f2 := hL; have f3 := t2; have f4 := t5; have g0 := rg32 x10; have z1 : (1 : Int32).toInt = 1 := (by decide); have z2 : (2 : Int32).toInt = 2 := (by decide); omega)) dL_law_459 ?_
  refine lv_topi (fun x12 ex12 => ?_)
  refine lv_aload_n hx hb dL_law_460 rfl (lv_at hl 3 rfl) ?_
  refine lv_iload_n hx hb dL_law_461 rfl (lv_at hl 0 rfl) ?_
  refine lv_iconst (v := 2) hx hb dL_law_462 (by decide) ?_
  refine lv_iadd hx hb dL_law_463 ?_
  refine lv_topi (fun x13 ex13 => ?_)
  have t14 := addO ex13 (by have f0 := hi; have f1 := hL; have f2 := t2; have f3 := t5; have f4 := t11; have z1 : (1 : Int32).toInt = 1 := (by decide); have z2 : (2 : Int32).toInt = 2 := (by decide); omega)
  refine va_sld hx hb hX hbl hbA hS (vpo (by have f0 := t14; have f1 := hi; have f2 := hL; have f3 := t2; have f4 := t5; have f5 := t11; have g0 := rg32 x13; have z1 : (1 : Int32).toInt = 1 := (by decide); have z2 : (2 : Int32).toInt = 2 := (by decide); omega)) dL_law_464 ?_
  refine lv_topi (fun x15 ex15 => ?_)
  have hSx : va_S (A9 cy g2 s.heap.size) s.heap H locs := by rw [hA9]; exact hS
  refine va_calli (va_runV (As := [.int x12, .int x15]) (rest := []) ⟨hx, hb, hml, hown, hts⟩ (m_X9_player l D cy g2 σ9 x12 x15 _ hJ9 ) (cwV 2 hts (gd_V q1706 q1707 q1708 q134 q1709) rfl rfl rfl (by decide +kernel) ⟨Nat.le_of_ble_eq_true rfl, Nat.le_of_ble_eq_true rfl⟩) (pv9 hP9 hK hD9 hC9 hSx (va_recv hK hP9 (ci := 9) (q0 := 0) rfl rfl)) rfl rfl hl.1 rfl (lv_room (Nat.le_of_ble_eq_true rfl)) dL_law_465 ⟨Nat.le_of_ble_eq_true rfl, Nat.le_of_ble_eq_true rfl⟩) hSx (fun q _ h => up9 hSx q h) (up9 hSx) (fun r16 υ17 tS H1 locs ht hvm hw18 hB hz1 hk1 hSy => ?_)
  have hP9 : va_P D clz (WD9 cy g2 υ17) H1 := by rw [← ht]; exact hB
  have hP8 := kp8 hDD hP8 hk1
  have hS : va_S (lawA s) s.heap H1 locs := by rw [← hA9]; exact hSy
  clear hB hz1 hk1 hvm ht hSx hSy
  generalize H1 = H at hP8 hP9 hS ⊢
  have hF19 : Fr (fL [0]) σ9 υ17 := hw18.1
  have hJ20 : J9 (υ17 9) := hw18.2.1
  have hK21 : DKA (υ17 9) := DKA.mv hDK (hF19 9 17 rfl).2.2.1 (hF19 9 18 rfl).2.2.1 (hF19 9 19 rfl).2.2.1
  have hR22 : KP σ8 (υ17 9) := KP.fr9 hR (hF19 9 22 rfl).2.2.1
  refine lv_pop hx hb dL_law_468 rfl ?_
  refine lv_goto (tgt := 2411) hx hb dL_law_469 (by decide) ?_
  exact hnext _ _ _ _ _ hJ8 hJ20 hK21 hR22 hP8 hP9 hS hl

theorem q729 : Cond.methodLink RL 41 yX8_tone ∈ lw_g := lw_gm (List.mem_of_getElem? (i := 729) (by decide +kernel)) rfl
theorem q730 : Cond.instanceMethod yX8_tone ∈ lw_g := lw_gm (List.mem_of_getElem? (i := 730) (by decide +kernel)) rfl
theorem q731 : Cond.selects RX8 yX8_tone yX8_tone ∈ lw_g := lw_gm (List.mem_of_getElem? (i := 731) (by decide +kernel)) rfl
theorem q1714 : Cond.methodLink RL 45 yX9_tone ∈ lw_g := lw_gm (List.mem_of_getElem? (i := 1714) (by decide +kernel)) rfl
theorem q1715 : Cond.instanceMethod yX9_tone ∈ lw_g := lw_gm (List.mem_of_getElem? (i := 1715) (by decide +kernel)) rfl
theorem q1716 : Cond.selects RX9 yX9_tone yX9_tone ∈ lw_g := lw_gm (List.mem_of_getElem? (i := 1716) (by decide +kernel)) rfl
theorem dL_law_472 : decode cL_law 472 = .ok (.aload_n 1, 1) := by decide +kernel
theorem dL_law_473 : decode cL_law 473 = .ok (.aload_n 0, 1) := by decide +kernel
theorem dL_law_474 : decode cL_law 474 = .ok (.iload_n 3, 1) := by decide +kernel
theorem dL_law_475 : decode cL_law 475 = .ok (.iconst 1, 1) := by decide +kernel
theorem dL_law_476 : decode cL_law 476 = .ok (.iadd, 1) := by decide +kernel
theorem dL_law_477 : decode cL_law 477 = .ok (.iaload, 1) := by decide +kernel
theorem dL_law_478 : decode cL_law 478 = .ok (.aload_n 0, 1) := by decide +kernel
theorem dL_law_479 : decode cL_law 479 = .ok (.iload_n 3, 1) := by decide +kernel
theorem dL_law_480 : decode cL_law 480 = .ok (.iconst 2, 1) := by decide +kernel
theorem dL_law_481 : decode cL_law 481 = .ok (.iadd, 1) := by decide +kernel
theorem dL_law_482 : decode cL_law 482 = .ok (.iaload, 1) := by decide +kernel
theorem dL_law_483 : decode cL_law 483 = .ok (.aload_n 0, 1) := by decide +kernel
theorem dL_law_484 : decode cL_law 484 = .ok (.iload_n 3, 1) := by decide +kernel
theorem dL_law_485 : decode cL_law 485 = .ok (.iconst 3, 1) := by decide +kernel
theorem dL_law_486 : decode cL_law 486 = .ok (.iadd, 1) := by decide +kernel
theorem dL_law_487 : decode cL_law 487 = .ok (.iaload, 1) := by decide +kernel
theorem dL_law_488 : decode cL_law 488 = .ok (.invokevirtual 41, 3) := by decide +kernel
theorem dL_law_491 : decode cL_law 491 = .ok (.pop, 1) := by decide +kernel
theorem dL_law_492 : decode cL_law 492 = .ok (.aload_n 2, 1) := by decide +kernel
theorem dL_law_493 : decode cL_law 493 = .ok (.aload_n 0, 1) := by decide +kernel
theorem dL_law_494 : decode cL_law 494 = .ok (.iload_n 3, 1) := by decide +kernel
theorem dL_law_495 : decode cL_law 495 = .ok (.iconst 1, 1) := by decide +kernel
theorem dL_law_496 : decode cL_law 496 = .ok (.iadd, 1) := by decide +kernel
theorem dL_law_497 : decode cL_law 497 = .ok (.iaload, 1) := by decide +kernel
theorem dL_law_498 : decode cL_law 498 = .ok (.aload_n 0, 1) := by decide +kernel
theorem dL_law_499 : decode cL_law 499 = .ok (.iload_n 3, 1) := by decide +kernel
theorem dL_law_500 : decode cL_law 500 = .ok (.iconst 2, 1) := by decide +kernel
theorem dL_law_501 : decode cL_law 501 = .ok (.iadd, 1) := by decide +kernel
theorem dL_law_502 : decode cL_law 502 = .ok (.iaload, 1) := by decide +kernel
theorem dL_law_503 : decode cL_law 503 = .ok (.aload_n 0, 1) := by decide +kernel
theorem dL_law_504 : decode cL_law 504 = .ok (.iload_n 3, 1) := by decide +kernel
theorem dL_law_505 : decode cL_law 505 = .ok (.iconst 3, 1) := by decide +kernel
theorem dL_law_506 : decode cL_law 506 = .ok (.iadd, 1) := by decide +kernel
theorem dL_law_507 : decode cL_law 507 = .ok (.iaload, 1) := by decide +kernel
theorem dL_law_508 : decode cL_law 508 = .ok (.invokevirtual 45, 3) := by decide +kernel
theorem dL_law_511 : decode cL_law 511 = .ok (.pop, 1) := by decide +kernel
theorem dL_law_512 : decode cL_law 512 = .ok (.goto 1899, 3) := by decide +kernel
set_option maxHeartbeats 4000000 in
set_option maxRecDepth 100000 in
theorem lawc_6 {p : Program} {l : Launch} {e : Env} {s : State} {m : MethodId} {below : List Frame} {meth : Method} {c : Code} {b L : Nat} {xs : Nat → Int32} {D : va_G} {cy : Nat → ClassId} {g1 g2 : Nat → Nat} (X : LX p s m meth c b L xs D cy g1 g2) (hL : L ≤ 3072) {i : Int32} (hi : (0 : Int) ≤ i.toInt ∧ i.toInt + 6 ≤ (L : Int)) (hnext : (∀ (σ8 σ9 : ST) (H : Heap) (locs : List Loc) (ls : Array Slot), J8 σ8 → J9 (σ9 9) → DKA (σ9 9) → KP σ8 (σ9 9) → va_P D clz (WD8 cy g1 σ8) H → va_P D clz (WD9 cy g2 σ9) H → va_S (lawA s) s.heap H locs → lv_has ls 4 [(3, .int i), (2, .ref (g2 60)), (1, .ref (gO g1 17)), (0, .ref b)] → W p l e room_1 s m #[Value.ref b] below meth c H locs 200 700000 (lw_Z below #[Value.ref b] s) (F0 m 2411 ls []))) (σ8 σ9 : ST) (H : Heap) (locs : List Loc) (ls : Array Slot) (hJ8 : J8 σ8) (hJ9 : J9 (σ9 9)) (hDK : DKA (σ9 9)) (hR : KP σ8 (σ9 9)) (hP8 : va_P D clz (WD8 cy g1 σ8) H) (hP9 : va_P D clz (WD9 cy g2 σ9) H) (hS : va_S (lawA s) s.heap H locs) (hl : lv_has ls 4 [(3, .int i), (2, .ref (g2 60)), (1, .ref (gO g1 17)), (0, .ref b)]) : W p l e room_1 s m #[Value.ref b] below meth c H locs 200 700000 (lw_Z below #[Value.ref b] s) (F0 m 472 ls []) := by
  obtain ⟨⟨hx, hb, hr, hml, hown0, hts0, hX, hbl, hlocks, hgv⟩, hK, hDD, hC8, hC9⟩ := X
  have hown : s.vm.findClass RL = some m.cls := hown0
  have hts : ∀ w ∈ lw_g, w.before #[Value.ref b] s = true := fun w h => hts0 w (lw_gt h)
  have hbA : ¬ lawA s b := Nat.not_le.mpr hbl
  have hA8 := A8_law hDD
  have hA9 := A9_law hDD
  have hD8 : ∀ τ : ST, va_D (A8 cy g1 s.heap.size) (WD8 cy g1 τ) := fun τ => by rw [hA8]; exact map_D WD8_m (D_l hDD)
  have hD9 : ∀ τ : ST, va_D (A9 cy g2 s.heap.size) (WD9 cy g2 τ) := fun τ => by rw [hA9]; exact map_D WD9_m (D_r hDD)
  rw [← hA8] at hC8
  rw [← hA9] at hC9
  refine lv_aload_n hx hb dL_law_472 rfl (lv_at hl 2 rfl) ?_
  refine lv_aload_n hx hb dL_law_473 rfl (lv_at hl 3 rfl) ?_
  refine lv_iload_n hx hb dL_law_474 rfl (lv_at hl 0 rfl) ?_
  refine lv_iconst (v := 1) hx hb dL_law_475 (by decide) ?_
  refine lv_iadd hx hb dL_law_476 ?_
  refine lv_topi (fun x1 ex1 => ?_)
  have t2 := addO ex1 (by have f0 := hi; have f1 := hL; have z1 : (1 : Int32).toInt = 1 := (by decide); omega)
  refine va_sld hx hb hX hbl hbA hS (vpo (by have f0 := t2; have f1 := hi; have f2 := hL; have g0 := rg32 x1; have z1 : (1 : Int32).toInt = 1 := (by decide); omega)) dL_law_477 ?_
  refine lv_topi (fun x3 ex3 => ?_)
  refine lv_aload_n hx hb dL_law_478 rfl (lv_at hl 3 rfl) ?_
  refine lv_iload_n hx hb dL_law_479 rfl (lv_at hl 0 rfl) ?_
  refine lv_iconst (v := 2) hx hb dL_law_480 (by decide) ?_
  refine lv_iadd hx hb dL_law_481 ?_
  refine lv_topi (fun x4 ex4 => ?_)
  have t5 := addO ex4 (by have f0 := hi; have f1 := hL; have f2 := t2; have z1 : (1 : Int32).toInt = 1 := (by decide); have z2 : (2 : Int32).toInt = 2 := (by decide); omega)
  refine va_sld hx hb hX hbl hbA hS (vpo (by have f0 := t5; have f1 := hi; have f2 := hL; have f3 := t2; have g0 := rg32 x4; have z1 : (1 : Int32).toInt = 1 := (by decide); have z2 : (2 : Int32).toInt = 2 := (by decide); omega)) dL_law_482 ?_
  refine lv_topi (fun x6 ex6 => ?_)
  refine lv_aload_n hx hb dL_law_483 rfl (lv_at hl 3 rfl) ?_
  refine lv_iload_n hx hb dL_law_484 rfl (lv_at hl 0 rfl) ?_
  refine lv_iconst (v := 3) hx hb dL_law_485 (by decide) ?_
  refine lv_iadd hx hb dL_law_486 ?_
  refine lv_topi (fun x7 ex7 => ?_)
  have t8 := addO ex7 (by have f0 := hi; have f1 := hL; have f2 := t2; have f3 := t5; have z1 : (1 : Int32).toInt = 1 := (by decide); have z2 : (2 : Int32).toInt = 2 := (by decide); have z3 : (3 : Int32).toInt = 3 := (by decide); omega)
  refine va_sld hx hb hX hbl hbA hS (vpo (by have f0 := t8; have f1 := hi; have f2 := hL; have f3 := t2; have f4 := t5; have g0 := rg32 x7; have z1 : (1 : Int32).toInt = 1 := (by decide); have z2 : (2 : Int32).toInt = 2 := (by decide); have z3 : (3 : Int32).toInt = 3 := (by decide); omega)) dL_law_487 ?_
  refine lv_topi (fun x9 ex9 => ?_)
  have hSx : va_S (A8 cy g1 s.heap.size) s.heap H locs := by rw [hA8]; exact hS
  refine va_calli (va_runV (As := [.int x3, .int x6, .int x9]) (rest := []) ⟨hx, hb, hml, hown, hts⟩ (m_X8_tone l D cy g1 σ8 x3 x6 x9 _ hJ8) (cwV 3 hts (gd_V q729 q730 q731 q125 q732) rfl rfl rfl (by decide +kernel) ⟨Nat.le_of_ble_eq_true rfl, Nat.le_of_ble_eq_true rfl⟩) (pv8 hP8 hK hD8 hC8 hSx (rv8_8 hK hP8)) rfl rfl hl.1 rfl (lv_room (Nat.le_of_ble_eq_true rfl)) dL_law_488 ⟨Nat.le_of_ble_eq_true rfl, Nat.le_of_ble_eq_true rfl⟩) hSx (fun q _ h => up8 hSx q h) (up8 hSx) (fun r10 υ11 tS H1 locs ht hvm hw12 hB hz1 hk1 hSy => ?_)
  have hP8 : va_P D clz (WD8 cy g1 υ11) H1 := by rw [← ht]; exact hB
  have hP9 := kp9 hDD hP9 hk1
  have hS : va_S (lawA s) s.heap H1 locs := by rw [← hA8]; exact hSy
  clear hB hz1 hk1 hvm ht hSx hSy
  generalize H1 = H at hP8 hP9 hS ⊢
  have hw12E : σ8 = υ11 := (hw12.1).symm
  subst hw12E
  refine lv_pop hx hb dL_law_491 rfl ?_
  refine lv_aload_n hx hb dL_law_492 rfl (lv_at hl 1 rfl) ?_
  refine lv_aload_n hx hb dL_law_493 rfl (lv_at hl 3 rfl) ?_
  refine lv_iload_n hx hb dL_law_494 rfl (lv_at hl 0 rfl) ?_
  refine lv_iconst (v := 1) hx hb dL_law_495 (by decide) ?_
  refine lv_iadd hx hb dL_law_496 ?_
  refine lv_topi (fun x13 ex13 => ?_)
  have t14 := addO ex13 (by have f0 := hi; have f1 := hL; have f2 := t2; have f3 := t5; have f4 := t8; have z1 : (1 : Int32).toInt = 1 := (by decide); have z2 : (2 : Int32).toInt = 2 := (by decide); have z3 : (3 : Int32).toInt = 3 := (by decide); omega)
  refine va_sld hx hb hX hbl hbA hS (vpo (by have f0 := t14; have f1 := hi; have f2 := hL; have f3 := t2; have f4 := t5; have f5 := t8; have g0 := rg32 x13; have z1 : (1 : Int32).toInt = 1 := (by decide); have z2 : (2 : Int32).toInt = 2 := (by decide); have z3 : (3 : Int32).toInt = 3 := (by decide); omega)) dL_law_497 ?_
  refine lv_topi (fun x15 ex15 => ?_)
  refine lv_aload_n hx hb dL_law_498 rfl (lv_at hl 3 rfl) ?_
  refine lv_iload_n hx hb dL_law_499 rfl (lv_at hl 0 rfl) ?_
  refine lv_iconst (v := 2) hx hb dL_law_500 (by decide) ?_
  refine lv_iadd hx hb dL_law_501 ?_
  refine lv_topi (fun x16 ex16 => ?_)
  have t17 := addO ex16 (by have f0 := hi; have f1 := hL; have f2 := t2; have f3 := t5; have f4 := t8; have f5 := t14; have z1 : (1 : Int32).toInt = 1 := (by decide); have z2 : (2 : Int32).toInt = 2 := (by decide); have z3 : (3 : Int32).toInt = 3 := (by decide); omega)
  refine va_sld hx hb hX hbl hbA hS (vpo (by have f0 := t17; have f1 := hi; have f2 := hL; have f3 := t2; have f4 := t5; have f5 := t8; have f6 := t14; have g0 := rg32 x16; have z1 : (1 : Int32).toInt = 1 := (by decide); have z2 : (2 : Int32).toInt = 2 := (by decide); have z3 : (3 : Int32).toInt = 3 := (by decide); omega)) dL_law_502 ?_
  refine lv_topi (fun x18 ex18 => ?_)
  refine lv_aload_n hx hb dL_law_503 rfl (lv_at hl 3 rfl) ?_
  refine lv_iload_n hx hb dL_law_504 rfl (lv_at hl 0 rfl) ?_
  refine lv_iconst (v := 3) hx hb dL_law_505 (by decide) ?_
  refine lv_iadd hx hb dL_law_506 ?_
  refine lv_topi (fun x19 ex19 => ?_)
  have t20 := addO ex19 (by have f0 := hi; have f1 := hL; have f2 := t2; have f3 := t5; have f4 := t8; have f5 := t14; have f6 := t17; have z1 : (1 : Int32).toInt = 1 := (by decide); have z2 : (2 : Int32).toInt = 2 := (by decide); have z3 : (3 : Int32).toInt = 3 := (by decide); omega)
  refine va_sld hx hb hX hbl hbA hS (vpo (by have f0 := t20; have f1 := hi; have f2 := hL; have f3 := t2; have f4 := t5; have f5 := t8; have f6 := t14; have f7 := t17; have g0 := rg32 x19; have z1 : (1 : Int32).toInt = 1 := (by decide); have z2 : (2 : Int32).toInt = 2 := (by decide); have z3 : (3 : Int32).toInt = 3 := (by decide); omega)) dL_law_507 ?_
  refine lv_topi (fun x21 ex21 => ?_)
  have hSx : va_S (A9 cy g2 s.heap.size) s.heap H locs := by rw [hA9]; exact hS
  refine va_calli (va_runV (As := [.int x15, .int x18, .int x21]) (rest := []) ⟨hx, hb, hml, hown, hts⟩ (m_X9_tone l D cy g2 σ9 x15 x18 x21 _ hJ9 ) (cwV 3 hts (gd_V q1714 q1715 q1716 q134 q1717) rfl rfl rfl (by decide +kernel) ⟨Nat.le_of_ble_eq_true rfl, Nat.le_of_ble_eq_true rfl⟩) (pv9 hP9 hK hD9 hC9 hSx (va_recv hK hP9 (ci := 9) (q0 := 0) rfl rfl)) rfl rfl hl.1 rfl (lv_room (Nat.le_of_ble_eq_true rfl)) dL_law_508 ⟨Nat.le_of_ble_eq_true rfl, Nat.le_of_ble_eq_true rfl⟩) hSx (fun q _ h => up9 hSx q h) (up9 hSx) (fun r22 υ23 tS H1 locs ht hvm hw24 hB hz1 hk1 hSy => ?_)
  have hP9 : va_P D clz (WD9 cy g2 υ23) H1 := by rw [← ht]; exact hB
  have hP8 := kp8 hDD hP8 hk1
  have hS : va_S (lawA s) s.heap H1 locs := by rw [← hA9]; exact hSy
  clear hB hz1 hk1 hvm ht hSx hSy
  generalize H1 = H at hP8 hP9 hS ⊢
  have hF25 : Fr (fL [0]) σ9 υ23 := hw24.1
  have hJ26 : J9 (υ23 9) := hw24.2.1
  have hK27 : DKA (υ23 9) := DKA.mv hDK (hF25 9 17 rfl).2.2.1 (hF25 9 18 rfl).2.2.1 (hF25 9 19 rfl).2.2.1
  have hR28 : KP σ8 (υ23 9) := KP.fr9 hR (hF25 9 22 rfl).2.2.1
  refine lv_pop hx hb dL_law_511 rfl ?_
  refine lv_goto (tgt := 2411) hx hb dL_law_512 (by decide) ?_
  exact hnext _ _ _ _ _ hJ8 hJ26 hK27 hR28 hP8 hP9 hS hl

theorem q792 : Cond.methodLink RL 46 yX8_flat ∈ lw_g := lw_gm (List.mem_of_getElem? (i := 792) (by decide +kernel)) rfl
theorem q793 : Cond.instanceMethod yX8_flat ∈ lw_g := lw_gm (List.mem_of_getElem? (i := 793) (by decide +kernel)) rfl
theorem q794 : Cond.selects RX8 yX8_flat yX8_flat ∈ lw_g := lw_gm (List.mem_of_getElem? (i := 794) (by decide +kernel)) rfl
theorem q1735 : Cond.methodLink RL 49 yX9_flat ∈ lw_g := lw_gm (List.mem_of_getElem? (i := 1735) (by decide +kernel)) rfl
theorem q1736 : Cond.instanceMethod yX9_flat ∈ lw_g := lw_gm (List.mem_of_getElem? (i := 1736) (by decide +kernel)) rfl
theorem q1737 : Cond.selects RX9 yX9_flat yX9_flat ∈ lw_g := lw_gm (List.mem_of_getElem? (i := 1737) (by decide +kernel)) rfl
theorem dL_law_515 : decode cL_law 515 = .ok (.aload_n 1, 1) := by decide +kernel
theorem dL_law_516 : decode cL_law 516 = .ok (.aload_n 0, 1) := by decide +kernel
theorem dL_law_517 : decode cL_law 517 = .ok (.iload_n 3, 1) := by decide +kernel
theorem dL_law_518 : decode cL_law 518 = .ok (.iconst 1, 1) := by decide +kernel
theorem dL_law_519 : decode cL_law 519 = .ok (.iadd, 1) := by decide +kernel
theorem dL_law_520 : decode cL_law 520 = .ok (.iaload, 1) := by decide +kernel
theorem dL_law_521 : decode cL_law 521 = .ok (.aload_n 0, 1) := by decide +kernel
theorem dL_law_522 : decode cL_law 522 = .ok (.iload_n 3, 1) := by decide +kernel
theorem dL_law_523 : decode cL_law 523 = .ok (.iconst 2, 1) := by decide +kernel
theorem dL_law_524 : decode cL_law 524 = .ok (.iadd, 1) := by decide +kernel
theorem dL_law_525 : decode cL_law 525 = .ok (.iaload, 1) := by decide +kernel
theorem dL_law_526 : decode cL_law 526 = .ok (.invokevirtual 46, 3) := by decide +kernel
theorem dL_law_529 : decode cL_law 529 = .ok (.pop, 1) := by decide +kernel
theorem dL_law_530 : decode cL_law 530 = .ok (.aload_n 2, 1) := by decide +kernel
theorem dL_law_531 : decode cL_law 531 = .ok (.aload_n 0, 1) := by decide +kernel
theorem dL_law_532 : decode cL_law 532 = .ok (.iload_n 3, 1) := by decide +kernel
theorem dL_law_533 : decode cL_law 533 = .ok (.iconst 1, 1) := by decide +kernel
theorem dL_law_534 : decode cL_law 534 = .ok (.iadd, 1) := by decide +kernel
theorem dL_law_535 : decode cL_law 535 = .ok (.iaload, 1) := by decide +kernel
theorem dL_law_536 : decode cL_law 536 = .ok (.aload_n 0, 1) := by decide +kernel
theorem dL_law_537 : decode cL_law 537 = .ok (.iload_n 3, 1) := by decide +kernel
theorem dL_law_538 : decode cL_law 538 = .ok (.iconst 2, 1) := by decide +kernel
theorem dL_law_539 : decode cL_law 539 = .ok (.iadd, 1) := by decide +kernel
theorem dL_law_540 : decode cL_law 540 = .ok (.iaload, 1) := by decide +kernel
theorem dL_law_541 : decode cL_law 541 = .ok (.invokevirtual 49, 3) := by decide +kernel
theorem dL_law_544 : decode cL_law 544 = .ok (.pop, 1) := by decide +kernel
theorem dL_law_545 : decode cL_law 545 = .ok (.goto 1866, 3) := by decide +kernel
set_option maxHeartbeats 4000000 in
set_option maxRecDepth 100000 in
theorem lawc_7 {p : Program} {l : Launch} {e : Env} {s : State} {m : MethodId} {below : List Frame} {meth : Method} {c : Code} {b L : Nat} {xs : Nat → Int32} {D : va_G} {cy : Nat → ClassId} {g1 g2 : Nat → Nat} (X : LX p s m meth c b L xs D cy g1 g2) (hL : L ≤ 3072) {i : Int32} (hi : (0 : Int) ≤ i.toInt ∧ i.toInt + 6 ≤ (L : Int)) (hnext : (∀ (σ8 σ9 : ST) (H : Heap) (locs : List Loc) (ls : Array Slot), J8 σ8 → J9 (σ9 9) → DKA (σ9 9) → KP σ8 (σ9 9) → va_P D clz (WD8 cy g1 σ8) H → va_P D clz (WD9 cy g2 σ9) H → va_S (lawA s) s.heap H locs → lv_has ls 4 [(3, .int i), (2, .ref (g2 60)), (1, .ref (gO g1 17)), (0, .ref b)] → W p l e room_1 s m #[Value.ref b] below meth c H locs 200 700000 (lw_Z below #[Value.ref b] s) (F0 m 2411 ls []))) (σ8 σ9 : ST) (H : Heap) (locs : List Loc) (ls : Array Slot) (hJ8 : J8 σ8) (hJ9 : J9 (σ9 9)) (hDK : DKA (σ9 9)) (hR : KP σ8 (σ9 9)) (hP8 : va_P D clz (WD8 cy g1 σ8) H) (hP9 : va_P D clz (WD9 cy g2 σ9) H) (hS : va_S (lawA s) s.heap H locs) (hl : lv_has ls 4 [(3, .int i), (2, .ref (g2 60)), (1, .ref (gO g1 17)), (0, .ref b)]) : W p l e room_1 s m #[Value.ref b] below meth c H locs 200 700000 (lw_Z below #[Value.ref b] s) (F0 m 515 ls []) := by
  obtain ⟨⟨hx, hb, hr, hml, hown0, hts0, hX, hbl, hlocks, hgv⟩, hK, hDD, hC8, hC9⟩ := X
  have hown : s.vm.findClass RL = some m.cls := hown0
  have hts : ∀ w ∈ lw_g, w.before #[Value.ref b] s = true := fun w h => hts0 w (lw_gt h)
  have hbA : ¬ lawA s b := Nat.not_le.mpr hbl
  have hA8 := A8_law hDD
  have hA9 := A9_law hDD
  have hD8 : ∀ τ : ST, va_D (A8 cy g1 s.heap.size) (WD8 cy g1 τ) := fun τ => by rw [hA8]; exact map_D WD8_m (D_l hDD)
  have hD9 : ∀ τ : ST, va_D (A9 cy g2 s.heap.size) (WD9 cy g2 τ) := fun τ => by rw [hA9]; exact map_D WD9_m (D_r hDD)
  rw [← hA8] at hC8
  rw [← hA9] at hC9
  refine lv_aload_n hx hb dL_law_515 rfl (lv_at hl 2 rfl) ?_
  refine lv_aload_n hx hb dL_law_516 rfl (lv_at hl 3 rfl) ?_
  refine lv_iload_n hx hb dL_law_517 rfl (lv_at hl 0 rfl) ?_
  refine lv_iconst (v := 1) hx hb dL_law_518 (by decide) ?_
  refine lv_iadd hx hb dL_law_519 ?_
  refine lv_topi (fun x1 ex1 => ?_)
  have t2 := addO ex1 (by have f0 := hi; have f1 := hL; have z1 : (1 : Int32).toInt = 1 := (by decide); omega)
  refine va_sld hx hb hX hbl hbA hS (vpo (by have f0 := t2; have f1 := hi; have f2 := hL; have g0 := rg32 x1; have z1 : (1 : Int32).toInt = 1 := (by decide); omega)) dL_law_520 ?_
  refine lv_topi (fun x3 ex3 => ?_)
  refine lv_aload_n hx hb dL_law_521 rfl (lv_at hl 3 rfl) ?_
  refine lv_iload_n hx hb dL_law_522 rfl (lv_at hl 0 rfl) ?_
  refine lv_iconst (v := 2) hx hb dL_law_523 (by decide) ?_
  refine lv_iadd hx hb dL_law_524 ?_
  refine lv_topi (fun x4 ex4 => ?_)
  have t5 := addO ex4 (by have f0 := hi; have f1 := hL; have f2 := t2; have z1 : (1 : Int32).toInt = 1 := (by decide); have z2 : (2 : Int32).toInt = 2 := (by decide); omega)
  refine va_sld hx hb hX hbl hbA hS (vpo (by have f0 := t5; have f1 := hi; have f2 := hL; have f3 := t2; have g0 := rg32 x4; have z1 : (1 : Int32).toInt = 1 := (by decide); have z2 : (2 : Int32).toInt = 2 := (by decide); omega)) dL_law_525 ?_
  refine lv_topi (fun x6 ex6 => ?_)
  have hSx : va_S (A8 cy g1 s.heap.size) s.heap H locs := by rw [hA8]; exact hS
  refine va_calli (va_runV (As := [.int x3, .int x6]) (rest := []) ⟨hx, hb, hml, hown, hts⟩ (m_X8_flat l D cy g1 σ8 x3 x6 _ hJ8) (cwV 2 hts (gd_V q792 q793 q794 q125 q795) rfl rfl rfl (by decide +kernel) ⟨Nat.le_of_ble_eq_true rfl, Nat.le_of_ble_eq_true rfl⟩) (pv8 hP8 hK hD8 hC8 hSx (rv8_8 hK hP8)) rfl rfl hl.1 rfl (lv_room (Nat.le_of_ble_eq_true rfl)) dL_law_526 ⟨Nat.le_of_ble_eq_true rfl, Nat.le_of_ble_eq_true rfl⟩) hSx (fun q _ h => up8 hSx q h) (up8 hSx) (fun r7 υ8 tS H1 locs ht hvm hw9 hB hz1 hk1 hSy => ?_)
  have hP8 : va_P D clz (WD8 cy g1 υ8) H1 := by rw [← ht]; exact hB
  have hP9 := kp9 hDD hP9 hk1
  have hS : va_S (lawA s) s.heap H1 locs := by rw [← hA8]; exact hSy
  clear hB hz1 hk1 hvm ht hSx hSy
  generalize H1 = H at hP8 hP9 hS ⊢
  have hJ10 : J8 υ8 := hw9.2.1
  have hR11 : KP υ8 (σ9 9) := KP.fr8 hR (show Fr (fO [9]) σ8 υ8 from hw9.1) (by decide)
  refine lv_pop hx hb dL_law_529 rfl ?_
  refine lv_aload_n hx hb dL_law_530 rfl (lv_at hl 1 rfl) ?_
  refine lv_aload_n hx hb dL_law_531 rfl (lv_at hl 3 rfl) ?_
  refine lv_iload_n hx hb dL_law_532 rfl (lv_at hl 0 rfl) ?_
  refine lv_iconst (v := 1) hx hb dL_law_533 (by decide) ?_
  refine lv_iadd hx hb dL_law_534 ?_
  refine lv_topi (fun x12 ex12 => ?_)
  have t13 := addO ex12 (by have f0 := hi; have f1 := hL; have f2 := t2; have f3 := t5; have z1 : (1 : Int32).toInt = 1 := (by decide); have z2 : (2 : Int32).toInt = 2 := (by decide); omega)
  refine va_sld hx hb hX hbl hbA hS (vpo (by have f0 := t13; have f1 := hi; have f2 := hL; have f3 := t2; have f4 := t5; have g0 := rg32 x12; have z1 : (1 : Int32).toInt = 1 := (by decide); have z2 : (2 : Int32).toInt = 2 := (by decide); omega)) dL_law_535 ?_
  refine lv_topi (fun x14 ex14 => ?_)
  refine lv_aload_n hx hb dL_law_536 rfl (lv_at hl 3 rfl) ?_
  refine lv_iload_n hx hb dL_law_537 rfl (lv_at hl 0 rfl) ?_
  refine lv_iconst (v := 2) hx hb dL_law_538 (by decide) ?_
  refine lv_iadd hx hb dL_law_539 ?_
  refine lv_topi (fun x15 ex15 => ?_)
  have t16 := addO ex15 (by have f0 := hi; have f1 := hL; have f2 := t2; have f3 := t5; have f4 := t13; have z1 : (1 : Int32).toInt = 1 := (by decide); have z2 : (2 : Int32).toInt = 2 := (by decide); omega)
  refine va_sld hx hb hX hbl hbA hS (vpo (by have f0 := t16; have f1 := hi; have f2 := hL; have f3 := t2; have f4 := t5; have f5 := t13; have g0 := rg32 x15; have z1 : (1 : Int32).toInt = 1 := (by decide); have z2 : (2 : Int32).toInt = 2 := (by decide); omega)) dL_law_540 ?_
  refine lv_topi (fun x17 ex17 => ?_)
  have hSx : va_S (A9 cy g2 s.heap.size) s.heap H locs := by rw [hA9]; exact hS
  refine va_calli (va_runV (As := [.int x14, .int x17]) (rest := []) ⟨hx, hb, hml, hown, hts⟩ (m_X9_flat l D cy g2 σ9 x14 x17 _ hJ9 (DKA.zero hDK)) (cwV 2 hts (gd_V q1735 q1736 q1737 q134 q1738) rfl rfl rfl (by decide +kernel) ⟨Nat.le_of_ble_eq_true rfl, Nat.le_of_ble_eq_true rfl⟩) (pv9 hP9 hK hD9 hC9 hSx (va_recv hK hP9 (ci := 9) (q0 := 0) rfl rfl)) rfl rfl hl.1 rfl (lv_room (Nat.le_of_ble_eq_true rfl)) dL_law_541 ⟨Nat.le_of_ble_eq_true rfl, Nat.le_of_ble_eq_true rfl⟩) hSx (fun q _ h => up9 hSx q h) (up9 hSx) (fun r18 υ19 tS H1 locs ht hvm hw20 hB hz1 hk1 hSy => ?_)
  have hP9 : va_P D clz (WD9 cy g2 υ19) H1 := by rw [← ht]; exact hB
  have hP8 := kp8 hDD hP8 hk1
  have hS : va_S (lawA s) s.heap H1 locs := by rw [← hA9]; exact hSy
  clear hB hz1 hk1 hvm ht hSx hSy
  generalize H1 = H at hP8 hP9 hS ⊢
  have hF21 : Fr (fL [0]) σ9 υ19 := hw20.1
  have hJ22 : J9 (υ19 9) := hw20.2.1
  have hK23 : DKA (υ19 9) := DKA.mv hDK (hF21 9 17 rfl).2.2.1 (hF21 9 18 rfl).2.2.1 (hF21 9 19 rfl).2.2.1
  have hR24 : KP υ8 (υ19 9) := KP.fr9 hR11 (hF21 9 22 rfl).2.2.1
  refine lv_pop hx hb dL_law_544 rfl ?_
  refine lv_goto (tgt := 2411) hx hb dL_law_545 (by decide) ?_
  exact hnext _ _ _ _ _ hJ10 hJ22 hK23 hR24 hP8 hP9 hS hl

theorem q821 : Cond.methodLink RL 50 yX8_off ∈ lw_g := lw_gm (List.mem_of_getElem? (i := 821) (by decide +kernel)) rfl
theorem q822 : Cond.instanceMethod yX8_off ∈ lw_g := lw_gm (List.mem_of_getElem? (i := 822) (by decide +kernel)) rfl
theorem q823 : Cond.selects RX8 yX8_off yX8_off ∈ lw_g := lw_gm (List.mem_of_getElem? (i := 823) (by decide +kernel)) rfl
theorem q1755 : Cond.methodLink RL 54 yX9_off ∈ lw_g := lw_gm (List.mem_of_getElem? (i := 1755) (by decide +kernel)) rfl
theorem q1756 : Cond.instanceMethod yX9_off ∈ lw_g := lw_gm (List.mem_of_getElem? (i := 1756) (by decide +kernel)) rfl
theorem q1757 : Cond.selects RX9 yX9_off yX9_off ∈ lw_g := lw_gm (List.mem_of_getElem? (i := 1757) (by decide +kernel)) rfl
theorem dL_law_548 : decode cL_law 548 = .ok (.aload_n 1, 1) := by decide +kernel
theorem dL_law_549 : decode cL_law 549 = .ok (.aload_n 0, 1) := by decide +kernel
theorem dL_law_550 : decode cL_law 550 = .ok (.iload_n 3, 1) := by decide +kernel
theorem dL_law_551 : decode cL_law 551 = .ok (.iconst 1, 1) := by decide +kernel
theorem dL_law_552 : decode cL_law 552 = .ok (.iadd, 1) := by decide +kernel
theorem dL_law_553 : decode cL_law 553 = .ok (.iaload, 1) := by decide +kernel
theorem dL_law_554 : decode cL_law 554 = .ok (.aload_n 0, 1) := by decide +kernel
theorem dL_law_555 : decode cL_law 555 = .ok (.iload_n 3, 1) := by decide +kernel
theorem dL_law_556 : decode cL_law 556 = .ok (.iconst 2, 1) := by decide +kernel
theorem dL_law_557 : decode cL_law 557 = .ok (.iadd, 1) := by decide +kernel
theorem dL_law_558 : decode cL_law 558 = .ok (.iaload, 1) := by decide +kernel
theorem dL_law_559 : decode cL_law 559 = .ok (.aload_n 0, 1) := by decide +kernel
theorem dL_law_560 : decode cL_law 560 = .ok (.iload_n 3, 1) := by decide +kernel
theorem dL_law_561 : decode cL_law 561 = .ok (.iconst 3, 1) := by decide +kernel
theorem dL_law_562 : decode cL_law 562 = .ok (.iadd, 1) := by decide +kernel
theorem dL_law_563 : decode cL_law 563 = .ok (.iaload, 1) := by decide +kernel
theorem dL_law_564 : decode cL_law 564 = .ok (.aload_n 0, 1) := by decide +kernel
theorem dL_law_565 : decode cL_law 565 = .ok (.iload_n 3, 1) := by decide +kernel
theorem dL_law_566 : decode cL_law 566 = .ok (.iconst 4, 1) := by decide +kernel
theorem dL_law_567 : decode cL_law 567 = .ok (.iadd, 1) := by decide +kernel
theorem dL_law_568 : decode cL_law 568 = .ok (.iaload, 1) := by decide +kernel
theorem dL_law_569 : decode cL_law 569 = .ok (.invokevirtual 50, 3) := by decide +kernel
theorem dL_law_572 : decode cL_law 572 = .ok (.pop, 1) := by decide +kernel
theorem dL_law_573 : decode cL_law 573 = .ok (.aload_n 2, 1) := by decide +kernel
theorem dL_law_574 : decode cL_law 574 = .ok (.aload_n 0, 1) := by decide +kernel
theorem dL_law_575 : decode cL_law 575 = .ok (.iload_n 3, 1) := by decide +kernel
theorem dL_law_576 : decode cL_law 576 = .ok (.iconst 1, 1) := by decide +kernel
theorem dL_law_577 : decode cL_law 577 = .ok (.iadd, 1) := by decide +kernel
theorem dL_law_578 : decode cL_law 578 = .ok (.iaload, 1) := by decide +kernel
theorem dL_law_579 : decode cL_law 579 = .ok (.aload_n 0, 1) := by decide +kernel
theorem dL_law_580 : decode cL_law 580 = .ok (.iload_n 3, 1) := by decide +kernel
theorem dL_law_581 : decode cL_law 581 = .ok (.iconst 2, 1) := by decide +kernel
theorem dL_law_582 : decode cL_law 582 = .ok (.iadd, 1) := by decide +kernel
theorem dL_law_583 : decode cL_law 583 = .ok (.iaload, 1) := by decide +kernel
theorem dL_law_584 : decode cL_law 584 = .ok (.aload_n 0, 1) := by decide +kernel
theorem dL_law_585 : decode cL_law 585 = .ok (.iload_n 3, 1) := by decide +kernel
theorem dL_law_586 : decode cL_law 586 = .ok (.iconst 3, 1) := by decide +kernel
theorem dL_law_587 : decode cL_law 587 = .ok (.iadd, 1) := by decide +kernel
theorem dL_law_588 : decode cL_law 588 = .ok (.iaload, 1) := by decide +kernel
theorem dL_law_589 : decode cL_law 589 = .ok (.aload_n 0, 1) := by decide +kernel
theorem dL_law_590 : decode cL_law 590 = .ok (.iload_n 3, 1) := by decide +kernel
theorem dL_law_591 : decode cL_law 591 = .ok (.iconst 4, 1) := by decide +kernel
theorem dL_law_592 : decode cL_law 592 = .ok (.iadd, 1) := by decide +kernel
theorem dL_law_593 : decode cL_law 593 = .ok (.iaload, 1) := by decide +kernel
theorem dL_law_594 : decode cL_law 594 = .ok (.invokevirtual 54, 3) := by decide +kernel
theorem dL_law_597 : decode cL_law 597 = .ok (.pop, 1) := by decide +kernel
theorem dL_law_598 : decode cL_law 598 = .ok (.goto 1813, 3) := by decide +kernel
set_option maxHeartbeats 4000000 in
set_option maxRecDepth 100000 in
theorem lawc_8 {p : Program} {l : Launch} {e : Env} {s : State} {m : MethodId} {below : List Frame} {meth : Method} {c : Code} {b L : Nat} {xs : Nat → Int32} {D : va_G} {cy : Nat → ClassId} {g1 g2 : Nat → Nat} (X : LX p s m meth c b L xs D cy g1 g2) (hL : L ≤ 3072) {i : Int32} (hi : (0 : Int) ≤ i.toInt ∧ i.toInt + 6 ≤ (L : Int)) (hnext : (∀ (σ8 σ9 : ST) (H : Heap) (locs : List Loc) (ls : Array Slot), J8 σ8 → J9 (σ9 9) → DKA (σ9 9) → KP σ8 (σ9 9) → va_P D clz (WD8 cy g1 σ8) H → va_P D clz (WD9 cy g2 σ9) H → va_S (lawA s) s.heap H locs → lv_has ls 4 [(3, .int i), (2, .ref (g2 60)), (1, .ref (gO g1 17)), (0, .ref b)] → W p l e room_1 s m #[Value.ref b] below meth c H locs 200 700000 (lw_Z below #[Value.ref b] s) (F0 m 2411 ls []))) (σ8 σ9 : ST) (H : Heap) (locs : List Loc) (ls : Array Slot) (hJ8 : J8 σ8) (hJ9 : J9 (σ9 9)) (hDK : DKA (σ9 9)) (hR : KP σ8 (σ9 9)) (hP8 : va_P D clz (WD8 cy g1 σ8) H) (hP9 : va_P D clz (WD9 cy g2 σ9) H) (hS : va_S (lawA s) s.heap H locs) (hl : lv_has ls 4 [(3, .int i), (2, .ref (g2 60)), (1, .ref (gO g1 17)), (0, .ref b)]) : W p l e room_1 s m #[Value.ref b] below meth c H locs 200 700000 (lw_Z below #[Value.ref b] s) (F0 m 548 ls []) := by
  obtain ⟨⟨hx, hb, hr, hml, hown0, hts0, hX, hbl, hlocks, hgv⟩, hK, hDD, hC8, hC9⟩ := X
  have hown : s.vm.findClass RL = some m.cls := hown0
  have hts : ∀ w ∈ lw_g, w.before #[Value.ref b] s = true := fun w h => hts0 w (lw_gt h)
  have hbA : ¬ lawA s b := Nat.not_le.mpr hbl
  have hA8 := A8_law hDD
  have hA9 := A9_law hDD
  have hD8 : ∀ τ : ST, va_D (A8 cy g1 s.heap.size) (WD8 cy g1 τ) := fun τ => by rw [hA8]; exact map_D WD8_m (D_l hDD)
  have hD9 : ∀ τ : ST, va_D (A9 cy g2 s.heap.size) (WD9 cy g2 τ) := fun τ => by rw [hA9]; exact map_D WD9_m (D_r hDD)
  rw [← hA8] at hC8
  rw [← hA9] at hC9
  refine lv_aload_n hx hb dL_law_548 rfl (lv_at hl 2 rfl) ?_
  refine lv_aload_n hx hb dL_law_549 rfl (lv_at hl 3 rfl) ?_
  refine lv_iload_n hx hb dL_law_550 rfl (lv_at hl 0 rfl) ?_
  refine lv_iconst (v := 1) hx hb dL_law_551 (by decide) ?_
  refine lv_iadd hx hb dL_law_552 ?_
  refine lv_topi (fun x1 ex1 => ?_)
  have t2 := addO ex1 (by have f0 := hi; have f1 := hL; have z1 : (1 : Int32).toInt = 1 := (by decide); omega)
  refine va_sld hx hb hX hbl hbA hS (vpo (by have f0 := t2; have f1 := hi; have f2 := hL; have g0 := rg32 x1; have z1 : (1 : Int32).toInt = 1 := (by decide); omega)) dL_law_553 ?_
  refine lv_topi (fun x3 ex3 => ?_)
  refine lv_aload_n hx hb dL_law_554 rfl (lv_at hl 3 rfl) ?_
  refine lv_iload_n hx hb dL_law_555 rfl (lv_at hl 0 rfl) ?_
  refine lv_iconst (v := 2) hx hb dL_law_556 (by decide) ?_
  refine lv_iadd hx hb dL_law_557 ?_
  refine lv_topi (fun x4 ex4 => ?_)
  have t5 := addO ex4 (by have f0 := hi; have f1 := hL; have f2 := t2; have z1 : (1 : Int32).toInt = 1 := (by decide); have z2 : (2 : Int32).toInt = 2 := (by decide); omega)
  refine va_sld hx hb hX hbl hbA hS (vpo (by have f0 := t5; have f1 := hi; have f2 := hL; have f3 := t2; have g0 := rg32 x4; have z1 : (1 : Int32).toInt = 1 := (by decide); have z2 : (2 : Int32).toInt = 2 := (by decide); omega)) dL_law_558 ?_
  refine lv_topi (fun x6 ex6 => ?_)
  refine lv_aload_n hx hb dL_law_559 rfl (lv_at hl 3 rfl) ?_
  refine lv_iload_n hx hb dL_law_560 rfl (lv_at hl 0 rfl) ?_
  refine lv_iconst (v := 3) hx hb dL_law_561 (by decide) ?_
  refine lv_iadd hx hb dL_law_562 ?_
  refine lv_topi (fun x7 ex7 => ?_)
  have t8 := addO ex7 (by have f0 := hi; have f1 := hL; have f2 := t2; have f3 := t5; have z1 : (1 : Int32).toInt = 1 := (by decide); have z2 : (2 : Int32).toInt = 2 := (by decide); have z3 : (3 : Int32).toInt = 3 := (by decide); omega)
  refine va_sld hx hb hX hbl hbA hS (vpo (by have f0 := t8; have f1 := hi; have f2 := hL; have f3 := t2; have f4 := t5; have g0 := rg32 x7; have z1 : (1 : Int32).toInt = 1 := (by decide); have z2 : (2 : Int32).toInt = 2 := (by decide); have z3 : (3 : Int32).toInt = 3 := (by decide); omega)) dL_law_563 ?_
  refine lv_topi (fun x9 ex9 => ?_)
  refine lv_aload_n hx hb dL_law_564 rfl (lv_at hl 3 rfl) ?_
  refine lv_iload_n hx hb dL_law_565 rfl (lv_at hl 0 rfl) ?_
  refine lv_iconst (v := 4) hx hb dL_law_566 (by decide) ?_
  refine lv_iadd hx hb dL_law_567 ?_
  refine lv_topi (fun x10 ex10 => ?_)
  have t11 := addO ex10 (by have f0 := hi; have f1 := hL; have f2 := t2; have f3 := t5; have f4 := t8; have z1 : (1 : Int32).toInt = 1 := (by decide); have z2 : (2 : Int32).toInt = 2 := (by decide); have z3 : (3 : Int32).toInt = 3 := (by decide); have z4 : (4 : Int32).toInt = 4 := (by decide); omega)
  refine va_sld hx hb hX hbl hbA hS (vpo (by have f0 := t11; have f1 := hi; have f2 := hL; have f3 := t2; have f4 := t5; have f5 := t8; have g0 := rg32 x10; have z1 : (1 : Int32).toInt = 1 := (by decide); have z2 : (2 : Int32).toInt = 2 := (by decide); have z3 : (3 : Int32).toInt = 3 := (by decide); have z4 : (4 : Int32).toInt = 4 := (by decide); omega)) dL_law_568 ?_
  refine lv_topi (fun x12 ex12 => ?_)
  have hSx : va_S (A8 cy g1 s.heap.size) s.heap H locs := by rw [hA8]; exact hS
  refine va_calli (va_runV (As := [.int x3, .int x6, .int x9, .int x12]) (rest := []) ⟨hx, hb, hml, hown, hts⟩ (m_X8_off l D cy g1 σ8 x3 x6 x9 x12 _ hJ8) (cwV 4 hts (gd_V q821 q822 q823 q125 q824) rfl rfl rfl (by decide +kernel) ⟨Nat.le_of_ble_eq_true rfl, Nat.le_of_ble_eq_true rfl⟩) (pv8 hP8 hK hD8 hC8 hSx (rv8_8 hK hP8)) rfl rfl hl.1 rfl (lv_room (Nat.le_of_ble_eq_true rfl)) dL_law_569 ⟨Nat.le_of_ble_eq_true rfl, Nat.le_of_ble_eq_true rfl⟩) hSx (fun q _ h => up8 hSx q h) (up8 hSx) (fun r13 υ14 tS H1 locs ht hvm hw15 hB hz1 hk1 hSy => ?_)
  have hP8 : va_P D clz (WD8 cy g1 υ14) H1 := by rw [← ht]; exact hB
  have hP9 := kp9 hDD hP9 hk1
  have hS : va_S (lawA s) s.heap H1 locs := by rw [← hA8]; exact hSy
  clear hB hz1 hk1 hvm ht hSx hSy
  generalize H1 = H at hP8 hP9 hS ⊢
  have hJ16 : J8 υ14 := hw15.2.1
  have hR17 : KP υ14 (σ9 9) := KP.fr8 hR (show Fr (fO [9]) σ8 υ14 from hw15.1) (by decide)
  refine lv_pop hx hb dL_law_572 rfl ?_
  refine lv_aload_n hx hb dL_law_573 rfl (lv_at hl 1 rfl) ?_
  refine lv_aload_n hx hb dL_law_574 rfl (lv_at hl 3 rfl) ?_
  refine lv_iload_n hx hb dL_law_575 rfl (lv_at hl 0 rfl) ?_
  refine lv_iconst (v := 1) hx hb dL_law_576 (by decide) ?_
  refine lv_iadd hx hb dL_law_577 ?_
  refine lv_topi (fun x18 ex18 => ?_)
  have t19 := addO ex18 (by have f0 := hi; have f1 := hL; have f2 := t2; have f3 := t5; have f4 := t8; have f5 := t11; have z1 : (1 : Int32).toInt = 1 := (by decide); have z2 : (2 : Int32).toInt = 2 := (by decide); have z3 : (3 : Int32).toInt = 3 := (by decide); have z4 : (4 : Int32).toInt = 4 := (by decide); omega)
  refine va_sld hx hb hX hbl hbA hS (vpo (by have f0 := t19; have f1 := hi; have f2 := hL; have f3 := t2; have f4 := t5; have f5 := t8; have f6 := t11; have g0 := rg32 x18; have z1 : (1 : Int32).toInt = 1 := (by decide); have z2 : (2 : Int32).toInt = 2 := (by decide); have z3 : (3 : Int32).toInt = 3 := (by decide); have z4 : (4 : Int32).toInt = 4 := (by decide); omega)) dL_law_578 ?_
  refine lv_topi (fun x20 ex20 => ?_)
  refine lv_aload_n hx hb dL_law_579 rfl (lv_at hl 3 rfl) ?_
  refine lv_iload_n hx hb dL_law_580 rfl (lv_at hl 0 rfl) ?_
  refine lv_iconst (v := 2) hx hb dL_law_581 (by decide) ?_
  refine lv_iadd hx hb dL_law_582 ?_
  refine lv_topi (fun x21 ex21 => ?_)
  have t22 := addO ex21 (by have f0 := hi; have f1 := hL; have f2 := t2; have f3 := t5; have f4 := t8; have f5 := t11; have f6 := t19; have z1 : (1 : Int32).toInt = 1 := (by decide); have z2 : (2 : Int32).toInt = 2 := (by decide); have z3 : (3 : Int32).toInt = 3 := (by decide); have z4 : (4 : Int32).toInt = 4 := (by decide); omega)
  refine va_sld hx hb hX hbl hbA hS (vpo (by have f0 := t22; have f1 := hi; have f2 := hL; have f3 := t2; have f4 := t5; have f5 := t8; have f6 := t11; have f7 := t19; have g0 := rg32 x21; have z1 : (1 : Int32).toInt = 1 := (by decide); have z2 : (2 : Int32).toInt = 2 := (by decide); have z3 : (3 : Int32).toInt = 3 := (by decide); have z4 : (4 : Int32).toInt = 4 := (by decide); omega)) dL_law_583 ?_
  refine lv_topi (fun x23 ex23 => ?_)
  refine lv_aload_n hx hb dL_law_584 rfl (lv_at hl 3 rfl) ?_
  refine lv_iload_n hx hb dL_law_585 rfl (lv_at hl 0 rfl) ?_
  refine lv_iconst (v := 3) hx hb dL_law_586 (by decide) ?_
  refine lv_iadd hx hb dL_law_587 ?_
  refine lv_topi (fun x24 ex24 => ?_)
  have t25 := addO ex24 (by have f0 := hi; have f1 := hL; have f2 := t2; have f3 := t5; have f4 := t8; have f5 := t11; have f6 := t19; have f7 := t22; have z1 : (1 : Int32).toInt = 1 := (by decide); have z2 : (2 : Int32).toInt = 2 := (by decide); have z3 : (3 : Int32).toInt = 3 := (by decide); have z4 : (4 : Int32).toInt = 4 := (by decide); omega)
  refine va_sld hx hb hX hbl hbA hS (vpo (by have f0 := t25; have f1 := hi; have f2 := hL; have f3 := t2; have f4 := t5; have f5 := t8; have f6 := t11; have f7 := t19; have f8 := t22; have g0 := rg32 x24; have z1 : (1 : Int32).toInt = 1 := (by decide); have z2 : (2 : Int32).toInt = 2 := (by decide); have z3 : (3 : Int32).toInt = 3 := (by decide); have z4 : (4 : Int32).toInt = 4 := (by decide); omega)) dL_law_588 ?_
  refine lv_topi (fun x26 ex26 => ?_)
  refine lv_aload_n hx hb dL_law_589 rfl (lv_at hl 3 rfl) ?_
  refine lv_iload_n hx hb dL_law_590 rfl (lv_at hl 0 rfl) ?_
  refine lv_iconst (v := 4) hx hb dL_law_591 (by decide) ?_
  refine lv_iadd hx hb dL_law_592 ?_
  refine lv_topi (fun x27 ex27 => ?_)
  have t28 := addO ex27 (by have f0 := hi; have f1 := hL; have f2 := t2; have f3 := t5; have f4 := t8; have f5 := t11; have f6 := t19; have f7 := t22; have f8 := t25; have z1 : (1 : Int32).toInt = 1 := (by decide); have z2 : (2 : Int32).toInt = 2 := (by decide); have z3 : (3 : Int32).toInt = 3 := (by decide); have z4 : (4 : Int32).toInt = 4 := (by decide); omega)
  refine va_sld hx hb hX hbl hbA hS (vpo (by have f0 := t28; have f1 := hi; have f2 := hL; have f3 := t2; have f4 := t5; have f5 := t8; have f6 := t11; have f7 := t19; have f8 := t22; have f9 := t25; have g0 := rg32 x27; have z1 : (1 : Int32).toInt = 1 := (by decide); have z2 : (2 : Int32).toInt = 2 := (by decide); have z3 : (3 : Int32).toInt = 3 := (by decide); have z4 : (4 : Int32).toInt = 4 := (by decide); omega)) dL_law_593 ?_
  refine lv_topi (fun x29 ex29 => ?_)
  have hSx : va_S (A9 cy g2 s.heap.size) s.heap H locs := by rw [hA9]; exact hS
  refine va_calli (va_runV (As := [.int x20, .int x23, .int x26, .int x29]) (rest := []) ⟨hx, hb, hml, hown, hts⟩ (m_X9_off l D cy g2 σ9 x20 x23 x26 x29 _ hJ9 (DKA.zero hDK)) (cwV 4 hts (gd_V q1755 q1756 q1757 q134 q1758) rfl rfl rfl (by decide +kernel) ⟨Nat.le_of_ble_eq_true rfl, Nat.le_of_ble_eq_true rfl⟩) (pv9 hP9 hK hD9 hC9 hSx (va_recv hK hP9 (ci := 9) (q0 := 0) rfl rfl)) rfl rfl hl.1 rfl (lv_room (Nat.le_of_ble_eq_true rfl)) dL_law_594 ⟨Nat.le_of_ble_eq_true rfl, Nat.le_of_ble_eq_true rfl⟩) hSx (fun q _ h => up9 hSx q h) (up9 hSx) (fun r30 υ31 tS H1 locs ht hvm hw32 hB hz1 hk1 hSy => ?_)
  have hP9 : va_P D clz (WD9 cy g2 υ31) H1 := by rw [← ht]; exact hB
  have hP8 := kp8 hDD hP8 hk1
  have hS : va_S (lawA s) s.heap H1 locs := by rw [← hA9]; exact hSy
  clear hB hz1 hk1 hvm ht hSx hSy
  generalize H1 = H at hP8 hP9 hS ⊢
  have hF33 : Fr (fL [0, 23]) σ9 υ31 := hw32.1
  have hJ34 : J9 (υ31 9) := hw32.2.1
  have hK35 : DKA (υ31 9) := DKA.mv hDK (hF33 9 17 rfl).2.2.1 (hF33 9 18 rfl).2.2.1 (hF33 9 19 rfl).2.2.1
  have hR36 : KP υ14 (υ31 9) := KP.fr9 hR17 (hF33 9 22 rfl).2.2.1
  refine lv_pop hx hb dL_law_597 rfl ?_
  refine lv_goto (tgt := 2411) hx hb dL_law_598 (by decide) ?_
  exact hnext _ _ _ _ _ hJ16 hJ34 hK35 hR36 hP8 hP9 hS hl

theorem q862 : Cond.methodLink RL 55 yX8_drawnOut ∈ lw_g := lw_gm (List.mem_of_getElem? (i := 862) (by decide +kernel)) rfl
theorem q863 : Cond.instanceMethod yX8_drawnOut ∈ lw_g := lw_gm (List.mem_of_getElem? (i := 863) (by decide +kernel)) rfl
theorem q864 : Cond.selects RX8 yX8_drawnOut yX8_drawnOut ∈ lw_g := lw_gm (List.mem_of_getElem? (i := 864) (by decide +kernel)) rfl
theorem q1782 : Cond.methodLink RL 58 yX9_drawnOut ∈ lw_g := lw_gm (List.mem_of_getElem? (i := 1782) (by decide +kernel)) rfl
theorem q1783 : Cond.instanceMethod yX9_drawnOut ∈ lw_g := lw_gm (List.mem_of_getElem? (i := 1783) (by decide +kernel)) rfl
theorem q1784 : Cond.selects RX9 yX9_drawnOut yX9_drawnOut ∈ lw_g := lw_gm (List.mem_of_getElem? (i := 1784) (by decide +kernel)) rfl
theorem dL_law_601 : decode cL_law 601 = .ok (.aload_n 1, 1) := by decide +kernel
theorem dL_law_602 : decode cL_law 602 = .ok (.aload_n 0, 1) := by decide +kernel
theorem dL_law_603 : decode cL_law 603 = .ok (.iload_n 3, 1) := by decide +kernel
theorem dL_law_604 : decode cL_law 604 = .ok (.iconst 1, 1) := by decide +kernel
theorem dL_law_605 : decode cL_law 605 = .ok (.iadd, 1) := by decide +kernel
theorem dL_law_606 : decode cL_law 606 = .ok (.iaload, 1) := by decide +kernel
theorem dL_law_607 : decode cL_law 607 = .ok (.aload_n 0, 1) := by decide +kernel
theorem dL_law_608 : decode cL_law 608 = .ok (.iload_n 3, 1) := by decide +kernel
theorem dL_law_609 : decode cL_law 609 = .ok (.iconst 2, 1) := by decide +kernel
theorem dL_law_610 : decode cL_law 610 = .ok (.iadd, 1) := by decide +kernel
theorem dL_law_611 : decode cL_law 611 = .ok (.iaload, 1) := by decide +kernel
theorem dL_law_612 : decode cL_law 612 = .ok (.aload_n 0, 1) := by decide +kernel
theorem dL_law_613 : decode cL_law 613 = .ok (.iload_n 3, 1) := by decide +kernel
theorem dL_law_614 : decode cL_law 614 = .ok (.iconst 3, 1) := by decide +kernel
theorem dL_law_615 : decode cL_law 615 = .ok (.iadd, 1) := by decide +kernel
theorem dL_law_616 : decode cL_law 616 = .ok (.iaload, 1) := by decide +kernel
theorem dL_law_617 : decode cL_law 617 = .ok (.aload_n 0, 1) := by decide +kernel
theorem dL_law_618 : decode cL_law 618 = .ok (.iload_n 3, 1) := by decide +kernel
theorem dL_law_619 : decode cL_law 619 = .ok (.iconst 4, 1) := by decide +kernel
theorem dL_law_620 : decode cL_law 620 = .ok (.iadd, 1) := by decide +kernel
theorem dL_law_621 : decode cL_law 621 = .ok (.iaload, 1) := by decide +kernel
theorem dL_law_622 : decode cL_law 622 = .ok (.invokevirtual 55, 3) := by decide +kernel
theorem dL_law_625 : decode cL_law 625 = .ok (.pop, 1) := by decide +kernel
theorem dL_law_626 : decode cL_law 626 = .ok (.aload_n 2, 1) := by decide +kernel
theorem dL_law_627 : decode cL_law 627 = .ok (.aload_n 0, 1) := by decide +kernel
theorem dL_law_628 : decode cL_law 628 = .ok (.iload_n 3, 1) := by decide +kernel
theorem dL_law_629 : decode cL_law 629 = .ok (.iconst 1, 1) := by decide +kernel
theorem dL_law_630 : decode cL_law 630 = .ok (.iadd, 1) := by decide +kernel
theorem dL_law_631 : decode cL_law 631 = .ok (.iaload, 1) := by decide +kernel
theorem dL_law_632 : decode cL_law 632 = .ok (.aload_n 0, 1) := by decide +kernel
theorem dL_law_633 : decode cL_law 633 = .ok (.iload_n 3, 1) := by decide +kernel
theorem dL_law_634 : decode cL_law 634 = .ok (.iconst 2, 1) := by decide +kernel
theorem dL_law_635 : decode cL_law 635 = .ok (.iadd, 1) := by decide +kernel
theorem dL_law_636 : decode cL_law 636 = .ok (.iaload, 1) := by decide +kernel
theorem dL_law_637 : decode cL_law 637 = .ok (.aload_n 0, 1) := by decide +kernel
theorem dL_law_638 : decode cL_law 638 = .ok (.iload_n 3, 1) := by decide +kernel
theorem dL_law_639 : decode cL_law 639 = .ok (.iconst 3, 1) := by decide +kernel
theorem dL_law_640 : decode cL_law 640 = .ok (.iadd, 1) := by decide +kernel
theorem dL_law_641 : decode cL_law 641 = .ok (.iaload, 1) := by decide +kernel
theorem dL_law_642 : decode cL_law 642 = .ok (.aload_n 0, 1) := by decide +kernel
theorem dL_law_643 : decode cL_law 643 = .ok (.iload_n 3, 1) := by decide +kernel
theorem dL_law_644 : decode cL_law 644 = .ok (.iconst 4, 1) := by decide +kernel
theorem dL_law_645 : decode cL_law 645 = .ok (.iadd, 1) := by decide +kernel
theorem dL_law_646 : decode cL_law 646 = .ok (.iaload, 1) := by decide +kernel
theorem dL_law_647 : decode cL_law 647 = .ok (.invokevirtual 58, 3) := by decide +kernel
theorem dL_law_650 : decode cL_law 650 = .ok (.pop, 1) := by decide +kernel
theorem dL_law_651 : decode cL_law 651 = .ok (.goto 1760, 3) := by decide +kernel
set_option maxHeartbeats 4000000 in
set_option maxRecDepth 100000 in
theorem lawc_9 {p : Program} {l : Launch} {e : Env} {s : State} {m : MethodId} {below : List Frame} {meth : Method} {c : Code} {b L : Nat} {xs : Nat → Int32} {D : va_G} {cy : Nat → ClassId} {g1 g2 : Nat → Nat} (X : LX p s m meth c b L xs D cy g1 g2) (hL : L ≤ 3072) {i : Int32} (hi : (0 : Int) ≤ i.toInt ∧ i.toInt + 6 ≤ (L : Int)) (hnext : (∀ (σ8 σ9 : ST) (H : Heap) (locs : List Loc) (ls : Array Slot), J8 σ8 → J9 (σ9 9) → DKA (σ9 9) → KP σ8 (σ9 9) → va_P D clz (WD8 cy g1 σ8) H → va_P D clz (WD9 cy g2 σ9) H → va_S (lawA s) s.heap H locs → lv_has ls 4 [(3, .int i), (2, .ref (g2 60)), (1, .ref (gO g1 17)), (0, .ref b)] → W p l e room_1 s m #[Value.ref b] below meth c H locs 200 700000 (lw_Z below #[Value.ref b] s) (F0 m 2411 ls []))) (σ8 σ9 : ST) (H : Heap) (locs : List Loc) (ls : Array Slot) (hJ8 : J8 σ8) (hJ9 : J9 (σ9 9)) (hDK : DKA (σ9 9)) (hR : KP σ8 (σ9 9)) (hP8 : va_P D clz (WD8 cy g1 σ8) H) (hP9 : va_P D clz (WD9 cy g2 σ9) H) (hS : va_S (lawA s) s.heap H locs) (hl : lv_has ls 4 [(3, .int i), (2, .ref (g2 60)), (1, .ref (gO g1 17)), (0, .ref b)]) : W p l e room_1 s m #[Value.ref b] below meth c H locs 200 700000 (lw_Z below #[Value.ref b] s) (F0 m 601 ls []) := by
  obtain ⟨⟨hx, hb, hr, hml, hown0, hts0, hX, hbl, hlocks, hgv⟩, hK, hDD, hC8, hC9⟩ := X
  have hown : s.vm.findClass RL = some m.cls := hown0
  have hts : ∀ w ∈ lw_g, w.before #[Value.ref b] s = true := fun w h => hts0 w (lw_gt h)
  have hbA : ¬ lawA s b := Nat.not_le.mpr hbl
  have hA8 := A8_law hDD
  have hA9 := A9_law hDD
  have hD8 : ∀ τ : ST, va_D (A8 cy g1 s.heap.size) (WD8 cy g1 τ) := fun τ => by rw [hA8]; exact map_D WD8_m (D_l hDD)
  have hD9 : ∀ τ : ST, va_D (A9 cy g2 s.heap.size) (WD9 cy g2 τ) := fun τ => by rw [hA9]; exact map_D WD9_m (D_r hDD)
  rw [← hA8] at hC8
  rw [← hA9] at hC9
  refine lv_aload_n hx hb dL_law_601 rfl (lv_at hl 2 rfl) ?_
  refine lv_aload_n hx hb dL_law_602 rfl (lv_at hl 3 rfl) ?_
  refine lv_iload_n hx hb dL_law_603 rfl (lv_at hl 0 rfl) ?_
  refine lv_iconst (v := 1) hx hb dL_law_604 (by decide) ?_
  refine lv_iadd hx hb dL_law_605 ?_
  refine lv_topi (fun x1 ex1 => ?_)
  have t2 := addO ex1 (by have f0 := hi; have f1 := hL; have z1 : (1 : Int32).toInt = 1 := (by decide); omega)
  refine va_sld hx hb hX hbl hbA hS (vpo (by have f0 := t2; have f1 := hi; have f2 := hL; have g0 := rg32 x1; have z1 : (1 : Int32).toInt = 1 := (by decide); omega)) dL_law_606 ?_
  refine lv_topi (fun x3 ex3 => ?_)
  refine lv_aload_n hx hb dL_law_607 rfl (lv_at hl 3 rfl) ?_
  refine lv_iload_n hx hb dL_law_608 rfl (lv_at hl 0 rfl) ?_
  refine lv_iconst (v := 2) hx hb dL_law_609 (by decide) ?_
  refine lv_iadd hx hb dL_law_610 ?_
  refine lv_topi (fun x4 ex4 => ?_)
  have t5 := addO ex4 (by have f0 := hi; have f1 := hL; have f2 := t2; have z1 : (1 : Int32).toInt = 1 := (by decide); have z2 : (2 : Int32).toInt = 2 := (by decide); omega)
  refine va_sld hx hb hX hbl hbA hS (vpo (by have f0 := t5; have f1 := hi; have f2 := hL; have f3 := t2; have g0 := rg32 x4; have z1 : (1 : Int32).toInt = 1 := (by decide); have z2 : (2 : Int32).toInt = 2 := (by decide); omega)) dL_law_611 ?_
  refine lv_topi (fun x6 ex6 => ?_)
  refine lv_aload_n hx hb dL_law_612 rfl (lv_at hl 3 rfl) ?_
  refine lv_iload_n hx hb dL_law_613 rfl (lv_at hl 0 rfl) ?_
  refine lv_iconst (v := 3) hx hb dL_law_614 (by decide) ?_
  refine lv_iadd hx hb dL_law_615 ?_
  refine lv_topi (fun x7 ex7 => ?_)
  have t8 := addO ex7 (by have f0 := hi; have f1 := hL; have f2 := t2; have f3 := t5; have z1 : (1 : Int32).toInt = 1 := (by decide); have z2 : (2 : Int32).toInt = 2 := (by decide); have z3 : (3 : Int32).toInt = 3 := (by decide); omega)
  refine va_sld hx hb hX hbl hbA hS (vpo (by have f0 := t8; have f1 := hi; have f2 := hL; have f3 := t2; have f4 := t5; have g0 := rg32 x7; have z1 : (1 : Int32).toInt = 1 := (by decide); have z2 : (2 : Int32).toInt = 2 := (by decide); have z3 : (3 : Int32).toInt = 3 := (by decide); omega)) dL_law_616 ?_
  refine lv_topi (fun x9 ex9 => ?_)
  refine lv_aload_n hx hb dL_law_617 rfl (lv_at hl 3 rfl) ?_
  refine lv_iload_n hx hb dL_law_618 rfl (lv_at hl 0 rfl) ?_
  refine lv_iconst (v := 4) hx hb dL_law_619 (by decide) ?_
  refine lv_iadd hx hb dL_law_620 ?_
  refine lv_topi (fun x10 ex10 => ?_)
  have t11 := addO ex10 (by have f0 := hi; have f1 := hL; have f2 := t2; have f3 := t5; have f4 := t8; have z1 : (1 : Int32).toInt = 1 := (by decide); have z2 : (2 : Int32).toInt = 2 := (by decide); have z3 : (3 : Int32).toInt = 3 := (by decide); have z4 : (4 : Int32).toInt = 4 := (by decide); omega)
  refine va_sld hx hb hX hbl hbA hS (vpo (by have f0 := t11; have f1 := hi; have f2 := hL; have f3 := t2; have f4 := t5; have f5 := t8; have g0 := rg32 x10; have z1 : (1 : Int32).toInt = 1 := (by decide); have z2 : (2 : Int32).toInt = 2 := (by decide); have z3 : (3 : Int32).toInt = 3 := (by decide); have z4 : (4 : Int32).toInt = 4 := (by decide); omega)) dL_law_621 ?_
  refine lv_topi (fun x12 ex12 => ?_)
  have hSx : va_S (A8 cy g1 s.heap.size) s.heap H locs := by rw [hA8]; exact hS
  refine va_calli (va_runV (As := [.int x3, .int x6, .int x9, .int x12]) (rest := []) ⟨hx, hb, hml, hown, hts⟩ (m_X8_drawnOut l D cy g1 σ8 x3 x6 x9 x12 _ hJ8) (cwV 4 hts (gd_V q862 q863 q864 q125 q865) rfl rfl rfl (by decide +kernel) ⟨Nat.le_of_ble_eq_true rfl, Nat.le_of_ble_eq_true rfl⟩) (pv8 hP8 hK hD8 hC8 hSx (rv8_8 hK hP8)) rfl rfl hl.1 rfl (lv_room (Nat.le_of_ble_eq_true rfl)) dL_law_622 ⟨Nat.le_of_ble_eq_true rfl, Nat.le_of_ble_eq_true rfl⟩) hSx (fun q _ h => up8 hSx q h) (up8 hSx) (fun r13 υ14 tS H1 locs ht hvm hw15 hB hz1 hk1 hSy => ?_)
  have hP8 : va_P D clz (WD8 cy g1 υ14) H1 := by rw [← ht]; exact hB
  have hP9 := kp9 hDD hP9 hk1
  have hS : va_S (lawA s) s.heap H1 locs := by rw [← hA8]; exact hSy
  clear hB hz1 hk1 hvm ht hSx hSy
  generalize H1 = H at hP8 hP9 hS ⊢
  have hJ16 : J8 υ14 := hw15.2.1
  have hR17 : KP υ14 (σ9 9) := KP.fr8 hR (show Fr (fO [9]) σ8 υ14 from hw15.1) (by decide)
  refine lv_pop hx hb dL_law_625 rfl ?_
  refine lv_aload_n hx hb dL_law_626 rfl (lv_at hl 1 rfl) ?_
  refine lv_aload_n hx hb dL_law_627 rfl (lv_at hl 3 rfl) ?_
  refine lv_iload_n hx hb dL_law_628 rfl (lv_at hl 0 rfl) ?_
  refine lv_iconst (v := 1) hx hb dL_law_629 (by decide) ?_
  refine lv_iadd hx hb dL_law_630 ?_
  refine lv_topi (fun x18 ex18 => ?_)
  have t19 := addO ex18 (by have f0 := hi; have f1 := hL; have f2 := t2; have f3 := t5; have f4 := t8; have f5 := t11; have z1 : (1 : Int32).toInt = 1 := (by decide); have z2 : (2 : Int32).toInt = 2 := (by decide); have z3 : (3 : Int32).toInt = 3 := (by decide); have z4 : (4 : Int32).toInt = 4 := (by decide); omega)
  refine va_sld hx hb hX hbl hbA hS (vpo (by have f0 := t19; have f1 := hi; have f2 := hL; have f3 := t2; have f4 := t5; have f5 := t8; have f6 := t11; have g0 := rg32 x18; have z1 : (1 : Int32).toInt = 1 := (by decide); have z2 : (2 : Int32).toInt = 2 := (by decide); have z3 : (3 : Int32).toInt = 3 := (by decide); have z4 : (4 : Int32).toInt = 4 := (by decide); omega)) dL_law_631 ?_
  refine lv_topi (fun x20 ex20 => ?_)
  refine lv_aload_n hx hb dL_law_632 rfl (lv_at hl 3 rfl) ?_
  refine lv_iload_n hx hb dL_law_633 rfl (lv_at hl 0 rfl) ?_
  refine lv_iconst (v := 2) hx hb dL_law_634 (by decide) ?_
  refine lv_iadd hx hb dL_law_635 ?_
  refine lv_topi (fun x21 ex21 => ?_)
  have t22 := addO ex21 (by have f0 := hi; have f1 := hL; have f2 := t2; have f3 := t5; have f4 := t8; have f5 := t11; have f6 := t19; have z1 : (1 : Int32).toInt = 1 := (by decide); have z2 : (2 : Int32).toInt = 2 := (by decide); have z3 : (3 : Int32).toInt = 3 := (by decide); have z4 : (4 : Int32).toInt = 4 := (by decide); omega)
  refine va_sld hx hb hX hbl hbA hS (vpo (by have f0 := t22; have f1 := hi; have f2 := hL; have f3 := t2; have f4 := t5; have f5 := t8; have f6 := t11; have f7 := t19; have g0 := rg32 x21; have z1 : (1 : Int32).toInt = 1 := (by decide); have z2 : (2 : Int32).toInt = 2 := (by decide); have z3 : (3 : Int32).toInt = 3 := (by decide); have z4 : (4 : Int32).toInt = 4 := (by decide); omega)) dL_law_636 ?_
  refine lv_topi (fun x23 ex23 => ?_)
  refine lv_aload_n hx hb dL_law_637 rfl (lv_at hl 3 rfl) ?_
  refine lv_iload_n hx hb dL_law_638 rfl (lv_at hl 0 rfl) ?_
  refine lv_iconst (v := 3) hx hb dL_law_639 (by decide) ?_
  refine lv_iadd hx hb dL_law_640 ?_
  refine lv_topi (fun x24 ex24 => ?_)
  have t25 := addO ex24 (by have f0 := hi; have f1 := hL; have f2 := t2; have f3 := t5; have f4 := t8; have f5 := t11; have f6 := t19; have f7 := t22; have z1 : (1 : Int32).toInt = 1 := (by decide); have z2 : (2 : Int32).toInt = 2 := (by decide); have z3 : (3 : Int32).toInt = 3 := (by decide); have z4 : (4 : Int32).toInt = 4 := (by decide); omega)
  refine va_sld hx hb hX hbl hbA hS (vpo (by have f0 := t25; have f1 := hi; have f2 := hL; have f3 := t2; have f4 := t5; have f5 := t8; have f6 := t11; have f7 := t19; have f8 := t22; have g0 := rg32 x24; have z1 : (1 : Int32).toInt = 1 := (by decide); have z2 : (2 : Int32).toInt = 2 := (by decide); have z3 : (3 : Int32).toInt = 3 := (by decide); have z4 : (4 : Int32).toInt = 4 := (by decide); omega)) dL_law_641 ?_
  refine lv_topi (fun x26 ex26 => ?_)
  refine lv_aload_n hx hb dL_law_642 rfl (lv_at hl 3 rfl) ?_
  refine lv_iload_n hx hb dL_law_643 rfl (lv_at hl 0 rfl) ?_
  refine lv_iconst (v := 4) hx hb dL_law_644 (by decide) ?_
  refine lv_iadd hx hb dL_law_645 ?_
  refine lv_topi (fun x27 ex27 => ?_)
  have t28 := addO ex27 (by have f0 := hi; have f1 := hL; have f2 := t2; have f3 := t5; have f4 := t8; have f5 := t11; have f6 := t19; have f7 := t22; have f8 := t25; have z1 : (1 : Int32).toInt = 1 := (by decide); have z2 : (2 : Int32).toInt = 2 := (by decide); have z3 : (3 : Int32).toInt = 3 := (by decide); have z4 : (4 : Int32).toInt = 4 := (by decide); omega)
  refine va_sld hx hb hX hbl hbA hS (vpo (by have f0 := t28; have f1 := hi; have f2 := hL; have f3 := t2; have f4 := t5; have f5 := t8; have f6 := t11; have f7 := t19; have f8 := t22; have f9 := t25; have g0 := rg32 x27; have z1 : (1 : Int32).toInt = 1 := (by decide); have z2 : (2 : Int32).toInt = 2 := (by decide); have z3 : (3 : Int32).toInt = 3 := (by decide); have z4 : (4 : Int32).toInt = 4 := (by decide); omega)) dL_law_646 ?_
  refine lv_topi (fun x29 ex29 => ?_)
  have hSx : va_S (A9 cy g2 s.heap.size) s.heap H locs := by rw [hA9]; exact hS
  refine va_calli (va_runV (As := [.int x20, .int x23, .int x26, .int x29]) (rest := []) ⟨hx, hb, hml, hown, hts⟩ (m_X9_drawnOut l D cy g2 σ9 x20 x23 x26 x29 _ hJ9 (DKA.zero hDK)) (cwV 4 hts (gd_V q1782 q1783 q1784 q134 q1785) rfl rfl rfl (by decide +kernel) ⟨Nat.le_of_ble_eq_true rfl, Nat.le_of_ble_eq_true rfl⟩) (pv9 hP9 hK hD9 hC9 hSx (va_recv hK hP9 (ci := 9) (q0 := 0) rfl rfl)) rfl rfl hl.1 rfl (lv_room (Nat.le_of_ble_eq_true rfl)) dL_law_647 ⟨Nat.le_of_ble_eq_true rfl, Nat.le_of_ble_eq_true rfl⟩) hSx (fun q _ h => up9 hSx q h) (up9 hSx) (fun r30 υ31 tS H1 locs ht hvm hw32 hB hz1 hk1 hSy => ?_)
  have hP9 : va_P D clz (WD9 cy g2 υ31) H1 := by rw [← ht]; exact hB
  have hP8 := kp8 hDD hP8 hk1
  have hS : va_S (lawA s) s.heap H1 locs := by rw [← hA9]; exact hSy
  clear hB hz1 hk1 hvm ht hSx hSy
  generalize H1 = H at hP8 hP9 hS ⊢
  have hF33 : Fr (fL [0, 23]) σ9 υ31 := hw32.1
  have hJ34 : J9 (υ31 9) := hw32.2.1
  have hK35 : DKA (υ31 9) := DKA.mv hDK (hF33 9 17 rfl).2.2.1 (hF33 9 18 rfl).2.2.1 (hF33 9 19 rfl).2.2.1
  have hR36 : KP υ14 (υ31 9) := KP.fr9 hR17 (hF33 9 22 rfl).2.2.1
  refine lv_pop hx hb dL_law_650 rfl ?_
  refine lv_goto (tgt := 2411) hx hb dL_law_651 (by decide) ?_
  exact hnext _ _ _ _ _ hJ16 hJ34 hK35 hR36 hP8 hP9 hS hl

theorem q868 : Cond.methodLink RL 59 yX8_ways ∈ lw_g := lw_gm (List.mem_of_getElem? (i := 868) (by decide +kernel)) rfl
theorem q869 : Cond.instanceMethod yX8_ways ∈ lw_g := lw_gm (List.mem_of_getElem? (i := 869) (by decide +kernel)) rfl
theorem q870 : Cond.selects RX8 yX8_ways yX8_ways ∈ lw_g := lw_gm (List.mem_of_getElem? (i := 870) (by decide +kernel)) rfl
theorem q1794 : Cond.methodLink RL 62 yX9_ways ∈ lw_g := lw_gm (List.mem_of_getElem? (i := 1794) (by decide +kernel)) rfl
theorem q1795 : Cond.instanceMethod yX9_ways ∈ lw_g := lw_gm (List.mem_of_getElem? (i := 1795) (by decide +kernel)) rfl
theorem q1796 : Cond.selects RX9 yX9_ways yX9_ways ∈ lw_g := lw_gm (List.mem_of_getElem? (i := 1796) (by decide +kernel)) rfl
theorem dL_law_654 : decode cL_law 654 = .ok (.aload_n 1, 1) := by decide +kernel
theorem dL_law_655 : decode cL_law 655 = .ok (.aload_n 0, 1) := by decide +kernel
theorem dL_law_656 : decode cL_law 656 = .ok (.iload_n 3, 1) := by decide +kernel
theorem dL_law_657 : decode cL_law 657 = .ok (.iconst 1, 1) := by decide +kernel
theorem dL_law_658 : decode cL_law 658 = .ok (.iadd, 1) := by decide +kernel
theorem dL_law_659 : decode cL_law 659 = .ok (.iaload, 1) := by decide +kernel
theorem dL_law_660 : decode cL_law 660 = .ok (.aload_n 0, 1) := by decide +kernel
theorem dL_law_661 : decode cL_law 661 = .ok (.iload_n 3, 1) := by decide +kernel
theorem dL_law_662 : decode cL_law 662 = .ok (.iconst 2, 1) := by decide +kernel
theorem dL_law_663 : decode cL_law 663 = .ok (.iadd, 1) := by decide +kernel
theorem dL_law_664 : decode cL_law 664 = .ok (.iaload, 1) := by decide +kernel
theorem dL_law_665 : decode cL_law 665 = .ok (.invokevirtual 59, 3) := by decide +kernel
theorem dL_law_668 : decode cL_law 668 = .ok (.pop, 1) := by decide +kernel
theorem dL_law_669 : decode cL_law 669 = .ok (.aload_n 2, 1) := by decide +kernel
theorem dL_law_670 : decode cL_law 670 = .ok (.aload_n 0, 1) := by decide +kernel
theorem dL_law_671 : decode cL_law 671 = .ok (.iload_n 3, 1) := by decide +kernel
theorem dL_law_672 : decode cL_law 672 = .ok (.iconst 1, 1) := by decide +kernel
theorem dL_law_673 : decode cL_law 673 = .ok (.iadd, 1) := by decide +kernel
theorem dL_law_674 : decode cL_law 674 = .ok (.iaload, 1) := by decide +kernel
theorem dL_law_675 : decode cL_law 675 = .ok (.aload_n 0, 1) := by decide +kernel
theorem dL_law_676 : decode cL_law 676 = .ok (.iload_n 3, 1) := by decide +kernel
theorem dL_law_677 : decode cL_law 677 = .ok (.iconst 2, 1) := by decide +kernel
theorem dL_law_678 : decode cL_law 678 = .ok (.iadd, 1) := by decide +kernel
theorem dL_law_679 : decode cL_law 679 = .ok (.iaload, 1) := by decide +kernel
theorem dL_law_680 : decode cL_law 680 = .ok (.invokevirtual 62, 3) := by decide +kernel
theorem dL_law_683 : decode cL_law 683 = .ok (.pop, 1) := by decide +kernel
theorem dL_law_684 : decode cL_law 684 = .ok (.goto 1727, 3) := by decide +kernel
set_option maxHeartbeats 4000000 in
set_option maxRecDepth 100000 in
theorem lawc_10 {p : Program} {l : Launch} {e : Env} {s : State} {m : MethodId} {below : List Frame} {meth : Method} {c : Code} {b L : Nat} {xs : Nat → Int32} {D : va_G} {cy : Nat → ClassId} {g1 g2 : Nat → Nat} (X : LX p s m meth c b L xs D cy g1 g2) (hL : L ≤ 3072) {i : Int32} (hi : (0 : Int) ≤ i.toInt ∧ i.toInt + 6 ≤ (L : Int)) (hnext : (∀ (σ8 σ9 : ST) (H : Heap) (locs : List Loc) (ls : Array Slot), J8 σ8 → J9 (σ9 9) → DKA (σ9 9) → KP σ8 (σ9 9) → va_P D clz (WD8 cy g1 σ8) H → va_P D clz (WD9 cy g2 σ9) H → va_S (lawA s) s.heap H locs → lv_has ls 4 [(3, .int i), (2, .ref (g2 60)), (1, .ref (gO g1 17)), (0, .ref b)] → W p l e room_1 s m #[Value.ref b] below meth c H locs 200 700000 (lw_Z below #[Value.ref b] s) (F0 m 2411 ls []))) (σ8 σ9 : ST) (H : Heap) (locs : List Loc) (ls : Array Slot) (hJ8 : J8 σ8) (hJ9 : J9 (σ9 9)) (hDK : DKA (σ9 9)) (hR : KP σ8 (σ9 9)) (hP8 : va_P D clz (WD8 cy g1 σ8) H) (hP9 : va_P D clz (WD9 cy g2 σ9) H) (hS : va_S (lawA s) s.heap H locs) (hl : lv_has ls 4 [(3, .int i), (2, .ref (g2 60)), (1, .ref (gO g1 17)), (0, .ref b)]) : W p l e room_1 s m #[Value.ref b] below meth c H locs 200 700000 (lw_Z below #[Value.ref b] s) (F0 m 654 ls []) := by
  obtain ⟨⟨hx, hb, hr, hml, hown0, hts0, hX, hbl, hlocks, hgv⟩, hK, hDD, hC8, hC9⟩ := X
  have hown : s.vm.findClass RL = some m.cls := hown0
  have hts : ∀ w ∈ lw_g, w.before #[Value.ref b] s = true := fun w h => hts0 w (lw_gt h)
  have hbA : ¬ lawA s b := Nat.not_le.mpr hbl
  have hA8 := A8_law hDD
  have hA9 := A9_law hDD
  have hD8 : ∀ τ : ST, va_D (A8 cy g1 s.heap.size) (WD8 cy g1 τ) := fun τ => by rw [hA8]; exact map_D WD8_m (D_l hDD)
  have hD9 : ∀ τ : ST, va_D (A9 cy g2 s.heap.size) (WD9 cy g2 τ) := fun τ => by rw [hA9]; exact map_D WD9_m (D_r hDD)
  rw [← hA8] at hC8
  rw [← hA9] at hC9
  refine lv_aload_n hx hb dL_law_654 rfl (lv_at hl 2 rfl) ?_
  refine lv_aload_n hx hb dL_law_655 rfl (lv_at hl 3 rfl) ?_
  refine lv_iload_n hx hb dL_law_656 rfl (lv_at hl 0 rfl) ?_
  refine lv_iconst (v := 1) hx hb dL_law_657 (by decide) ?_
  refine lv_iadd hx hb dL_law_658 ?_
  refine lv_topi (fun x1 ex1 => ?_)
  have t2 := addO ex1 (by have f0 := hi; have f1 := hL; have z1 : (1 : Int32).toInt = 1 := (by decide); omega)
  refine va_sld hx hb hX hbl hbA hS (vpo (by have f0 := t2; have f1 := hi; have f2 := hL; have g0 := rg32 x1; have z1 : (1 : Int32).toInt = 1 := (by decide); omega)) dL_law_659 ?_
  refine lv_topi (fun x3 ex3 => ?_)
  refine lv_aload_n hx hb dL_law_660 rfl (lv_at hl 3 rfl) ?_
  refine lv_iload_n hx hb dL_law_661 rfl (lv_at hl 0 rfl) ?_
  refine lv_iconst (v := 2) hx hb dL_law_662 (by decide) ?_
  refine lv_iadd hx hb dL_law_663 ?_
  refine lv_topi (fun x4 ex4 => ?_)
  have t5 := addO ex4 (by have f0 := hi; have f1 := hL; have f2 := t2; have z1 : (1 : Int32).toInt = 1 := (by decide); have z2 : (2 : Int32).toInt = 2 := (by decide); omega)
  refine va_sld hx hb hX hbl hbA hS (vpo (by have f0 := t5; have f1 := hi; have f2 := hL; have f3 := t2; have g0 := rg32 x4; have z1 : (1 : Int32).toInt = 1 := (by decide); have z2 : (2 : Int32).toInt = 2 := (by decide); omega)) dL_law_664 ?_
  refine lv_topi (fun x6 ex6 => ?_)
  have hSx : va_S (A8 cy g1 s.heap.size) s.heap H locs := by rw [hA8]; exact hS
  refine va_calli (va_runV (As := [.int x3, .int x6]) (rest := []) ⟨hx, hb, hml, hown, hts⟩ (m_X8_ways l D cy g1 σ8 x3 x6 _ hJ8) (cwV 2 hts (gd_V q868 q869 q870 q125 q871) rfl rfl rfl (by decide +kernel) ⟨Nat.le_of_ble_eq_true rfl, Nat.le_of_ble_eq_true rfl⟩) (pv8 hP8 hK hD8 hC8 hSx (rv8_8 hK hP8)) rfl rfl hl.1 rfl (lv_room (Nat.le_of_ble_eq_true rfl)) dL_law_665 ⟨Nat.le_of_ble_eq_true rfl, Nat.le_of_ble_eq_true rfl⟩) hSx (fun q _ h => up8 hSx q h) (up8 hSx) (fun r7 υ8 tS H1 locs ht hvm hw9 hB hz1 hk1 hSy => ?_)
  have hP8 : va_P D clz (WD8 cy g1 υ8) H1 := by rw [← ht]; exact hB
  have hP9 := kp9 hDD hP9 hk1
  have hS : va_S (lawA s) s.heap H1 locs := by rw [← hA8]; exact hSy
  clear hB hz1 hk1 hvm ht hSx hSy
  generalize H1 = H at hP8 hP9 hS ⊢
  have hJ10 : J8 υ8 := hw9.2.1
  have hR11 : KP υ8 (σ9 9) := KP.fr8 hR (show Fr (fO [9]) σ8 υ8 from hw9.1) (by decide)
  refine lv_pop hx hb dL_law_668 rfl ?_
  refine lv_aload_n hx hb dL_law_669 rfl (lv_at hl 1 rfl) ?_
  refine lv_aload_n hx hb dL_law_670 rfl (lv_at hl 3 rfl) ?_
  refine lv_iload_n hx hb dL_law_671 rfl (lv_at hl 0 rfl) ?_
  refine lv_iconst (v := 1) hx hb dL_law_672 (by decide) ?_
  refine lv_iadd hx hb dL_law_673 ?_
  refine lv_topi (fun x12 ex12 => ?_)
  have t13 := addO ex12 (by have f0 := hi; have f1 := hL; have f2 := t2; have f3 := t5; have z1 : (1 : Int32).toInt = 1 := (by decide); have z2 : (2 : Int32).toInt = 2 := (by decide); omega)
  refine va_sld hx hb hX hbl hbA hS (vpo (by have f0 := t13; have f1 := hi; have f2 := hL; have f3 := t2; have f4 := t5; have g0 := rg32 x12; have z1 : (1 : Int32).toInt = 1 := (by decide); have z2 : (2 : Int32).toInt = 2 := (by decide); omega)) dL_law_674 ?_
  refine lv_topi (fun x14 ex14 => ?_)
  refine lv_aload_n hx hb dL_law_675 rfl (lv_at hl 3 rfl) ?_
  refine lv_iload_n hx hb dL_law_676 rfl (lv_at hl 0 rfl) ?_
  refine lv_iconst (v := 2) hx hb dL_law_677 (by decide) ?_
  refine lv_iadd hx hb dL_law_678 ?_
  refine lv_topi (fun x15 ex15 => ?_)
  have t16 := addO ex15 (by have f0 := hi; have f1 := hL; have f2 := t2; have f3 := t5; have f4 := t13; have z1 : (1 : Int32).toInt = 1 := (by decide); have z2 : (2 : Int32).toInt = 2 := (by decide); omega)
  refine va_sld hx hb hX hbl hbA hS (vpo (by have f0 := t16; have f1 := hi; have f2 := hL; have f3 := t2; have f4 := t5; have f5 := t13; have g0 := rg32 x15; have z1 : (1 : Int32).toInt = 1 := (by decide); have z2 : (2 : Int32).toInt = 2 := (by decide); omega)) dL_law_679 ?_
  refine lv_topi (fun x17 ex17 => ?_)
  have hSx : va_S (A9 cy g2 s.heap.size) s.heap H locs := by rw [hA9]; exact hS
  refine va_calli (va_runV (As := [.int x14, .int x17]) (rest := []) ⟨hx, hb, hml, hown, hts⟩ (m_X9_ways l D cy g2 σ9 x14 x17 _ hJ9 (DKA.zero hDK)) (cwV 2 hts (gd_V q1794 q1795 q1796 q134 q1797) rfl rfl rfl (by decide +kernel) ⟨Nat.le_of_ble_eq_true rfl, Nat.le_of_ble_eq_true rfl⟩) (pv9 hP9 hK hD9 hC9 hSx (va_recv hK hP9 (ci := 9) (q0 := 0) rfl rfl)) rfl rfl hl.1 rfl (lv_room (Nat.le_of_ble_eq_true rfl)) dL_law_680 ⟨Nat.le_of_ble_eq_true rfl, Nat.le_of_ble_eq_true rfl⟩) hSx (fun q _ h => up9 hSx q h) (up9 hSx) (fun r18 υ19 tS H1 locs ht hvm hw20 hB hz1 hk1 hSy => ?_)
  have hP9 : va_P D clz (WD9 cy g2 υ19) H1 := by rw [← ht]; exact hB
  have hP8 := kp8 hDD hP8 hk1
  have hS : va_S (lawA s) s.heap H1 locs := by rw [← hA9]; exact hSy
  clear hB hz1 hk1 hvm ht hSx hSy
  generalize H1 = H at hP8 hP9 hS ⊢
  have hF21 : Fr (fL [0, 23, 24, 25, 26, 27]) σ9 υ19 := hw20.1
  have hJ22 : J9 (υ19 9) := hw20.2.1
  have hK23 : DKA (υ19 9) := DKA.mv hDK (hF21 9 17 rfl).2.2.1 (hF21 9 18 rfl).2.2.1 (hF21 9 19 rfl).2.2.1
  have hR24 : KP υ8 (υ19 9) := KP.fr9 hR11 (hF21 9 22 rfl).2.2.1
  refine lv_pop hx hb dL_law_683 rfl ?_
  refine lv_goto (tgt := 2411) hx hb dL_law_684 (by decide) ?_
  exact hnext _ _ _ _ _ hJ10 hJ22 hK23 hR24 hP8 hP9 hS hl

theorem q880 : Cond.methodLink RL 63 yX8_way ∈ lw_g := lw_gm (List.mem_of_getElem? (i := 880) (by decide +kernel)) rfl
theorem q881 : Cond.instanceMethod yX8_way ∈ lw_g := lw_gm (List.mem_of_getElem? (i := 881) (by decide +kernel)) rfl
theorem q882 : Cond.selects RX8 yX8_way yX8_way ∈ lw_g := lw_gm (List.mem_of_getElem? (i := 882) (by decide +kernel)) rfl
theorem q1806 : Cond.methodLink RL 66 yX9_way ∈ lw_g := lw_gm (List.mem_of_getElem? (i := 1806) (by decide +kernel)) rfl
theorem q1807 : Cond.instanceMethod yX9_way ∈ lw_g := lw_gm (List.mem_of_getElem? (i := 1807) (by decide +kernel)) rfl
theorem q1808 : Cond.selects RX9 yX9_way yX9_way ∈ lw_g := lw_gm (List.mem_of_getElem? (i := 1808) (by decide +kernel)) rfl
theorem dL_law_687 : decode cL_law 687 = .ok (.aload_n 1, 1) := by decide +kernel
theorem dL_law_688 : decode cL_law 688 = .ok (.aload_n 0, 1) := by decide +kernel
theorem dL_law_689 : decode cL_law 689 = .ok (.iload_n 3, 1) := by decide +kernel
theorem dL_law_690 : decode cL_law 690 = .ok (.iconst 1, 1) := by decide +kernel
theorem dL_law_691 : decode cL_law 691 = .ok (.iadd, 1) := by decide +kernel
theorem dL_law_692 : decode cL_law 692 = .ok (.iaload, 1) := by decide +kernel
theorem dL_law_693 : decode cL_law 693 = .ok (.aload_n 0, 1) := by decide +kernel
theorem dL_law_694 : decode cL_law 694 = .ok (.iload_n 3, 1) := by decide +kernel
theorem dL_law_695 : decode cL_law 695 = .ok (.iconst 2, 1) := by decide +kernel
theorem dL_law_696 : decode cL_law 696 = .ok (.iadd, 1) := by decide +kernel
theorem dL_law_697 : decode cL_law 697 = .ok (.iaload, 1) := by decide +kernel
theorem dL_law_698 : decode cL_law 698 = .ok (.aload_n 0, 1) := by decide +kernel
theorem dL_law_699 : decode cL_law 699 = .ok (.iload_n 3, 1) := by decide +kernel
theorem dL_law_700 : decode cL_law 700 = .ok (.iconst 3, 1) := by decide +kernel
theorem dL_law_701 : decode cL_law 701 = .ok (.iadd, 1) := by decide +kernel
theorem dL_law_702 : decode cL_law 702 = .ok (.iaload, 1) := by decide +kernel
theorem dL_law_703 : decode cL_law 703 = .ok (.aload_n 0, 1) := by decide +kernel
theorem dL_law_704 : decode cL_law 704 = .ok (.iload_n 3, 1) := by decide +kernel
theorem dL_law_705 : decode cL_law 705 = .ok (.iconst 4, 1) := by decide +kernel
theorem dL_law_706 : decode cL_law 706 = .ok (.iadd, 1) := by decide +kernel
theorem dL_law_707 : decode cL_law 707 = .ok (.iaload, 1) := by decide +kernel
theorem dL_law_708 : decode cL_law 708 = .ok (.invokevirtual 63, 3) := by decide +kernel
theorem dL_law_711 : decode cL_law 711 = .ok (.pop, 1) := by decide +kernel
theorem dL_law_712 : decode cL_law 712 = .ok (.aload_n 2, 1) := by decide +kernel
theorem dL_law_713 : decode cL_law 713 = .ok (.aload_n 0, 1) := by decide +kernel
theorem dL_law_714 : decode cL_law 714 = .ok (.iload_n 3, 1) := by decide +kernel
theorem dL_law_715 : decode cL_law 715 = .ok (.iconst 1, 1) := by decide +kernel
theorem dL_law_716 : decode cL_law 716 = .ok (.iadd, 1) := by decide +kernel
theorem dL_law_717 : decode cL_law 717 = .ok (.iaload, 1) := by decide +kernel
theorem dL_law_718 : decode cL_law 718 = .ok (.aload_n 0, 1) := by decide +kernel
theorem dL_law_719 : decode cL_law 719 = .ok (.iload_n 3, 1) := by decide +kernel
theorem dL_law_720 : decode cL_law 720 = .ok (.iconst 2, 1) := by decide +kernel
theorem dL_law_721 : decode cL_law 721 = .ok (.iadd, 1) := by decide +kernel
theorem dL_law_722 : decode cL_law 722 = .ok (.iaload, 1) := by decide +kernel
theorem dL_law_723 : decode cL_law 723 = .ok (.aload_n 0, 1) := by decide +kernel
theorem dL_law_724 : decode cL_law 724 = .ok (.iload_n 3, 1) := by decide +kernel
theorem dL_law_725 : decode cL_law 725 = .ok (.iconst 3, 1) := by decide +kernel
theorem dL_law_726 : decode cL_law 726 = .ok (.iadd, 1) := by decide +kernel
theorem dL_law_727 : decode cL_law 727 = .ok (.iaload, 1) := by decide +kernel
theorem dL_law_728 : decode cL_law 728 = .ok (.aload_n 0, 1) := by decide +kernel
theorem dL_law_729 : decode cL_law 729 = .ok (.iload_n 3, 1) := by decide +kernel
theorem dL_law_730 : decode cL_law 730 = .ok (.iconst 4, 1) := by decide +kernel
theorem dL_law_731 : decode cL_law 731 = .ok (.iadd, 1) := by decide +kernel
theorem dL_law_732 : decode cL_law 732 = .ok (.iaload, 1) := by decide +kernel
theorem dL_law_733 : decode cL_law 733 = .ok (.invokevirtual 66, 3) := by decide +kernel
theorem dL_law_736 : decode cL_law 736 = .ok (.pop, 1) := by decide +kernel
theorem dL_law_737 : decode cL_law 737 = .ok (.goto 1674, 3) := by decide +kernel
set_option maxHeartbeats 4000000 in
set_option maxRecDepth 100000 in
theorem lawc_11 {p : Program} {l : Launch} {e : Env} {s : State} {m : MethodId} {below : List Frame} {meth : Method} {c : Code} {b L : Nat} {xs : Nat → Int32} {D : va_G} {cy : Nat → ClassId} {g1 g2 : Nat → Nat} (X : LX p s m meth c b L xs D cy g1 g2) (hL : L ≤ 3072) {i : Int32} (hi : (0 : Int) ≤ i.toInt ∧ i.toInt + 6 ≤ (L : Int)) (hnext : (∀ (σ8 σ9 : ST) (H : Heap) (locs : List Loc) (ls : Array Slot), J8 σ8 → J9 (σ9 9) → DKA (σ9 9) → KP σ8 (σ9 9) → va_P D clz (WD8 cy g1 σ8) H → va_P D clz (WD9 cy g2 σ9) H → va_S (lawA s) s.heap H locs → lv_has ls 4 [(3, .int i), (2, .ref (g2 60)), (1, .ref (gO g1 17)), (0, .ref b)] → W p l e room_1 s m #[Value.ref b] below meth c H locs 200 700000 (lw_Z below #[Value.ref b] s) (F0 m 2411 ls []))) (σ8 σ9 : ST) (H : Heap) (locs : List Loc) (ls : Array Slot) (hJ8 : J8 σ8) (hJ9 : J9 (σ9 9)) (hDK : DKA (σ9 9)) (hR : KP σ8 (σ9 9)) (hP8 : va_P D clz (WD8 cy g1 σ8) H) (hP9 : va_P D clz (WD9 cy g2 σ9) H) (hS : va_S (lawA s) s.heap H locs) (hl : lv_has ls 4 [(3, .int i), (2, .ref (g2 60)), (1, .ref (gO g1 17)), (0, .ref b)]) : W p l e room_1 s m #[Value.ref b] below meth c H locs 200 700000 (lw_Z below #[Value.ref b] s) (F0 m 687 ls []) := by
  obtain ⟨⟨hx, hb, hr, hml, hown0, hts0, hX, hbl, hlocks, hgv⟩, hK, hDD, hC8, hC9⟩ := X
  have hown : s.vm.findClass RL = some m.cls := hown0
  have hts : ∀ w ∈ lw_g, w.before #[Value.ref b] s = true := fun w h => hts0 w (lw_gt h)
  have hbA : ¬ lawA s b := Nat.not_le.mpr hbl
  have hA8 := A8_law hDD
  have hA9 := A9_law hDD
  have hD8 : ∀ τ : ST, va_D (A8 cy g1 s.heap.size) (WD8 cy g1 τ) := fun τ => by rw [hA8]; exact map_D WD8_m (D_l hDD)
  have hD9 : ∀ τ : ST, va_D (A9 cy g2 s.heap.size) (WD9 cy g2 τ) := fun τ => by rw [hA9]; exact map_D WD9_m (D_r hDD)
  rw [← hA8] at hC8
  rw [← hA9] at hC9
  refine lv_aload_n hx hb dL_law_687 rfl (lv_at hl 2 rfl) ?_
  refine lv_aload_n hx hb dL_law_688 rfl (lv_at hl 3 rfl) ?_
  refine lv_iload_n hx hb dL_law_689 rfl (lv_at hl 0 rfl) ?_
  refine lv_iconst (v := 1) hx hb dL_law_690 (by decide) ?_
  refine lv_iadd hx hb dL_law_691 ?_
  refine lv_topi (fun x1 ex1 => ?_)
  have t2 := addO ex1 (by have f0 := hi; have f1 := hL; have z1 : (1 : Int32).toInt = 1 := (by decide); omega)
  refine va_sld hx hb hX hbl hbA hS (vpo (by have f0 := t2; have f1 := hi; have f2 := hL; have g0 := rg32 x1; have z1 : (1 : Int32).toInt = 1 := (by decide); omega)) dL_law_692 ?_
  refine lv_topi (fun x3 ex3 => ?_)
  refine lv_aload_n hx hb dL_law_693 rfl (lv_at hl 3 rfl) ?_
  refine lv_iload_n hx hb dL_law_694 rfl (lv_at hl 0 rfl) ?_
  refine lv_iconst (v := 2) hx hb dL_law_695 (by decide) ?_
  refine lv_iadd hx hb dL_law_696 ?_
  refine lv_topi (fun x4 ex4 => ?_)
  have t5 := addO ex4 (by have f0 := hi; have f1 := hL; have f2 := t2; have z1 : (1 : Int32).toInt = 1 := (by decide); have z2 : (2 : Int32).toInt = 2 := (by decide); omega)
  refine va_sld hx hb hX hbl hbA hS (vpo (by have f0 := t5; have f1 := hi; have f2 := hL; have f3 := t2; have g0 := rg32 x4; have z1 : (1 : Int32).toInt = 1 := (by decide); have z2 : (2 : Int32).toInt = 2 := (by decide); omega)) dL_law_697 ?_
  refine lv_topi (fun x6 ex6 => ?_)
  refine lv_aload_n hx hb dL_law_698 rfl (lv_at hl 3 rfl) ?_
  refine lv_iload_n hx hb dL_law_699 rfl (lv_at hl 0 rfl) ?_
  refine lv_iconst (v := 3) hx hb dL_law_700 (by decide) ?_
  refine lv_iadd hx hb dL_law_701 ?_
  refine lv_topi (fun x7 ex7 => ?_)
  have t8 := addO ex7 (by have f0 := hi; have f1 := hL; have f2 := t2; have f3 := t5; have z1 : (1 : Int32).toInt = 1 := (by decide); have z2 : (2 : Int32).toInt = 2 := (by decide); have z3 : (3 : Int32).toInt = 3 := (by decide); omega)
  refine va_sld hx hb hX hbl hbA hS (vpo (by have f0 := t8; have f1 := hi; have f2 := hL; have f3 := t2; have f4 := t5; have g0 := rg32 x7; have z1 : (1 : Int32).toInt = 1 := (by decide); have z2 : (2 : Int32).toInt = 2 := (by decide); have z3 : (3 : Int32).toInt = 3 := (by decide); omega)) dL_law_702 ?_
  refine lv_topi (fun x9 ex9 => ?_)
  refine lv_aload_n hx hb dL_law_703 rfl (lv_at hl 3 rfl) ?_
  refine lv_iload_n hx hb dL_law_704 rfl (lv_at hl 0 rfl) ?_
  refine lv_iconst (v := 4) hx hb dL_law_705 (by decide) ?_
  refine lv_iadd hx hb dL_law_706 ?_
  refine lv_topi (fun x10 ex10 => ?_)
  have t11 := addO ex10 (by have f0 := hi; have f1 := hL; have f2 := t2; have f3 := t5; have f4 := t8; have z1 : (1 : Int32).toInt = 1 := (by decide); have z2 : (2 : Int32).toInt = 2 := (by decide); have z3 : (3 : Int32).toInt = 3 := (by decide); have z4 : (4 : Int32).toInt = 4 := (by decide); omega)
  refine va_sld hx hb hX hbl hbA hS (vpo (by have f0 := t11; have f1 := hi; have f2 := hL; have f3 := t2; have f4 := t5; have f5 := t8; have g0 := rg32 x10; have z1 : (1 : Int32).toInt = 1 := (by decide); have z2 : (2 : Int32).toInt = 2 := (by decide); have z3 : (3 : Int32).toInt = 3 := (by decide); have z4 : (4 : Int32).toInt = 4 := (by decide); omega)) dL_law_707 ?_
  refine lv_topi (fun x12 ex12 => ?_)
  have hSx : va_S (A8 cy g1 s.heap.size) s.heap H locs := by rw [hA8]; exact hS
  refine va_calli (va_runV (As := [.int x3, .int x6, .int x9, .int x12]) (rest := []) ⟨hx, hb, hml, hown, hts⟩ (m_X8_way l D cy g1 σ8 x3 x6 x9 x12 _ hJ8) (cwV 4 hts (gd_V q880 q881 q882 q125 q883) rfl rfl rfl (by decide +kernel) ⟨Nat.le_of_ble_eq_true rfl, Nat.le_of_ble_eq_true rfl⟩) (pv8 hP8 hK hD8 hC8 hSx (rv8_8 hK hP8)) rfl rfl hl.1 rfl (lv_room (Nat.le_of_ble_eq_true rfl)) dL_law_708 ⟨Nat.le_of_ble_eq_true rfl, Nat.le_of_ble_eq_true rfl⟩) hSx (fun q _ h => up8 hSx q h) (up8 hSx) (fun r13 υ14 tS H1 locs ht hvm hw15 hB hz1 hk1 hSy => ?_)
  have hP8 : va_P D clz (WD8 cy g1 υ14) H1 := by rw [← ht]; exact hB
  have hP9 := kp9 hDD hP9 hk1
  have hS : va_S (lawA s) s.heap H1 locs := by rw [← hA8]; exact hSy
  clear hB hz1 hk1 hvm ht hSx hSy
  generalize H1 = H at hP8 hP9 hS ⊢
  have hJ16 : J8 υ14 := hw15.2.1
  have hR17 : KP υ14 (σ9 9) := KP.fr8 hR (show Fr (fO [9]) σ8 υ14 from hw15.1) (by decide)
  refine lv_pop hx hb dL_law_711 rfl ?_
  refine lv_aload_n hx hb dL_law_712 rfl (lv_at hl 1 rfl) ?_
  refine lv_aload_n hx hb dL_law_713 rfl (lv_at hl 3 rfl) ?_
  refine lv_iload_n hx hb dL_law_714 rfl (lv_at hl 0 rfl) ?_
  refine lv_iconst (v := 1) hx hb dL_law_715 (by decide) ?_
  refine lv_iadd hx hb dL_law_716 ?_
  refine lv_topi (fun x18 ex18 => ?_)
  have t19 := addO ex18 (by have f0 := hi; have f1 := hL; have f2 := t2; have f3 := t5; have f4 := t8; have f5 := t11; have z1 : (1 : Int32).toInt = 1 := (by decide); have z2 : (2 : Int32).toInt = 2 := (by decide); have z3 : (3 : Int32).toInt = 3 := (by decide); have z4 : (4 : Int32).toInt = 4 := (by decide); omega)
  refine va_sld hx hb hX hbl hbA hS (vpo (by have f0 := t19; have f1 := hi; have f2 := hL; have f3 := t2; have f4 := t5; have f5 := t8; have f6 := t11; have g0 := rg32 x18; have z1 : (1 : Int32).toInt = 1 := (by decide); have z2 : (2 : Int32).toInt = 2 := (by decide); have z3 : (3 : Int32).toInt = 3 := (by decide); have z4 : (4 : Int32).toInt = 4 := (by decide); omega)) dL_law_717 ?_
  refine lv_topi (fun x20 ex20 => ?_)
  refine lv_aload_n hx hb dL_law_718 rfl (lv_at hl 3 rfl) ?_
  refine lv_iload_n hx hb dL_law_719 rfl (lv_at hl 0 rfl) ?_
  refine lv_iconst (v := 2) hx hb dL_law_720 (by decide) ?_
  refine lv_iadd hx hb dL_law_721 ?_
  refine lv_topi (fun x21 ex21 => ?_)
  have t22 := addO ex21 (by have f0 := hi; have f1 := hL; have f2 := t2; have f3 := t5; have f4 := t8; have f5 := t11; have f6 := t19; have z1 : (1 : Int32).toInt = 1 := (by decide); have z2 : (2 : Int32).toInt = 2 := (by decide); have z3 : (3 : Int32).toInt = 3 := (by decide); have z4 : (4 : Int32).toInt = 4 := (by decide); omega)
  refine va_sld hx hb hX hbl hbA hS (vpo (by have f0 := t22; have f1 := hi; have f2 := hL; have f3 := t2; have f4 := t5; have f5 := t8; have f6 := t11; have f7 := t19; have g0 := rg32 x21; have z1 : (1 : Int32).toInt = 1 := (by decide); have z2 : (2 : Int32).toInt = 2 := (by decide); have z3 : (3 : Int32).toInt = 3 := (by decide); have z4 : (4 : Int32).toInt = 4 := (by decide); omega)) dL_law_722 ?_
  refine lv_topi (fun x23 ex23 => ?_)
  refine lv_aload_n hx hb dL_law_723 rfl (lv_at hl 3 rfl) ?_
  refine lv_iload_n hx hb dL_law_724 rfl (lv_at hl 0 rfl) ?_
  refine lv_iconst (v := 3) hx hb dL_law_725 (by decide) ?_
  refine lv_iadd hx hb dL_law_726 ?_
  refine lv_topi (fun x24 ex24 => ?_)
  have t25 := addO ex24 (by have f0 := hi; have f1 := hL; have f2 := t2; have f3 := t5; have f4 := t8; have f5 := t11; have f6 := t19; have f7 := t22; have z1 : (1 : Int32).toInt = 1 := (by decide); have z2 : (2 : Int32).toInt = 2 := (by decide); have z3 : (3 : Int32).toInt = 3 := (by decide); have z4 : (4 : Int32).toInt = 4 := (by decide); omega)
  refine va_sld hx hb hX hbl hbA hS (vpo (by have f0 := t25; have f1 := hi; have f2 := hL; have f3 := t2; have f4 := t5; have f5 := t8; have f6 := t11; have f7 := t19; have f8 := t22; have g0 := rg32 x24; have z1 : (1 : Int32).toInt = 1 := (by decide); have z2 : (2 : Int32).toInt = 2 := (by decide); have z3 : (3 : Int32).toInt = 3 := (by decide); have z4 : (4 : Int32).toInt = 4 := (by decide); omega)) dL_law_727 ?_
  refine lv_topi (fun x26 ex26 => ?_)
  refine lv_aload_n hx hb dL_law_728 rfl (lv_at hl 3 rfl) ?_
  refine lv_iload_n hx hb dL_law_729 rfl (lv_at hl 0 rfl) ?_
  refine lv_iconst (v := 4) hx hb dL_law_730 (by decide) ?_
  refine lv_iadd hx hb dL_law_731 ?_
  refine lv_topi (fun x27 ex27 => ?_)
  have t28 := addO ex27 (by have f0 := hi; have f1 := hL; have f2 := t2; have f3 := t5; have f4 := t8; have f5 := t11; have f6 := t19; have f7 := t22; have f8 := t25; have z1 : (1 : Int32).toInt = 1 := (by decide); have z2 : (2 : Int32).toInt = 2 := (by decide); have z3 : (3 : Int32).toInt = 3 := (by decide); have z4 : (4 : Int32).toInt = 4 := (by decide); omega)
  refine va_sld hx hb hX hbl hbA hS (vpo (by have f0 := t28; have f1 := hi; have f2 := hL; have f3 := t2; have f4 := t5; have f5 := t8; have f6 := t11; have f7 := t19; have f8 := t22; have f9 := t25; have g0 := rg32 x27; have z1 : (1 : Int32).toInt = 1 := (by decide); have z2 : (2 : Int32).toInt = 2 := (by decide); have z3 : (3 : Int32).toInt = 3 := (by decide); have z4 : (4 : Int32).toInt = 4 := (by decide); omega)) dL_law_732 ?_
  refine lv_topi (fun x29 ex29 => ?_)
  have hSx : va_S (A9 cy g2 s.heap.size) s.heap H locs := by rw [hA9]; exact hS
  refine va_calli (va_runV (As := [.int x20, .int x23, .int x26, .int x29]) (rest := []) ⟨hx, hb, hml, hown, hts⟩ (m_X9_way l D cy g2 σ9 x20 x23 x26 x29 _ hJ9 (DKA.zero hDK)) (cwV 4 hts (gd_V q1806 q1807 q1808 q134 q1809) rfl rfl rfl (by decide +kernel) ⟨Nat.le_of_ble_eq_true rfl, Nat.le_of_ble_eq_true rfl⟩) (pv9 hP9 hK hD9 hC9 hSx (va_recv hK hP9 (ci := 9) (q0 := 0) rfl rfl)) rfl rfl hl.1 rfl (lv_room (Nat.le_of_ble_eq_true rfl)) dL_law_733 ⟨Nat.le_of_ble_eq_true rfl, Nat.le_of_ble_eq_true rfl⟩) hSx (fun q _ h => up9 hSx q h) (up9 hSx) (fun r30 υ31 tS H1 locs ht hvm hw32 hB hz1 hk1 hSy => ?_)
  have hP9 : va_P D clz (WD9 cy g2 υ31) H1 := by rw [← ht]; exact hB
  have hP8 := kp8 hDD hP8 hk1
  have hS : va_S (lawA s) s.heap H1 locs := by rw [← hA9]; exact hSy
  clear hB hz1 hk1 hvm ht hSx hSy
  generalize H1 = H at hP8 hP9 hS ⊢
  have hF33 : Fr (fL [0, 23, 24, 25, 26, 27]) σ9 υ31 := hw32.1
  have hJ34 : J9 (υ31 9) := hw32.2.1
  have hK35 : DKA (υ31 9) := DKA.mv hDK (hF33 9 17 rfl).2.2.1 (hF33 9 18 rfl).2.2.1 (hF33 9 19 rfl).2.2.1
  have hR36 : KP υ14 (υ31 9) := KP.fr9 hR17 (hF33 9 22 rfl).2.2.1
  refine lv_pop hx hb dL_law_736 rfl ?_
  refine lv_goto (tgt := 2411) hx hb dL_law_737 (by decide) ?_
  exact hnext _ _ _ _ _ hJ16 hJ34 hK35 hR36 hP8 hP9 hS hl

theorem q888 : Cond.methodLink RL 67 yX8_range ∈ lw_g := lw_gm (List.mem_of_getElem? (i := 888) (by decide +kernel)) rfl
theorem q889 : Cond.instanceMethod yX8_range ∈ lw_g := lw_gm (List.mem_of_getElem? (i := 889) (by decide +kernel)) rfl
theorem q890 : Cond.selects RX8 yX8_range yX8_range ∈ lw_g := lw_gm (List.mem_of_getElem? (i := 890) (by decide +kernel)) rfl
theorem q1810 : Cond.methodLink RL 70 yX9_range ∈ lw_g := lw_gm (List.mem_of_getElem? (i := 1810) (by decide +kernel)) rfl
theorem q1811 : Cond.instanceMethod yX9_range ∈ lw_g := lw_gm (List.mem_of_getElem? (i := 1811) (by decide +kernel)) rfl
theorem q1812 : Cond.selects RX9 yX9_range yX9_range ∈ lw_g := lw_gm (List.mem_of_getElem? (i := 1812) (by decide +kernel)) rfl
theorem dL_law_740 : decode cL_law 740 = .ok (.aload_n 1, 1) := by decide +kernel
theorem dL_law_741 : decode cL_law 741 = .ok (.aload_n 0, 1) := by decide +kernel
theorem dL_law_742 : decode cL_law 742 = .ok (.iload_n 3, 1) := by decide +kernel
theorem dL_law_743 : decode cL_law 743 = .ok (.iconst 1, 1) := by decide +kernel
theorem dL_law_744 : decode cL_law 744 = .ok (.iadd, 1) := by decide +kernel
theorem dL_law_745 : decode cL_law 745 = .ok (.iaload, 1) := by decide +kernel
theorem dL_law_746 : decode cL_law 746 = .ok (.aload_n 0, 1) := by decide +kernel
theorem dL_law_747 : decode cL_law 747 = .ok (.iload_n 3, 1) := by decide +kernel
theorem dL_law_748 : decode cL_law 748 = .ok (.iconst 2, 1) := by decide +kernel
theorem dL_law_749 : decode cL_law 749 = .ok (.iadd, 1) := by decide +kernel
theorem dL_law_750 : decode cL_law 750 = .ok (.iaload, 1) := by decide +kernel
theorem dL_law_751 : decode cL_law 751 = .ok (.invokevirtual 67, 3) := by decide +kernel
theorem dL_law_754 : decode cL_law 754 = .ok (.pop, 1) := by decide +kernel
theorem dL_law_755 : decode cL_law 755 = .ok (.aload_n 2, 1) := by decide +kernel
theorem dL_law_756 : decode cL_law 756 = .ok (.aload_n 0, 1) := by decide +kernel
theorem dL_law_757 : decode cL_law 757 = .ok (.iload_n 3, 1) := by decide +kernel
theorem dL_law_758 : decode cL_law 758 = .ok (.iconst 1, 1) := by decide +kernel
theorem dL_law_759 : decode cL_law 759 = .ok (.iadd, 1) := by decide +kernel
theorem dL_law_760 : decode cL_law 760 = .ok (.iaload, 1) := by decide +kernel
theorem dL_law_761 : decode cL_law 761 = .ok (.aload_n 0, 1) := by decide +kernel
theorem dL_law_762 : decode cL_law 762 = .ok (.iload_n 3, 1) := by decide +kernel
theorem dL_law_763 : decode cL_law 763 = .ok (.iconst 2, 1) := by decide +kernel
theorem dL_law_764 : decode cL_law 764 = .ok (.iadd, 1) := by decide +kernel
theorem dL_law_765 : decode cL_law 765 = .ok (.iaload, 1) := by decide +kernel
theorem dL_law_766 : decode cL_law 766 = .ok (.invokevirtual 70, 3) := by decide +kernel
theorem dL_law_769 : decode cL_law 769 = .ok (.pop, 1) := by decide +kernel
theorem dL_law_770 : decode cL_law 770 = .ok (.goto 1641, 3) := by decide +kernel
set_option maxHeartbeats 4000000 in
set_option maxRecDepth 100000 in
theorem lawc_12 {p : Program} {l : Launch} {e : Env} {s : State} {m : MethodId} {below : List Frame} {meth : Method} {c : Code} {b L : Nat} {xs : Nat → Int32} {D : va_G} {cy : Nat → ClassId} {g1 g2 : Nat → Nat} (X : LX p s m meth c b L xs D cy g1 g2) (hL : L ≤ 3072) {i : Int32} (hi : (0 : Int) ≤ i.toInt ∧ i.toInt + 6 ≤ (L : Int)) (hnext : (∀ (σ8 σ9 : ST) (H : Heap) (locs : List Loc) (ls : Array Slot), J8 σ8 → J9 (σ9 9) → DKA (σ9 9) → KP σ8 (σ9 9) → va_P D clz (WD8 cy g1 σ8) H → va_P D clz (WD9 cy g2 σ9) H → va_S (lawA s) s.heap H locs → lv_has ls 4 [(3, .int i), (2, .ref (g2 60)), (1, .ref (gO g1 17)), (0, .ref b)] → W p l e room_1 s m #[Value.ref b] below meth c H locs 200 700000 (lw_Z below #[Value.ref b] s) (F0 m 2411 ls []))) (σ8 σ9 : ST) (H : Heap) (locs : List Loc) (ls : Array Slot) (hJ8 : J8 σ8) (hJ9 : J9 (σ9 9)) (hDK : DKA (σ9 9)) (hR : KP σ8 (σ9 9)) (hP8 : va_P D clz (WD8 cy g1 σ8) H) (hP9 : va_P D clz (WD9 cy g2 σ9) H) (hS : va_S (lawA s) s.heap H locs) (hl : lv_has ls 4 [(3, .int i), (2, .ref (g2 60)), (1, .ref (gO g1 17)), (0, .ref b)]) : W p l e room_1 s m #[Value.ref b] below meth c H locs 200 700000 (lw_Z below #[Value.ref b] s) (F0 m 740 ls []) := by
  obtain ⟨⟨hx, hb, hr, hml, hown0, hts0, hX, hbl, hlocks, hgv⟩, hK, hDD, hC8, hC9⟩ := X
  have hown : s.vm.findClass RL = some m.cls := hown0
  have hts : ∀ w ∈ lw_g, w.before #[Value.ref b] s = true := fun w h => hts0 w (lw_gt h)
  have hbA : ¬ lawA s b := Nat.not_le.mpr hbl
  have hA8 := A8_law hDD
  have hA9 := A9_law hDD
  have hD8 : ∀ τ : ST, va_D (A8 cy g1 s.heap.size) (WD8 cy g1 τ) := fun τ => by rw [hA8]; exact map_D WD8_m (D_l hDD)
  have hD9 : ∀ τ : ST, va_D (A9 cy g2 s.heap.size) (WD9 cy g2 τ) := fun τ => by rw [hA9]; exact map_D WD9_m (D_r hDD)
  rw [← hA8] at hC8
  rw [← hA9] at hC9
  refine lv_aload_n hx hb dL_law_740 rfl (lv_at hl 2 rfl) ?_
  refine lv_aload_n hx hb dL_law_741 rfl (lv_at hl 3 rfl) ?_
  refine lv_iload_n hx hb dL_law_742 rfl (lv_at hl 0 rfl) ?_
  refine lv_iconst (v := 1) hx hb dL_law_743 (by decide) ?_
  refine lv_iadd hx hb dL_law_744 ?_
  refine lv_topi (fun x1 ex1 => ?_)
  have t2 := addO ex1 (by have f0 := hi; have f1 := hL; have z1 : (1 : Int32).toInt = 1 := (by decide); omega)
  refine va_sld hx hb hX hbl hbA hS (vpo (by have f0 := t2; have f1 := hi; have f2 := hL; have g0 := rg32 x1; have z1 : (1 : Int32).toInt = 1 := (by decide); omega)) dL_law_745 ?_
  refine lv_topi (fun x3 ex3 => ?_)
  refine lv_aload_n hx hb dL_law_746 rfl (lv_at hl 3 rfl) ?_
  refine lv_iload_n hx hb dL_law_747 rfl (lv_at hl 0 rfl) ?_
  refine lv_iconst (v := 2) hx hb dL_law_748 (by decide) ?_
  refine lv_iadd hx hb dL_law_749 ?_
  refine lv_topi (fun x4 ex4 => ?_)
  have t5 := addO ex4 (by have f0 := hi; have f1 := hL; have f2 := t2; have z1 : (1 : Int32).toInt = 1 := (by decide); have z2 : (2 : Int32).toInt = 2 := (by decide); omega)
  refine va_sld hx hb hX hbl hbA hS (vpo (by have f0 := t5; have f1 := hi; have f2 := hL; have f3 := t2; have g0 := rg32 x4; have z1 : (1 : Int32).toInt = 1 := (by decide); have z2 : (2 : Int32).toInt = 2 := (by decide); omega)) dL_law_750 ?_
  refine lv_topi (fun x6 ex6 => ?_)
  have hSx : va_S (A8 cy g1 s.heap.size) s.heap H locs := by rw [hA8]; exact hS
  refine va_calli (va_runV (As := [.int x3, .int x6]) (rest := []) ⟨hx, hb, hml, hown, hts⟩ (m_X8_range l D cy g1 σ8 x3 x6 _ hJ8) (cwV 2 hts (gd_V q888 q889 q890 q125 q891) rfl rfl rfl (by decide +kernel) ⟨Nat.le_of_ble_eq_true rfl, Nat.le_of_ble_eq_true rfl⟩) (pv8 hP8 hK hD8 hC8 hSx (rv8_8 hK hP8)) rfl rfl hl.1 rfl (lv_room (Nat.le_of_ble_eq_true rfl)) dL_law_751 ⟨Nat.le_of_ble_eq_true rfl, Nat.le_of_ble_eq_true rfl⟩) hSx (fun q _ h => up8 hSx q h) (up8 hSx) (fun r7 υ8 tS H1 locs ht hvm hw9 hB hz1 hk1 hSy => ?_)
  have hP8 : va_P D clz (WD8 cy g1 υ8) H1 := by rw [← ht]; exact hB
  have hP9 := kp9 hDD hP9 hk1
  have hS : va_S (lawA s) s.heap H1 locs := by rw [← hA8]; exact hSy
  clear hB hz1 hk1 hvm ht hSx hSy
  generalize H1 = H at hP8 hP9 hS ⊢
  have hJ10 : J8 υ8 := hw9.2.1
  have hR11 : KP υ8 (σ9 9) := KP.fr8 hR (show Fr (fO [9]) σ8 υ8 from hw9.1) (by decide)
  refine lv_pop hx hb dL_law_754 rfl ?_
  refine lv_aload_n hx hb dL_law_755 rfl (lv_at hl 1 rfl) ?_
  refine lv_aload_n hx hb dL_law_756 rfl (lv_at hl 3 rfl) ?_
  refine lv_iload_n hx hb dL_law_757 rfl (lv_at hl 0 rfl) ?_
  refine lv_iconst (v := 1) hx hb dL_law_758 (by decide) ?_
  refine lv_iadd hx hb dL_law_759 ?_
  refine lv_topi (fun x12 ex12 => ?_)
  have t13 := addO ex12 (by have f0 := hi; have f1 := hL; have f2 := t2; have f3 := t5; have z1 : (1 : Int32).toInt = 1 := (by decide); have z2 : (2 : Int32).toInt = 2 := (by decide); omega)
  refine va_sld hx hb hX hbl hbA hS (vpo (by have f0 := t13; have f1 := hi; have f2 := hL; have f3 := t2; have f4 := t5; have g0 := rg32 x12; have z1 : (1 : Int32).toInt = 1 := (by decide); have z2 : (2 : Int32).toInt = 2 := (by decide); omega)) dL_law_760 ?_
  refine lv_topi (fun x14 ex14 => ?_)
  refine lv_aload_n hx hb dL_law_761 rfl (lv_at hl 3 rfl) ?_
  refine lv_iload_n hx hb dL_law_762 rfl (lv_at hl 0 rfl) ?_
  refine lv_iconst (v := 2) hx hb dL_law_763 (by decide) ?_
  refine lv_iadd hx hb dL_law_764 ?_
  refine lv_topi (fun x15 ex15 => ?_)
  have t16 := addO ex15 (by have f0 := hi; have f1 := hL; have f2 := t2; have f3 := t5; have f4 := t13; have z1 : (1 : Int32).toInt = 1 := (by decide); have z2 : (2 : Int32).toInt = 2 := (by decide); omega)
  refine va_sld hx hb hX hbl hbA hS (vpo (by have f0 := t16; have f1 := hi; have f2 := hL; have f3 := t2; have f4 := t5; have f5 := t13; have g0 := rg32 x15; have z1 : (1 : Int32).toInt = 1 := (by decide); have z2 : (2 : Int32).toInt = 2 := (by decide); omega)) dL_law_765 ?_
  refine lv_topi (fun x17 ex17 => ?_)
  have hSx : va_S (A9 cy g2 s.heap.size) s.heap H locs := by rw [hA9]; exact hS
  refine va_calli (va_runV (As := [.int x14, .int x17]) (rest := []) ⟨hx, hb, hml, hown, hts⟩ (m_X9_range l D cy g2 σ9 x14 x17 _ hJ9 (DKA.zero hDK)) (cwV 2 hts (gd_V q1810 q1811 q1812 q134 q1813) rfl rfl rfl (by decide +kernel) ⟨Nat.le_of_ble_eq_true rfl, Nat.le_of_ble_eq_true rfl⟩) (pv9 hP9 hK hD9 hC9 hSx (va_recv hK hP9 (ci := 9) (q0 := 0) rfl rfl)) rfl rfl hl.1 rfl (lv_room (Nat.le_of_ble_eq_true rfl)) dL_law_766 ⟨Nat.le_of_ble_eq_true rfl, Nat.le_of_ble_eq_true rfl⟩) hSx (fun q _ h => up9 hSx q h) (up9 hSx) (fun r18 υ19 tS H1 locs ht hvm hw20 hB hz1 hk1 hSy => ?_)
  have hP9 : va_P D clz (WD9 cy g2 υ19) H1 := by rw [← ht]; exact hB
  have hP8 := kp8 hDD hP8 hk1
  have hS : va_S (lawA s) s.heap H1 locs := by rw [← hA9]; exact hSy
  clear hB hz1 hk1 hvm ht hSx hSy
  generalize H1 = H at hP8 hP9 hS ⊢
  have hF21 : Fr (fL [0, 23, 24, 25, 26, 27]) σ9 υ19 := hw20.1
  have hJ22 : J9 (υ19 9) := hw20.2.1
  have hK23 : DKA (υ19 9) := DKA.mv hDK (hF21 9 17 rfl).2.2.1 (hF21 9 18 rfl).2.2.1 (hF21 9 19 rfl).2.2.1
  have hR24 : KP υ8 (υ19 9) := KP.fr9 hR11 (hF21 9 22 rfl).2.2.1
  refine lv_pop hx hb dL_law_769 rfl ?_
  refine lv_goto (tgt := 2411) hx hb dL_law_770 (by decide) ?_
  exact hnext _ _ _ _ _ hJ10 hJ22 hK23 hR24 hP8 hP9 hS hl

theorem q892 : Cond.methodLink RL 71 yX8_common ∈ lw_g := lw_gm (List.mem_of_getElem? (i := 892) (by decide +kernel)) rfl
theorem q893 : Cond.instanceMethod yX8_common ∈ lw_g := lw_gm (List.mem_of_getElem? (i := 893) (by decide +kernel)) rfl
theorem q894 : Cond.selects RX8 yX8_common yX8_common ∈ lw_g := lw_gm (List.mem_of_getElem? (i := 894) (by decide +kernel)) rfl
theorem q1814 : Cond.methodLink RL 74 yX9_common ∈ lw_g := lw_gm (List.mem_of_getElem? (i := 1814) (by decide +kernel)) rfl
theorem q1815 : Cond.instanceMethod yX9_common ∈ lw_g := lw_gm (List.mem_of_getElem? (i := 1815) (by decide +kernel)) rfl
theorem q1816 : Cond.selects RX9 yX9_common yX9_common ∈ lw_g := lw_gm (List.mem_of_getElem? (i := 1816) (by decide +kernel)) rfl
theorem dL_law_773 : decode cL_law 773 = .ok (.aload_n 1, 1) := by decide +kernel
theorem dL_law_774 : decode cL_law 774 = .ok (.aload_n 0, 1) := by decide +kernel
theorem dL_law_775 : decode cL_law 775 = .ok (.iload_n 3, 1) := by decide +kernel
theorem dL_law_776 : decode cL_law 776 = .ok (.iconst 1, 1) := by decide +kernel
theorem dL_law_777 : decode cL_law 777 = .ok (.iadd, 1) := by decide +kernel
theorem dL_law_778 : decode cL_law 778 = .ok (.iaload, 1) := by decide +kernel
theorem dL_law_779 : decode cL_law 779 = .ok (.aload_n 0, 1) := by decide +kernel
theorem dL_law_780 : decode cL_law 780 = .ok (.iload_n 3, 1) := by decide +kernel
theorem dL_law_781 : decode cL_law 781 = .ok (.iconst 2, 1) := by decide +kernel
theorem dL_law_782 : decode cL_law 782 = .ok (.iadd, 1) := by decide +kernel
theorem dL_law_783 : decode cL_law 783 = .ok (.iaload, 1) := by decide +kernel
theorem dL_law_784 : decode cL_law 784 = .ok (.invokevirtual 71, 3) := by decide +kernel
theorem dL_law_787 : decode cL_law 787 = .ok (.pop, 1) := by decide +kernel
theorem dL_law_788 : decode cL_law 788 = .ok (.aload_n 2, 1) := by decide +kernel
theorem dL_law_789 : decode cL_law 789 = .ok (.aload_n 0, 1) := by decide +kernel
theorem dL_law_790 : decode cL_law 790 = .ok (.iload_n 3, 1) := by decide +kernel
theorem dL_law_791 : decode cL_law 791 = .ok (.iconst 1, 1) := by decide +kernel
theorem dL_law_792 : decode cL_law 792 = .ok (.iadd, 1) := by decide +kernel
theorem dL_law_793 : decode cL_law 793 = .ok (.iaload, 1) := by decide +kernel
theorem dL_law_794 : decode cL_law 794 = .ok (.aload_n 0, 1) := by decide +kernel
theorem dL_law_795 : decode cL_law 795 = .ok (.iload_n 3, 1) := by decide +kernel
theorem dL_law_796 : decode cL_law 796 = .ok (.iconst 2, 1) := by decide +kernel
theorem dL_law_797 : decode cL_law 797 = .ok (.iadd, 1) := by decide +kernel
theorem dL_law_798 : decode cL_law 798 = .ok (.iaload, 1) := by decide +kernel
theorem dL_law_799 : decode cL_law 799 = .ok (.invokevirtual 74, 3) := by decide +kernel
theorem dL_law_802 : decode cL_law 802 = .ok (.pop, 1) := by decide +kernel
theorem dL_law_803 : decode cL_law 803 = .ok (.goto 1608, 3) := by decide +kernel
set_option maxHeartbeats 4000000 in
set_option maxRecDepth 100000 in
theorem lawc_13 {p : Program} {l : Launch} {e : Env} {s : State} {m : MethodId} {below : List Frame} {meth : Method} {c : Code} {b L : Nat} {xs : Nat → Int32} {D : va_G} {cy : Nat → ClassId} {g1 g2 : Nat → Nat} (X : LX p s m meth c b L xs D cy g1 g2) (hL : L ≤ 3072) {i : Int32} (hi : (0 : Int) ≤ i.toInt ∧ i.toInt + 6 ≤ (L : Int)) (hnext : (∀ (σ8 σ9 : ST) (H : Heap) (locs : List Loc) (ls : Array Slot), J8 σ8 → J9 (σ9 9) → DKA (σ9 9) → KP σ8 (σ9 9) → va_P D clz (WD8 cy g1 σ8) H → va_P D clz (WD9 cy g2 σ9) H → va_S (lawA s) s.heap H locs → lv_has ls 4 [(3, .int i), (2, .ref (g2 60)), (1, .ref (gO g1 17)), (0, .ref b)] → W p l e room_1 s m #[Value.ref b] below meth c H locs 200 700000 (lw_Z below #[Value.ref b] s) (F0 m 2411 ls []))) (σ8 σ9 : ST) (H : Heap) (locs : List Loc) (ls : Array Slot) (hJ8 : J8 σ8) (hJ9 : J9 (σ9 9)) (hDK : DKA (σ9 9)) (hR : KP σ8 (σ9 9)) (hP8 : va_P D clz (WD8 cy g1 σ8) H) (hP9 : va_P D clz (WD9 cy g2 σ9) H) (hS : va_S (lawA s) s.heap H locs) (hl : lv_has ls 4 [(3, .int i), (2, .ref (g2 60)), (1, .ref (gO g1 17)), (0, .ref b)]) : W p l e room_1 s m #[Value.ref b] below meth c H locs 200 700000 (lw_Z below #[Value.ref b] s) (F0 m 773 ls []) := by
  obtain ⟨⟨hx, hb, hr, hml, hown0, hts0, hX, hbl, hlocks, hgv⟩, hK, hDD, hC8, hC9⟩ := X
  have hown : s.vm.findClass RL = some m.cls := hown0
  have hts : ∀ w ∈ lw_g, w.before #[Value.ref b] s = true := fun w h => hts0 w (lw_gt h)
  have hbA : ¬ lawA s b := Nat.not_le.mpr hbl
  have hA8 := A8_law hDD
  have hA9 := A9_law hDD
  have hD8 : ∀ τ : ST, va_D (A8 cy g1 s.heap.size) (WD8 cy g1 τ) := fun τ => by rw [hA8]; exact map_D WD8_m (D_l hDD)
  have hD9 : ∀ τ : ST, va_D (A9 cy g2 s.heap.size) (WD9 cy g2 τ) := fun τ => by rw [hA9]; exact map_D WD9_m (D_r hDD)
  rw [← hA8] at hC8
  rw [← hA9] at hC9
  refine lv_aload_n hx hb dL_law_773 rfl (lv_at hl 2 rfl) ?_
  refine lv_aload_n hx hb dL_law_774 rfl (lv_at hl 3 rfl) ?_
  refine lv_iload_n hx hb dL_law_775 rfl (lv_at hl 0 rfl) ?_
  refine lv_iconst (v := 1) hx hb dL_law_776 (by decide) ?_
  refine lv_iadd hx hb dL_law_777 ?_
  refine lv_topi (fun x1 ex1 => ?_)
  have t2 := addO ex1 (by have f0 := hi; have f1 := hL; have z1 : (1 : Int32).toInt = 1 := (by decide); omega)
  refine va_sld hx hb hX hbl hbA hS (vpo (by have f0 := t2; have f1 := hi; have f2 := hL; have g0 := rg32 x1; have z1 : (1 : Int32).toInt = 1 := (by decide); omega)) dL_law_778 ?_
  refine lv_topi (fun x3 ex3 => ?_)
  refine lv_aload_n hx hb dL_law_779 rfl (lv_at hl 3 rfl) ?_
  refine lv_iload_n hx hb dL_law_780 rfl (lv_at hl 0 rfl) ?_
  refine lv_iconst (v := 2) hx hb dL_law_781 (by decide) ?_
  refine lv_iadd hx hb dL_law_782 ?_
  refine lv_topi (fun x4 ex4 => ?_)
  have t5 := addO ex4 (by have f0 := hi; have f1 := hL; have f2 := t2; have z1 : (1 : Int32).toInt = 1 := (by decide); have z2 : (2 : Int32).toInt = 2 := (by decide); omega)
  refine va_sld hx hb hX hbl hbA hS (vpo (by have f0 := t5; have f1 := hi; have f2 := hL; have f3 := t2; have g0 := rg32 x4; have z1 : (1 : Int32).toInt = 1 := (by decide); have z2 : (2 : Int32).toInt = 2 := (by decide); omega)) dL_law_783 ?_
  refine lv_topi (fun x6 ex6 => ?_)
  have hSx : va_S (A8 cy g1 s.heap.size) s.heap H locs := by rw [hA8]; exact hS
  refine va_calli (va_runV (As := [.int x3, .int x6]) (rest := []) ⟨hx, hb, hml, hown, hts⟩ (m_X8_common l D cy g1 σ8 x3 x6 _ hJ8) (cwV 2 hts (gd_V q892 q893 q894 q125 q895) rfl rfl rfl (by decide +kernel) ⟨Nat.le_of_ble_eq_true rfl, Nat.le_of_ble_eq_true rfl⟩) (pv8 hP8 hK hD8 hC8 hSx (rv8_8 hK hP8)) rfl rfl hl.1 rfl (lv_room (Nat.le_of_ble_eq_true rfl)) dL_law_784 ⟨Nat.le_of_ble_eq_true rfl, Nat.le_of_ble_eq_true rfl⟩) hSx (fun q _ h => up8 hSx q h) (up8 hSx) (fun r7 υ8 tS H1 locs ht hvm hw9 hB hz1 hk1 hSy => ?_)
  have hP8 : va_P D clz (WD8 cy g1 υ8) H1 := by rw [← ht]; exact hB
  have hP9 := kp9 hDD hP9 hk1
  have hS : va_S (lawA s) s.heap H1 locs := by rw [← hA8]; exact hSy
  clear hB hz1 hk1 hvm ht hSx hSy
  generalize H1 = H at hP8 hP9 hS ⊢
  have hJ10 : J8 υ8 := hw9.2.1
  have hR11 : KP υ8 (σ9 9) := KP.fr8 hR (show Fr (fO [10, 9]) σ8 υ8 from hw9.1) (by decide)
  refine lv_pop hx hb dL_law_787 rfl ?_
  refine lv_aload_n hx hb dL_law_788 rfl (lv_at hl 1 rfl) ?_
  refine lv_aload_n hx hb dL_law_789 rfl (lv_at hl 3 rfl) ?_
  refine lv_iload_n hx hb dL_law_790 rfl (lv_at hl 0 rfl) ?_
  refine lv_iconst (v := 1) hx hb dL_law_791 (by decide) ?_
  refine lv_iadd hx hb dL_law_792 ?_
  refine lv_topi (fun x12 ex12 => ?_)
  have t13 := addO ex12 (by have f0 := hi; have f1 := hL; have f2 := t2; have f3 := t5; have z1 : (1 : Int32).toInt = 1 := (by decide); have z2 : (2 : Int32).toInt = 2 := (by decide); omega)
  refine va_sld hx hb hX hbl hbA hS (vpo (by have f0 := t13; have f1 := hi; have f2 := hL; have f3 := t2; have f4 := t5; have g0 := rg32 x12; have z1 : (1 : Int32).toInt = 1 := (by decide); have z2 : (2 : Int32).toInt = 2 := (by decide); omega)) dL_law_793 ?_
  refine lv_topi (fun x14 ex14 => ?_)
  refine lv_aload_n hx hb dL_law_794 rfl (lv_at hl 3 rfl) ?_
  refine lv_iload_n hx hb dL_law_795 rfl (lv_at hl 0 rfl) ?_
  refine lv_iconst (v := 2) hx hb dL_law_796 (by decide) ?_
  refine lv_iadd hx hb dL_law_797 ?_
  refine lv_topi (fun x15 ex15 => ?_)
  have t16 := addO ex15 (by have f0 := hi; have f1 := hL; have f2 := t2; have f3 := t5; have f4 := t13; have z1 : (1 : Int32).toInt = 1 := (by decide); have z2 : (2 : Int32).toInt = 2 := (by decide); omega)
  refine va_sld hx hb hX hbl hbA hS (vpo (by have f0 := t16; have f1 := hi; have f2 := hL; have f3 := t2; have f4 := t5; have f5 := t13; have g0 := rg32 x15; have z1 : (1 : Int32).toInt = 1 := (by decide); have z2 : (2 : Int32).toInt = 2 := (by decide); omega)) dL_law_798 ?_
  refine lv_topi (fun x17 ex17 => ?_)
  have hSx : va_S (A9 cy g2 s.heap.size) s.heap H locs := by rw [hA9]; exact hS
  refine va_calli (va_runV (As := [.int x14, .int x17]) (rest := []) ⟨hx, hb, hml, hown, hts⟩ (m_X9_common l D cy g2 σ9 x14 x17 _ hJ9 (DKA.zero hDK)) (cwV 2 hts (gd_V q1814 q1815 q1816 q134 q1817) rfl rfl rfl (by decide +kernel) ⟨Nat.le_of_ble_eq_true rfl, Nat.le_of_ble_eq_true rfl⟩) (pv9 hP9 hK hD9 hC9 hSx (va_recv hK hP9 (ci := 9) (q0 := 0) rfl rfl)) rfl rfl hl.1 rfl (lv_room (Nat.le_of_ble_eq_true rfl)) dL_law_799 ⟨Nat.le_of_ble_eq_true rfl, Nat.le_of_ble_eq_true rfl⟩) hSx (fun q _ h => up9 hSx q h) (up9 hSx) (fun r18 υ19 tS H1 locs ht hvm hw20 hB hz1 hk1 hSy => ?_)
  have hP9 : va_P D clz (WD9 cy g2 υ19) H1 := by rw [← ht]; exact hB
  have hP8 := kp8 hDD hP8 hk1
  have hS : va_S (lawA s) s.heap H1 locs := by rw [← hA9]; exact hSy
  clear hB hz1 hk1 hvm ht hSx hSy
  generalize H1 = H at hP8 hP9 hS ⊢
  have hF21 : Fr (fL [0, 23, 24, 25, 26, 27]) σ9 υ19 := hw20.1
  have hJ22 : J9 (υ19 9) := hw20.2.1
  have hK23 : DKA (υ19 9) := DKA.mv hDK (hF21 9 17 rfl).2.2.1 (hF21 9 18 rfl).2.2.1 (hF21 9 19 rfl).2.2.1
  have hR24 : KP υ8 (υ19 9) := KP.fr9 hR11 (hF21 9 22 rfl).2.2.1
  refine lv_pop hx hb dL_law_802 rfl ?_
  refine lv_goto (tgt := 2411) hx hb dL_law_803 (by decide) ?_
  exact hnext _ _ _ _ _ hJ10 hJ22 hK23 hR24 hP8 hP9 hS hl

theorem q896 : Cond.methodLink RL 75 yX8_move ∈ lw_g := lw_gm (List.mem_of_getElem? (i := 896) (by decide +kernel)) rfl
theorem q897 : Cond.instanceMethod yX8_move ∈ lw_g := lw_gm (List.mem_of_getElem? (i := 897) (by decide +kernel)) rfl
theorem q898 : Cond.selects RX8 yX8_move yX8_move ∈ lw_g := lw_gm (List.mem_of_getElem? (i := 898) (by decide +kernel)) rfl
theorem q1786 : Cond.methodLink RL 78 yX9_move ∈ lw_g := lw_gm (List.mem_of_getElem? (i := 1786) (by decide +kernel)) rfl
theorem q1787 : Cond.instanceMethod yX9_move ∈ lw_g := lw_gm (List.mem_of_getElem? (i := 1787) (by decide +kernel)) rfl
theorem q1788 : Cond.selects RX9 yX9_move yX9_move ∈ lw_g := lw_gm (List.mem_of_getElem? (i := 1788) (by decide +kernel)) rfl
theorem dL_law_806 : decode cL_law 806 = .ok (.aload_n 1, 1) := by decide +kernel
theorem dL_law_807 : decode cL_law 807 = .ok (.aload_n 0, 1) := by decide +kernel
theorem dL_law_808 : decode cL_law 808 = .ok (.iload_n 3, 1) := by decide +kernel
theorem dL_law_809 : decode cL_law 809 = .ok (.iconst 1, 1) := by decide +kernel
theorem dL_law_810 : decode cL_law 810 = .ok (.iadd, 1) := by decide +kernel
theorem dL_law_811 : decode cL_law 811 = .ok (.iaload, 1) := by decide +kernel
theorem dL_law_812 : decode cL_law 812 = .ok (.aload_n 0, 1) := by decide +kernel
theorem dL_law_813 : decode cL_law 813 = .ok (.iload_n 3, 1) := by decide +kernel
theorem dL_law_814 : decode cL_law 814 = .ok (.iconst 2, 1) := by decide +kernel
theorem dL_law_815 : decode cL_law 815 = .ok (.iadd, 1) := by decide +kernel
theorem dL_law_816 : decode cL_law 816 = .ok (.iaload, 1) := by decide +kernel
theorem dL_law_817 : decode cL_law 817 = .ok (.aload_n 0, 1) := by decide +kernel
theorem dL_law_818 : decode cL_law 818 = .ok (.iload_n 3, 1) := by decide +kernel
theorem dL_law_819 : decode cL_law 819 = .ok (.iconst 3, 1) := by decide +kernel
theorem dL_law_820 : decode cL_law 820 = .ok (.iadd, 1) := by decide +kernel
theorem dL_law_821 : decode cL_law 821 = .ok (.iaload, 1) := by decide +kernel
theorem dL_law_822 : decode cL_law 822 = .ok (.invokevirtual 75, 3) := by decide +kernel
theorem dL_law_825 : decode cL_law 825 = .ok (.pop, 1) := by decide +kernel
theorem dL_law_826 : decode cL_law 826 = .ok (.aload_n 2, 1) := by decide +kernel
theorem dL_law_827 : decode cL_law 827 = .ok (.aload_n 0, 1) := by decide +kernel
theorem dL_law_828 : decode cL_law 828 = .ok (.iload_n 3, 1) := by decide +kernel
theorem dL_law_829 : decode cL_law 829 = .ok (.iconst 1, 1) := by decide +kernel
theorem dL_law_830 : decode cL_law 830 = .ok (.iadd, 1) := by decide +kernel
theorem dL_law_831 : decode cL_law 831 = .ok (.iaload, 1) := by decide +kernel
theorem dL_law_832 : decode cL_law 832 = .ok (.aload_n 0, 1) := by decide +kernel
theorem dL_law_833 : decode cL_law 833 = .ok (.iload_n 3, 1) := by decide +kernel
theorem dL_law_834 : decode cL_law 834 = .ok (.iconst 2, 1) := by decide +kernel
theorem dL_law_835 : decode cL_law 835 = .ok (.iadd, 1) := by decide +kernel
theorem dL_law_836 : decode cL_law 836 = .ok (.iaload, 1) := by decide +kernel
theorem dL_law_837 : decode cL_law 837 = .ok (.aload_n 0, 1) := by decide +kernel
theorem dL_law_838 : decode cL_law 838 = .ok (.iload_n 3, 1) := by decide +kernel
theorem dL_law_839 : decode cL_law 839 = .ok (.iconst 3, 1) := by decide +kernel
theorem dL_law_840 : decode cL_law 840 = .ok (.iadd, 1) := by decide +kernel
theorem dL_law_841 : decode cL_law 841 = .ok (.iaload, 1) := by decide +kernel
theorem dL_law_842 : decode cL_law 842 = .ok (.invokevirtual 78, 3) := by decide +kernel
theorem dL_law_845 : decode cL_law 845 = .ok (.pop, 1) := by decide +kernel
theorem dL_law_846 : decode cL_law 846 = .ok (.goto 1565, 3) := by decide +kernel
set_option maxHeartbeats 4000000 in
set_option maxRecDepth 100000 in
theorem lawc_14 {p : Program} {l : Launch} {e : Env} {s : State} {m : MethodId} {below : List Frame} {meth : Method} {c : Code} {b L : Nat} {xs : Nat → Int32} {D : va_G} {cy : Nat → ClassId} {g1 g2 : Nat → Nat} (X : LX p s m meth c b L xs D cy g1 g2) (hL : L ≤ 3072) {i : Int32} (hi : (0 : Int) ≤ i.toInt ∧ i.toInt + 6 ≤ (L : Int)) (hnext : (∀ (σ8 σ9 : ST) (H : Heap) (locs : List Loc) (ls : Array Slot), J8 σ8 → J9 (σ9 9) → DKA (σ9 9) → KP σ8 (σ9 9) → va_P D clz (WD8 cy g1 σ8) H → va_P D clz (WD9 cy g2 σ9) H → va_S (lawA s) s.heap H locs → lv_has ls 4 [(3, .int i), (2, .ref (g2 60)), (1, .ref (gO g1 17)), (0, .ref b)] → W p l e room_1 s m #[Value.ref b] below meth c H locs 200 700000 (lw_Z below #[Value.ref b] s) (F0 m 2411 ls []))) (σ8 σ9 : ST) (H : Heap) (locs : List Loc) (ls : Array Slot) (hJ8 : J8 σ8) (hJ9 : J9 (σ9 9)) (hDK : DKA (σ9 9)) (hR : KP σ8 (σ9 9)) (hP8 : va_P D clz (WD8 cy g1 σ8) H) (hP9 : va_P D clz (WD9 cy g2 σ9) H) (hS : va_S (lawA s) s.heap H locs) (hl : lv_has ls 4 [(3, .int i), (2, .ref (g2 60)), (1, .ref (gO g1 17)), (0, .ref b)]) : W p l e room_1 s m #[Value.ref b] below meth c H locs 200 700000 (lw_Z below #[Value.ref b] s) (F0 m 806 ls []) := by
  obtain ⟨⟨hx, hb, hr, hml, hown0, hts0, hX, hbl, hlocks, hgv⟩, hK, hDD, hC8, hC9⟩ := X
  have hown : s.vm.findClass RL = some m.cls := hown0
  have hts : ∀ w ∈ lw_g, w.before #[Value.ref b] s = true := fun w h => hts0 w (lw_gt h)
  have hbA : ¬ lawA s b := Nat.not_le.mpr hbl
  have hA8 := A8_law hDD
  have hA9 := A9_law hDD
  have hD8 : ∀ τ : ST, va_D (A8 cy g1 s.heap.size) (WD8 cy g1 τ) := fun τ => by rw [hA8]; exact map_D WD8_m (D_l hDD)
  have hD9 : ∀ τ : ST, va_D (A9 cy g2 s.heap.size) (WD9 cy g2 τ) := fun τ => by rw [hA9]; exact map_D WD9_m (D_r hDD)
  rw [← hA8] at hC8
  rw [← hA9] at hC9
  refine lv_aload_n hx hb dL_law_806 rfl (lv_at hl 2 rfl) ?_
  refine lv_aload_n hx hb dL_law_807 rfl (lv_at hl 3 rfl) ?_
  refine lv_iload_n hx hb dL_law_808 rfl (lv_at hl 0 rfl) ?_
  refine lv_iconst (v := 1) hx hb dL_law_809 (by decide) ?_
  refine lv_iadd hx hb dL_law_810 ?_
  refine lv_topi (fun x1 ex1 => ?_)
  have t2 := addO ex1 (by have f0 := hi; have f1 := hL; have z1 : (1 : Int32).toInt = 1 := (by decide); omega)
  refine va_sld hx hb hX hbl hbA hS (vpo (by have f0 := t2; have f1 := hi; have f2 := hL; have g0 := rg32 x1; have z1 : (1 : Int32).toInt = 1 := (by decide); omega)) dL_law_811 ?_
  refine lv_topi (fun x3 ex3 => ?_)
  refine lv_aload_n hx hb dL_law_812 rfl (lv_at hl 3 rfl) ?_
  refine lv_iload_n hx hb dL_law_813 rfl (lv_at hl 0 rfl) ?_
  refine lv_iconst (v := 2) hx hb dL_law_814 (by decide) ?_
  refine lv_iadd hx hb dL_law_815 ?_
  refine lv_topi (fun x4 ex4 => ?_)
  have t5 := addO ex4 (by have f0 := hi; have f1 := hL; have f2 := t2; have z1 : (1 : Int32).toInt = 1 := (by decide); have z2 : (2 : Int32).toInt = 2 := (by decide); omega)
  refine va_sld hx hb hX hbl hbA hS (vpo (by have f0 := t5; have f1 := hi; have f2 := hL; have f3 := t2; have g0 := rg32 x4; have z1 : (1 : Int32).toInt = 1 := (by decide); have z2 : (2 : Int32).toInt = 2 := (by decide); omega)) dL_law_816 ?_
  refine lv_topi (fun x6 ex6 => ?_)
  refine lv_aload_n hx hb dL_law_817 rfl (lv_at hl 3 rfl) ?_
  refine lv_iload_n hx hb dL_law_818 rfl (lv_at hl 0 rfl) ?_
  refine lv_iconst (v := 3) hx hb dL_law_819 (by decide) ?_
  refine lv_iadd hx hb dL_law_820 ?_
  refine lv_topi (fun x7 ex7 => ?_)
  have t8 := addO ex7 (by have f0 := hi; have f1 := hL; have f2 := t2; have f3 := t5; have z1 : (1 : Int32).toInt = 1 := (by decide); have z2 : (2 : Int32).toInt = 2 := (by decide); have z3 : (3 : Int32).toInt = 3 := (by decide); omega)
  refine va_sld hx hb hX hbl hbA hS (vpo (by have f0 := t8; have f1 := hi; have f2 := hL; have f3 := t2; have f4 := t5; have g0 := rg32 x7; have z1 : (1 : Int32).toInt = 1 := (by decide); have z2 : (2 : Int32).toInt = 2 := (by decide); have z3 : (3 : Int32).toInt = 3 := (by decide); omega)) dL_law_821 ?_
  refine lv_topi (fun x9 ex9 => ?_)
  have hSx : va_S (A8 cy g1 s.heap.size) s.heap H locs := by rw [hA8]; exact hS
  refine va_calli (va_runV (As := [.int x3, .int x6, .int x9]) (rest := []) ⟨hx, hb, hml, hown, hts⟩ (m_X8_move l D cy g1 σ8 x3 x6 x9 _ hJ8) (cwV 3 hts (gd_V q896 q897 q898 q125 q899) rfl rfl rfl (by decide +kernel) ⟨Nat.le_of_ble_eq_true rfl, Nat.le_of_ble_eq_true rfl⟩) (pv8 hP8 hK hD8 hC8 hSx (rv8_8 hK hP8)) rfl rfl hl.1 rfl (lv_room (Nat.le_of_ble_eq_true rfl)) dL_law_822 ⟨Nat.le_of_ble_eq_true rfl, Nat.le_of_ble_eq_true rfl⟩) hSx (fun q _ h => up8 hSx q h) (up8 hSx) (fun r10 υ11 tS H1 locs ht hvm hw12 hB hz1 hk1 hSy => ?_)
  have hP8 : va_P D clz (WD8 cy g1 υ11) H1 := by rw [← ht]; exact hB
  have hP9 := kp9 hDD hP9 hk1
  have hS : va_S (lawA s) s.heap H1 locs := by rw [← hA8]; exact hSy
  clear hB hz1 hk1 hvm ht hSx hSy
  generalize H1 = H at hP8 hP9 hS ⊢
  have hJ13 : J8 υ11 := hw12.2.1
  have hR14 : KP υ11 (σ9 9) := KP.fr8 hR (show Fr (fO [9]) σ8 υ11 from hw12.1) (by decide)
  refine lv_pop hx hb dL_law_825 rfl ?_
  refine lv_aload_n hx hb dL_law_826 rfl (lv_at hl 1 rfl) ?_
  refine lv_aload_n hx hb dL_law_827 rfl (lv_at hl 3 rfl) ?_
  refine lv_iload_n hx hb dL_law_828 rfl (lv_at hl 0 rfl) ?_
  refine lv_iconst (v := 1) hx hb dL_law_829 (by decide) ?_
  refine lv_iadd hx hb dL_law_830 ?_
  refine lv_topi (fun x15 ex15 => ?_)
  have t16 := addO ex15 (by have f0 := hi; have f1 := hL; have f2 := t2; have f3 := t5; have f4 := t8; have z1 : (1 : Int32).toInt = 1 := (by decide); have z2 : (2 : Int32).toInt = 2 := (by decide); have z3 : (3 : Int32).toInt = 3 := (by decide); omega)
  refine va_sld hx hb hX hbl hbA hS (vpo (by have f0 := t16; have f1 := hi; have f2 := hL; have f3 := t2; have f4 := t5; have f5 := t8; have g0 := rg32 x15; have z1 : (1 : Int32).toInt = 1 := (by decide); have z2 : (2 : Int32).toInt = 2 := (by decide); have z3 : (3 : Int32).toInt = 3 := (by decide); omega)) dL_law_831 ?_
  refine lv_topi (fun x17 ex17 => ?_)
  refine lv_aload_n hx hb dL_law_832 rfl (lv_at hl 3 rfl) ?_
  refine lv_iload_n hx hb dL_law_833 rfl (lv_at hl 0 rfl) ?_
  refine lv_iconst (v := 2) hx hb dL_law_834 (by decide) ?_
  refine lv_iadd hx hb dL_law_835 ?_
  refine lv_topi (fun x18 ex18 => ?_)
  have t19 := addO ex18 (by have f0 := hi; have f1 := hL; have f2 := t2; have f3 := t5; have f4 := t8; have f5 := t16; have z1 : (1 : Int32).toInt = 1 := (by decide); have z2 : (2 : Int32).toInt = 2 := (by decide); have z3 : (3 : Int32).toInt = 3 := (by decide); omega)
  refine va_sld hx hb hX hbl hbA hS (vpo (by have f0 := t19; have f1 := hi; have f2 := hL; have f3 := t2; have f4 := t5; have f5 := t8; have f6 := t16; have g0 := rg32 x18; have z1 : (1 : Int32).toInt = 1 := (by decide); have z2 : (2 : Int32).toInt = 2 := (by decide); have z3 : (3 : Int32).toInt = 3 := (by decide); omega)) dL_law_836 ?_
  refine lv_topi (fun x20 ex20 => ?_)
  refine lv_aload_n hx hb dL_law_837 rfl (lv_at hl 3 rfl) ?_
  refine lv_iload_n hx hb dL_law_838 rfl (lv_at hl 0 rfl) ?_
  refine lv_iconst (v := 3) hx hb dL_law_839 (by decide) ?_
  refine lv_iadd hx hb dL_law_840 ?_
  refine lv_topi (fun x21 ex21 => ?_)
  have t22 := addO ex21 (by have f0 := hi; have f1 := hL; have f2 := t2; have f3 := t5; have f4 := t8; have f5 := t16; have f6 := t19; have z1 : (1 : Int32).toInt = 1 := (by decide); have z2 : (2 : Int32).toInt = 2 := (by decide); have z3 : (3 : Int32).toInt = 3 := (by decide); omega)
  refine va_sld hx hb hX hbl hbA hS (vpo (by have f0 := t22; have f1 := hi; have f2 := hL; have f3 := t2; have f4 := t5; have f5 := t8; have f6 := t16; have f7 := t19; have g0 := rg32 x21; have z1 : (1 : Int32).toInt = 1 := (by decide); have z2 : (2 : Int32).toInt = 2 := (by decide); have z3 : (3 : Int32).toInt = 3 := (by decide); omega)) dL_law_841 ?_
  refine lv_topi (fun x23 ex23 => ?_)
  have hSx : va_S (A9 cy g2 s.heap.size) s.heap H locs := by rw [hA9]; exact hS
  refine va_calli (va_runV (As := [.int x17, .int x20, .int x23]) (rest := []) ⟨hx, hb, hml, hown, hts⟩ (m_X9_move l D cy g2 σ9 x17 x20 x23 _ hJ9 ) (cwV 3 hts (gd_V q1786 q1787 q1788 q134 q1789) rfl rfl rfl (by decide +kernel) ⟨Nat.le_of_ble_eq_true rfl, Nat.le_of_ble_eq_true rfl⟩) (pv9 hP9 hK hD9 hC9 hSx (va_recv hK hP9 (ci := 9) (q0 := 0) rfl rfl)) rfl rfl hl.1 rfl (lv_room (Nat.le_of_ble_eq_true rfl)) dL_law_842 ⟨Nat.le_of_ble_eq_true rfl, Nat.le_of_ble_eq_true rfl⟩) hSx (fun q _ h => up9 hSx q h) (up9 hSx) (fun r24 υ25 tS H1 locs ht hvm hw26 hB hz1 hk1 hSy => ?_)
  have hP9 : va_P D clz (WD9 cy g2 υ25) H1 := by rw [← ht]; exact hB
  have hP8 := kp8 hDD hP8 hk1
  have hS : va_S (lawA s) s.heap H1 locs := by rw [← hA9]; exact hSy
  clear hB hz1 hk1 hvm ht hSx hSy
  generalize H1 = H at hP8 hP9 hS ⊢
  have hF27 : Fr (fL [0]) σ9 υ25 := hw26.1
  have hJ28 : J9 (υ25 9) := hw26.2.1
  have hK29 : DKA (υ25 9) := DKA.mv hDK (hF27 9 17 rfl).2.2.1 (hF27 9 18 rfl).2.2.1 (hF27 9 19 rfl).2.2.1
  have hR30 : KP υ11 (υ25 9) := KP.fr9 hR14 (hF27 9 22 rfl).2.2.1
  refine lv_pop hx hb dL_law_845 rfl ?_
  refine lv_goto (tgt := 2411) hx hb dL_law_846 (by decide) ?_
  exact hnext _ _ _ _ _ hJ13 hJ28 hK29 hR30 hP8 hP9 hS hl

