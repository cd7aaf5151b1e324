theorem q788 : Cond.methodLink RL 211 yX8_slur ∈ lw_g := lw_gm (List.mem_of_getElem? (i := 788) (by decide +kernel)) rfl
theorem q789 : Cond.instanceMethod yX8_slur ∈ lw_g := lw_gm (List.mem_of_getElem? (i := 789) (by decide +kernel)) rfl
theorem q790 : Cond.selects RX8 yX8_slur yX8_slur ∈ lw_g := lw_gm (List.mem_of_getElem? (i := 790) (by decide +kernel)) rfl
theorem q2120 : Cond.methodLink RL 214 yX9_slur ∈ lw_g := lw_gm (List.mem_of_getElem? (i := 2120) (by decide +kernel)) rfl
theorem q2121 : Cond.instanceMethod yX9_slur ∈ lw_g := lw_gm (List.mem_of_getElem? (i := 2121) (by decide +kernel)) rfl
theorem q2122 : Cond.selects RX9 yX9_slur yX9_slur ∈ lw_g := lw_gm (List.mem_of_getElem? (i := 2122) (by decide +kernel)) rfl
theorem dL_law_2018 : decode cL_law 2018 = .ok (.aload_n 1, 1) := by decide +kernel
theorem dL_law_2019 : decode cL_law 2019 = .ok (.aload_n 0, 1) := by decide +kernel
theorem dL_law_2020 : decode cL_law 2020 = .ok (.iload_n 3, 1) := by decide +kernel
theorem dL_law_2021 : decode cL_law 2021 = .ok (.iconst 1, 1) := by decide +kernel
theorem dL_law_2022 : decode cL_law 2022 = .ok (.iadd, 1) := by decide +kernel
theorem dL_law_2023 : decode cL_law 2023 = .ok (.iaload, 1) := by decide +kernel
theorem dL_law_2024 : decode cL_law 2024 = .ok (.aload_n 0, 1) := by decide +kernel
theorem dL_law_2025 : decode cL_law 2025 = .ok (.iload_n 3, 1) := by decide +kernel
theorem dL_law_2026 : decode cL_law 2026 = .ok (.iconst 2, 1) := by decide +kernel
theorem dL_law_2027 : decode cL_law 2027 = .ok (.iadd, 1) := by decide +kernel
theorem dL_law_2028 : decode cL_law 2028 = .ok (.iaload, 1) := by decide +kernel
theorem dL_law_2029 : decode cL_law 2029 = .ok (.aload_n 0, 1) := by decide +kernel
theorem dL_law_2030 : decode cL_law 2030 = .ok (.iload_n 3, 1) := by decide +kernel
theorem dL_law_2031 : decode cL_law 2031 = .ok (.iconst 3, 1) := by decide +kernel
theorem dL_law_2032 : decode cL_law 2032 = .ok (.iadd, 1) := by decide +kernel
theorem dL_law_2033 : decode cL_law 2033 = .ok (.iaload, 1) := by decide +kernel
theorem dL_law_2034 : decode cL_law 2034 = .ok (.invokevirtual 211, 3) := by decide +kernel
theorem dL_law_2037 : decode cL_law 2037 = .ok (.aload_n 2, 1) := by decide +kernel
theorem dL_law_2038 : decode cL_law 2038 = .ok (.aload_n 0, 1) := by decide +kernel
theorem dL_law_2039 : decode cL_law 2039 = .ok (.iload_n 3, 1) := by decide +kernel
theorem dL_law_2040 : decode cL_law 2040 = .ok (.iconst 1, 1) := by decide +kernel
theorem dL_law_2041 : decode cL_law 2041 = .ok (.iadd, 1) := by decide +kernel
theorem dL_law_2042 : decode cL_law 2042 = .ok (.iaload, 1) := by decide +kernel
theorem dL_law_2043 : decode cL_law 2043 = .ok (.aload_n 0, 1) := by decide +kernel
theorem dL_law_2044 : decode cL_law 2044 = .ok (.iload_n 3, 1) := by decide +kernel
theorem dL_law_2045 : decode cL_law 2045 = .ok (.iconst 2, 1) := by decide +kernel
theorem dL_law_2046 : decode cL_law 2046 = .ok (.iadd, 1) := by decide +kernel
theorem dL_law_2047 : decode cL_law 2047 = .ok (.iaload, 1) := by decide +kernel
theorem dL_law_2048 : decode cL_law 2048 = .ok (.aload_n 0, 1) := by decide +kernel
theorem dL_law_2049 : decode cL_law 2049 = .ok (.iload_n 3, 1) := by decide +kernel
theorem dL_law_2050 : decode cL_law 2050 = .ok (.iconst 3, 1) := by decide +kernel
theorem dL_law_2051 : decode cL_law 2051 = .ok (.iadd, 1) := by decide +kernel
theorem dL_law_2052 : decode cL_law 2052 = .ok (.iaload, 1) := by decide +kernel
theorem dL_law_2053 : decode cL_law 2053 = .ok (.invokevirtual 214, 3) := by decide +kernel
theorem dL_law_2056 : decode cL_law 2056 = .ok (.if_icmp .eq 355, 3) := by decide +kernel
set_option maxHeartbeats 4000000 in
set_option maxRecDepth 100000 in
theorem lawc_slur {p : Program} {l : Launch} {e : Env} {s : State} {m : MethodId} {below : List Frame} {meth : Method} {c : Code} {b : Nat} {xs : Nat → Int32} (D : va_G) (cy : Nat → ClassId) (g1 g2 : Nat → Nat) (C0 : lw_At p s m meth c b 6 xs) (hK : va_K D clz (tyl cy) s) (H : Heap) (locs : List Loc) (ls : Array Slot) (hP : va_P D clz [(g1 0, .inr (8, xF g1)), (g1 3, .inr (0, [.int 0, .int 0, .int 0, .int 0, .int 0, .int 0, .ref (g1 4), .ref (g1 5), .ref (g1 6), .ref (g1 7)])), (g2 60, .inr (9, mF g2)), (g2 17, .inl (cy 0, 25, .inl (fun _ => 0)))] H) (hD : va_D (fun q : Nat => s.heap.size ≤ q) [(g1 0, .inr (8, xF g1)), (g1 3, .inr (0, [.int 0, .int 0, .int 0, .int 0, .int 0, .int 0, .ref (g1 4), .ref (g1 5), .ref (g1 6), .ref (g1 7)])), (g2 60, .inr (9, mF g2)), (g2 17, .inl (cy 0, 25, .inl (fun _ => 0)))]) (hS : va_S (fun q : Nat => s.heap.size ≤ q) s.heap H locs) (hl : lv_has ls 4 [(3, .int 0), (2, .ref (g2 60)), (1, .ref (g1 0)), (0, .ref b)]) : W p l e room_1 s m #[Value.ref b] below meth c H locs 200 700000 (lw_Z below #[Value.ref b] s) (F0 m 2018 ls []) := by
  obtain ⟨hx, hb, hr, hml, hown0, hts0, hX, hbl, hlocks, hgv⟩ := C0
  have hown : s.vm.findClass RL = some m.cls := hown0
  have hts : ∀ w ∈ lw_g, w.before #[Value.ref b] s = true := fun w h => hts0 w (lw_gt h)
  have hA : ∀ q : Nat, s.heap.size ≤ q → (fun q : Nat => s.heap.size ≤ q) q := fun _ h => h
  have hbA : ¬ (fun q : Nat => s.heap.size ≤ q) b := Nat.not_le.mpr hbl
  refine lv_aload_n hx hb dL_law_2018 rfl (lv_at hl 2 rfl) ?_
  refine lv_aload_n hx hb dL_law_2019 rfl (lv_at hl 3 rfl) ?_
  refine lv_iload_n hx hb dL_law_2020 rfl (lv_at hl 0 rfl) ?_
  refine lv_iconst (v := 1) hx hb dL_law_2021 (by decide) ?_
  refine lv_iadd hx hb dL_law_2022 ?_
  refine lv_topi (fun x_1 ex_1 => ?_)
  obtain rfl : x_1 = 1 := ex_1.trans (by decide)
  refine va_sld hx hb hX hbl hbA hS (vpi (by decide)) dL_law_2023 ?_
  refine lv_aload_n hx hb dL_law_2024 rfl (lv_at hl 3 rfl) ?_
  refine lv_iload_n hx hb dL_law_2025 rfl (lv_at hl 0 rfl) ?_
  refine lv_iconst (v := 2) hx hb dL_law_2026 (by decide) ?_
  refine lv_iadd hx hb dL_law_2027 ?_
  refine lv_topi (fun x_2 ex_2 => ?_)
  obtain rfl : x_2 = 2 := ex_2.trans (by decide)
  refine va_sld hx hb hX hbl hbA hS (vpi (by decide)) dL_law_2028 ?_
  refine lv_aload_n hx hb dL_law_2029 rfl (lv_at hl 3 rfl) ?_
  refine lv_iload_n hx hb dL_law_2030 rfl (lv_at hl 0 rfl) ?_
  refine lv_iconst (v := 3) hx hb dL_law_2031 (by decide) ?_
  refine lv_iadd hx hb dL_law_2032 ?_
  refine lv_topi (fun x_3 ex_3 => ?_)
  obtain rfl : x_3 = 3 := ex_3.trans (by decide)
  refine va_sld hx hb hX hbl hbA hS (vpi (by decide)) dL_law_2033 ?_
  have hPc := hP.sub (ws' := [(g1 0, .inr (8, xF g1)), (g1 3, .inr (0, [.int 0, .int 0, .int 0, .int 0, .int 0, .int 0, .ref (g1 4), .ref (g1 5), .ref (g1 6), .ref (g1 7)]))]) [0, 1] rfl
  have hDc := hD.sub (ws' := [(g1 0, .inr (8, xF g1)), (g1 3, .inr (0, [.int 0, .int 0, .int 0, .int 0, .int 0, .int 0, .ref (g1 4), .ref (g1 5), .ref (g1 6), .ref (g1 7)]))]) [0, 1] (by decide) rfl
  have hFc := va_free (wc := [(g1 0, .inr (8, xF g1)), (g1 3, .inr (0, [.int 0, .int 0, .int 0, .int 0, .int 0, .int 0, .ref (g1 4), .ref (g1 5), .ref (g1 6), .ref (g1 7)]))]) hD hS hA [0, 1] rfl
  refine va_calli (va_runV (As := [.int (xs (1 : Int32).toNatClampNeg), .int (xs (2 : Int32).toNatClampNeg), .int (xs (3 : Int32).toNatClampNeg)]) (rest := []) ⟨hx, hb, hml, hown, hts⟩ (c_X8_slur l D cy g1 (xs (1 : Int32).toNatClampNeg) (xs (2 : Int32).toNatClampNeg) (xs (3 : Int32).toNatClampNeg) H.size) (cwV 3 hts (gd_V q788 q789 q790 q125 q791) rfl rfl rfl (by decide +kernel) ⟨Nat.le_of_ble_eq_true rfl, Nat.le_of_ble_eq_true rfl⟩) (pr_V hPc hK hDc (va_recv hK hPc (ci := 8) (q0 := 0) rfl rfl)) rfl rfl hl.1 rfl (lv_room (Nat.le_of_ble_eq_true rfl)) dL_law_2034 ⟨Nat.le_of_ble_eq_true rfl, Nat.le_of_ble_eq_true rfl⟩) hS (fun q _ h => hFc q h) hFc (fun r_4 u tS H1 locs ht hvm hw hB hz1 hk1 hS => ?_)
  obtain ⟨hP1, hK1, hD1⟩ := hB
  rw [ht] at hP1
  try dsimp only at hw
  obtain ⟨hP, hD⟩ := va_join (wr := [(g2 60, .inr (9, mF g2)), (g2 17, .inl (cy 0, 25, .inl (fun _ => 0)))]) (w1 := [(g1 0, .inr (8, xF g1)), (g1 3, .inr (0, [.int 0, .int 0, .int 0, .int 0, .int 0, .int 0, .ref (g1 4), .ref (g1 5), .ref (g1 6), .ref (g1 7)]))]) hP hD [0, 1] [2, 3] rfl rfl (by decide) (by decide) hk1 hFc hP1 hD1
  generalize H1 = H at hP hS ⊢
  have hP : va_P D clz [(g2 60, .inr (9, mF g2)), (g2 17, .inl (cy 0, 25, .inl (fun _ => 0))), (g1 0, .inr (8, xF g1)), (g1 3, .inr (0, [.int 0, .int 0, .int 0, .int 0, .int 0, .int 0, .ref (g1 4), .ref (g1 5), .ref (g1 6), .ref (g1 7)]))] H := hP
  have hD : va_D (fun q : Nat => s.heap.size ≤ q) [(g2 60, .inr (9, mF g2)), (g2 17, .inl (cy 0, 25, .inl (fun _ => 0))), (g1 0, .inr (8, xF g1)), (g1 3, .inr (0, [.int 0, .int 0, .int 0, .int 0, .int 0, .int 0, .ref (g1 4), .ref (g1 5), .ref (g1 6), .ref (g1 7)]))] := hD
  subst hw
  refine lv_aload_n hx hb dL_law_2037 rfl (lv_at hl 1 rfl) ?_
  refine lv_aload_n hx hb dL_law_2038 rfl (lv_at hl 3 rfl) ?_
  refine lv_iload_n hx hb dL_law_2039 rfl (lv_at hl 0 rfl) ?_
  refine lv_iconst (v := 1) hx hb dL_law_2040 (by decide) ?_
  refine lv_iadd hx hb dL_law_2041 ?_
  refine lv_topi (fun x_5 ex_5 => ?_)
  obtain rfl : x_5 = 1 := ex_5.trans (by decide)
  refine va_sld hx hb hX hbl hbA hS (vpi (by decide)) dL_law_2042 ?_
  refine lv_aload_n hx hb dL_law_2043 rfl (lv_at hl 3 rfl) ?_
  refine lv_iload_n hx hb dL_law_2044 rfl (lv_at hl 0 rfl) ?_
  refine lv_iconst (v := 2) hx hb dL_law_2045 (by decide) ?_
  refine lv_iadd hx hb dL_law_2046 ?_
  refine lv_topi (fun x_6 ex_6 => ?_)
  obtain rfl : x_6 = 2 := ex_6.trans (by decide)
  refine va_sld hx hb hX hbl hbA hS (vpi (by decide)) dL_law_2047 ?_
  refine lv_aload_n hx hb dL_law_2048 rfl (lv_at hl 3 rfl) ?_
  refine lv_iload_n hx hb dL_law_2049 rfl (lv_at hl 0 rfl) ?_
  refine lv_iconst (v := 3) hx hb dL_law_2050 (by decide) ?_
  refine lv_iadd hx hb dL_law_2051 ?_
  refine lv_topi (fun x_7 ex_7 => ?_)
  obtain rfl : x_7 = 3 := ex_7.trans (by decide)
  refine va_sld hx hb hX hbl hbA hS (vpi (by decide)) dL_law_2052 ?_
  have hPc := hP.sub (ws' := [(g2 60, .inr (9, mF g2)), (g2 17, .inl (cy 0, 25, .inl (fun _ => 0)))]) [0, 1] rfl
  have hDc := hD.sub (ws' := [(g2 60, .inr (9, mF g2)), (g2 17, .inl (cy 0, 25, .inl (fun _ => 0)))]) [0, 1] (by decide) rfl
  have hFc := va_free (wc := [(g2 60, .inr (9, mF g2)), (g2 17, .inl (cy 0, 25, .inl (fun _ => 0)))]) hD hS hA [0, 1] rfl
  refine va_calli (va_runV (As := [.int (xs (1 : Int32).toNatClampNeg), .int (xs (2 : Int32).toNatClampNeg), .int (xs (3 : Int32).toNatClampNeg)]) (rest := [.int (-2)]) ⟨hx, hb, hml, hown, hts⟩ (c_X9_slur l D cy g2 (xs (1 : Int32).toNatClampNeg) (xs (2 : Int32).toNatClampNeg) (xs (3 : Int32).toNatClampNeg) H.size) (cwV 3 hts (gd_V q2120 q2121 q2122 q134 q2123) rfl rfl rfl (by decide +kernel) ⟨Nat.le_of_ble_eq_true rfl, Nat.le_of_ble_eq_true rfl⟩) (pr_V hPc hK hDc (va_recv hK hPc (ci := 9) (q0 := 0) rfl rfl)) rfl rfl hl.1 rfl (lv_room (Nat.le_of_ble_eq_true rfl)) dL_law_2053 ⟨Nat.le_of_ble_eq_true rfl, Nat.le_of_ble_eq_true rfl⟩) hS (fun q _ h => hFc q h) hFc (fun r_8 u tS H1 locs ht hvm hw hB hz1 hk1 hS => ?_)
  obtain ⟨hP1, hK1, hD1⟩ := hB
  rw [ht] at hP1
  try dsimp only at hw
  obtain ⟨hP, hD⟩ := va_join (wr := [(g1 0, .inr (8, xF g1)), (g1 3, .inr (0, [.int 0, .int 0, .int 0, .int 0, .int 0, .int 0, .ref (g1 4), .ref (g1 5), .ref (g1 6), .ref (g1 7)]))]) (w1 := [(g2 60, .inr (9, mF g2)), (g2 17, .inl (cy 0, 25, .inl (fun _ => 0)))]) hP hD [0, 1] [2, 3] rfl rfl (by decide) (by decide) hk1 hFc hP1 hD1
  generalize H1 = H at hP hS ⊢
  have hP : va_P D clz [(g1 0, .inr (8, xF g1)), (g1 3, .inr (0, [.int 0, .int 0, .int 0, .int 0, .int 0, .int 0, .ref (g1 4), .ref (g1 5), .ref (g1 6), .ref (g1 7)])), (g2 60, .inr (9, mF g2)), (g2 17, .inl (cy 0, 25, .inl (fun _ => 0)))] H := hP
  have hD : va_D (fun q : Nat => s.heap.size ≤ q) [(g1 0, .inr (8, xF g1)), (g1 3, .inr (0, [.int 0, .int 0, .int 0, .int 0, .int 0, .int 0, .ref (g1 4), .ref (g1 5), .ref (g1 6), .ref (g1 7)])), (g2 60, .inr (9, mF g2)), (g2 17, .inl (cy 0, 25, .inl (fun _ => 0)))] := hD
  subst hw
  refine lv_icmp_eq (tgt := 2411) hx hb dL_law_2056 (by decide) (fun _ => ?_) (fun c9 => absurd c9 (by decide))
  exact law_end ⟨hx, hb, hr, hml, hown0, hts0, hX, hbl, hlocks, hgv⟩ _ _ _ hS (lv_sub hl [0, 3] rfl)

theorem q740 : Cond.methodLink RL 215 yX8_beats ∈ lw_g := lw_gm (List.mem_of_getElem? (i := 740) (by decide +kernel)) rfl
theorem q741 : Cond.instanceMethod yX8_beats ∈ lw_g := lw_gm (List.mem_of_getElem? (i := 741) (by decide +kernel)) rfl
theorem q742 : Cond.selects RX8 yX8_beats yX8_beats ∈ lw_g := lw_gm (List.mem_of_getElem? (i := 742) (by decide +kernel)) rfl
theorem q2124 : Cond.methodLink RL 218 yX9_beats ∈ lw_g := lw_gm (List.mem_of_getElem? (i := 2124) (by decide +kernel)) rfl
theorem q2125 : Cond.instanceMethod yX9_beats ∈ lw_g := lw_gm (List.mem_of_getElem? (i := 2125) (by decide +kernel)) rfl
theorem q2126 : Cond.selects RX9 yX9_beats yX9_beats ∈ lw_g := lw_gm (List.mem_of_getElem? (i := 2126) (by decide +kernel)) rfl
theorem dL_law_2061 : decode cL_law 2061 = .ok (.aload_n 1, 1) := by decide +kernel
theorem dL_law_2062 : decode cL_law 2062 = .ok (.aload_n 0, 1) := by decide +kernel
theorem dL_law_2063 : decode cL_law 2063 = .ok (.iload_n 3, 1) := by decide +kernel
theorem dL_law_2064 : decode cL_law 2064 = .ok (.iconst 1, 1) := by decide +kernel
theorem dL_law_2065 : decode cL_law 2065 = .ok (.iadd, 1) := by decide +kernel
theorem dL_law_2066 : decode cL_law 2066 = .ok (.iaload, 1) := by decide +kernel
theorem dL_law_2067 : decode cL_law 2067 = .ok (.invokevirtual 215, 3) := by decide +kernel
theorem dL_law_2070 : decode cL_law 2070 = .ok (.aload_n 2, 1) := by decide +kernel
theorem dL_law_2071 : decode cL_law 2071 = .ok (.aload_n 0, 1) := by decide +kernel
theorem dL_law_2072 : decode cL_law 2072 = .ok (.iload_n 3, 1) := by decide +kernel
theorem dL_law_2073 : decode cL_law 2073 = .ok (.iconst 1, 1) := by decide +kernel
theorem dL_law_2074 : decode cL_law 2074 = .ok (.iadd, 1) := by decide +kernel
theorem dL_law_2075 : decode cL_law 2075 = .ok (.iaload, 1) := by decide +kernel
theorem dL_law_2076 : decode cL_law 2076 = .ok (.invokevirtual 218, 3) := by decide +kernel
theorem dL_law_2079 : decode cL_law 2079 = .ok (.if_icmp .eq 332, 3) := by decide +kernel
set_option maxHeartbeats 4000000 in
set_option maxRecDepth 100000 in
theorem lawc_beats {p : Program} {l : Launch} {e : Env} {s : State} {m : MethodId} {below : List Frame} {meth : Method} {c : Code} {b : Nat} {xs : Nat → Int32} (D : va_G) (cy : Nat → ClassId) (g1 g2 : Nat → Nat) (C0 : lw_At p s m meth c b 6 xs) (hK : va_K D clz (tyl cy) s) (H : Heap) (locs : List Loc) (ls : Array Slot) (hP : va_P D clz [(g1 0, .inr (8, xF g1)), (g1 3, .inr (0, [.int 0, .int 0, .int 0, .int 0, .int 0, .int 0, .ref (g1 4), .ref (g1 5), .ref (g1 6), .ref (g1 7)])), (g2 60, .inr (9, mF g2)), (g2 17, .inl (cy 0, 25, .inl (fun _ => 0)))] H) (hD : va_D (fun q : Nat => s.heap.size ≤ q) [(g1 0, .inr (8, xF g1)), (g1 3, .inr (0, [.int 0, .int 0, .int 0, .int 0, .int 0, .int 0, .ref (g1 4), .ref (g1 5), .ref (g1 6), .ref (g1 7)])), (g2 60, .inr (9, mF g2)), (g2 17, .inl (cy 0, 25, .inl (fun _ => 0)))]) (hS : va_S (fun q : Nat => s.heap.size ≤ q) s.heap H locs) (hl : lv_has ls 4 [(3, .int 0), (2, .ref (g2 60)), (1, .ref (g1 0)), (0, .ref b)]) : W p l e room_1 s m #[Value.ref b] below meth c H locs 200 700000 (lw_Z below #[Value.ref b] s) (F0 m 2061 ls []) := by
  obtain ⟨hx, hb, hr, hml, hown0, hts0, hX, hbl, hlocks, hgv⟩ := C0
  have hown : s.vm.findClass RL = some m.cls := hown0
  have hts : ∀ w ∈ lw_g, w.before #[Value.ref b] s = true := fun w h => hts0 w (lw_gt h)
  have hA : ∀ q : Nat, s.heap.size ≤ q → (fun q : Nat => s.heap.size ≤ q) q := fun _ h => h
  have hbA : ¬ (fun q : Nat => s.heap.size ≤ q) b := Nat.not_le.mpr hbl
  refine lv_aload_n hx hb dL_law_2061 rfl (lv_at hl 2 rfl) ?_
  refine lv_aload_n hx hb dL_law_2062 rfl (lv_at hl 3 rfl) ?_
  refine lv_iload_n hx hb dL_law_2063 rfl (lv_at hl 0 rfl) ?_
  refine lv_iconst (v := 1) hx hb dL_law_2064 (by decide) ?_
  refine lv_iadd hx hb dL_law_2065 ?_
  refine lv_topi (fun x_1 ex_1 => ?_)
  obtain rfl : x_1 = 1 := ex_1.trans (by decide)
  refine va_sld hx hb hX hbl hbA hS (vpi (by decide)) dL_law_2066 ?_
  have hPc := hP.sub (ws' := [(g1 0, .inr (8, xF g1)), (g1 3, .inr (0, [.int 0, .int 0, .int 0, .int 0, .int 0, .int 0, .ref (g1 4), .ref (g1 5), .ref (g1 6), .ref (g1 7)]))]) [0, 1] rfl
  have hDc := hD.sub (ws' := [(g1 0, .inr (8, xF g1)), (g1 3, .inr (0, [.int 0, .int 0, .int 0, .int 0, .int 0, .int 0, .ref (g1 4), .ref (g1 5), .ref (g1 6), .ref (g1 7)]))]) [0, 1] (by decide) rfl
  have hFc := va_free (wc := [(g1 0, .inr (8, xF g1)), (g1 3, .inr (0, [.int 0, .int 0, .int 0, .int 0, .int 0, .int 0, .ref (g1 4), .ref (g1 5), .ref (g1 6), .ref (g1 7)]))]) hD hS hA [0, 1] rfl
  refine va_calli (va_runV (As := [.int (xs (1 : Int32).toNatClampNeg)]) (rest := []) ⟨hx, hb, hml, hown, hts⟩ (c_X8_beats l D cy g1 (xs (1 : Int32).toNatClampNeg) H.size) (cwV 1 hts (gd_V q740 q741 q742 q125 q743) rfl rfl rfl (by decide +kernel) ⟨Nat.le_of_ble_eq_true rfl, Nat.le_of_ble_eq_true rfl⟩) (pr_V hPc hK hDc (va_recv hK hPc (ci := 8) (q0 := 0) rfl rfl)) rfl rfl hl.1 rfl (lv_room (Nat.le_of_ble_eq_true rfl)) dL_law_2067 ⟨Nat.le_of_ble_eq_true rfl, Nat.le_of_ble_eq_true rfl⟩) hS (fun q _ h => hFc q h) hFc (fun r_2 u tS H1 locs ht hvm hw hB hz1 hk1 hS => ?_)
  obtain ⟨hP1, hK1, hD1⟩ := hB
  rw [ht] at hP1
  try dsimp only at hw
  obtain ⟨hP, hD⟩ := va_join (wr := [(g2 60, .inr (9, mF g2)), (g2 17, .inl (cy 0, 25, .inl (fun _ => 0)))]) (w1 := [(g1 0, .inr (8, xF g1)), (g1 3, .inr (0, [.int 0, .int 0, .int 0, .int 0, .int 0, .int 0, .ref (g1 4), .ref (g1 5), .ref (g1 6), .ref (g1 7)]))]) hP hD [0, 1] [2, 3] rfl rfl (by decide) (by decide) hk1 hFc hP1 hD1
  generalize H1 = H at hP hS ⊢
  have hP : va_P D clz [(g2 60, .inr (9, mF g2)), (g2 17, .inl (cy 0, 25, .inl (fun _ => 0))), (g1 0, .inr (8, xF g1)), (g1 3, .inr (0, [.int 0, .int 0, .int 0, .int 0, .int 0, .int 0, .ref (g1 4), .ref (g1 5), .ref (g1 6), .ref (g1 7)]))] H := hP
  have hD : va_D (fun q : Nat => s.heap.size ≤ q) [(g2 60, .inr (9, mF g2)), (g2 17, .inl (cy 0, 25, .inl (fun _ => 0))), (g1 0, .inr (8, xF g1)), (g1 3, .inr (0, [.int 0, .int 0, .int 0, .int 0, .int 0, .int 0, .ref (g1 4), .ref (g1 5), .ref (g1 6), .ref (g1 7)]))] := hD
  subst hw
  refine lv_aload_n hx hb dL_law_2070 rfl (lv_at hl 1 rfl) ?_
  refine lv_aload_n hx hb dL_law_2071 rfl (lv_at hl 3 rfl) ?_
  refine lv_iload_n hx hb dL_law_2072 rfl (lv_at hl 0 rfl) ?_
  refine lv_iconst (v := 1) hx hb dL_law_2073 (by decide) ?_
  refine lv_iadd hx hb dL_law_2074 ?_
  refine lv_topi (fun x_3 ex_3 => ?_)
  obtain rfl : x_3 = 1 := ex_3.trans (by decide)
  refine va_sld hx hb hX hbl hbA hS (vpi (by decide)) dL_law_2075 ?_
  have hPc := hP.sub (ws' := [(g2 60, .inr (9, mF g2)), (g2 17, .inl (cy 0, 25, .inl (fun _ => 0)))]) [0, 1] rfl
  have hDc := hD.sub (ws' := [(g2 60, .inr (9, mF g2)), (g2 17, .inl (cy 0, 25, .inl (fun _ => 0)))]) [0, 1] (by decide) rfl
  have hFc := va_free (wc := [(g2 60, .inr (9, mF g2)), (g2 17, .inl (cy 0, 25, .inl (fun _ => 0)))]) hD hS hA [0, 1] rfl
  refine va_calli (va_runV (As := [.int (xs (1 : Int32).toNatClampNeg)]) (rest := [.int (-2)]) ⟨hx, hb, hml, hown, hts⟩ (c_X9_beats l D cy g2 (xs (1 : Int32).toNatClampNeg) H.size) (cwV 1 hts (gd_V q2124 q2125 q2126 q134 q2127) rfl rfl rfl (by decide +kernel) ⟨Nat.le_of_ble_eq_true rfl, Nat.le_of_ble_eq_true rfl⟩) (pr_V hPc hK hDc (va_recv hK hPc (ci := 9) (q0 := 0) rfl rfl)) rfl rfl hl.1 rfl (lv_room (Nat.le_of_ble_eq_true rfl)) dL_law_2076 ⟨Nat.le_of_ble_eq_true rfl, Nat.le_of_ble_eq_true rfl⟩) hS (fun q _ h => hFc q h) hFc (fun r_4 u tS H1 locs ht hvm hw hB hz1 hk1 hS => ?_)
  obtain ⟨hP1, hK1, hD1⟩ := hB
  rw [ht] at hP1
  try dsimp only at hw
  obtain ⟨hP, hD⟩ := va_join (wr := [(g1 0, .inr (8, xF g1)), (g1 3, .inr (0, [.int 0, .int 0, .int 0, .int 0, .int 0, .int 0, .ref (g1 4), .ref (g1 5), .ref (g1 6), .ref (g1 7)]))]) (w1 := [(g2 60, .inr (9, mF g2)), (g2 17, .inl (cy 0, 25, .inl (fun _ => 0)))]) hP hD [0, 1] [2, 3] rfl rfl (by decide) (by decide) hk1 hFc hP1 hD1
  generalize H1 = H at hP hS ⊢
  have hP : va_P D clz [(g1 0, .inr (8, xF g1)), (g1 3, .inr (0, [.int 0, .int 0, .int 0, .int 0, .int 0, .int 0, .ref (g1 4), .ref (g1 5), .ref (g1 6), .ref (g1 7)])), (g2 60, .inr (9, mF g2)), (g2 17, .inl (cy 0, 25, .inl (fun _ => 0)))] H := hP
  have hD : va_D (fun q : Nat => s.heap.size ≤ q) [(g1 0, .inr (8, xF g1)), (g1 3, .inr (0, [.int 0, .int 0, .int 0, .int 0, .int 0, .int 0, .ref (g1 4), .ref (g1 5), .ref (g1 6), .ref (g1 7)])), (g2 60, .inr (9, mF g2)), (g2 17, .inl (cy 0, 25, .inl (fun _ => 0)))] := hD
  subst hw
  refine lv_icmp_eq (tgt := 2411) hx hb dL_law_2079 (by decide) (fun _ => ?_) (fun c9 => absurd c9 (by decide))
  exact law_end ⟨hx, hb, hr, hml, hown0, hts0, hX, hbl, hlocks, hgv⟩ _ _ _ hS (lv_sub hl [0, 3] rfl)

theorem q745 : Cond.methodLink RL 219 yX8_phrase ∈ lw_g := lw_gm (List.mem_of_getElem? (i := 745) (by decide +kernel)) rfl
theorem q746 : Cond.instanceMethod yX8_phrase ∈ lw_g := lw_gm (List.mem_of_getElem? (i := 746) (by decide +kernel)) rfl
theorem q747 : Cond.selects RX8 yX8_phrase yX8_phrase ∈ lw_g := lw_gm (List.mem_of_getElem? (i := 747) (by decide +kernel)) rfl
theorem q2128 : Cond.methodLink RL 222 yX9_phrase ∈ lw_g := lw_gm (List.mem_of_getElem? (i := 2128) (by decide +kernel)) rfl
theorem q2129 : Cond.instanceMethod yX9_phrase ∈ lw_g := lw_gm (List.mem_of_getElem? (i := 2129) (by decide +kernel)) rfl
theorem q2130 : Cond.selects RX9 yX9_phrase yX9_phrase ∈ lw_g := lw_gm (List.mem_of_getElem? (i := 2130) (by decide +kernel)) rfl
theorem dL_law_2084 : decode cL_law 2084 = .ok (.aload_n 1, 1) := by decide +kernel
theorem dL_law_2085 : decode cL_law 2085 = .ok (.aload_n 0, 1) := by decide +kernel
theorem dL_law_2086 : decode cL_law 2086 = .ok (.iload_n 3, 1) := by decide +kernel
theorem dL_law_2087 : decode cL_law 2087 = .ok (.iconst 1, 1) := by decide +kernel
theorem dL_law_2088 : decode cL_law 2088 = .ok (.iadd, 1) := by decide +kernel
theorem dL_law_2089 : decode cL_law 2089 = .ok (.iaload, 1) := by decide +kernel
theorem dL_law_2090 : decode cL_law 2090 = .ok (.aload_n 0, 1) := by decide +kernel
theorem dL_law_2091 : decode cL_law 2091 = .ok (.iload_n 3, 1) := by decide +kernel
theorem dL_law_2092 : decode cL_law 2092 = .ok (.iconst 2, 1) := by decide +kernel
theorem dL_law_2093 : decode cL_law 2093 = .ok (.iadd, 1) := by decide +kernel
theorem dL_law_2094 : decode cL_law 2094 = .ok (.iaload, 1) := by decide +kernel
theorem dL_law_2095 : decode cL_law 2095 = .ok (.invokevirtual 219, 3) := by decide +kernel
theorem dL_law_2098 : decode cL_law 2098 = .ok (.aload_n 2, 1) := by decide +kernel
theorem dL_law_2099 : decode cL_law 2099 = .ok (.aload_n 0, 1) := by decide +kernel
theorem dL_law_2100 : decode cL_law 2100 = .ok (.iload_n 3, 1) := by decide +kernel
theorem dL_law_2101 : decode cL_law 2101 = .ok (.iconst 1, 1) := by decide +kernel
theorem dL_law_2102 : decode cL_law 2102 = .ok (.iadd, 1) := by decide +kernel
theorem dL_law_2103 : decode cL_law 2103 = .ok (.iaload, 1) := by decide +kernel
theorem dL_law_2104 : decode cL_law 2104 = .ok (.aload_n 0, 1) := by decide +kernel
theorem dL_law_2105 : decode cL_law 2105 = .ok (.iload_n 3, 1) := by decide +kernel
theorem dL_law_2106 : decode cL_law 2106 = .ok (.iconst 2, 1) := by decide +kernel
theorem dL_law_2107 : decode cL_law 2107 = .ok (.iadd, 1) := by decide +kernel
theorem dL_law_2108 : decode cL_law 2108 = .ok (.iaload, 1) := by decide +kernel
theorem dL_law_2109 : decode cL_law 2109 = .ok (.invokevirtual 222, 3) := by decide +kernel
theorem dL_law_2112 : decode cL_law 2112 = .ok (.if_icmp .eq 299, 3) := by decide +kernel
set_option maxHeartbeats 4000000 in
set_option maxRecDepth 100000 in
theorem lawc_phrase {p : Program} {l : Launch} {e : Env} {s : State} {m : MethodId} {below : List Frame} {meth : Method} {c : Code} {b : Nat} {xs : Nat → Int32} (D : va_G) (cy : Nat → ClassId) (g1 g2 : Nat → Nat) (C0 : lw_At p s m meth c b 6 xs) (hK : va_K D clz (tyl cy) s) (H : Heap) (locs : List Loc) (ls : Array Slot) (hP : va_P D clz [(g1 0, .inr (8, xF g1)), (g1 3, .inr (0, [.int 0, .int 0, .int 0, .int 0, .int 0, .int 0, .ref (g1 4), .ref (g1 5), .ref (g1 6), .ref (g1 7)])), (g2 60, .inr (9, mF g2)), (g2 17, .inl (cy 0, 25, .inl (fun _ => 0)))] H) (hD : va_D (fun q : Nat => s.heap.size ≤ q) [(g1 0, .inr (8, xF g1)), (g1 3, .inr (0, [.int 0, .int 0, .int 0, .int 0, .int 0, .int 0, .ref (g1 4), .ref (g1 5), .ref (g1 6), .ref (g1 7)])), (g2 60, .inr (9, mF g2)), (g2 17, .inl (cy 0, 25, .inl (fun _ => 0)))]) (hS : va_S (fun q : Nat => s.heap.size ≤ q) s.heap H locs) (hl : lv_has ls 4 [(3, .int 0), (2, .ref (g2 60)), (1, .ref (g1 0)), (0, .ref b)]) : W p l e room_1 s m #[Value.ref b] below meth c H locs 200 700000 (lw_Z below #[Value.ref b] s) (F0 m 2084 ls []) := by
  obtain ⟨hx, hb, hr, hml, hown0, hts0, hX, hbl, hlocks, hgv⟩ := C0
  have hown : s.vm.findClass RL = some m.cls := hown0
  have hts : ∀ w ∈ lw_g, w.before #[Value.ref b] s = true := fun w h => hts0 w (lw_gt h)
  have hA : ∀ q : Nat, s.heap.size ≤ q → (fun q : Nat => s.heap.size ≤ q) q := fun _ h => h
  have hbA : ¬ (fun q : Nat => s.heap.size ≤ q) b := Nat.not_le.mpr hbl
  refine lv_aload_n hx hb dL_law_2084 rfl (lv_at hl 2 rfl) ?_
  refine lv_aload_n hx hb dL_law_2085 rfl (lv_at hl 3 rfl) ?_
  refine lv_iload_n hx hb dL_law_2086 rfl (lv_at hl 0 rfl) ?_
  refine lv_iconst (v := 1) hx hb dL_law_2087 (by decide) ?_
  refine lv_iadd hx hb dL_law_2088 ?_
  refine lv_topi (fun x_1 ex_1 => ?_)
  obtain rfl : x_1 = 1 := ex_1.trans (by decide)
  refine va_sld hx hb hX hbl hbA hS (vpi (by decide)) dL_law_2089 ?_
  refine lv_aload_n hx hb dL_law_2090 rfl (lv_at hl 3 rfl) ?_
  refine lv_iload_n hx hb dL_law_2091 rfl (lv_at hl 0 rfl) ?_
  refine lv_iconst (v := 2) hx hb dL_law_2092 (by decide) ?_
  refine lv_iadd hx hb dL_law_2093 ?_
  refine lv_topi (fun x_2 ex_2 => ?_)
  obtain rfl : x_2 = 2 := ex_2.trans (by decide)
  refine va_sld hx hb hX hbl hbA hS (vpi (by decide)) dL_law_2094 ?_
  have hPc := hP.sub (ws' := [(g1 0, .inr (8, xF g1)), (g1 3, .inr (0, [.int 0, .int 0, .int 0, .int 0, .int 0, .int 0, .ref (g1 4), .ref (g1 5), .ref (g1 6), .ref (g1 7)]))]) [0, 1] rfl
  have hDc := hD.sub (ws' := [(g1 0, .inr (8, xF g1)), (g1 3, .inr (0, [.int 0, .int 0, .int 0, .int 0, .int 0, .int 0, .ref (g1 4), .ref (g1 5), .ref (g1 6), .ref (g1 7)]))]) [0, 1] (by decide) rfl
  have hFc := va_free (wc := [(g1 0, .inr (8, xF g1)), (g1 3, .inr (0, [.int 0, .int 0, .int 0, .int 0, .int 0, .int 0, .ref (g1 4), .ref (g1 5), .ref (g1 6), .ref (g1 7)]))]) hD hS hA [0, 1] rfl
  refine va_calli (va_runV (As := [.int (xs (1 : Int32).toNatClampNeg), .int (xs (2 : Int32).toNatClampNeg)]) (rest := []) ⟨hx, hb, hml, hown, hts⟩ (c_X8_phrase l D cy g1 (xs (1 : Int32).toNatClampNeg) (xs (2 : Int32).toNatClampNeg) H.size) (cwV 2 hts (gd_V q745 q746 q747 q125 q748) rfl rfl rfl (by decide +kernel) ⟨Nat.le_of_ble_eq_true rfl, Nat.le_of_ble_eq_true rfl⟩) (pr_V hPc hK hDc (va_recv hK hPc (ci := 8) (q0 := 0) rfl rfl)) rfl rfl hl.1 rfl (lv_room (Nat.le_of_ble_eq_true rfl)) dL_law_2095 ⟨Nat.le_of_ble_eq_true rfl, Nat.le_of_ble_eq_true rfl⟩) hS (fun q _ h => hFc q h) hFc (fun r_3 u tS H1 locs ht hvm hw hB hz1 hk1 hS => ?_)
  obtain ⟨hP1, hK1, hD1⟩ := hB
  rw [ht] at hP1
  try dsimp only at hw
  obtain ⟨hP, hD⟩ := va_join (wr := [(g2 60, .inr (9, mF g2)), (g2 17, .inl (cy 0, 25, .inl (fun _ => 0)))]) (w1 := [(g1 0, .inr (8, xF g1)), (g1 3, .inr (0, [.int 0, .int 0, .int 0, .int 0, .int 0, .int 0, .ref (g1 4), .ref (g1 5), .ref (g1 6), .ref (g1 7)]))]) hP hD [0, 1] [2, 3] rfl rfl (by decide) (by decide) hk1 hFc hP1 hD1
  generalize H1 = H at hP hS ⊢
  have hP : va_P D clz [(g2 60, .inr (9, mF g2)), (g2 17, .inl (cy 0, 25, .inl (fun _ => 0))), (g1 0, .inr (8, xF g1)), (g1 3, .inr (0, [.int 0, .int 0, .int 0, .int 0, .int 0, .int 0, .ref (g1 4), .ref (g1 5), .ref (g1 6), .ref (g1 7)]))] H := hP
  have hD : va_D (fun q : Nat => s.heap.size ≤ q) [(g2 60, .inr (9, mF g2)), (g2 17, .inl (cy 0, 25, .inl (fun _ => 0))), (g1 0, .inr (8, xF g1)), (g1 3, .inr (0, [.int 0, .int 0, .int 0, .int 0, .int 0, .int 0, .ref (g1 4), .ref (g1 5), .ref (g1 6), .ref (g1 7)]))] := hD
  subst hw
  refine lv_aload_n hx hb dL_law_2098 rfl (lv_at hl 1 rfl) ?_
  refine lv_aload_n hx hb dL_law_2099 rfl (lv_at hl 3 rfl) ?_
  refine lv_iload_n hx hb dL_law_2100 rfl (lv_at hl 0 rfl) ?_
  refine lv_iconst (v := 1) hx hb dL_law_2101 (by decide) ?_
  refine lv_iadd hx hb dL_law_2102 ?_
  refine lv_topi (fun x_4 ex_4 => ?_)
  obtain rfl : x_4 = 1 := ex_4.trans (by decide)
  refine va_sld hx hb hX hbl hbA hS (vpi (by decide)) dL_law_2103 ?_
  refine lv_aload_n hx hb dL_law_2104 rfl (lv_at hl 3 rfl) ?_
  refine lv_iload_n hx hb dL_law_2105 rfl (lv_at hl 0 rfl) ?_
  refine lv_iconst (v := 2) hx hb dL_law_2106 (by decide) ?_
  refine lv_iadd hx hb dL_law_2107 ?_
  refine lv_topi (fun x_5 ex_5 => ?_)
  obtain rfl : x_5 = 2 := ex_5.trans (by decide)
  refine va_sld hx hb hX hbl hbA hS (vpi (by decide)) dL_law_2108 ?_
  have hPc := hP.sub (ws' := [(g2 60, .inr (9, mF g2)), (g2 17, .inl (cy 0, 25, .inl (fun _ => 0)))]) [0, 1] rfl
  have hDc := hD.sub (ws' := [(g2 60, .inr (9, mF g2)), (g2 17, .inl (cy 0, 25, .inl (fun _ => 0)))]) [0, 1] (by decide) rfl
  have hFc := va_free (wc := [(g2 60, .inr (9, mF g2)), (g2 17, .inl (cy 0, 25, .inl (fun _ => 0)))]) hD hS hA [0, 1] rfl
  refine va_calli (va_runV (As := [.int (xs (1 : Int32).toNatClampNeg), .int (xs (2 : Int32).toNatClampNeg)]) (rest := [.int (-2)]) ⟨hx, hb, hml, hown, hts⟩ (c_X9_phrase l D cy g2 (xs (1 : Int32).toNatClampNeg) (xs (2 : Int32).toNatClampNeg) H.size) (cwV 2 hts (gd_V q2128 q2129 q2130 q134 q2131) rfl rfl rfl (by decide +kernel) ⟨Nat.le_of_ble_eq_true rfl, Nat.le_of_ble_eq_true rfl⟩) (pr_V hPc hK hDc (va_recv hK hPc (ci := 9) (q0 := 0) rfl rfl)) rfl rfl hl.1 rfl (lv_room (Nat.le_of_ble_eq_true rfl)) dL_law_2109 ⟨Nat.le_of_ble_eq_true rfl, Nat.le_of_ble_eq_true rfl⟩) hS (fun q _ h => hFc q h) hFc (fun r_6 u tS H1 locs ht hvm hw hB hz1 hk1 hS => ?_)
  obtain ⟨hP1, hK1, hD1⟩ := hB
  rw [ht] at hP1
  try dsimp only at hw
  obtain ⟨hP, hD⟩ := va_join (wr := [(g1 0, .inr (8, xF g1)), (g1 3, .inr (0, [.int 0, .int 0, .int 0, .int 0, .int 0, .int 0, .ref (g1 4), .ref (g1 5), .ref (g1 6), .ref (g1 7)]))]) (w1 := [(g2 60, .inr (9, mF g2)), (g2 17, .inl (cy 0, 25, .inl (fun _ => 0)))]) hP hD [0, 1] [2, 3] rfl rfl (by decide) (by decide) hk1 hFc hP1 hD1
  generalize H1 = H at hP hS ⊢
  have hP : va_P D clz [(g1 0, .inr (8, xF g1)), (g1 3, .inr (0, [.int 0, .int 0, .int 0, .int 0, .int 0, .int 0, .ref (g1 4), .ref (g1 5), .ref (g1 6), .ref (g1 7)])), (g2 60, .inr (9, mF g2)), (g2 17, .inl (cy 0, 25, .inl (fun _ => 0)))] H := hP
  have hD : va_D (fun q : Nat => s.heap.size ≤ q) [(g1 0, .inr (8, xF g1)), (g1 3, .inr (0, [.int 0, .int 0, .int 0, .int 0, .int 0, .int 0, .ref (g1 4), .ref (g1 5), .ref (g1 6), .ref (g1 7)])), (g2 60, .inr (9, mF g2)), (g2 17, .inl (cy 0, 25, .inl (fun _ => 0)))] := hD
  subst hw
  refine lv_icmp_eq (tgt := 2411) hx hb dL_law_2112 (by decide) (fun _ => ?_) (fun c9 => absurd c9 (by decide))
  exact law_end ⟨hx, hb, hr, hml, hown0, hts0, hX, hbl, hlocks, hgv⟩ _ _ _ hS (lv_sub hl [0, 3] rfl)

theorem q753 : Cond.methodLink RL 223 yX8_pitches ∈ lw_g := lw_gm (List.mem_of_getElem? (i := 753) (by decide +kernel)) rfl
theorem q754 : Cond.instanceMethod yX8_pitches ∈ lw_g := lw_gm (List.mem_of_getElem? (i := 754) (by decide +kernel)) rfl
theorem q755 : Cond.selects RX8 yX8_pitches yX8_pitches ∈ lw_g := lw_gm (List.mem_of_getElem? (i := 755) (by decide +kernel)) rfl
theorem q2132 : Cond.methodLink RL 226 yX9_pitches ∈ lw_g := lw_gm (List.mem_of_getElem? (i := 2132) (by decide +kernel)) rfl
theorem q2133 : Cond.instanceMethod yX9_pitches ∈ lw_g := lw_gm (List.mem_of_getElem? (i := 2133) (by decide +kernel)) rfl
theorem q2134 : Cond.selects RX9 yX9_pitches yX9_pitches ∈ lw_g := lw_gm (List.mem_of_getElem? (i := 2134) (by decide +kernel)) rfl
theorem dL_law_2117 : decode cL_law 2117 = .ok (.aload_n 1, 1) := by decide +kernel
theorem dL_law_2118 : decode cL_law 2118 = .ok (.aload_n 0, 1) := by decide +kernel
theorem dL_law_2119 : decode cL_law 2119 = .ok (.iload_n 3, 1) := by decide +kernel
theorem dL_law_2120 : decode cL_law 2120 = .ok (.iconst 1, 1) := by decide +kernel
theorem dL_law_2121 : decode cL_law 2121 = .ok (.iadd, 1) := by decide +kernel
theorem dL_law_2122 : decode cL_law 2122 = .ok (.iaload, 1) := by decide +kernel
theorem dL_law_2123 : decode cL_law 2123 = .ok (.invokevirtual 223, 3) := by decide +kernel
theorem dL_law_2126 : decode cL_law 2126 = .ok (.aload_n 2, 1) := by decide +kernel
theorem dL_law_2127 : decode cL_law 2127 = .ok (.aload_n 0, 1) := by decide +kernel
theorem dL_law_2128 : decode cL_law 2128 = .ok (.iload_n 3, 1) := by decide +kernel
theorem dL_law_2129 : decode cL_law 2129 = .ok (.iconst 1, 1) := by decide +kernel
theorem dL_law_2130 : decode cL_law 2130 = .ok (.iadd, 1) := by decide +kernel
theorem dL_law_2131 : decode cL_law 2131 = .ok (.iaload, 1) := by decide +kernel
theorem dL_law_2132 : decode cL_law 2132 = .ok (.invokevirtual 226, 3) := by decide +kernel
theorem dL_law_2135 : decode cL_law 2135 = .ok (.if_icmp .eq 276, 3) := by decide +kernel
set_option maxHeartbeats 4000000 in
set_option maxRecDepth 100000 in
theorem lawc_pitches {p : Program} {l : Launch} {e : Env} {s : State} {m : MethodId} {below : List Frame} {meth : Method} {c : Code} {b : Nat} {xs : Nat → Int32} (D : va_G) (cy : Nat → ClassId) (g1 g2 : Nat → Nat) (C0 : lw_At p s m meth c b 6 xs) (hK : va_K D clz (tyl cy) s) (H : Heap) (locs : List Loc) (ls : Array Slot) (hP : va_P D clz [(g1 0, .inr (8, xF g1)), (g1 3, .inr (0, [.int 0, .int 0, .int 0, .int 0, .int 0, .int 0, .ref (g1 4), .ref (g1 5), .ref (g1 6), .ref (g1 7)])), (g2 60, .inr (9, mF g2)), (g2 17, .inl (cy 0, 25, .inl (fun _ => 0)))] H) (hD : va_D (fun q : Nat => s.heap.size ≤ q) [(g1 0, .inr (8, xF g1)), (g1 3, .inr (0, [.int 0, .int 0, .int 0, .int 0, .int 0, .int 0, .ref (g1 4), .ref (g1 5), .ref (g1 6), .ref (g1 7)])), (g2 60, .inr (9, mF g2)), (g2 17, .inl (cy 0, 25, .inl (fun _ => 0)))]) (hS : va_S (fun q : Nat => s.heap.size ≤ q) s.heap H locs) (hl : lv_has ls 4 [(3, .int 0), (2, .ref (g2 60)), (1, .ref (g1 0)), (0, .ref b)]) : W p l e room_1 s m #[Value.ref b] below meth c H locs 200 700000 (lw_Z below #[Value.ref b] s) (F0 m 2117 ls []) := by
  obtain ⟨hx, hb, hr, hml, hown0, hts0, hX, hbl, hlocks, hgv⟩ := C0
  have hown : s.vm.findClass RL = some m.cls := hown0
  have hts : ∀ w ∈ lw_g, w.before #[Value.ref b] s = true := fun w h => hts0 w (lw_gt h)
  have hA : ∀ q : Nat, s.heap.size ≤ q → (fun q : Nat => s.heap.size ≤ q) q := fun _ h => h
  have hbA : ¬ (fun q : Nat => s.heap.size ≤ q) b := Nat.not_le.mpr hbl
  refine lv_aload_n hx hb dL_law_2117 rfl (lv_at hl 2 rfl) ?_
  refine lv_aload_n hx hb dL_law_2118 rfl (lv_at hl 3 rfl) ?_
  refine lv_iload_n hx hb dL_law_2119 rfl (lv_at hl 0 rfl) ?_
  refine lv_iconst (v := 1) hx hb dL_law_2120 (by decide) ?_
  refine lv_iadd hx hb dL_law_2121 ?_
  refine lv_topi (fun x_1 ex_1 => ?_)
  obtain rfl : x_1 = 1 := ex_1.trans (by decide)
  refine va_sld hx hb hX hbl hbA hS (vpi (by decide)) dL_law_2122 ?_
  have hPc := hP.sub (ws' := [(g1 0, .inr (8, xF g1)), (g1 3, .inr (0, [.int 0, .int 0, .int 0, .int 0, .int 0, .int 0, .ref (g1 4), .ref (g1 5), .ref (g1 6), .ref (g1 7)]))]) [0, 1] rfl
  have hDc := hD.sub (ws' := [(g1 0, .inr (8, xF g1)), (g1 3, .inr (0, [.int 0, .int 0, .int 0, .int 0, .int 0, .int 0, .ref (g1 4), .ref (g1 5), .ref (g1 6), .ref (g1 7)]))]) [0, 1] (by decide) rfl
  have hFc := va_free (wc := [(g1 0, .inr (8, xF g1)), (g1 3, .inr (0, [.int 0, .int 0, .int 0, .int 0, .int 0, .int 0, .ref (g1 4), .ref (g1 5), .ref (g1 6), .ref (g1 7)]))]) hD hS hA [0, 1] rfl
  refine va_calli (va_runV (As := [.int (xs (1 : Int32).toNatClampNeg)]) (rest := []) ⟨hx, hb, hml, hown, hts⟩ (c_X8_pitches l D cy g1 (xs (1 : Int32).toNatClampNeg) H.size) (cwV 1 hts (gd_V q753 q754 q755 q125 q756) rfl rfl rfl (by decide +kernel) ⟨Nat.le_of_ble_eq_true rfl, Nat.le_of_ble_eq_true rfl⟩) (pr_V hPc hK hDc (va_recv hK hPc (ci := 8) (q0 := 0) rfl rfl)) rfl rfl hl.1 rfl (lv_room (Nat.le_of_ble_eq_true rfl)) dL_law_2123 ⟨Nat.le_of_ble_eq_true rfl, Nat.le_of_ble_eq_true rfl⟩) hS (fun q _ h => hFc q h) hFc (fun r_2 u tS H1 locs ht hvm hw hB hz1 hk1 hS => ?_)
  obtain ⟨hP1, hK1, hD1⟩ := hB
  rw [ht] at hP1
  try dsimp only at hw
  obtain ⟨hP, hD⟩ := va_join (wr := [(g2 60, .inr (9, mF g2)), (g2 17, .inl (cy 0, 25, .inl (fun _ => 0)))]) (w1 := [(g1 0, .inr (8, xF g1)), (g1 3, .inr (0, [.int 0, .int 0, .int 0, .int 0, .int 0, .int 0, .ref (g1 4), .ref (g1 5), .ref (g1 6), .ref (g1 7)]))]) hP hD [0, 1] [2, 3] rfl rfl (by decide) (by decide) hk1 hFc hP1 hD1
  generalize H1 = H at hP hS ⊢
  have hP : va_P D clz [(g2 60, .inr (9, mF g2)), (g2 17, .inl (cy 0, 25, .inl (fun _ => 0))), (g1 0, .inr (8, xF g1)), (g1 3, .inr (0, [.int 0, .int 0, .int 0, .int 0, .int 0, .int 0, .ref (g1 4), .ref (g1 5), .ref (g1 6), .ref (g1 7)]))] H := hP
  have hD : va_D (fun q : Nat => s.heap.size ≤ q) [(g2 60, .inr (9, mF g2)), (g2 17, .inl (cy 0, 25, .inl (fun _ => 0))), (g1 0, .inr (8, xF g1)), (g1 3, .inr (0, [.int 0, .int 0, .int 0, .int 0, .int 0, .int 0, .ref (g1 4), .ref (g1 5), .ref (g1 6), .ref (g1 7)]))] := hD
  subst hw
  refine lv_aload_n hx hb dL_law_2126 rfl (lv_at hl 1 rfl) ?_
  refine lv_aload_n hx hb dL_law_2127 rfl (lv_at hl 3 rfl) ?_
  refine lv_iload_n hx hb dL_law_2128 rfl (lv_at hl 0 rfl) ?_
  refine lv_iconst (v := 1) hx hb dL_law_2129 (by decide) ?_
  refine lv_iadd hx hb dL_law_2130 ?_
  refine lv_topi (fun x_3 ex_3 => ?_)
  obtain rfl : x_3 = 1 := ex_3.trans (by decide)
  refine va_sld hx hb hX hbl hbA hS (vpi (by decide)) dL_law_2131 ?_
  have hPc := hP.sub (ws' := [(g2 60, .inr (9, mF g2)), (g2 17, .inl (cy 0, 25, .inl (fun _ => 0)))]) [0, 1] rfl
  have hDc := hD.sub (ws' := [(g2 60, .inr (9, mF g2)), (g2 17, .inl (cy 0, 25, .inl (fun _ => 0)))]) [0, 1] (by decide) rfl
  have hFc := va_free (wc := [(g2 60, .inr (9, mF g2)), (g2 17, .inl (cy 0, 25, .inl (fun _ => 0)))]) hD hS hA [0, 1] rfl
  refine va_calli (va_runV (As := [.int (xs (1 : Int32).toNatClampNeg)]) (rest := [.int (-2)]) ⟨hx, hb, hml, hown, hts⟩ (c_X9_pitches l D cy g2 (xs (1 : Int32).toNatClampNeg) H.size) (cwV 1 hts (gd_V q2132 q2133 q2134 q134 q2135) rfl rfl rfl (by decide +kernel) ⟨Nat.le_of_ble_eq_true rfl, Nat.le_of_ble_eq_true rfl⟩) (pr_V hPc hK hDc (va_recv hK hPc (ci := 9) (q0 := 0) rfl rfl)) rfl rfl hl.1 rfl (lv_room (Nat.le_of_ble_eq_true rfl)) dL_law_2132 ⟨Nat.le_of_ble_eq_true rfl, Nat.le_of_ble_eq_true rfl⟩) hS (fun q _ h => hFc q h) hFc (fun r_4 u tS H1 locs ht hvm hw hB hz1 hk1 hS => ?_)
  obtain ⟨hP1, hK1, hD1⟩ := hB
  rw [ht] at hP1
  try dsimp only at hw
  obtain ⟨hP, hD⟩ := va_join (wr := [(g1 0, .inr (8, xF g1)), (g1 3, .inr (0, [.int 0, .int 0, .int 0, .int 0, .int 0, .int 0, .ref (g1 4), .ref (g1 5), .ref (g1 6), .ref (g1 7)]))]) (w1 := [(g2 60, .inr (9, mF g2)), (g2 17, .inl (cy 0, 25, .inl (fun _ => 0)))]) hP hD [0, 1] [2, 3] rfl rfl (by decide) (by decide) hk1 hFc hP1 hD1
  generalize H1 = H at hP hS ⊢
  have hP : va_P D clz [(g1 0, .inr (8, xF g1)), (g1 3, .inr (0, [.int 0, .int 0, .int 0, .int 0, .int 0, .int 0, .ref (g1 4), .ref (g1 5), .ref (g1 6), .ref (g1 7)])), (g2 60, .inr (9, mF g2)), (g2 17, .inl (cy 0, 25, .inl (fun _ => 0)))] H := hP
  have hD : va_D (fun q : Nat => s.heap.size ≤ q) [(g1 0, .inr (8, xF g1)), (g1 3, .inr (0, [.int 0, .int 0, .int 0, .int 0, .int 0, .int 0, .ref (g1 4), .ref (g1 5), .ref (g1 6), .ref (g1 7)])), (g2 60, .inr (9, mF g2)), (g2 17, .inl (cy 0, 25, .inl (fun _ => 0)))] := hD
  subst hw
  refine lv_icmp_eq (tgt := 2411) hx hb dL_law_2135 (by decide) (fun _ => ?_) (fun c9 => absurd c9 (by decide))
  exact law_end ⟨hx, hb, hr, hml, hown0, hts0, hX, hbl, hlocks, hgv⟩ _ _ _ hS (lv_sub hl [0, 3] rfl)

theorem q690 : Cond.methodLink RL 227 yX8_count ∈ lw_g := lw_gm (List.mem_of_getElem? (i := 690) (by decide +kernel)) rfl
theorem q691 : Cond.instanceMethod yX8_count ∈ lw_g := lw_gm (List.mem_of_getElem? (i := 691) (by decide +kernel)) rfl
theorem q692 : Cond.selects RX8 yX8_count yX8_count ∈ lw_g := lw_gm (List.mem_of_getElem? (i := 692) (by decide +kernel)) rfl
theorem q2136 : Cond.methodLink RL 230 yX9_count ∈ lw_g := lw_gm (List.mem_of_getElem? (i := 2136) (by decide +kernel)) rfl
theorem q2137 : Cond.instanceMethod yX9_count ∈ lw_g := lw_gm (List.mem_of_getElem? (i := 2137) (by decide +kernel)) rfl
theorem q2138 : Cond.selects RX9 yX9_count yX9_count ∈ lw_g := lw_gm (List.mem_of_getElem? (i := 2138) (by decide +kernel)) rfl
theorem dL_law_2140 : decode cL_law 2140 = .ok (.aload_n 1, 1) := by decide +kernel
theorem dL_law_2141 : decode cL_law 2141 = .ok (.aload_n 0, 1) := by decide +kernel
theorem dL_law_2142 : decode cL_law 2142 = .ok (.iload_n 3, 1) := by decide +kernel
theorem dL_law_2143 : decode cL_law 2143 = .ok (.iconst 1, 1) := by decide +kernel
theorem dL_law_2144 : decode cL_law 2144 = .ok (.iadd, 1) := by decide +kernel
theorem dL_law_2145 : decode cL_law 2145 = .ok (.iaload, 1) := by decide +kernel
theorem dL_law_2146 : decode cL_law 2146 = .ok (.invokevirtual 227, 3) := by decide +kernel
theorem dL_law_2149 : decode cL_law 2149 = .ok (.aload_n 2, 1) := by decide +kernel
theorem dL_law_2150 : decode cL_law 2150 = .ok (.aload_n 0, 1) := by decide +kernel
theorem dL_law_2151 : decode cL_law 2151 = .ok (.iload_n 3, 1) := by decide +kernel
theorem dL_law_2152 : decode cL_law 2152 = .ok (.iconst 1, 1) := by decide +kernel
theorem dL_law_2153 : decode cL_law 2153 = .ok (.iadd, 1) := by decide +kernel
theorem dL_law_2154 : decode cL_law 2154 = .ok (.iaload, 1) := by decide +kernel
theorem dL_law_2155 : decode cL_law 2155 = .ok (.invokevirtual 230, 3) := by decide +kernel
theorem dL_law_2158 : decode cL_law 2158 = .ok (.if_icmp .eq 253, 3) := by decide +kernel
set_option maxHeartbeats 4000000 in
set_option maxRecDepth 100000 in
theorem lawc_count {p : Program} {l : Launch} {e : Env} {s : State} {m : MethodId} {below : List Frame} {meth : Method} {c : Code} {b : Nat} {xs : Nat → Int32} (D : va_G) (cy : Nat → ClassId) (g1 g2 : Nat → Nat) (C0 : lw_At p s m meth c b 6 xs) (hK : va_K D clz (tyl cy) s) (H : Heap) (locs : List Loc) (ls : Array Slot) (hP : va_P D clz [(g1 0, .inr (8, xF g1)), (g1 1, .inr (4, [.ref (g1 2), .int 0, .int 0, .int (-1), .int 0, .int 0, .int 0, .int 0])), (g1 3, .inr (0, [.int 0, .int 0, .int 0, .int 0, .int 0, .int 0, .ref (g1 4), .ref (g1 5), .ref (g1 6), .ref (g1 7)])), (g1 26, .inl (cy 5, 4, .inr (.inr (.inr (.inr (va_up (va_up (va_up (va_up (fun _ => none) 0 (some (g1 27))) 1 (some (g1 29))) 2 (some (g1 31))) 3 (some (g1 33)))))))), (g1 27, .inr (5, [.int 0, .int 0, .int 0, .ref (g1 28)])), (g1 29, .inr (5, [.int 0, .int 0, .int 0, .ref (g1 30)])), (g1 31, .inr (5, [.int 0, .int 0, .int 0, .ref (g1 32)])), (g1 33, .inr (5, [.int 0, .int 0, .int 0, .ref (g1 34)])), (g2 60, .inr (9, mF g2)), (g2 17, .inl (cy 0, 25, .inl (fun _ => 0))), (g2 16, .inl (cy 0, 5, .inl (fun _ => 0))), (g2 1, .inl (cy 0, 4, .inl (upd (upd (upd (upd (fun _ => 0) 0 (-1)) 1 (-1)) 2 (-1)) 3 (-1))))] H) (hD : va_D (fun q : Nat => s.heap.size ≤ q) [(g1 0, .inr (8, xF g1)), (g1 1, .inr (4, [.ref (g1 2), .int 0, .int 0, .int (-1), .int 0, .int 0, .int 0, .int 0])), (g1 3, .inr (0, [.int 0, .int 0, .int 0, .int 0, .int 0, .int 0, .ref (g1 4), .ref (g1 5), .ref (g1 6), .ref (g1 7)])), (g1 26, .inl (cy 5, 4, .inr (.inr (.inr (.inr (va_up (va_up (va_up (va_up (fun _ => none) 0 (some (g1 27))) 1 (some (g1 29))) 2 (some (g1 31))) 3 (some (g1 33)))))))), (g1 27, .inr (5, [.int 0, .int 0, .int 0, .ref (g1 28)])), (g1 29, .inr (5, [.int 0, .int 0, .int 0, .ref (g1 30)])), (g1 31, .inr (5, [.int 0, .int 0, .int 0, .ref (g1 32)])), (g1 33, .inr (5, [.int 0, .int 0, .int 0, .ref (g1 34)])), (g2 60, .inr (9, mF g2)), (g2 17, .inl (cy 0, 25, .inl (fun _ => 0))), (g2 16, .inl (cy 0, 5, .inl (fun _ => 0))), (g2 1, .inl (cy 0, 4, .inl (upd (upd (upd (upd (fun _ => 0) 0 (-1)) 1 (-1)) 2 (-1)) 3 (-1))))]) (hS : va_S (fun q : Nat => s.heap.size ≤ q) s.heap H locs) (hl : lv_has ls 4 [(3, .int 0), (2, .ref (g2 60)), (1, .ref (g1 0)), (0, .ref b)]) : W p l e room_1 s m #[Value.ref b] below meth c H locs 200 700000 (lw_Z below #[Value.ref b] s) (F0 m 2140 ls []) := by
  obtain ⟨hx, hb, hr, hml, hown0, hts0, hX, hbl, hlocks, hgv⟩ := C0
  have hown : s.vm.findClass RL = some m.cls := hown0
  have hts : ∀ w ∈ lw_g, w.before #[Value.ref b] s = true := fun w h => hts0 w (lw_gt h)
  have hA : ∀ q : Nat, s.heap.size ≤ q → (fun q : Nat => s.heap.size ≤ q) q := fun _ h => h
  have hbA : ¬ (fun q : Nat => s.heap.size ≤ q) b := Nat.not_le.mpr hbl
  refine lv_aload_n hx hb dL_law_2140 rfl (lv_at hl 2 rfl) ?_
  refine lv_aload_n hx hb dL_law_2141 rfl (lv_at hl 3 rfl) ?_
  refine lv_iload_n hx hb dL_law_2142 rfl (lv_at hl 0 rfl) ?_
  refine lv_iconst (v := 1) hx hb dL_law_2143 (by decide) ?_
  refine lv_iadd hx hb dL_law_2144 ?_
  refine lv_topi (fun x_1 ex_1 => ?_)
  obtain rfl : x_1 = 1 := ex_1.trans (by decide)
  refine va_sld hx hb hX hbl hbA hS (vpi (by decide)) dL_law_2145 ?_
  have hPc := hP.sub (ws' := [(g1 0, .inr (8, xF g1)), (g1 1, .inr (4, [.ref (g1 2), .int 0, .int 0, .int (-1), .int 0, .int 0, .int 0, .int 0])), (g1 3, .inr (0, [.int 0, .int 0, .int 0, .int 0, .int 0, .int 0, .ref (g1 4), .ref (g1 5), .ref (g1 6), .ref (g1 7)])), (g1 26, .inl (cy 5, 4, .inr (.inr (.inr (.inr (va_up (va_up (va_up (va_up (fun _ => none) 0 (some (g1 27))) 1 (some (g1 29))) 2 (some (g1 31))) 3 (some (g1 33)))))))), (g1 27, .inr (5, [.int 0, .int 0, .int 0, .ref (g1 28)])), (g1 29, .inr (5, [.int 0, .int 0, .int 0, .ref (g1 30)])), (g1 31, .inr (5, [.int 0, .int 0, .int 0, .ref (g1 32)])), (g1 33, .inr (5, [.int 0, .int 0, .int 0, .ref (g1 34)]))]) [0, 1, 2, 3, 4, 5, 6, 7] rfl
  have hDc := hD.sub (ws' := [(g1 0, .inr (8, xF g1)), (g1 1, .inr (4, [.ref (g1 2), .int 0, .int 0, .int (-1), .int 0, .int 0, .int 0, .int 0])), (g1 3, .inr (0, [.int 0, .int 0, .int 0, .int 0, .int 0, .int 0, .ref (g1 4), .ref (g1 5), .ref (g1 6), .ref (g1 7)])), (g1 26, .inl (cy 5, 4, .inr (.inr (.inr (.inr (va_up (va_up (va_up (va_up (fun _ => none) 0 (some (g1 27))) 1 (some (g1 29))) 2 (some (g1 31))) 3 (some (g1 33)))))))), (g1 27, .inr (5, [.int 0, .int 0, .int 0, .ref (g1 28)])), (g1 29, .inr (5, [.int 0, .int 0, .int 0, .ref (g1 30)])), (g1 31, .inr (5, [.int 0, .int 0, .int 0, .ref (g1 32)])), (g1 33, .inr (5, [.int 0, .int 0, .int 0, .ref (g1 34)]))]) [0, 1, 2, 3, 4, 5, 6, 7] (by decide) rfl
  have hFc := va_free (wc := [(g1 0, .inr (8, xF g1)), (g1 1, .inr (4, [.ref (g1 2), .int 0, .int 0, .int (-1), .int 0, .int 0, .int 0, .int 0])), (g1 3, .inr (0, [.int 0, .int 0, .int 0, .int 0, .int 0, .int 0, .ref (g1 4), .ref (g1 5), .ref (g1 6), .ref (g1 7)])), (g1 26, .inl (cy 5, 4, .inr (.inr (.inr (.inr (va_up (va_up (va_up (va_up (fun _ => none) 0 (some (g1 27))) 1 (some (g1 29))) 2 (some (g1 31))) 3 (some (g1 33)))))))), (g1 27, .inr (5, [.int 0, .int 0, .int 0, .ref (g1 28)])), (g1 29, .inr (5, [.int 0, .int 0, .int 0, .ref (g1 30)])), (g1 31, .inr (5, [.int 0, .int 0, .int 0, .ref (g1 32)])), (g1 33, .inr (5, [.int 0, .int 0, .int 0, .ref (g1 34)]))]) hD hS hA [0, 1, 2, 3, 4, 5, 6, 7] rfl
  refine va_calli (va_runV (As := [.int (xs (1 : Int32).toNatClampNeg)]) (rest := []) ⟨hx, hb, hml, hown, hts⟩ (c_X8_count l D cy g1 (xs (1 : Int32).toNatClampNeg) H.size) (cwV 1 hts (gd_V q690 q691 q692 q125 q693) rfl rfl rfl (by decide +kernel) ⟨Nat.le_of_ble_eq_true rfl, Nat.le_of_ble_eq_true rfl⟩) (pr_V hPc hK hDc (va_recv hK hPc (ci := 8) (q0 := 0) rfl rfl)) rfl rfl hl.1 rfl (lv_room (Nat.le_of_ble_eq_true rfl)) dL_law_2146 ⟨Nat.le_of_ble_eq_true rfl, Nat.le_of_ble_eq_true rfl⟩) hS (fun q _ h => hFc q h) hFc (fun r_2 u tS H1 locs ht hvm hw hB hz1 hk1 hS => ?_)
  obtain ⟨hP1, hK1, hD1⟩ := hB
  rw [ht] at hP1
  try dsimp only at hw
  obtain ⟨hP, hD⟩ := va_join (wr := [(g2 60, .inr (9, mF g2)), (g2 17, .inl (cy 0, 25, .inl (fun _ => 0))), (g2 16, .inl (cy 0, 5, .inl (fun _ => 0))), (g2 1, .inl (cy 0, 4, .inl (upd (upd (upd (upd (fun _ => 0) 0 (-1)) 1 (-1)) 2 (-1)) 3 (-1))))]) (w1 := [(g1 0, .inr (8, xF g1)), (g1 1, .inr (4, [.ref (g1 2), .int 0, .int 0, .int (-1), .int 0, .int 0, .int 0, .int 0])), (g1 3, .inr (0, [.int 0, .int 0, .int 0, .int 0, .int 0, .int 0, .ref (g1 4), .ref (g1 5), .ref (g1 6), .ref (g1 7)])), (g1 26, .inl (cy 5, 4, .inr (.inr (.inr (.inr (va_up (va_up (va_up (va_up (fun _ => none) 0 (some (g1 27))) 1 (some (g1 29))) 2 (some (g1 31))) 3 (some (g1 33)))))))), (g1 27, .inr (5, [.int 0, .int 0, .int 0, .ref (g1 28)])), (g1 29, .inr (5, [.int 0, .int 0, .int 0, .ref (g1 30)])), (g1 31, .inr (5, [.int 0, .int 0, .int 0, .ref (g1 32)])), (g1 33, .inr (5, [.int 0, .int 0, .int 0, .ref (g1 34)]))]) hP hD [0, 1, 2, 3, 4, 5, 6, 7] [8, 9, 10, 11] rfl rfl (by decide) (by decide) hk1 hFc hP1 hD1
  generalize H1 = H at hP hS ⊢
  have hP : va_P D clz [(g2 60, .inr (9, mF g2)), (g2 17, .inl (cy 0, 25, .inl (fun _ => 0))), (g2 16, .inl (cy 0, 5, .inl (fun _ => 0))), (g2 1, .inl (cy 0, 4, .inl (upd (upd (upd (upd (fun _ => 0) 0 (-1)) 1 (-1)) 2 (-1)) 3 (-1)))), (g1 0, .inr (8, xF g1)), (g1 1, .inr (4, [.ref (g1 2), .int 0, .int 0, .int (-1), .int 0, .int 0, .int 0, .int 0])), (g1 3, .inr (0, [.int 0, .int 0, .int 0, .int 0, .int 0, .int 0, .ref (g1 4), .ref (g1 5), .ref (g1 6), .ref (g1 7)])), (g1 26, .inl (cy 5, 4, .inr (.inr (.inr (.inr (va_up (va_up (va_up (va_up (fun _ => none) 0 (some (g1 27))) 1 (some (g1 29))) 2 (some (g1 31))) 3 (some (g1 33)))))))), (g1 27, .inr (5, [.int 0, .int 0, .int 0, .ref (g1 28)])), (g1 29, .inr (5, [.int 0, .int 0, .int 0, .ref (g1 30)])), (g1 31, .inr (5, [.int 0, .int 0, .int 0, .ref (g1 32)])), (g1 33, .inr (5, [.int 0, .int 0, .int 0, .ref (g1 34)]))] H := hP
  have hD : va_D (fun q : Nat => s.heap.size ≤ q) [(g2 60, .inr (9, mF g2)), (g2 17, .inl (cy 0, 25, .inl (fun _ => 0))), (g2 16, .inl (cy 0, 5, .inl (fun _ => 0))), (g2 1, .inl (cy 0, 4, .inl (upd (upd (upd (upd (fun _ => 0) 0 (-1)) 1 (-1)) 2 (-1)) 3 (-1)))), (g1 0, .inr (8, xF g1)), (g1 1, .inr (4, [.ref (g1 2), .int 0, .int 0, .int (-1), .int 0, .int 0, .int 0, .int 0])), (g1 3, .inr (0, [.int 0, .int 0, .int 0, .int 0, .int 0, .int 0, .ref (g1 4), .ref (g1 5), .ref (g1 6), .ref (g1 7)])), (g1 26, .inl (cy 5, 4, .inr (.inr (.inr (.inr (va_up (va_up (va_up (va_up (fun _ => none) 0 (some (g1 27))) 1 (some (g1 29))) 2 (some (g1 31))) 3 (some (g1 33)))))))), (g1 27, .inr (5, [.int 0, .int 0, .int 0, .ref (g1 28)])), (g1 29, .inr (5, [.int 0, .int 0, .int 0, .ref (g1 30)])), (g1 31, .inr (5, [.int 0, .int 0, .int 0, .ref (g1 32)])), (g1 33, .inr (5, [.int 0, .int 0, .int 0, .ref (g1 34)]))] := hD
  have hw_3 := hw
  refine lv_aload_n hx hb dL_law_2149 rfl (lv_at hl 1 rfl) ?_
  refine lv_aload_n hx hb dL_law_2150 rfl (lv_at hl 3 rfl) ?_
  refine lv_iload_n hx hb dL_law_2151 rfl (lv_at hl 0 rfl) ?_
  refine lv_iconst (v := 1) hx hb dL_law_2152 (by decide) ?_
  refine lv_iadd hx hb dL_law_2153 ?_
  refine lv_topi (fun x_4 ex_4 => ?_)
  obtain rfl : x_4 = 1 := ex_4.trans (by decide)
  refine va_sld hx hb hX hbl hbA hS (vpi (by decide)) dL_law_2154 ?_
  have hPc := hP.sub (ws' := [(g2 60, .inr (9, mF g2)), (g2 17, .inl (cy 0, 25, .inl (fun _ => 0))), (g2 16, .inl (cy 0, 5, .inl (fun _ => 0))), (g2 1, .inl (cy 0, 4, .inl (upd (upd (upd (upd (fun _ => 0) 0 (-1)) 1 (-1)) 2 (-1)) 3 (-1))))]) [0, 1, 2, 3] rfl
  have hDc := hD.sub (ws' := [(g2 60, .inr (9, mF g2)), (g2 17, .inl (cy 0, 25, .inl (fun _ => 0))), (g2 16, .inl (cy 0, 5, .inl (fun _ => 0))), (g2 1, .inl (cy 0, 4, .inl (upd (upd (upd (upd (fun _ => 0) 0 (-1)) 1 (-1)) 2 (-1)) 3 (-1))))]) [0, 1, 2, 3] (by decide) rfl
  have hFc := va_free (wc := [(g2 60, .inr (9, mF g2)), (g2 17, .inl (cy 0, 25, .inl (fun _ => 0))), (g2 16, .inl (cy 0, 5, .inl (fun _ => 0))), (g2 1, .inl (cy 0, 4, .inl (upd (upd (upd (upd (fun _ => 0) 0 (-1)) 1 (-1)) 2 (-1)) 3 (-1))))]) hD hS hA [0, 1, 2, 3] rfl
  refine va_calli (va_runV (As := [.int (xs (1 : Int32).toNatClampNeg)]) (rest := [.int r_2]) ⟨hx, hb, hml, hown, hts⟩ (c_X9_count l D cy g2 (xs (1 : Int32).toNatClampNeg) H.size) (cwV 1 hts (gd_V q2136 q2137 q2138 q134 q2139) rfl rfl rfl (by decide +kernel) ⟨Nat.le_of_ble_eq_true rfl, Nat.le_of_ble_eq_true rfl⟩) (pr_V hPc hK hDc (va_recv hK hPc (ci := 9) (q0 := 0) rfl rfl)) rfl rfl hl.1 rfl (lv_room (Nat.le_of_ble_eq_true rfl)) dL_law_2155 ⟨Nat.le_of_ble_eq_true rfl, Nat.le_of_ble_eq_true rfl⟩) hS (fun q _ h => hFc q h) hFc (fun r_5 u tS H1 locs ht hvm hw hB hz1 hk1 hS => ?_)
  obtain ⟨hP1, hK1, hD1⟩ := hB
  rw [ht] at hP1
  try dsimp only at hw
  obtain ⟨hP, hD⟩ := va_join (wr := [(g1 0, .inr (8, xF g1)), (g1 1, .inr (4, [.ref (g1 2), .int 0, .int 0, .int (-1), .int 0, .int 0, .int 0, .int 0])), (g1 3, .inr (0, [.int 0, .int 0, .int 0, .int 0, .int 0, .int 0, .ref (g1 4), .ref (g1 5), .ref (g1 6), .ref (g1 7)])), (g1 26, .inl (cy 5, 4, .inr (.inr (.inr (.inr (va_up (va_up (va_up (va_up (fun _ => none) 0 (some (g1 27))) 1 (some (g1 29))) 2 (some (g1 31))) 3 (some (g1 33)))))))), (g1 27, .inr (5, [.int 0, .int 0, .int 0, .ref (g1 28)])), (g1 29, .inr (5, [.int 0, .int 0, .int 0, .ref (g1 30)])), (g1 31, .inr (5, [.int 0, .int 0, .int 0, .ref (g1 32)])), (g1 33, .inr (5, [.int 0, .int 0, .int 0, .ref (g1 34)]))]) (w1 := [(g2 60, .inr (9, mF g2)), (g2 17, .inl (cy 0, 25, .inl (fun _ => 0))), (g2 16, .inl (cy 0, 5, .inl (fun _ => 0))), (g2 1, .inl (cy 0, 4, .inl (upd (upd (upd (upd (fun _ => 0) 0 (-1)) 1 (-1)) 2 (-1)) 3 (-1))))]) hP hD [0, 1, 2, 3] [4, 5, 6, 7, 8, 9, 10, 11] rfl rfl (by decide) (by decide) hk1 hFc hP1 hD1
  generalize H1 = H at hP hS ⊢
  have hP : va_P D clz [(g1 0, .inr (8, xF g1)), (g1 1, .inr (4, [.ref (g1 2), .int 0, .int 0, .int (-1), .int 0, .int 0, .int 0, .int 0])), (g1 3, .inr (0, [.int 0, .int 0, .int 0, .int 0, .int 0, .int 0, .ref (g1 4), .ref (g1 5), .ref (g1 6), .ref (g1 7)])), (g1 26, .inl (cy 5, 4, .inr (.inr (.inr (.inr (va_up (va_up (va_up (va_up (fun _ => none) 0 (some (g1 27))) 1 (some (g1 29))) 2 (some (g1 31))) 3 (some (g1 33)))))))), (g1 27, .inr (5, [.int 0, .int 0, .int 0, .ref (g1 28)])), (g1 29, .inr (5, [.int 0, .int 0, .int 0, .ref (g1 30)])), (g1 31, .inr (5, [.int 0, .int 0, .int 0, .ref (g1 32)])), (g1 33, .inr (5, [.int 0, .int 0, .int 0, .ref (g1 34)])), (g2 60, .inr (9, mF g2)), (g2 17, .inl (cy 0, 25, .inl (fun _ => 0))), (g2 16, .inl (cy 0, 5, .inl (fun _ => 0))), (g2 1, .inl (cy 0, 4, .inl (upd (upd (upd (upd (fun _ => 0) 0 (-1)) 1 (-1)) 2 (-1)) 3 (-1))))] H := hP
  have hD : va_D (fun q : Nat => s.heap.size ≤ q) [(g1 0, .inr (8, xF g1)), (g1 1, .inr (4, [.ref (g1 2), .int 0, .int 0, .int (-1), .int 0, .int 0, .int 0, .int 0])), (g1 3, .inr (0, [.int 0, .int 0, .int 0, .int 0, .int 0, .int 0, .ref (g1 4), .ref (g1 5), .ref (g1 6), .ref (g1 7)])), (g1 26, .inl (cy 5, 4, .inr (.inr (.inr (.inr (va_up (va_up (va_up (va_up (fun _ => none) 0 (some (g1 27))) 1 (some (g1 29))) 2 (some (g1 31))) 3 (some (g1 33)))))))), (g1 27, .inr (5, [.int 0, .int 0, .int 0, .ref (g1 28)])), (g1 29, .inr (5, [.int 0, .int 0, .int 0, .ref (g1 30)])), (g1 31, .inr (5, [.int 0, .int 0, .int 0, .ref (g1 32)])), (g1 33, .inr (5, [.int 0, .int 0, .int 0, .ref (g1 34)])), (g2 60, .inr (9, mF g2)), (g2 17, .inl (cy 0, 25, .inl (fun _ => 0))), (g2 16, .inl (cy 0, 5, .inl (fun _ => 0))), (g2 1, .inl (cy 0, 4, .inl (upd (upd (upd (upd (fun _ => 0) 0 (-1)) 1 (-1)) 2 (-1)) 3 (-1))))] := hD
  have hw_6 := hw
  refine lv_icmp_eq (tgt := 2411) hx hb dL_law_2158 (by decide) (fun _ => ?_) (fun c9 => absurd (hw_3.trans hw_6.symm) c9)
  exact law_end ⟨hx, hb, hr, hml, hown0, hts0, hX, hbl, hlocks, hgv⟩ _ _ _ hS (lv_sub hl [0, 3] rfl)

theorem q734 : Cond.methodLink RL 231 yX8_tones ∈ lw_g := lw_gm (List.mem_of_getElem? (i := 734) (by decide +kernel)) rfl
theorem q735 : Cond.instanceMethod yX8_tones ∈ lw_g := lw_gm (List.mem_of_getElem? (i := 735) (by decide +kernel)) rfl
theorem q736 : Cond.selects RX8 yX8_tones yX8_tones ∈ lw_g := lw_gm (List.mem_of_getElem? (i := 736) (by decide +kernel)) rfl
theorem q2140 : Cond.methodLink RL 234 yX9_tones ∈ lw_g := lw_gm (List.mem_of_getElem? (i := 2140) (by decide +kernel)) rfl
theorem q2141 : Cond.instanceMethod yX9_tones ∈ lw_g := lw_gm (List.mem_of_getElem? (i := 2141) (by decide +kernel)) rfl
theorem q2142 : Cond.selects RX9 yX9_tones yX9_tones ∈ lw_g := lw_gm (List.mem_of_getElem? (i := 2142) (by decide +kernel)) rfl
theorem dL_law_2163 : decode cL_law 2163 = .ok (.aload_n 1, 1) := by decide +kernel
theorem dL_law_2164 : decode cL_law 2164 = .ok (.aload_n 0, 1) := by decide +kernel
theorem dL_law_2165 : decode cL_law 2165 = .ok (.iload_n 3, 1) := by decide +kernel
theorem dL_law_2166 : decode cL_law 2166 = .ok (.iconst 1, 1) := by decide +kernel
theorem dL_law_2167 : decode cL_law 2167 = .ok (.iadd, 1) := by decide +kernel
theorem dL_law_2168 : decode cL_law 2168 = .ok (.iaload, 1) := by decide +kernel
theorem dL_law_2169 : decode cL_law 2169 = .ok (.invokevirtual 231, 3) := by decide +kernel
theorem dL_law_2172 : decode cL_law 2172 = .ok (.aload_n 2, 1) := by decide +kernel
theorem dL_law_2173 : decode cL_law 2173 = .ok (.aload_n 0, 1) := by decide +kernel
theorem dL_law_2174 : decode cL_law 2174 = .ok (.iload_n 3, 1) := by decide +kernel
theorem dL_law_2175 : decode cL_law 2175 = .ok (.iconst 1, 1) := by decide +kernel
theorem dL_law_2176 : decode cL_law 2176 = .ok (.iadd, 1) := by decide +kernel
theorem dL_law_2177 : decode cL_law 2177 = .ok (.iaload, 1) := by decide +kernel
theorem dL_law_2178 : decode cL_law 2178 = .ok (.invokevirtual 234, 3) := by decide +kernel
theorem dL_law_2181 : decode cL_law 2181 = .ok (.if_icmp .eq 230, 3) := by decide +kernel
set_option maxHeartbeats 4000000 in
set_option maxRecDepth 100000 in
theorem lawc_tones {p : Program} {l : Launch} {e : Env} {s : State} {m : MethodId} {below : List Frame} {meth : Method} {c : Code} {b : Nat} {xs : Nat → Int32} (D : va_G) (cy : Nat → ClassId) (g1 g2 : Nat → Nat) (C0 : lw_At p s m meth c b 6 xs) (hK : va_K D clz (tyl cy) s) (H : Heap) (locs : List Loc) (ls : Array Slot) (hP : va_P D clz [(g1 0, .inr (8, xF g1)), (g1 3, .inr (0, [.int 0, .int 0, .int 0, .int 0, .int 0, .int 0, .ref (g1 4), .ref (g1 5), .ref (g1 6), .ref (g1 7)])), (g2 60, .inr (9, mF g2)), (g2 17, .inl (cy 0, 25, .inl (fun _ => 0)))] H) (hD : va_D (fun q : Nat => s.heap.size ≤ q) [(g1 0, .inr (8, xF g1)), (g1 3, .inr (0, [.int 0, .int 0, .int 0, .int 0, .int 0, .int 0, .ref (g1 4), .ref (g1 5), .ref (g1 6), .ref (g1 7)])), (g2 60, .inr (9, mF g2)), (g2 17, .inl (cy 0, 25, .inl (fun _ => 0)))]) (hS : va_S (fun q : Nat => s.heap.size ≤ q) s.heap H locs) (hl : lv_has ls 4 [(3, .int 0), (2, .ref (g2 60)), (1, .ref (g1 0)), (0, .ref b)]) : W p l e room_1 s m #[Value.ref b] below meth c H locs 200 700000 (lw_Z below #[Value.ref b] s) (F0 m 2163 ls []) := by
  obtain ⟨hx, hb, hr, hml, hown0, hts0, hX, hbl, hlocks, hgv⟩ := C0
  have hown : s.vm.findClass RL = some m.cls := hown0
  have hts : ∀ w ∈ lw_g, w.before #[Value.ref b] s = true := fun w h => hts0 w (lw_gt h)
  have hA : ∀ q : Nat, s.heap.size ≤ q → (fun q : Nat => s.heap.size ≤ q) q := fun _ h => h
  have hbA : ¬ (fun q : Nat => s.heap.size ≤ q) b := Nat.not_le.mpr hbl
  refine lv_aload_n hx hb dL_law_2163 rfl (lv_at hl 2 rfl) ?_
  refine lv_aload_n hx hb dL_law_2164 rfl (lv_at hl 3 rfl) ?_
  refine lv_iload_n hx hb dL_law_2165 rfl (lv_at hl 0 rfl) ?_
  refine lv_iconst (v := 1) hx hb dL_law_2166 (by decide) ?_
  refine lv_iadd hx hb dL_law_2167 ?_
  refine lv_topi (fun x_1 ex_1 => ?_)
  obtain rfl : x_1 = 1 := ex_1.trans (by decide)
  refine va_sld hx hb hX hbl hbA hS (vpi (by decide)) dL_law_2168 ?_
  have hPc := hP.sub (ws' := [(g1 0, .inr (8, xF g1)), (g1 3, .inr (0, [.int 0, .int 0, .int 0, .int 0, .int 0, .int 0, .ref (g1 4), .ref (g1 5), .ref (g1 6), .ref (g1 7)]))]) [0, 1] rfl
  have hDc := hD.sub (ws' := [(g1 0, .inr (8, xF g1)), (g1 3, .inr (0, [.int 0, .int 0, .int 0, .int 0, .int 0, .int 0, .ref (g1 4), .ref (g1 5), .ref (g1 6), .ref (g1 7)]))]) [0, 1] (by decide) rfl
  have hFc := va_free (wc := [(g1 0, .inr (8, xF g1)), (g1 3, .inr (0, [.int 0, .int 0, .int 0, .int 0, .int 0, .int 0, .ref (g1 4), .ref (g1 5), .ref (g1 6), .ref (g1 7)]))]) hD hS hA [0, 1] rfl
  refine va_calli (va_runV (As := [.int (xs (1 : Int32).toNatClampNeg)]) (rest := []) ⟨hx, hb, hml, hown, hts⟩ (c_X8_tones l D cy g1 (xs (1 : Int32).toNatClampNeg) H.size) (cwV 1 hts (gd_V q734 q735 q736 q125 q737) rfl rfl rfl (by decide +kernel) ⟨Nat.le_of_ble_eq_true rfl, Nat.le_of_ble_eq_true rfl⟩) (pr_V hPc hK hDc (va_recv hK hPc (ci := 8) (q0 := 0) rfl rfl)) rfl rfl hl.1 rfl (lv_room (Nat.le_of_ble_eq_true rfl)) dL_law_2169 ⟨Nat.le_of_ble_eq_true rfl, Nat.le_of_ble_eq_true rfl⟩) hS (fun q _ h => hFc q h) hFc (fun r_2 u tS H1 locs ht hvm hw hB hz1 hk1 hS => ?_)
  obtain ⟨hP1, hK1, hD1⟩ := hB
  rw [ht] at hP1
  try dsimp only at hw
  obtain ⟨hP, hD⟩ := va_join (wr := [(g2 60, .inr (9, mF g2)), (g2 17, .inl (cy 0, 25, .inl (fun _ => 0)))]) (w1 := [(g1 0, .inr (8, xF g1)), (g1 3, .inr (0, [.int 0, .int 0, .int 0, .int 0, .int 0, .int 0, .ref (g1 4), .ref (g1 5), .ref (g1 6), .ref (g1 7)]))]) hP hD [0, 1] [2, 3] rfl rfl (by decide) (by decide) hk1 hFc hP1 hD1
  generalize H1 = H at hP hS ⊢
  have hP : va_P D clz [(g2 60, .inr (9, mF g2)), (g2 17, .inl (cy 0, 25, .inl (fun _ => 0))), (g1 0, .inr (8, xF g1)), (g1 3, .inr (0, [.int 0, .int 0, .int 0, .int 0, .int 0, .int 0, .ref (g1 4), .ref (g1 5), .ref (g1 6), .ref (g1 7)]))] H := hP
  have hD : va_D (fun q : Nat => s.heap.size ≤ q) [(g2 60, .inr (9, mF g2)), (g2 17, .inl (cy 0, 25, .inl (fun _ => 0))), (g1 0, .inr (8, xF g1)), (g1 3, .inr (0, [.int 0, .int 0, .int 0, .int 0, .int 0, .int 0, .ref (g1 4), .ref (g1 5), .ref (g1 6), .ref (g1 7)]))] := hD
  subst hw
  refine lv_aload_n hx hb dL_law_2172 rfl (lv_at hl 1 rfl) ?_
  refine lv_aload_n hx hb dL_law_2173 rfl (lv_at hl 3 rfl) ?_
  refine lv_iload_n hx hb dL_law_2174 rfl (lv_at hl 0 rfl) ?_
  refine lv_iconst (v := 1) hx hb dL_law_2175 (by decide) ?_
  refine lv_iadd hx hb dL_law_2176 ?_
  refine lv_topi (fun x_3 ex_3 => ?_)
  obtain rfl : x_3 = 1 := ex_3.trans (by decide)
  refine va_sld hx hb hX hbl hbA hS (vpi (by decide)) dL_law_2177 ?_
  have hPc := hP.sub (ws' := [(g2 60, .inr (9, mF g2)), (g2 17, .inl (cy 0, 25, .inl (fun _ => 0)))]) [0, 1] rfl
  have hDc := hD.sub (ws' := [(g2 60, .inr (9, mF g2)), (g2 17, .inl (cy 0, 25, .inl (fun _ => 0)))]) [0, 1] (by decide) rfl
  have hFc := va_free (wc := [(g2 60, .inr (9, mF g2)), (g2 17, .inl (cy 0, 25, .inl (fun _ => 0)))]) hD hS hA [0, 1] rfl
  refine va_calli (va_runV (As := [.int (xs (1 : Int32).toNatClampNeg)]) (rest := [.int (-2)]) ⟨hx, hb, hml, hown, hts⟩ (c_X9_tones l D cy g2 (xs (1 : Int32).toNatClampNeg) H.size) (cwV 1 hts (gd_V q2140 q2141 q2142 q134 q2143) rfl rfl rfl (by decide +kernel) ⟨Nat.le_of_ble_eq_true rfl, Nat.le_of_ble_eq_true rfl⟩) (pr_V hPc hK hDc (va_recv hK hPc (ci := 9) (q0 := 0) rfl rfl)) rfl rfl hl.1 rfl (lv_room (Nat.le_of_ble_eq_true rfl)) dL_law_2178 ⟨Nat.le_of_ble_eq_true rfl, Nat.le_of_ble_eq_true rfl⟩) hS (fun q _ h => hFc q h) hFc (fun r_4 u tS H1 locs ht hvm hw hB hz1 hk1 hS => ?_)
  obtain ⟨hP1, hK1, hD1⟩ := hB
  rw [ht] at hP1
  try dsimp only at hw
  obtain ⟨hP, hD⟩ := va_join (wr := [(g1 0, .inr (8, xF g1)), (g1 3, .inr (0, [.int 0, .int 0, .int 0, .int 0, .int 0, .int 0, .ref (g1 4), .ref (g1 5), .ref (g1 6), .ref (g1 7)]))]) (w1 := [(g2 60, .inr (9, mF g2)), (g2 17, .inl (cy 0, 25, .inl (fun _ => 0)))]) hP hD [0, 1] [2, 3] rfl rfl (by decide) (by decide) hk1 hFc hP1 hD1
  generalize H1 = H at hP hS ⊢
  have hP : va_P D clz [(g1 0, .inr (8, xF g1)), (g1 3, .inr (0, [.int 0, .int 0, .int 0, .int 0, .int 0, .int 0, .ref (g1 4), .ref (g1 5), .ref (g1 6), .ref (g1 7)])), (g2 60, .inr (9, mF g2)), (g2 17, .inl (cy 0, 25, .inl (fun _ => 0)))] H := hP
  have hD : va_D (fun q : Nat => s.heap.size ≤ q) [(g1 0, .inr (8, xF g1)), (g1 3, .inr (0, [.int 0, .int 0, .int 0, .int 0, .int 0, .int 0, .ref (g1 4), .ref (g1 5), .ref (g1 6), .ref (g1 7)])), (g2 60, .inr (9, mF g2)), (g2 17, .inl (cy 0, 25, .inl (fun _ => 0)))] := hD
  subst hw
  refine lv_icmp_eq (tgt := 2411) hx hb dL_law_2181 (by decide) (fun _ => ?_) (fun c9 => absurd c9 (by decide))
  exact law_end ⟨hx, hb, hr, hml, hown0, hts0, hX, hbl, hlocks, hgv⟩ _ _ _ hS (lv_sub hl [0, 3] rfl)

theorem q698 : Cond.methodLink RL 235 yX8_keep ∈ lw_g := lw_gm (List.mem_of_getElem? (i := 698) (by decide +kernel)) rfl
theorem q699 : Cond.instanceMethod yX8_keep ∈ lw_g := lw_gm (List.mem_of_getElem? (i := 699) (by decide +kernel)) rfl
theorem q700 : Cond.selects RX8 yX8_keep yX8_keep ∈ lw_g := lw_gm (List.mem_of_getElem? (i := 700) (by decide +kernel)) rfl
theorem q2144 : Cond.methodLink RL 238 yX9_keep ∈ lw_g := lw_gm (List.mem_of_getElem? (i := 2144) (by decide +kernel)) rfl
theorem q2145 : Cond.instanceMethod yX9_keep ∈ lw_g := lw_gm (List.mem_of_getElem? (i := 2145) (by decide +kernel)) rfl
theorem q2146 : Cond.selects RX9 yX9_keep yX9_keep ∈ lw_g := lw_gm (List.mem_of_getElem? (i := 2146) (by decide +kernel)) rfl
theorem dL_law_2186 : decode cL_law 2186 = .ok (.aload_n 1, 1) := by decide +kernel
theorem dL_law_2187 : decode cL_law 2187 = .ok (.aload_n 0, 1) := by decide +kernel
theorem dL_law_2188 : decode cL_law 2188 = .ok (.iload_n 3, 1) := by decide +kernel
theorem dL_law_2189 : decode cL_law 2189 = .ok (.iconst 1, 1) := by decide +kernel
theorem dL_law_2190 : decode cL_law 2190 = .ok (.iadd, 1) := by decide +kernel
theorem dL_law_2191 : decode cL_law 2191 = .ok (.iaload, 1) := by decide +kernel
theorem dL_law_2192 : decode cL_law 2192 = .ok (.invokevirtual 235, 3) := by decide +kernel
theorem dL_law_2195 : decode cL_law 2195 = .ok (.aload_n 2, 1) := by decide +kernel
theorem dL_law_2196 : decode cL_law 2196 = .ok (.aload_n 0, 1) := by decide +kernel
theorem dL_law_2197 : decode cL_law 2197 = .ok (.iload_n 3, 1) := by decide +kernel
theorem dL_law_2198 : decode cL_law 2198 = .ok (.iconst 1, 1) := by decide +kernel
theorem dL_law_2199 : decode cL_law 2199 = .ok (.iadd, 1) := by decide +kernel
theorem dL_law_2200 : decode cL_law 2200 = .ok (.iaload, 1) := by decide +kernel
theorem dL_law_2201 : decode cL_law 2201 = .ok (.invokevirtual 238, 3) := by decide +kernel
theorem dL_law_2204 : decode cL_law 2204 = .ok (.if_icmp .eq 207, 3) := by decide +kernel
set_option maxHeartbeats 4000000 in
set_option maxRecDepth 100000 in
theorem lawc_keep {p : Program} {l : Launch} {e : Env} {s : State} {m : MethodId} {below : List Frame} {meth : Method} {c : Code} {b : Nat} {xs : Nat → Int32} (D : va_G) (cy : Nat → ClassId) (g1 g2 : Nat → Nat) (C0 : lw_At p s m meth c b 6 xs) (hK : va_K D clz (tyl cy) s) (H : Heap) (locs : List Loc) (ls : Array Slot) (hP : va_P D clz [(g1 0, .inr (8, xF g1)), (g1 3, .inr (0, [.int 0, .int 0, .int 0, .int 0, .int 0, .int 0, .ref (g1 4), .ref (g1 5), .ref (g1 6), .ref (g1 7)])), (g1 4, .inl (cy 0, 28, .inl (fun _ => 0))), (g1 5, .inl (cy 0, 36, .inl (fun _ => 0))), (g1 6, .inl (cy 0, 240, .inl (fun _ => 0))), (g1 7, .inl (cy 0, 3, .inl (fun _ => 0))), (g1 9, .inl (cy 4, 3, .inr (.inr (.inr (.inr (va_up (va_up (va_up (fun _ => none) 0 (some (g1 10))) 1 (some (g1 15))) 2 (some (g1 20)))))))), (g1 10, .inr (0, [.int 0, .int 0, .int 0, .int 0, .int 0, .int 0, .ref (g1 11), .ref (g1 12), .ref (g1 13), .ref (g1 14)])), (g1 11, .inl (cy 0, 28, .inl (fun _ => 0))), (g1 12, .inl (cy 0, 36, .inl (fun _ => 0))), (g1 13, .inl (cy 0, 240, .inl (fun _ => 0))), (g1 14, .inl (cy 0, 3, .inl (fun _ => 0))), (g1 15, .inr (0, [.int 0, .int 0, .int 0, .int 0, .int 0, .int 0, .ref (g1 16), .ref (g1 17), .ref (g1 18), .ref (g1 19)])), (g1 16, .inl (cy 0, 28, .inl (fun _ => 0))), (g1 17, .inl (cy 0, 36, .inl (fun _ => 0))), (g1 18, .inl (cy 0, 240, .inl (fun _ => 0))), (g1 19, .inl (cy 0, 3, .inl (fun _ => 0))), (g1 20, .inr (0, [.int 0, .int 0, .int 0, .int 0, .int 0, .int 0, .ref (g1 21), .ref (g1 22), .ref (g1 23), .ref (g1 24)])), (g1 21, .inl (cy 0, 28, .inl (fun _ => 0))), (g1 22, .inl (cy 0, 36, .inl (fun _ => 0))), (g1 23, .inl (cy 0, 240, .inl (fun _ => 0))), (g1 24, .inl (cy 0, 3, .inl (fun _ => 0))), (g1 25, .inl (cy 0, 3, .inl (fun _ => 0))), (g2 60, .inr (9, mF g2)), (g2 16, .inl (cy 0, 5, .inl (fun _ => 0))), (g2 17, .inl (cy 0, 25, .inl (fun _ => 0))), (g2 18, .inl (cy 0, 140, .inl (fun _ => 0))), (g2 19, .inl (cy 0, 180, .inl (fun _ => 0))), (g2 20, .inl (cy 0, 15, .inl (fun _ => 0))), (g2 21, .inl (cy 0, 960, .inl (fun _ => 0))), (g2 22, .inl (cy 3, 3, .inl (fun _ => 0)))] H) (hD : va_D (fun q : Nat => s.heap.size ≤ q) [(g1 0, .inr (8, xF g1)), (g1 3, .inr (0, [.int 0, .int 0, .int 0, .int 0, .int 0, .int 0, .ref (g1 4), .ref (g1 5), .ref (g1 6), .ref (g1 7)])), (g1 4, .inl (cy 0, 28, .inl (fun _ => 0))), (g1 5, .inl (cy 0, 36, .inl (fun _ => 0))), (g1 6, .inl (cy 0, 240, .inl (fun _ => 0))), (g1 7, .inl (cy 0, 3, .inl (fun _ => 0))), (g1 9, .inl (cy 4, 3, .inr (.inr (.inr (.inr (va_up (va_up (va_up (fun _ => none) 0 (some (g1 10))) 1 (some (g1 15))) 2 (some (g1 20)))))))), (g1 10, .inr (0, [.int 0, .int 0, .int 0, .int 0, .int 0, .int 0, .ref (g1 11), .ref (g1 12), .ref (g1 13), .ref (g1 14)])), (g1 11, .inl (cy 0, 28, .inl (fun _ => 0))), (g1 12, .inl (cy 0, 36, .inl (fun _ => 0))), (g1 13, .inl (cy 0, 240, .inl (fun _ => 0))), (g1 14, .inl (cy 0, 3, .inl (fun _ => 0))), (g1 15, .inr (0, [.int 0, .int 0, .int 0, .int 0, .int 0, .int 0, .ref (g1 16), .ref (g1 17), .ref (g1 18), .ref (g1 19)])), (g1 16, .inl (cy 0, 28, .inl (fun _ => 0))), (g1 17, .inl (cy 0, 36, .inl (fun _ => 0))), (g1 18, .inl (cy 0, 240, .inl (fun _ => 0))), (g1 19, .inl (cy 0, 3, .inl (fun _ => 0))), (g1 20, .inr (0, [.int 0, .int 0, .int 0, .int 0, .int 0, .int 0, .ref (g1 21), .ref (g1 22), .ref (g1 23), .ref (g1 24)])), (g1 21, .inl (cy 0, 28, .inl (fun _ => 0))), (g1 22, .inl (cy 0, 36, .inl (fun _ => 0))), (g1 23, .inl (cy 0, 240, .inl (fun _ => 0))), (g1 24, .inl (cy 0, 3, .inl (fun _ => 0))), (g1 25, .inl (cy 0, 3, .inl (fun _ => 0))), (g2 60, .inr (9, mF g2)), (g2 16, .inl (cy 0, 5, .inl (fun _ => 0))), (g2 17, .inl (cy 0, 25, .inl (fun _ => 0))), (g2 18, .inl (cy 0, 140, .inl (fun _ => 0))), (g2 19, .inl (cy 0, 180, .inl (fun _ => 0))), (g2 20, .inl (cy 0, 15, .inl (fun _ => 0))), (g2 21, .inl (cy 0, 960, .inl (fun _ => 0))), (g2 22, .inl (cy 3, 3, .inl (fun _ => 0)))]) (hS : va_S (fun q : Nat => s.heap.size ≤ q) s.heap H locs) (hl : lv_has ls 4 [(3, .int 0), (2, .ref (g2 60)), (1, .ref (g1 0)), (0, .ref b)]) : W p l e room_1 s m #[Value.ref b] below meth c H locs 200 700000 (lw_Z below #[Value.ref b] s) (F0 m 2186 ls []) := by
  obtain ⟨hx, hb, hr, hml, hown0, hts0, hX, hbl, hlocks, hgv⟩ := C0
  have hown : s.vm.findClass RL = some m.cls := hown0
  have hts : ∀ w ∈ lw_g, w.before #[Value.ref b] s = true := fun w h => hts0 w (lw_gt h)
  have hA : ∀ q : Nat, s.heap.size ≤ q → (fun q : Nat => s.heap.size ≤ q) q := fun _ h => h
  have hbA : ¬ (fun q : Nat => s.heap.size ≤ q) b := Nat.not_le.mpr hbl
  refine lv_aload_n hx hb dL_law_2186 rfl (lv_at hl 2 rfl) ?_
  refine lv_aload_n hx hb dL_law_2187 rfl (lv_at hl 3 rfl) ?_
  refine lv_iload_n hx hb dL_law_2188 rfl (lv_at hl 0 rfl) ?_
  refine lv_iconst (v := 1) hx hb dL_law_2189 (by decide) ?_
  refine lv_iadd hx hb dL_law_2190 ?_
  refine lv_topi (fun x_1 ex_1 => ?_)
  obtain rfl : x_1 = 1 := ex_1.trans (by decide)
  refine va_sld hx hb hX hbl hbA hS (vpi (by decide)) dL_law_2191 ?_
  have hPc := hP.sub (ws' := [(g1 0, .inr (8, xF g1)), (g1 3, .inr (0, [.int 0, .int 0, .int 0, .int 0, .int 0, .int 0, .ref (g1 4), .ref (g1 5), .ref (g1 6), .ref (g1 7)])), (g1 4, .inl (cy 0, 28, .inl (fun _ => 0))), (g1 5, .inl (cy 0, 36, .inl (fun _ => 0))), (g1 6, .inl (cy 0, 240, .inl (fun _ => 0))), (g1 7, .inl (cy 0, 3, .inl (fun _ => 0))), (g1 9, .inl (cy 4, 3, .inr (.inr (.inr (.inr (va_up (va_up (va_up (fun _ => none) 0 (some (g1 10))) 1 (some (g1 15))) 2 (some (g1 20)))))))), (g1 10, .inr (0, [.int 0, .int 0, .int 0, .int 0, .int 0, .int 0, .ref (g1 11), .ref (g1 12), .ref (g1 13), .ref (g1 14)])), (g1 11, .inl (cy 0, 28, .inl (fun _ => 0))), (g1 12, .inl (cy 0, 36, .inl (fun _ => 0))), (g1 13, .inl (cy 0, 240, .inl (fun _ => 0))), (g1 14, .inl (cy 0, 3, .inl (fun _ => 0))), (g1 15, .inr (0, [.int 0, .int 0, .int 0, .int 0, .int 0, .int 0, .ref (g1 16), .ref (g1 17), .ref (g1 18), .ref (g1 19)])), (g1 16, .inl (cy 0, 28, .inl (fun _ => 0))), (g1 17, .inl (cy 0, 36, .inl (fun _ => 0))), (g1 18, .inl (cy 0, 240, .inl (fun _ => 0))), (g1 19, .inl (cy 0, 3, .inl (fun _ => 0))), (g1 20, .inr (0, [.int 0, .int 0, .int 0, .int 0, .int 0, .int 0, .ref (g1 21), .ref (g1 22), .ref (g1 23), .ref (g1 24)])), (g1 21, .inl (cy 0, 28, .inl (fun _ => 0))), (g1 22, .inl (cy 0, 36, .inl (fun _ => 0))), (g1 23, .inl (cy 0, 240, .inl (fun _ => 0))), (g1 24, .inl (cy 0, 3, .inl (fun _ => 0))), (g1 25, .inl (cy 0, 3, .inl (fun _ => 0)))]) [0, 1, 2, 3, 4, 5, 6, 7, 8, 9, 10, 11, 12, 13, 14, 15, 16, 17, 18, 19, 20, 21, 22] rfl
  have hDc := hD.sub (ws' := [(g1 0, .inr (8, xF g1)), (g1 3, .inr (0, [.int 0, .int 0, .int 0, .int 0, .int 0, .int 0, .ref (g1 4), .ref (g1 5), .ref (g1 6), .ref (g1 7)])), (g1 4, .inl (cy 0, 28, .inl (fun _ => 0))), (g1 5, .inl (cy 0, 36, .inl (fun _ => 0))), (g1 6, .inl (cy 0, 240, .inl (fun _ => 0))), (g1 7, .inl (cy 0, 3, .inl (fun _ => 0))), (g1 9, .inl (cy 4, 3, .inr (.inr (.inr (.inr (va_up (va_up (va_up (fun _ => none) 0 (some (g1 10))) 1 (some (g1 15))) 2 (some (g1 20)))))))), (g1 10, .inr (0, [.int 0, .int 0, .int 0, .int 0, .int 0, .int 0, .ref (g1 11), .ref (g1 12), .ref (g1 13), .ref (g1 14)])), (g1 11, .inl (cy 0, 28, .inl (fun _ => 0))), (g1 12, .inl (cy 0, 36, .inl (fun _ => 0))), (g1 13, .inl (cy 0, 240, .inl (fun _ => 0))), (g1 14, .inl (cy 0, 3, .inl (fun _ => 0))), (g1 15, .inr (0, [.int 0, .int 0, .int 0, .int 0, .int 0, .int 0, .ref (g1 16), .ref (g1 17), .ref (g1 18), .ref (g1 19)])), (g1 16, .inl (cy 0, 28, .inl (fun _ => 0))), (g1 17, .inl (cy 0, 36, .inl (fun _ => 0))), (g1 18, .inl (cy 0, 240, .inl (fun _ => 0))), (g1 19, .inl (cy 0, 3, .inl (fun _ => 0))), (g1 20, .inr (0, [.int 0, .int 0, .int 0, .int 0, .int 0, .int 0, .ref (g1 21), .ref (g1 22), .ref (g1 23), .ref (g1 24)])), (g1 21, .inl (cy 0, 28, .inl (fun _ => 0))), (g1 22, .inl (cy 0, 36, .inl (fun _ => 0))), (g1 23, .inl (cy 0, 240, .inl (fun _ => 0))), (g1 24, .inl (cy 0, 3, .inl (fun _ => 0))), (g1 25, .inl (cy 0, 3, .inl (fun _ => 0)))]) [0, 1, 2, 3, 4, 5, 6, 7, 8, 9, 10, 11, 12, 13, 14, 15, 16, 17, 18, 19, 20, 21, 22] (by decide) rfl
  have hFc := va_free (wc := [(g1 0, .inr (8, xF g1)), (g1 3, .inr (0, [.int 0, .int 0, .int 0, .int 0, .int 0, .int 0, .ref (g1 4), .ref (g1 5), .ref (g1 6), .ref (g1 7)])), (g1 4, .inl (cy 0, 28, .inl (fun _ => 0))), (g1 5, .inl (cy 0, 36, .inl (fun _ => 0))), (g1 6, .inl (cy 0, 240, .inl (fun _ => 0))), (g1 7, .inl (cy 0, 3, .inl (fun _ => 0))), (g1 9, .inl (cy 4, 3, .inr (.inr (.inr (.inr (va_up (va_up (va_up (fun _ => none) 0 (some (g1 10))) 1 (some (g1 15))) 2 (some (g1 20)))))))), (g1 10, .inr (0, [.int 0, .int 0, .int 0, .int 0, .int 0, .int 0, .ref (g1 11), .ref (g1 12), .ref (g1 13), .ref (g1 14)])), (g1 11, .inl (cy 0, 28, .inl (fun _ => 0))), (g1 12, .inl (cy 0, 36, .inl (fun _ => 0))), (g1 13, .inl (cy 0, 240, .inl (fun _ => 0))), (g1 14, .inl (cy 0, 3, .inl (fun _ => 0))), (g1 15, .inr (0, [.int 0, .int 0, .int 0, .int 0, .int 0, .int 0, .ref (g1 16), .ref (g1 17), .ref (g1 18), .ref (g1 19)])), (g1 16, .inl (cy 0, 28, .inl (fun _ => 0))), (g1 17, .inl (cy 0, 36, .inl (fun _ => 0))), (g1 18, .inl (cy 0, 240, .inl (fun _ => 0))), (g1 19, .inl (cy 0, 3, .inl (fun _ => 0))), (g1 20, .inr (0, [.int 0, .int 0, .int 0, .int 0, .int 0, .int 0, .ref (g1 21), .ref (g1 22), .ref (g1 23), .ref (g1 24)])), (g1 21, .inl (cy 0, 28, .inl (fun _ => 0))), (g1 22, .inl (cy 0, 36, .inl (fun _ => 0))), (g1 23, .inl (cy 0, 240, .inl (fun _ => 0))), (g1 24, .inl (cy 0, 3, .inl (fun _ => 0))), (g1 25, .inl (cy 0, 3, .inl (fun _ => 0)))]) hD hS hA [0, 1, 2, 3, 4, 5, 6, 7, 8, 9, 10, 11, 12, 13, 14, 15, 16, 17, 18, 19, 20, 21, 22] rfl
  refine va_calli (va_runV (As := [.int (xs (1 : Int32).toNatClampNeg)]) (rest := []) ⟨hx, hb, hml, hown, hts⟩ (c_X8_keep l D cy g1 (xs (1 : Int32).toNatClampNeg) H.size) (cwV 1 hts (gd_V q698 q699 q700 q125 q701) rfl rfl rfl (by decide +kernel) ⟨Nat.le_of_ble_eq_true rfl, Nat.le_of_ble_eq_true rfl⟩) (pr_V hPc hK hDc (va_recv hK hPc (ci := 8) (q0 := 0) rfl rfl)) rfl rfl hl.1 rfl (lv_room (Nat.le_of_ble_eq_true rfl)) dL_law_2192 ⟨Nat.le_of_ble_eq_true rfl, Nat.le_of_ble_eq_true rfl⟩) hS (fun q _ h => hFc q h) hFc (fun r_2 u tS H1 locs ht hvm hw hB hz1 hk1 hS => ?_)
  obtain ⟨hP1, hK1, hD1⟩ := hB
  rw [ht] at hP1
  try dsimp only at hw
  obtain ⟨hP, hD⟩ := va_join (wr := [(g2 60, .inr (9, mF g2)), (g2 16, .inl (cy 0, 5, .inl (fun _ => 0))), (g2 17, .inl (cy 0, 25, .inl (fun _ => 0))), (g2 18, .inl (cy 0, 140, .inl (fun _ => 0))), (g2 19, .inl (cy 0, 180, .inl (fun _ => 0))), (g2 20, .inl (cy 0, 15, .inl (fun _ => 0))), (g2 21, .inl (cy 0, 960, .inl (fun _ => 0))), (g2 22, .inl (cy 3, 3, .inl (fun _ => 0)))]) (w1 := []) hP hD [0, 1, 2, 3, 4, 5, 6, 7, 8, 9, 10, 11, 12, 13, 14, 15, 16, 17, 18, 19, 20, 21, 22] [23, 24, 25, 26, 27, 28, 29, 30] rfl rfl (by decide) (by decide) hk1 hFc hP1 hD1
  generalize H1 = H at hP hS ⊢
  have hP : va_P D clz [(g2 60, .inr (9, mF g2)), (g2 16, .inl (cy 0, 5, .inl (fun _ => 0))), (g2 17, .inl (cy 0, 25, .inl (fun _ => 0))), (g2 18, .inl (cy 0, 140, .inl (fun _ => 0))), (g2 19, .inl (cy 0, 180, .inl (fun _ => 0))), (g2 20, .inl (cy 0, 15, .inl (fun _ => 0))), (g2 21, .inl (cy 0, 960, .inl (fun _ => 0))), (g2 22, .inl (cy 3, 3, .inl (fun _ => 0)))] H := hP
  have hD : va_D (fun q : Nat => s.heap.size ≤ q) [(g2 60, .inr (9, mF g2)), (g2 16, .inl (cy 0, 5, .inl (fun _ => 0))), (g2 17, .inl (cy 0, 25, .inl (fun _ => 0))), (g2 18, .inl (cy 0, 140, .inl (fun _ => 0))), (g2 19, .inl (cy 0, 180, .inl (fun _ => 0))), (g2 20, .inl (cy 0, 15, .inl (fun _ => 0))), (g2 21, .inl (cy 0, 960, .inl (fun _ => 0))), (g2 22, .inl (cy 3, 3, .inl (fun _ => 0)))] := hD
  have hw_3 := hw
  refine lv_aload_n hx hb dL_law_2195 rfl (lv_at hl 1 rfl) ?_
  refine lv_aload_n hx hb dL_law_2196 rfl (lv_at hl 3 rfl) ?_
  refine lv_iload_n hx hb dL_law_2197 rfl (lv_at hl 0 rfl) ?_
  refine lv_iconst (v := 1) hx hb dL_law_2198 (by decide) ?_
  refine lv_iadd hx hb dL_law_2199 ?_
  refine lv_topi (fun x_4 ex_4 => ?_)
  obtain rfl : x_4 = 1 := ex_4.trans (by decide)
  refine va_sld hx hb hX hbl hbA hS (vpi (by decide)) dL_law_2200 ?_
  have hPc := hP.sub (ws' := [(g2 60, .inr (9, mF g2)), (g2 16, .inl (cy 0, 5, .inl (fun _ => 0))), (g2 17, .inl (cy 0, 25, .inl (fun _ => 0))), (g2 18, .inl (cy 0, 140, .inl (fun _ => 0))), (g2 19, .inl (cy 0, 180, .inl (fun _ => 0))), (g2 20, .inl (cy 0, 15, .inl (fun _ => 0))), (g2 21, .inl (cy 0, 960, .inl (fun _ => 0))), (g2 22, .inl (cy 3, 3, .inl (fun _ => 0)))]) [0, 1, 2, 3, 4, 5, 6, 7] rfl
  have hDc := hD.sub (ws' := [(g2 60, .inr (9, mF g2)), (g2 16, .inl (cy 0, 5, .inl (fun _ => 0))), (g2 17, .inl (cy 0, 25, .inl (fun _ => 0))), (g2 18, .inl (cy 0, 140, .inl (fun _ => 0))), (g2 19, .inl (cy 0, 180, .inl (fun _ => 0))), (g2 20, .inl (cy 0, 15, .inl (fun _ => 0))), (g2 21, .inl (cy 0, 960, .inl (fun _ => 0))), (g2 22, .inl (cy 3, 3, .inl (fun _ => 0)))]) [0, 1, 2, 3, 4, 5, 6, 7] (by decide) rfl
  have hFc := va_free (wc := [(g2 60, .inr (9, mF g2)), (g2 16, .inl (cy 0, 5, .inl (fun _ => 0))), (g2 17, .inl (cy 0, 25, .inl (fun _ => 0))), (g2 18, .inl (cy 0, 140, .inl (fun _ => 0))), (g2 19, .inl (cy 0, 180, .inl (fun _ => 0))), (g2 20, .inl (cy 0, 15, .inl (fun _ => 0))), (g2 21, .inl (cy 0, 960, .inl (fun _ => 0))), (g2 22, .inl (cy 3, 3, .inl (fun _ => 0)))]) hD hS hA [0, 1, 2, 3, 4, 5, 6, 7] rfl
  refine va_calli (va_runV (As := [.int (xs (1 : Int32).toNatClampNeg)]) (rest := [.int r_2]) ⟨hx, hb, hml, hown, hts⟩ (c_X9_keep l D cy g2 (xs (1 : Int32).toNatClampNeg) H.size) (cwV 1 hts (gd_V q2144 q2145 q2146 q134 q2147) rfl rfl rfl (by decide +kernel) ⟨Nat.le_of_ble_eq_true rfl, Nat.le_of_ble_eq_true rfl⟩) (pr_V hPc hK hDc (va_recv hK hPc (ci := 9) (q0 := 0) rfl rfl)) rfl rfl hl.1 rfl (lv_room (Nat.le_of_ble_eq_true rfl)) dL_law_2201 ⟨Nat.le_of_ble_eq_true rfl, Nat.le_of_ble_eq_true rfl⟩) hS (fun q _ h => hFc q h) hFc (fun r_5 u tS H1 locs ht hvm hw hB hz1 hk1 hS => ?_)
  obtain ⟨hP1, hK1, hD1⟩ := hB
  rw [ht] at hP1
  try dsimp only at hw
  obtain ⟨hP, hD⟩ := va_join (wr := []) (w1 := []) hP hD [0, 1, 2, 3, 4, 5, 6, 7] [] rfl rfl (by decide) (by decide) hk1 hFc hP1 hD1
  generalize H1 = H at hP hS ⊢
  have hP : va_P D clz [] H := hP
  have hD : va_D (fun q : Nat => s.heap.size ≤ q) [] := hD
  have hw_6 := hw
  refine lv_icmp_eq (tgt := 2411) hx hb dL_law_2204 (by decide) (fun _ => ?_) (fun c9 => absurd (hw_3.trans hw_6.symm) c9)
  exact law_end ⟨hx, hb, hr, hml, hown0, hts0, hX, hbl, hlocks, hgv⟩ _ _ _ hS (lv_sub hl [0, 3] rfl)

theorem q709 : Cond.methodLink RL 239 yX8_back ∈ lw_g := lw_gm (List.mem_of_getElem? (i := 709) (by decide +kernel)) rfl
theorem q710 : Cond.instanceMethod yX8_back ∈ lw_g := lw_gm (List.mem_of_getElem? (i := 710) (by decide +kernel)) rfl
theorem q711 : Cond.selects RX8 yX8_back yX8_back ∈ lw_g := lw_gm (List.mem_of_getElem? (i := 711) (by decide +kernel)) rfl
theorem q2148 : Cond.methodLink RL 242 yX9_back ∈ lw_g := lw_gm (List.mem_of_getElem? (i := 2148) (by decide +kernel)) rfl
theorem q2149 : Cond.instanceMethod yX9_back ∈ lw_g := lw_gm (List.mem_of_getElem? (i := 2149) (by decide +kernel)) rfl
theorem q2150 : Cond.selects RX9 yX9_back yX9_back ∈ lw_g := lw_gm (List.mem_of_getElem? (i := 2150) (by decide +kernel)) rfl
theorem dL_law_2209 : decode cL_law 2209 = .ok (.aload_n 1, 1) := by decide +kernel
theorem dL_law_2210 : decode cL_law 2210 = .ok (.aload_n 0, 1) := by decide +kernel
theorem dL_law_2211 : decode cL_law 2211 = .ok (.iload_n 3, 1) := by decide +kernel
theorem dL_law_2212 : decode cL_law 2212 = .ok (.iconst 1, 1) := by decide +kernel
theorem dL_law_2213 : decode cL_law 2213 = .ok (.iadd, 1) := by decide +kernel
theorem dL_law_2214 : decode cL_law 2214 = .ok (.iaload, 1) := by decide +kernel
theorem dL_law_2215 : decode cL_law 2215 = .ok (.invokevirtual 239, 3) := by decide +kernel
theorem dL_law_2218 : decode cL_law 2218 = .ok (.aload_n 2, 1) := by decide +kernel
theorem dL_law_2219 : decode cL_law 2219 = .ok (.aload_n 0, 1) := by decide +kernel
theorem dL_law_2220 : decode cL_law 2220 = .ok (.iload_n 3, 1) := by decide +kernel
theorem dL_law_2221 : decode cL_law 2221 = .ok (.iconst 1, 1) := by decide +kernel
theorem dL_law_2222 : decode cL_law 2222 = .ok (.iadd, 1) := by decide +kernel
theorem dL_law_2223 : decode cL_law 2223 = .ok (.iaload, 1) := by decide +kernel
theorem dL_law_2224 : decode cL_law 2224 = .ok (.invokevirtual 242, 3) := by decide +kernel
theorem dL_law_2227 : decode cL_law 2227 = .ok (.if_icmp .eq 184, 3) := by decide +kernel
set_option maxHeartbeats 4000000 in
set_option maxRecDepth 100000 in
theorem lawc_back {p : Program} {l : Launch} {e : Env} {s : State} {m : MethodId} {below : List Frame} {meth : Method} {c : Code} {b : Nat} {xs : Nat → Int32} (D : va_G) (cy : Nat → ClassId) (g1 g2 : Nat → Nat) (C0 : lw_At p s m meth c b 6 xs) (hK : va_K D clz (tyl cy) s) (H : Heap) (locs : List Loc) (ls : Array Slot) (hP : va_P D clz [(g1 0, .inr (8, xF g1)), (g1 25, .inl (cy 0, 3, .inl (fun _ => 0))), (g2 60, .inr (9, mF g2)), (g2 22, .inl (cy 3, 3, .inl (fun _ => 0)))] H) (hD : va_D (fun q : Nat => s.heap.size ≤ q) [(g1 0, .inr (8, xF g1)), (g1 25, .inl (cy 0, 3, .inl (fun _ => 0))), (g2 60, .inr (9, mF g2)), (g2 22, .inl (cy 3, 3, .inl (fun _ => 0)))]) (hS : va_S (fun q : Nat => s.heap.size ≤ q) s.heap H locs) (hl : lv_has ls 4 [(3, .int 0), (2, .ref (g2 60)), (1, .ref (g1 0)), (0, .ref b)]) : W p l e room_1 s m #[Value.ref b] below meth c H locs 200 700000 (lw_Z below #[Value.ref b] s) (F0 m 2209 ls []) := by
  obtain ⟨hx, hb, hr, hml, hown0, hts0, hX, hbl, hlocks, hgv⟩ := C0
  have hown : s.vm.findClass RL = some m.cls := hown0
  have hts : ∀ w ∈ lw_g, w.before #[Value.ref b] s = true := fun w h => hts0 w (lw_gt h)
  have hA : ∀ q : Nat, s.heap.size ≤ q → (fun q : Nat => s.heap.size ≤ q) q := fun _ h => h
  have hbA : ¬ (fun q : Nat => s.heap.size ≤ q) b := Nat.not_le.mpr hbl
  refine lv_aload_n hx hb dL_law_2209 rfl (lv_at hl 2 rfl) ?_
  refine lv_aload_n hx hb dL_law_2210 rfl (lv_at hl 3 rfl) ?_
  refine lv_iload_n hx hb dL_law_2211 rfl (lv_at hl 0 rfl) ?_
  refine lv_iconst (v := 1) hx hb dL_law_2212 (by decide) ?_
  refine lv_iadd hx hb dL_law_2213 ?_
  refine lv_topi (fun x_1 ex_1 => ?_)
  obtain rfl : x_1 = 1 := ex_1.trans (by decide)
  refine va_sld hx hb hX hbl hbA hS (vpi (by decide)) dL_law_2214 ?_
  have hPc := hP.sub (ws' := [(g1 0, .inr (8, xF g1)), (g1 25, .inl (cy 0, 3, .inl (fun _ => 0)))]) [0, 1] rfl
  have hDc := hD.sub (ws' := [(g1 0, .inr (8, xF g1)), (g1 25, .inl (cy 0, 3, .inl (fun _ => 0)))]) [0, 1] (by decide) rfl
  have hFc := va_free (wc := [(g1 0, .inr (8, xF g1)), (g1 25, .inl (cy 0, 3, .inl (fun _ => 0)))]) hD hS hA [0, 1] rfl
  refine va_calli (va_runV (As := [.int (xs (1 : Int32).toNatClampNeg)]) (rest := []) ⟨hx, hb, hml, hown, hts⟩ (c_X8_back l D cy g1 (xs (1 : Int32).toNatClampNeg) H.size) (cwV 1 hts (gd_V q709 q710 q711 q125 q712) rfl rfl rfl (by decide +kernel) ⟨Nat.le_of_ble_eq_true rfl, Nat.le_of_ble_eq_true rfl⟩) (pr_V hPc hK hDc (va_recv hK hPc (ci := 8) (q0 := 0) rfl rfl)) rfl rfl hl.1 rfl (lv_room (Nat.le_of_ble_eq_true rfl)) dL_law_2215 ⟨Nat.le_of_ble_eq_true rfl, Nat.le_of_ble_eq_true rfl⟩) hS (fun q _ h => hFc q h) hFc (fun r_2 u tS H1 locs ht hvm hw hB hz1 hk1 hS => ?_)
  obtain ⟨hP1, hK1, hD1⟩ := hB
  rw [ht] at hP1
  try dsimp only at hw
  obtain ⟨hP, hD⟩ := va_join (wr := [(g2 60, .inr (9, mF g2)), (g2 22, .inl (cy 3, 3, .inl (fun _ => 0)))]) (w1 := [(g1 0, .inr (8, xF g1)), (g1 25, .inl (cy 0, 3, .inl (fun _ => 0)))]) hP hD [0, 1] [2, 3] rfl rfl (by decide) (by decide) hk1 hFc hP1 hD1
  generalize H1 = H at hP hS ⊢
  have hP : va_P D clz [(g2 60, .inr (9, mF g2)), (g2 22, .inl (cy 3, 3, .inl (fun _ => 0))), (g1 0, .inr (8, xF g1)), (g1 25, .inl (cy 0, 3, .inl (fun _ => 0)))] H := hP
  have hD : va_D (fun q : Nat => s.heap.size ≤ q) [(g2 60, .inr (9, mF g2)), (g2 22, .inl (cy 3, 3, .inl (fun _ => 0))), (g1 0, .inr (8, xF g1)), (g1 25, .inl (cy 0, 3, .inl (fun _ => 0)))] := hD
  have hw_3 := hw
  refine lv_aload_n hx hb dL_law_2218 rfl (lv_at hl 1 rfl) ?_
  refine lv_aload_n hx hb dL_law_2219 rfl (lv_at hl 3 rfl) ?_
  refine lv_iload_n hx hb dL_law_2220 rfl (lv_at hl 0 rfl) ?_
  refine lv_iconst (v := 1) hx hb dL_law_2221 (by decide) ?_
  refine lv_iadd hx hb dL_law_2222 ?_
  refine lv_topi (fun x_4 ex_4 => ?_)
  obtain rfl : x_4 = 1 := ex_4.trans (by decide)
  refine va_sld hx hb hX hbl hbA hS (vpi (by decide)) dL_law_2223 ?_
  have hPc := hP.sub (ws' := [(g2 60, .inr (9, mF g2)), (g2 22, .inl (cy 3, 3, .inl (fun _ => 0)))]) [0, 1] rfl
  have hDc := hD.sub (ws' := [(g2 60, .inr (9, mF g2)), (g2 22, .inl (cy 3, 3, .inl (fun _ => 0)))]) [0, 1] (by decide) rfl
  have hFc := va_free (wc := [(g2 60, .inr (9, mF g2)), (g2 22, .inl (cy 3, 3, .inl (fun _ => 0)))]) hD hS hA [0, 1] rfl
  refine va_calli (va_runV (As := [.int (xs (1 : Int32).toNatClampNeg)]) (rest := [.int r_2]) ⟨hx, hb, hml, hown, hts⟩ (c_X9_back l D cy g2 (xs (1 : Int32).toNatClampNeg) H.size) (cwV 1 hts (gd_V q2148 q2149 q2150 q134 q2151) rfl rfl rfl (by decide +kernel) ⟨Nat.le_of_ble_eq_true rfl, Nat.le_of_ble_eq_true rfl⟩) (pr_V hPc hK hDc (va_recv hK hPc (ci := 9) (q0 := 0) rfl rfl)) rfl rfl hl.1 rfl (lv_room (Nat.le_of_ble_eq_true rfl)) dL_law_2224 ⟨Nat.le_of_ble_eq_true rfl, Nat.le_of_ble_eq_true rfl⟩) hS (fun q _ h => hFc q h) hFc (fun r_5 u tS H1 locs ht hvm hw hB hz1 hk1 hS => ?_)
  obtain ⟨hP1, hK1, hD1⟩ := hB
  rw [ht] at hP1
  try dsimp only at hw
  obtain ⟨hP, hD⟩ := va_join (wr := [(g1 0, .inr (8, xF g1)), (g1 25, .inl (cy 0, 3, .inl (fun _ => 0)))]) (w1 := [(g2 60, .inr (9, mF g2)), (g2 22, .inl (cy 3, 3, .inl (fun _ => 0)))]) hP hD [0, 1] [2, 3] rfl rfl (by decide) (by decide) hk1 hFc hP1 hD1
  generalize H1 = H at hP hS ⊢
  have hP : va_P D clz [(g1 0, .inr (8, xF g1)), (g1 25, .inl (cy 0, 3, .inl (fun _ => 0))), (g2 60, .inr (9, mF g2)), (g2 22, .inl (cy 3, 3, .inl (fun _ => 0)))] H := hP
  have hD : va_D (fun q : Nat => s.heap.size ≤ q) [(g1 0, .inr (8, xF g1)), (g1 25, .inl (cy 0, 3, .inl (fun _ => 0))), (g2 60, .inr (9, mF g2)), (g2 22, .inl (cy 3, 3, .inl (fun _ => 0)))] := hD
  have hw_6 := hw
  refine lv_icmp_eq (tgt := 2411) hx hb dL_law_2227 (by decide) (fun _ => ?_) (fun c9 => absurd (hw_3.trans hw_6.symm) c9)
  exact law_end ⟨hx, hb, hr, hml, hown0, hts0, hX, hbl, hlocks, hgv⟩ _ _ _ hS (lv_sub hl [0, 3] rfl)

theorem q1328 : Cond.methodLink RL 243 yX8_row ∈ lw_g := lw_gm (List.mem_of_getElem? (i := 1328) (by decide +kernel)) rfl
theorem q1329 : Cond.instanceMethod yX8_row ∈ lw_g := lw_gm (List.mem_of_getElem? (i := 1329) (by decide +kernel)) rfl
theorem q1330 : Cond.selects RX8 yX8_row yX8_row ∈ lw_g := lw_gm (List.mem_of_getElem? (i := 1330) (by decide +kernel)) rfl
theorem q1542 : Cond.methodLink RL 246 yX9_row ∈ lw_g := lw_gm (List.mem_of_getElem? (i := 1542) (by decide +kernel)) rfl
theorem q1543 : Cond.instanceMethod yX9_row ∈ lw_g := lw_gm (List.mem_of_getElem? (i := 1543) (by decide +kernel)) rfl
theorem q1544 : Cond.selects RX9 yX9_row yX9_row ∈ lw_g := lw_gm (List.mem_of_getElem? (i := 1544) (by decide +kernel)) rfl
theorem dL_law_2232 : decode cL_law 2232 = .ok (.aload_n 1, 1) := by decide +kernel
theorem dL_law_2233 : decode cL_law 2233 = .ok (.aload_n 0, 1) := by decide +kernel
theorem dL_law_2234 : decode cL_law 2234 = .ok (.iload_n 3, 1) := by decide +kernel
theorem dL_law_2235 : decode cL_law 2235 = .ok (.iconst 1, 1) := by decide +kernel
theorem dL_law_2236 : decode cL_law 2236 = .ok (.iadd, 1) := by decide +kernel
theorem dL_law_2237 : decode cL_law 2237 = .ok (.iaload, 1) := by decide +kernel
theorem dL_law_2238 : decode cL_law 2238 = .ok (.aload_n 0, 1) := by decide +kernel
theorem dL_law_2239 : decode cL_law 2239 = .ok (.iload_n 3, 1) := by decide +kernel
theorem dL_law_2240 : decode cL_law 2240 = .ok (.iconst 2, 1) := by decide +kernel
theorem dL_law_2241 : decode cL_law 2241 = .ok (.iadd, 1) := by decide +kernel
theorem dL_law_2242 : decode cL_law 2242 = .ok (.iaload, 1) := by decide +kernel
theorem dL_law_2243 : decode cL_law 2243 = .ok (.aload_n 0, 1) := by decide +kernel
theorem dL_law_2244 : decode cL_law 2244 = .ok (.iload_n 3, 1) := by decide +kernel
theorem dL_law_2245 : decode cL_law 2245 = .ok (.iconst 3, 1) := by decide +kernel
theorem dL_law_2246 : decode cL_law 2246 = .ok (.iadd, 1) := by decide +kernel
theorem dL_law_2247 : decode cL_law 2247 = .ok (.iaload, 1) := by decide +kernel
theorem dL_law_2248 : decode cL_law 2248 = .ok (.invokevirtual 243, 3) := by decide +kernel
theorem dL_law_2251 : decode cL_law 2251 = .ok (.aload_n 2, 1) := by decide +kernel
theorem dL_law_2252 : decode cL_law 2252 = .ok (.aload_n 0, 1) := by decide +kernel
theorem dL_law_2253 : decode cL_law 2253 = .ok (.iload_n 3, 1) := by decide +kernel
theorem dL_law_2254 : decode cL_law 2254 = .ok (.iconst 1, 1) := by decide +kernel
theorem dL_law_2255 : decode cL_law 2255 = .ok (.iadd, 1) := by decide +kernel
theorem dL_law_2256 : decode cL_law 2256 = .ok (.iaload, 1) := by decide +kernel
theorem dL_law_2257 : decode cL_law 2257 = .ok (.aload_n 0, 1) := by decide +kernel
theorem dL_law_2258 : decode cL_law 2258 = .ok (.iload_n 3, 1) := by decide +kernel
theorem dL_law_2259 : decode cL_law 2259 = .ok (.iconst 2, 1) := by decide +kernel
theorem dL_law_2260 : decode cL_law 2260 = .ok (.iadd, 1) := by decide +kernel
theorem dL_law_2261 : decode cL_law 2261 = .ok (.iaload, 1) := by decide +kernel
theorem dL_law_2262 : decode cL_law 2262 = .ok (.aload_n 0, 1) := by decide +kernel
theorem dL_law_2263 : decode cL_law 2263 = .ok (.iload_n 3, 1) := by decide +kernel
theorem dL_law_2264 : decode cL_law 2264 = .ok (.iconst 3, 1) := by decide +kernel
theorem dL_law_2265 : decode cL_law 2265 = .ok (.iadd, 1) := by decide +kernel
theorem dL_law_2266 : decode cL_law 2266 = .ok (.iaload, 1) := by decide +kernel
theorem dL_law_2267 : decode cL_law 2267 = .ok (.invokevirtual 246, 3) := by decide +kernel
theorem dL_law_2270 : decode cL_law 2270 = .ok (.if_icmp .eq 141, 3) := by decide +kernel
set_option maxHeartbeats 4000000 in
set_option maxRecDepth 100000 in
theorem lawc_row {p : Program} {l : Launch} {e : Env} {s : State} {m : MethodId} {below : List Frame} {meth : Method} {c : Code} {b : Nat} {xs : Nat → Int32} (D : va_G) (cy : Nat → ClassId) (g1 g2 : Nat → Nat) (C0 : lw_At p s m meth c b 6 xs) (hK : va_K D clz (tyl cy) s) (H : Heap) (locs : List Loc) (ls : Array Slot) (hP : va_P D clz [(g1 0, .inr (8, xF g1)), (g1 26, .inl (cy 5, 4, .inr (.inr (.inr (.inr (va_up (va_up (va_up (va_up (fun _ => none) 0 (some (g1 27))) 1 (some (g1 29))) 2 (some (g1 31))) 3 (some (g1 33)))))))), (g1 27, .inr (5, [.int 0, .int 0, .int 0, .ref (g1 28)])), (g1 28, .inl (cy 2, 60, .inr (.inl (fun _ => 0)))), (g1 29, .inr (5, [.int 0, .int 0, .int 0, .ref (g1 30)])), (g1 30, .inl (cy 2, 60, .inr (.inl (fun _ => 0)))), (g1 31, .inr (5, [.int 0, .int 0, .int 0, .ref (g1 32)])), (g1 32, .inl (cy 2, 60, .inr (.inl (fun _ => 0)))), (g1 33, .inr (5, [.int 0, .int 0, .int 0, .ref (g1 34)])), (g1 34, .inl (cy 2, 60, .inr (.inl (fun _ => 0)))), (g2 60, .inr (9, mF g2)), (g2 1, .inl (cy 0, 4, .inl (upd (upd (upd (upd (fun _ => 0) 0 (-1)) 1 (-1)) 2 (-1)) 3 (-1)))), (g2 2, .inl (cy 0, 4, .inl (fun _ => 0))), (g2 3, .inl (cy 2, 240, .inr (.inl (fun _ => 0))))] H) (hD : va_D (fun q : Nat => s.heap.size ≤ q) [(g1 0, .inr (8, xF g1)), (g1 26, .inl (cy 5, 4, .inr (.inr (.inr (.inr (va_up (va_up (va_up (va_up (fun _ => none) 0 (some (g1 27))) 1 (some (g1 29))) 2 (some (g1 31))) 3 (some (g1 33)))))))), (g1 27, .inr (5, [.int 0, .int 0, .int 0, .ref (g1 28)])), (g1 28, .inl (cy 2, 60, .inr (.inl (fun _ => 0)))), (g1 29, .inr (5, [.int 0, .int 0, .int 0, .ref (g1 30)])), (g1 30, .inl (cy 2, 60, .inr (.inl (fun _ => 0)))), (g1 31, .inr (5, [.int 0, .int 0, .int 0, .ref (g1 32)])), (g1 32, .inl (cy 2, 60, .inr (.inl (fun _ => 0)))), (g1 33, .inr (5, [.int 0, .int 0, .int 0, .ref (g1 34)])), (g1 34, .inl (cy 2, 60, .inr (.inl (fun _ => 0)))), (g2 60, .inr (9, mF g2)), (g2 1, .inl (cy 0, 4, .inl (upd (upd (upd (upd (fun _ => 0) 0 (-1)) 1 (-1)) 2 (-1)) 3 (-1)))), (g2 2, .inl (cy 0, 4, .inl (fun _ => 0))), (g2 3, .inl (cy 2, 240, .inr (.inl (fun _ => 0))))]) (hS : va_S (fun q : Nat => s.heap.size ≤ q) s.heap H locs) (hl : lv_has ls 4 [(3, .int 0), (2, .ref (g2 60)), (1, .ref (g1 0)), (0, .ref b)]) : W p l e room_1 s m #[Value.ref b] below meth c H locs 200 700000 (lw_Z below #[Value.ref b] s) (F0 m 2232 ls []) := by
  obtain ⟨hx, hb, hr, hml, hown0, hts0, hX, hbl, hlocks, hgv⟩ := C0
  have hown : s.vm.findClass RL = some m.cls := hown0
  have hts : ∀ w ∈ lw_g, w.before #[Value.ref b] s = true := fun w h => hts0 w (lw_gt h)
  have hA : ∀ q : Nat, s.heap.size ≤ q → (fun q : Nat => s.heap.size ≤ q) q := fun _ h => h
  have hbA : ¬ (fun q : Nat => s.heap.size ≤ q) b := Nat.not_le.mpr hbl
  refine lv_aload_n hx hb dL_law_2232 rfl (lv_at hl 2 rfl) ?_
  refine lv_aload_n hx hb dL_law_2233 rfl (lv_at hl 3 rfl) ?_
  refine lv_iload_n hx hb dL_law_2234 rfl (lv_at hl 0 rfl) ?_
  refine lv_iconst (v := 1) hx hb dL_law_2235 (by decide) ?_
  refine lv_iadd hx hb dL_law_2236 ?_
  refine lv_topi (fun x_1 ex_1 => ?_)
  obtain rfl : x_1 = 1 := ex_1.trans (by decide)
  refine va_sld hx hb hX hbl hbA hS (vpi (by decide)) dL_law_2237 ?_
  refine lv_aload_n hx hb dL_law_2238 rfl (lv_at hl 3 rfl) ?_
  refine lv_iload_n hx hb dL_law_2239 rfl (lv_at hl 0 rfl) ?_
  refine lv_iconst (v := 2) hx hb dL_law_2240 (by decide) ?_
  refine lv_iadd hx hb dL_law_2241 ?_
  refine lv_topi (fun x_2 ex_2 => ?_)
  obtain rfl : x_2 = 2 := ex_2.trans (by decide)
  refine va_sld hx hb hX hbl hbA hS (vpi (by decide)) dL_law_2242 ?_
  refine lv_aload_n hx hb dL_law_2243 rfl (lv_at hl 3 rfl) ?_
  refine lv_iload_n hx hb dL_law_2244 rfl (lv_at hl 0 rfl) ?_
  refine lv_iconst (v := 3) hx hb dL_law_2245 (by decide) ?_
  refine lv_iadd hx hb dL_law_2246 ?_
  refine lv_topi (fun x_3 ex_3 => ?_)
  obtain rfl : x_3 = 3 := ex_3.trans (by decide)
  refine va_sld hx hb hX hbl hbA hS (vpi (by decide)) dL_law_2247 ?_
  have hPc := hP.sub (ws' := [(g1 0, .inr (8, xF g1)), (g1 26, .inl (cy 5, 4, .inr (.inr (.inr (.inr (va_up (va_up (va_up (va_up (fun _ => none) 0 (some (g1 27))) 1 (some (g1 29))) 2 (some (g1 31))) 3 (some (g1 33)))))))), (g1 27, .inr (5, [.int 0, .int 0, .int 0, .ref (g1 28)])), (g1 28, .inl (cy 2, 60, .inr (.inl (fun _ => 0)))), (g1 29, .inr (5, [.int 0, .int 0, .int 0, .ref (g1 30)])), (g1 30, .inl (cy 2, 60, .inr (.inl (fun _ => 0)))), (g1 31, .inr (5, [.int 0, .int 0, .int 0, .ref (g1 32)])), (g1 32, .inl (cy 2, 60, .inr (.inl (fun _ => 0)))), (g1 33, .inr (5, [.int 0, .int 0, .int 0, .ref (g1 34)])), (g1 34, .inl (cy 2, 60, .inr (.inl (fun _ => 0))))]) [0, 1, 2, 3, 4, 5, 6, 7, 8, 9] rfl
  have hDc := hD.sub (ws' := [(g1 0, .inr (8, xF g1)), (g1 26, .inl (cy 5, 4, .inr (.inr (.inr (.inr (va_up (va_up (va_up (va_up (fun _ => none) 0 (some (g1 27))) 1 (some (g1 29))) 2 (some (g1 31))) 3 (some (g1 33)))))))), (g1 27, .inr (5, [.int 0, .int 0, .int 0, .ref (g1 28)])), (g1 28, .inl (cy 2, 60, .inr (.inl (fun _ => 0)))), (g1 29, .inr (5, [.int 0, .int 0, .int 0, .ref (g1 30)])), (g1 30, .inl (cy 2, 60, .inr (.inl (fun _ => 0)))), (g1 31, .inr (5, [.int 0, .int 0, .int 0, .ref (g1 32)])), (g1 32, .inl (cy 2, 60, .inr (.inl (fun _ => 0)))), (g1 33, .inr (5, [.int 0, .int 0, .int 0, .ref (g1 34)])), (g1 34, .inl (cy 2, 60, .inr (.inl (fun _ => 0))))]) [0, 1, 2, 3, 4, 5, 6, 7, 8, 9] (by decide) rfl
  have hFc := va_free (wc := [(g1 0, .inr (8, xF g1)), (g1 26, .inl (cy 5, 4, .inr (.inr (.inr (.inr (va_up (va_up (va_up (va_up (fun _ => none) 0 (some (g1 27))) 1 (some (g1 29))) 2 (some (g1 31))) 3 (some (g1 33)))))))), (g1 27, .inr (5, [.int 0, .int 0, .int 0, .ref (g1 28)])), (g1 28, .inl (cy 2, 60, .inr (.inl (fun _ => 0)))), (g1 29, .inr (5, [.int 0, .int 0, .int 0, .ref (g1 30)])), (g1 30, .inl (cy 2, 60, .inr (.inl (fun _ => 0)))), (g1 31, .inr (5, [.int 0, .int 0, .int 0, .ref (g1 32)])), (g1 32, .inl (cy 2, 60, .inr (.inl (fun _ => 0)))), (g1 33, .inr (5, [.int 0, .int 0, .int 0, .ref (g1 34)])), (g1 34, .inl (cy 2, 60, .inr (.inl (fun _ => 0))))]) hD hS hA [0, 1, 2, 3, 4, 5, 6, 7, 8, 9] rfl
  refine va_calli (va_runV (As := [.int (xs (1 : Int32).toNatClampNeg), .int (xs (2 : Int32).toNatClampNeg), .int (xs (3 : Int32).toNatClampNeg)]) (rest := []) ⟨hx, hb, hml, hown, hts⟩ (c_X8_row l D cy g1 (xs (1 : Int32).toNatClampNeg) (xs (2 : Int32).toNatClampNeg) (xs (3 : Int32).toNatClampNeg) H.size) (cwV 3 hts (gd_V q1328 q1329 q1330 q125 q1331) rfl rfl rfl (by decide +kernel) ⟨Nat.le_of_ble_eq_true rfl, Nat.le_of_ble_eq_true rfl⟩) (pr_V hPc hK hDc (va_recv hK hPc (ci := 8) (q0 := 0) rfl rfl)) rfl rfl hl.1 rfl (lv_room (Nat.le_of_ble_eq_true rfl)) dL_law_2248 ⟨Nat.le_of_ble_eq_true rfl, Nat.le_of_ble_eq_true rfl⟩) hS (fun q _ h => hFc q h) hFc (fun r_4 u tS H1 locs ht hvm hw hB hz1 hk1 hS => ?_)
  obtain ⟨hP1, hK1, hD1⟩ := hB
  rw [ht] at hP1
  try dsimp only at hw
  obtain ⟨hP, hD⟩ := va_join (wr := [(g2 60, .inr (9, mF g2)), (g2 1, .inl (cy 0, 4, .inl (upd (upd (upd (upd (fun _ => 0) 0 (-1)) 1 (-1)) 2 (-1)) 3 (-1)))), (g2 2, .inl (cy 0, 4, .inl (fun _ => 0))), (g2 3, .inl (cy 2, 240, .inr (.inl (fun _ => 0))))]) (w1 := []) hP hD [0, 1, 2, 3, 4, 5, 6, 7, 8, 9] [10, 11, 12, 13] rfl rfl (by decide) (by decide) hk1 hFc hP1 hD1
  generalize H1 = H at hP hS ⊢
  have hP : va_P D clz [(g2 60, .inr (9, mF g2)), (g2 1, .inl (cy 0, 4, .inl (upd (upd (upd (upd (fun _ => 0) 0 (-1)) 1 (-1)) 2 (-1)) 3 (-1)))), (g2 2, .inl (cy 0, 4, .inl (fun _ => 0))), (g2 3, .inl (cy 2, 240, .inr (.inl (fun _ => 0))))] H := hP
  have hD : va_D (fun q : Nat => s.heap.size ≤ q) [(g2 60, .inr (9, mF g2)), (g2 1, .inl (cy 0, 4, .inl (upd (upd (upd (upd (fun _ => 0) 0 (-1)) 1 (-1)) 2 (-1)) 3 (-1)))), (g2 2, .inl (cy 0, 4, .inl (fun _ => 0))), (g2 3, .inl (cy 2, 240, .inr (.inl (fun _ => 0))))] := hD
  have hw_5 := hw
  refine lv_aload_n hx hb dL_law_2251 rfl (lv_at hl 1 rfl) ?_
  refine lv_aload_n hx hb dL_law_2252 rfl (lv_at hl 3 rfl) ?_
  refine lv_iload_n hx hb dL_law_2253 rfl (lv_at hl 0 rfl) ?_
  refine lv_iconst (v := 1) hx hb dL_law_2254 (by decide) ?_
  refine lv_iadd hx hb dL_law_2255 ?_
  refine lv_topi (fun x_6 ex_6 => ?_)
  obtain rfl : x_6 = 1 := ex_6.trans (by decide)
  refine va_sld hx hb hX hbl hbA hS (vpi (by decide)) dL_law_2256 ?_
  refine lv_aload_n hx hb dL_law_2257 rfl (lv_at hl 3 rfl) ?_
  refine lv_iload_n hx hb dL_law_2258 rfl (lv_at hl 0 rfl) ?_
  refine lv_iconst (v := 2) hx hb dL_law_2259 (by decide) ?_
  refine lv_iadd hx hb dL_law_2260 ?_
  refine lv_topi (fun x_7 ex_7 => ?_)
  obtain rfl : x_7 = 2 := ex_7.trans (by decide)
  refine va_sld hx hb hX hbl hbA hS (vpi (by decide)) dL_law_2261 ?_
  refine lv_aload_n hx hb dL_law_2262 rfl (lv_at hl 3 rfl) ?_
  refine lv_iload_n hx hb dL_law_2263 rfl (lv_at hl 0 rfl) ?_
  refine lv_iconst (v := 3) hx hb dL_law_2264 (by decide) ?_
  refine lv_iadd hx hb dL_law_2265 ?_
  refine lv_topi (fun x_8 ex_8 => ?_)
  obtain rfl : x_8 = 3 := ex_8.trans (by decide)
  refine va_sld hx hb hX hbl hbA hS (vpi (by decide)) dL_law_2266 ?_
  have hPc := hP.sub (ws' := [(g2 60, .inr (9, mF g2)), (g2 1, .inl (cy 0, 4, .inl (upd (upd (upd (upd (fun _ => 0) 0 (-1)) 1 (-1)) 2 (-1)) 3 (-1)))), (g2 2, .inl (cy 0, 4, .inl (fun _ => 0))), (g2 3, .inl (cy 2, 240, .inr (.inl (fun _ => 0))))]) [0, 1, 2, 3] rfl
  have hDc := hD.sub (ws' := [(g2 60, .inr (9, mF g2)), (g2 1, .inl (cy 0, 4, .inl (upd (upd (upd (upd (fun _ => 0) 0 (-1)) 1 (-1)) 2 (-1)) 3 (-1)))), (g2 2, .inl (cy 0, 4, .inl (fun _ => 0))), (g2 3, .inl (cy 2, 240, .inr (.inl (fun _ => 0))))]) [0, 1, 2, 3] (by decide) rfl
  have hFc := va_free (wc := [(g2 60, .inr (9, mF g2)), (g2 1, .inl (cy 0, 4, .inl (upd (upd (upd (upd (fun _ => 0) 0 (-1)) 1 (-1)) 2 (-1)) 3 (-1)))), (g2 2, .inl (cy 0, 4, .inl (fun _ => 0))), (g2 3, .inl (cy 2, 240, .inr (.inl (fun _ => 0))))]) hD hS hA [0, 1, 2, 3] rfl
  refine va_calli (va_runV (As := [.int (xs (1 : Int32).toNatClampNeg), .int (xs (2 : Int32).toNatClampNeg), .int (xs (3 : Int32).toNatClampNeg)]) (rest := [.int r_4]) ⟨hx, hb, hml, hown, hts⟩ (c_X9_row l D cy g2 (xs (1 : Int32).toNatClampNeg) (xs (2 : Int32).toNatClampNeg) (xs (3 : Int32).toNatClampNeg) H.size) (cwV 3 hts (gd_V q1542 q1543 q1544 q134 q1545) rfl rfl rfl (by decide +kernel) ⟨Nat.le_of_ble_eq_true rfl, Nat.le_of_ble_eq_true rfl⟩) (pr_V hPc hK hDc (va_recv hK hPc (ci := 9) (q0 := 0) rfl rfl)) rfl rfl hl.1 rfl (lv_room (Nat.le_of_ble_eq_true rfl)) dL_law_2267 ⟨Nat.le_of_ble_eq_true rfl, Nat.le_of_ble_eq_true rfl⟩) hS (fun q _ h => hFc q h) hFc (fun r_9 u tS H1 locs ht hvm hw hB hz1 hk1 hS => ?_)
  obtain ⟨hP1, hK1, hD1⟩ := hB
  rw [ht] at hP1
  try dsimp only at hw
  obtain ⟨hP, hD⟩ := va_join (wr := []) (w1 := []) hP hD [0, 1, 2, 3] [] rfl rfl (by decide) (by decide) hk1 hFc hP1 hD1
  generalize H1 = H at hP hS ⊢
  have hP : va_P D clz [] H := hP
  have hD : va_D (fun q : Nat => s.heap.size ≤ q) [] := hD
  have hw_10 := hw
  refine lv_icmp_eq (tgt := 2411) hx hb dL_law_2270 (by decide) (fun _ => ?_) (fun c9 => absurd (hw_5.trans hw_10.symm) c9)
  exact law_end ⟨hx, hb, hr, hml, hown0, hts0, hX, hbl, hlocks, hgv⟩ _ _ _ hS (lv_sub hl [0, 3] rfl)

theorem q2152 : Cond.constantLong RL 247 (4294967295) ∈ lw_g := lw_gm (List.mem_of_getElem? (i := 2152) (by decide +kernel)) rfl
theorem q1336 : Cond.methodLink RL 249 yX8_write ∈ lw_g := lw_gm (List.mem_of_getElem? (i := 1336) (by decide +kernel)) rfl
theorem q1337 : Cond.instanceMethod yX8_write ∈ lw_g := lw_gm (List.mem_of_getElem? (i := 1337) (by decide +kernel)) rfl
theorem q1338 : Cond.selects RX8 yX8_write yX8_write ∈ lw_g := lw_gm (List.mem_of_getElem? (i := 1338) (by decide +kernel)) rfl
theorem q1553 : Cond.methodLink RL 253 yX9_write ∈ lw_g := lw_gm (List.mem_of_getElem? (i := 1553) (by decide +kernel)) rfl
theorem q1554 : Cond.instanceMethod yX9_write ∈ lw_g := lw_gm (List.mem_of_getElem? (i := 1554) (by decide +kernel)) rfl
theorem q1555 : Cond.selects RX9 yX9_write yX9_write ∈ lw_g := lw_gm (List.mem_of_getElem? (i := 1555) (by decide +kernel)) rfl
theorem dL_law_2275 : decode cL_law 2275 = .ok (.aload_n 1, 1) := by decide +kernel
theorem dL_law_2276 : decode cL_law 2276 = .ok (.aload_n 0, 1) := by decide +kernel
theorem dL_law_2277 : decode cL_law 2277 = .ok (.iload_n 3, 1) := by decide +kernel
theorem dL_law_2278 : decode cL_law 2278 = .ok (.iconst 1, 1) := by decide +kernel
theorem dL_law_2279 : decode cL_law 2279 = .ok (.iadd, 1) := by decide +kernel
theorem dL_law_2280 : decode cL_law 2280 = .ok (.iaload, 1) := by decide +kernel
theorem dL_law_2281 : decode cL_law 2281 = .ok (.aload_n 0, 1) := by decide +kernel
theorem dL_law_2282 : decode cL_law 2282 = .ok (.iload_n 3, 1) := by decide +kernel
theorem dL_law_2283 : decode cL_law 2283 = .ok (.iconst 2, 1) := by decide +kernel
theorem dL_law_2284 : decode cL_law 2284 = .ok (.iadd, 1) := by decide +kernel
theorem dL_law_2285 : decode cL_law 2285 = .ok (.iaload, 1) := by decide +kernel
theorem dL_law_2286 : decode cL_law 2286 = .ok (.aload_n 0, 1) := by decide +kernel
theorem dL_law_2287 : decode cL_law 2287 = .ok (.iload_n 3, 1) := by decide +kernel
theorem dL_law_2288 : decode cL_law 2288 = .ok (.iconst 3, 1) := by decide +kernel
theorem dL_law_2289 : decode cL_law 2289 = .ok (.iadd, 1) := by decide +kernel
theorem dL_law_2290 : decode cL_law 2290 = .ok (.iaload, 1) := by decide +kernel
theorem dL_law_2291 : decode cL_law 2291 = .ok (.i2l, 1) := by decide +kernel
theorem dL_law_2292 : decode cL_law 2292 = .ok (.bipush 32, 2) := by decide +kernel
theorem dL_law_2294 : decode cL_law 2294 = .ok (.lshl, 1) := by decide +kernel
theorem dL_law_2295 : decode cL_law 2295 = .ok (.aload_n 0, 1) := by decide +kernel
theorem dL_law_2296 : decode cL_law 2296 = .ok (.iload_n 3, 1) := by decide +kernel
theorem dL_law_2297 : decode cL_law 2297 = .ok (.iconst 4, 1) := by decide +kernel
theorem dL_law_2298 : decode cL_law 2298 = .ok (.iadd, 1) := by decide +kernel
theorem dL_law_2299 : decode cL_law 2299 = .ok (.iaload, 1) := by decide +kernel
theorem dL_law_2300 : decode cL_law 2300 = .ok (.i2l, 1) := by decide +kernel
theorem dL_law_2301 : decode cL_law 2301 = .ok (.ldc2_w 247, 3) := by decide +kernel
theorem dL_law_2304 : decode cL_law 2304 = .ok (.land, 1) := by decide +kernel
theorem dL_law_2305 : decode cL_law 2305 = .ok (.lor, 1) := by decide +kernel
theorem dL_law_2306 : decode cL_law 2306 = .ok (.invokevirtual 249, 3) := by decide +kernel
theorem dL_law_2309 : decode cL_law 2309 = .ok (.aload_n 2, 1) := by decide +kernel
theorem dL_law_2310 : decode cL_law 2310 = .ok (.aload_n 0, 1) := by decide +kernel
theorem dL_law_2311 : decode cL_law 2311 = .ok (.iload_n 3, 1) := by decide +kernel
theorem dL_law_2312 : decode cL_law 2312 = .ok (.iconst 1, 1) := by decide +kernel
theorem dL_law_2313 : decode cL_law 2313 = .ok (.iadd, 1) := by decide +kernel
theorem dL_law_2314 : decode cL_law 2314 = .ok (.iaload, 1) := by decide +kernel
theorem dL_law_2315 : decode cL_law 2315 = .ok (.aload_n 0, 1) := by decide +kernel
theorem dL_law_2316 : decode cL_law 2316 = .ok (.iload_n 3, 1) := by decide +kernel
theorem dL_law_2317 : decode cL_law 2317 = .ok (.iconst 2, 1) := by decide +kernel
theorem dL_law_2318 : decode cL_law 2318 = .ok (.iadd, 1) := by decide +kernel
theorem dL_law_2319 : decode cL_law 2319 = .ok (.iaload, 1) := by decide +kernel
theorem dL_law_2320 : decode cL_law 2320 = .ok (.aload_n 0, 1) := by decide +kernel
theorem dL_law_2321 : decode cL_law 2321 = .ok (.iload_n 3, 1) := by decide +kernel
theorem dL_law_2322 : decode cL_law 2322 = .ok (.iconst 3, 1) := by decide +kernel
theorem dL_law_2323 : decode cL_law 2323 = .ok (.iadd, 1) := by decide +kernel
theorem dL_law_2324 : decode cL_law 2324 = .ok (.iaload, 1) := by decide +kernel
theorem dL_law_2325 : decode cL_law 2325 = .ok (.i2l, 1) := by decide +kernel
theorem dL_law_2326 : decode cL_law 2326 = .ok (.bipush 32, 2) := by decide +kernel
theorem dL_law_2328 : decode cL_law 2328 = .ok (.lshl, 1) := by decide +kernel
theorem dL_law_2329 : decode cL_law 2329 = .ok (.aload_n 0, 1) := by decide +kernel
theorem dL_law_2330 : decode cL_law 2330 = .ok (.iload_n 3, 1) := by decide +kernel
theorem dL_law_2331 : decode cL_law 2331 = .ok (.iconst 4, 1) := by decide +kernel
theorem dL_law_2332 : decode cL_law 2332 = .ok (.iadd, 1) := by decide +kernel
theorem dL_law_2333 : decode cL_law 2333 = .ok (.iaload, 1) := by decide +kernel
theorem dL_law_2334 : decode cL_law 2334 = .ok (.i2l, 1) := by decide +kernel
theorem dL_law_2335 : decode cL_law 2335 = .ok (.ldc2_w 247, 3) := by decide +kernel
theorem dL_law_2338 : decode cL_law 2338 = .ok (.land, 1) := by decide +kernel
theorem dL_law_2339 : decode cL_law 2339 = .ok (.lor, 1) := by decide +kernel
theorem dL_law_2340 : decode cL_law 2340 = .ok (.invokevirtual 253, 3) := by decide +kernel
theorem dL_law_2343 : decode cL_law 2343 = .ok (.if_icmp .eq 68, 3) := by decide +kernel
set_option maxHeartbeats 4000000 in
set_option maxRecDepth 100000 in
theorem lawc_write {p : Program} {l : Launch} {e : Env} {s : State} {m : MethodId} {below : List Frame} {meth : Method} {c : Code} {b : Nat} {xs : Nat → Int32} (D : va_G) (cy : Nat → ClassId) (g1 g2 : Nat → Nat) (C0 : lw_At p s m meth c b 6 xs) (hK : va_K D clz (tyl cy) s) (H : Heap) (locs : List Loc) (ls : Array Slot) (hP : va_P D clz [(g1 0, .inr (8, xF g1)), (g1 26, .inl (cy 5, 4, .inr (.inr (.inr (.inr (va_up (va_up (va_up (va_up (fun _ => none) 0 (some (g1 27))) 1 (some (g1 29))) 2 (some (g1 31))) 3 (some (g1 33)))))))), (g1 27, .inr (5, [.int 0, .int 0, .int 0, .ref (g1 28)])), (g1 29, .inr (5, [.int 0, .int 0, .int 0, .ref (g1 30)])), (g1 31, .inr (5, [.int 0, .int 0, .int 0, .ref (g1 32)])), (g1 33, .inr (5, [.int 0, .int 0, .int 0, .ref (g1 34)])), (g2 60, .inr (9, mF g2)), (g2 1, .inl (cy 0, 4, .inl (upd (upd (upd (upd (fun _ => 0) 0 (-1)) 1 (-1)) 2 (-1)) 3 (-1))))] H) (hD : va_D (fun q : Nat => s.heap.size ≤ q) [(g1 0, .inr (8, xF g1)), (g1 26, .inl (cy 5, 4, .inr (.inr (.inr (.inr (va_up (va_up (va_up (va_up (fun _ => none) 0 (some (g1 27))) 1 (some (g1 29))) 2 (some (g1 31))) 3 (some (g1 33)))))))), (g1 27, .inr (5, [.int 0, .int 0, .int 0, .ref (g1 28)])), (g1 29, .inr (5, [.int 0, .int 0, .int 0, .ref (g1 30)])), (g1 31, .inr (5, [.int 0, .int 0, .int 0, .ref (g1 32)])), (g1 33, .inr (5, [.int 0, .int 0, .int 0, .ref (g1 34)])), (g2 60, .inr (9, mF g2)), (g2 1, .inl (cy 0, 4, .inl (upd (upd (upd (upd (fun _ => 0) 0 (-1)) 1 (-1)) 2 (-1)) 3 (-1))))]) (hS : va_S (fun q : Nat => s.heap.size ≤ q) s.heap H locs) (hl : lv_has ls 4 [(3, .int 0), (2, .ref (g2 60)), (1, .ref (g1 0)), (0, .ref b)]) : W p l e room_1 s m #[Value.ref b] below meth c H locs 200 700000 (lw_Z below #[Value.ref b] s) (F0 m 2275 ls []) := by
  obtain ⟨hx, hb, hr, hml, hown0, hts0, hX, hbl, hlocks, hgv⟩ := C0
  have hown : s.vm.findClass RL = some m.cls := hown0
  have hts : ∀ w ∈ lw_g, w.before #[Value.ref b] s = true := fun w h => hts0 w (lw_gt h)
  have hA : ∀ q : Nat, s.heap.size ≤ q → (fun q : Nat => s.heap.size ≤ q) q := fun _ h => h
  have hbA : ¬ (fun q : Nat => s.heap.size ≤ q) b := Nat.not_le.mpr hbl
  refine lv_aload_n hx hb dL_law_2275 rfl (lv_at hl 2 rfl) ?_
  refine lv_aload_n hx hb dL_law_2276 rfl (lv_at hl 3 rfl) ?_
  refine lv_iload_n hx hb dL_law_2277 rfl (lv_at hl 0 rfl) ?_
  refine lv_iconst (v := 1) hx hb dL_law_2278 (by decide) ?_
  refine lv_iadd hx hb dL_law_2279 ?_
  refine lv_topi (fun x_1 ex_1 => ?_)
  obtain rfl : x_1 = 1 := ex_1.trans (by decide)
  refine va_sld hx hb hX hbl hbA hS (vpi (by decide)) dL_law_2280 ?_
  refine lv_aload_n hx hb dL_law_2281 rfl (lv_at hl 3 rfl) ?_
  refine lv_iload_n hx hb dL_law_2282 rfl (lv_at hl 0 rfl) ?_
  refine lv_iconst (v := 2) hx hb dL_law_2283 (by decide) ?_
  refine lv_iadd hx hb dL_law_2284 ?_
  refine lv_topi (fun x_2 ex_2 => ?_)
  obtain rfl : x_2 = 2 := ex_2.trans (by decide)
  refine va_sld hx hb hX hbl hbA hS (vpi (by decide)) dL_law_2285 ?_
  refine lv_aload_n hx hb dL_law_2286 rfl (lv_at hl 3 rfl) ?_
  refine lv_iload_n hx hb dL_law_2287 rfl (lv_at hl 0 rfl) ?_
  refine lv_iconst (v := 3) hx hb dL_law_2288 (by decide) ?_
  refine lv_iadd hx hb dL_law_2289 ?_
  refine lv_topi (fun x_3 ex_3 => ?_)
  obtain rfl : x_3 = 3 := ex_3.trans (by decide)
  refine va_sld hx hb hX hbl hbA hS (vpi (by decide)) dL_law_2290 ?_
  refine lv_i2l (v := (xs (3 : Int32).toNatClampNeg).toInt64) hx hb dL_law_2291 rfl ?_
  refine lv_bipush (v := 32) hx hb dL_law_2292 (by decide) ?_
  refine lv_lshl hx hb dL_law_2294 rfl ?_
  refine lv_topl (fun x_4 ex_4 => ?_)
  refine lv_aload_n hx hb dL_law_2295 rfl (lv_at hl 3 rfl) ?_
  refine lv_iload_n hx hb dL_law_2296 rfl (lv_at hl 0 rfl) ?_
  refine lv_iconst (v := 4) hx hb dL_law_2297 (by decide) ?_
  refine lv_iadd hx hb dL_law_2298 ?_
  refine lv_topi (fun x_5 ex_5 => ?_)
  obtain rfl : x_5 = 4 := ex_5.trans (by decide)
  refine va_sld hx hb hX hbl hbA hS (vpi (by decide)) dL_law_2299 ?_
  refine lv_i2l (v := (xs (4 : Int32).toNatClampNeg).toInt64) hx hb dL_law_2300 rfl ?_
  refine lv_ldc2 (v := 4294967295) hx hb hown (hts _ q2152) dL_law_2301 ?_
  refine lv_land hx hb dL_law_2304 ?_
  refine lv_topl (fun x_6 ex_6 => ?_)
  refine lv_lor hx hb dL_law_2305 ?_
  refine lv_topl (fun x_7 ex_7 => ?_)
  have hPc := hP.sub (ws' := [(g1 0, .inr (8, xF g1)), (g1 26, .inl (cy 5, 4, .inr (.inr (.inr (.inr (va_up (va_up (va_up (va_up (fun _ => none) 0 (some (g1 27))) 1 (some (g1 29))) 2 (some (g1 31))) 3 (some (g1 33)))))))), (g1 27, .inr (5, [.int 0, .int 0, .int 0, .ref (g1 28)])), (g1 29, .inr (5, [.int 0, .int 0, .int 0, .ref (g1 30)])), (g1 31, .inr (5, [.int 0, .int 0, .int 0, .ref (g1 32)])), (g1 33, .inr (5, [.int 0, .int 0, .int 0, .ref (g1 34)]))]) [0, 1, 2, 3, 4, 5] rfl
  have hDc := hD.sub (ws' := [(g1 0, .inr (8, xF g1)), (g1 26, .inl (cy 5, 4, .inr (.inr (.inr (.inr (va_up (va_up (va_up (va_up (fun _ => none) 0 (some (g1 27))) 1 (some (g1 29))) 2 (some (g1 31))) 3 (some (g1 33)))))))), (g1 27, .inr (5, [.int 0, .int 0, .int 0, .ref (g1 28)])), (g1 29, .inr (5, [.int 0, .int 0, .int 0, .ref (g1 30)])), (g1 31, .inr (5, [.int 0, .int 0, .int 0, .ref (g1 32)])), (g1 33, .inr (5, [.int 0, .int 0, .int 0, .ref (g1 34)]))]) [0, 1, 2, 3, 4, 5] (by decide) rfl
  have hFc := va_free (wc := [(g1 0, .inr (8, xF g1)), (g1 26, .inl (cy 5, 4, .inr (.inr (.inr (.inr (va_up (va_up (va_up (va_up (fun _ => none) 0 (some (g1 27))) 1 (some (g1 29))) 2 (some (g1 31))) 3 (some (g1 33)))))))), (g1 27, .inr (5, [.int 0, .int 0, .int 0, .ref (g1 28)])), (g1 29, .inr (5, [.int 0, .int 0, .int 0, .ref (g1 30)])), (g1 31, .inr (5, [.int 0, .int 0, .int 0, .ref (g1 32)])), (g1 33, .inr (5, [.int 0, .int 0, .int 0, .ref (g1 34)]))]) hD hS hA [0, 1, 2, 3, 4, 5] rfl
  refine va_calli (va_runV (As := [.int (xs (1 : Int32).toNatClampNeg), .int (xs (2 : Int32).toNatClampNeg), .long x_7]) (rest := []) ⟨hx, hb, hml, hown, hts⟩ (c_X8_write l D cy g1 (xs (1 : Int32).toNatClampNeg) (xs (2 : Int32).toNatClampNeg) x_7 H.size) (cwV 3 hts (gd_V q1336 q1337 q1338 q125 q1339) rfl rfl rfl (by decide +kernel) ⟨Nat.le_of_ble_eq_true rfl, Nat.le_of_ble_eq_true rfl⟩) (pr_V hPc hK hDc (va_recv hK hPc (ci := 8) (q0 := 0) rfl rfl)) rfl rfl hl.1 rfl (lv_room (Nat.le_of_ble_eq_true rfl)) dL_law_2306 ⟨Nat.le_of_ble_eq_true rfl, Nat.le_of_ble_eq_true rfl⟩) hS (fun q _ h => hFc q h) hFc (fun r_8 u tS H1 locs ht hvm hw hB hz1 hk1 hS => ?_)
  obtain ⟨hP1, hK1, hD1⟩ := hB
  rw [ht] at hP1
  try dsimp only at hw
  obtain ⟨hP, hD⟩ := va_join (wr := [(g2 60, .inr (9, mF g2)), (g2 1, .inl (cy 0, 4, .inl (upd (upd (upd (upd (fun _ => 0) 0 (-1)) 1 (-1)) 2 (-1)) 3 (-1))))]) (w1 := [(g1 0, .inr (8, xF g1)), (g1 26, .inl (cy 5, 4, .inr (.inr (.inr (.inr (va_up (va_up (va_up (va_up (fun _ => none) 0 (some (g1 27))) 1 (some (g1 29))) 2 (some (g1 31))) 3 (some (g1 33)))))))), (g1 27, .inr (5, [.int 0, .int 0, .int 0, .ref (g1 28)])), (g1 29, .inr (5, [.int 0, .int 0, .int 0, .ref (g1 30)])), (g1 31, .inr (5, [.int 0, .int 0, .int 0, .ref (g1 32)])), (g1 33, .inr (5, [.int 0, .int 0, .int 0, .ref (g1 34)]))]) hP hD [0, 1, 2, 3, 4, 5] [6, 7] rfl rfl (by decide) (by decide) hk1 hFc hP1 hD1
  generalize H1 = H at hP hS ⊢
  have hP : va_P D clz [(g2 60, .inr (9, mF g2)), (g2 1, .inl (cy 0, 4, .inl (upd (upd (upd (upd (fun _ => 0) 0 (-1)) 1 (-1)) 2 (-1)) 3 (-1)))), (g1 0, .inr (8, xF g1)), (g1 26, .inl (cy 5, 4, .inr (.inr (.inr (.inr (va_up (va_up (va_up (va_up (fun _ => none) 0 (some (g1 27))) 1 (some (g1 29))) 2 (some (g1 31))) 3 (some (g1 33)))))))), (g1 27, .inr (5, [.int 0, .int 0, .int 0, .ref (g1 28)])), (g1 29, .inr (5, [.int 0, .int 0, .int 0, .ref (g1 30)])), (g1 31, .inr (5, [.int 0, .int 0, .int 0, .ref (g1 32)])), (g1 33, .inr (5, [.int 0, .int 0, .int 0, .ref (g1 34)]))] H := hP
  have hD : va_D (fun q : Nat => s.heap.size ≤ q) [(g2 60, .inr (9, mF g2)), (g2 1, .inl (cy 0, 4, .inl (upd (upd (upd (upd (fun _ => 0) 0 (-1)) 1 (-1)) 2 (-1)) 3 (-1)))), (g1 0, .inr (8, xF g1)), (g1 26, .inl (cy 5, 4, .inr (.inr (.inr (.inr (va_up (va_up (va_up (va_up (fun _ => none) 0 (some (g1 27))) 1 (some (g1 29))) 2 (some (g1 31))) 3 (some (g1 33)))))))), (g1 27, .inr (5, [.int 0, .int 0, .int 0, .ref (g1 28)])), (g1 29, .inr (5, [.int 0, .int 0, .int 0, .ref (g1 30)])), (g1 31, .inr (5, [.int 0, .int 0, .int 0, .ref (g1 32)])), (g1 33, .inr (5, [.int 0, .int 0, .int 0, .ref (g1 34)]))] := hD
  have hw_9 := hw
  refine lv_aload_n hx hb dL_law_2309 rfl (lv_at hl 1 rfl) ?_
  refine lv_aload_n hx hb dL_law_2310 rfl (lv_at hl 3 rfl) ?_
  refine lv_iload_n hx hb dL_law_2311 rfl (lv_at hl 0 rfl) ?_
  refine lv_iconst (v := 1) hx hb dL_law_2312 (by decide) ?_
  refine lv_iadd hx hb dL_law_2313 ?_
  refine lv_topi (fun x_10 ex_10 => ?_)
  obtain rfl : x_10 = 1 := ex_10.trans (by decide)
  refine va_sld hx hb hX hbl hbA hS (vpi (by decide)) dL_law_2314 ?_
  refine lv_aload_n hx hb dL_law_2315 rfl (lv_at hl 3 rfl) ?_
  refine lv_iload_n hx hb dL_law_2316 rfl (lv_at hl 0 rfl) ?_
  refine lv_iconst (v := 2) hx hb dL_law_2317 (by decide) ?_
  refine lv_iadd hx hb dL_law_2318 ?_
  refine lv_topi (fun x_11 ex_11 => ?_)
  obtain rfl : x_11 = 2 := ex_11.trans (by decide)
  refine va_sld hx hb hX hbl hbA hS (vpi (by decide)) dL_law_2319 ?_
  refine lv_aload_n hx hb dL_law_2320 rfl (lv_at hl 3 rfl) ?_
  refine lv_iload_n hx hb dL_law_2321 rfl (lv_at hl 0 rfl) ?_
  refine lv_iconst (v := 3) hx hb dL_law_2322 (by decide) ?_
  refine lv_iadd hx hb dL_law_2323 ?_
  refine lv_topi (fun x_12 ex_12 => ?_)
  obtain rfl : x_12 = 3 := ex_12.trans (by decide)
  refine va_sld hx hb hX hbl hbA hS (vpi (by decide)) dL_law_2324 ?_
  refine lv_i2l (v := (xs (3 : Int32).toNatClampNeg).toInt64) hx hb dL_law_2325 rfl ?_
  refine lv_bipush (v := 32) hx hb dL_law_2326 (by decide) ?_
  refine lv_lshl hx hb dL_law_2328 rfl ?_
  refine lv_topl (fun x_13 ex_13 => ?_)
  refine lv_aload_n hx hb dL_law_2329 rfl (lv_at hl 3 rfl) ?_
  refine lv_iload_n hx hb dL_law_2330 rfl (lv_at hl 0 rfl) ?_
  refine lv_iconst (v := 4) hx hb dL_law_2331 (by decide) ?_
  refine lv_iadd hx hb dL_law_2332 ?_
  refine lv_topi (fun x_14 ex_14 => ?_)
  obtain rfl : x_14 = 4 := ex_14.trans (by decide)
  refine va_sld hx hb hX hbl hbA hS (vpi (by decide)) dL_law_2333 ?_
  refine lv_i2l (v := (xs (4 : Int32).toNatClampNeg).toInt64) hx hb dL_law_2334 rfl ?_
  refine lv_ldc2 (v := 4294967295) hx hb hown (hts _ q2152) dL_law_2335 ?_
  refine lv_land hx hb dL_law_2338 ?_
  refine lv_topl (fun x_15 ex_15 => ?_)
  refine lv_lor hx hb dL_law_2339 ?_
  refine lv_topl (fun x_16 ex_16 => ?_)
  have hPc := hP.sub (ws' := [(g2 60, .inr (9, mF g2)), (g2 1, .inl (cy 0, 4, .inl (upd (upd (upd (upd (fun _ => 0) 0 (-1)) 1 (-1)) 2 (-1)) 3 (-1))))]) [0, 1] rfl
  have hDc := hD.sub (ws' := [(g2 60, .inr (9, mF g2)), (g2 1, .inl (cy 0, 4, .inl (upd (upd (upd (upd (fun _ => 0) 0 (-1)) 1 (-1)) 2 (-1)) 3 (-1))))]) [0, 1] (by decide) rfl
  have hFc := va_free (wc := [(g2 60, .inr (9, mF g2)), (g2 1, .inl (cy 0, 4, .inl (upd (upd (upd (upd (fun _ => 0) 0 (-1)) 1 (-1)) 2 (-1)) 3 (-1))))]) hD hS hA [0, 1] rfl
  refine va_calli (va_runV (As := [.int (xs (1 : Int32).toNatClampNeg), .int (xs (2 : Int32).toNatClampNeg), .long x_16]) (rest := [.int r_8]) ⟨hx, hb, hml, hown, hts⟩ (c_X9_write l D cy g2 (xs (1 : Int32).toNatClampNeg) (xs (2 : Int32).toNatClampNeg) x_16 H.size) (cwV 3 hts (gd_V q1553 q1554 q1555 q134 q1556) rfl rfl rfl (by decide +kernel) ⟨Nat.le_of_ble_eq_true rfl, Nat.le_of_ble_eq_true rfl⟩) (pr_V hPc hK hDc (va_recv hK hPc (ci := 9) (q0 := 0) rfl rfl)) rfl rfl hl.1 rfl (lv_room (Nat.le_of_ble_eq_true rfl)) dL_law_2340 ⟨Nat.le_of_ble_eq_true rfl, Nat.le_of_ble_eq_true rfl⟩) hS (fun q _ h => hFc q h) hFc (fun r_17 u tS H1 locs ht hvm hw hB hz1 hk1 hS => ?_)
  obtain ⟨hP1, hK1, hD1⟩ := hB
  rw [ht] at hP1
  try dsimp only at hw
  obtain ⟨hP, hD⟩ := va_join (wr := [(g1 0, .inr (8, xF g1)), (g1 26, .inl (cy 5, 4, .inr (.inr (.inr (.inr (va_up (va_up (va_up (va_up (fun _ => none) 0 (some (g1 27))) 1 (some (g1 29))) 2 (some (g1 31))) 3 (some (g1 33)))))))), (g1 27, .inr (5, [.int 0, .int 0, .int 0, .ref (g1 28)])), (g1 29, .inr (5, [.int 0, .int 0, .int 0, .ref (g1 30)])), (g1 31, .inr (5, [.int 0, .int 0, .int 0, .ref (g1 32)])), (g1 33, .inr (5, [.int 0, .int 0, .int 0, .ref (g1 34)]))]) (w1 := [(g2 60, .inr (9, mF g2)), (g2 1, .inl (cy 0, 4, .inl (upd (upd (upd (upd (fun _ => 0) 0 (-1)) 1 (-1)) 2 (-1)) 3 (-1))))]) hP hD [0, 1] [2, 3, 4, 5, 6, 7] rfl rfl (by decide) (by decide) hk1 hFc hP1 hD1
  generalize H1 = H at hP hS ⊢
  have hP : va_P D clz [(g1 0, .inr (8, xF g1)), (g1 26, .inl (cy 5, 4, .inr (.inr (.inr (.inr (va_up (va_up (va_up (va_up (fun _ => none) 0 (some (g1 27))) 1 (some (g1 29))) 2 (some (g1 31))) 3 (some (g1 33)))))))), (g1 27, .inr (5, [.int 0, .int 0, .int 0, .ref (g1 28)])), (g1 29, .inr (5, [.int 0, .int 0, .int 0, .ref (g1 30)])), (g1 31, .inr (5, [.int 0, .int 0, .int 0, .ref (g1 32)])), (g1 33, .inr (5, [.int 0, .int 0, .int 0, .ref (g1 34)])), (g2 60, .inr (9, mF g2)), (g2 1, .inl (cy 0, 4, .inl (upd (upd (upd (upd (fun _ => 0) 0 (-1)) 1 (-1)) 2 (-1)) 3 (-1))))] H := hP
  have hD : va_D (fun q : Nat => s.heap.size ≤ q) [(g1 0, .inr (8, xF g1)), (g1 26, .inl (cy 5, 4, .inr (.inr (.inr (.inr (va_up (va_up (va_up (va_up (fun _ => none) 0 (some (g1 27))) 1 (some (g1 29))) 2 (some (g1 31))) 3 (some (g1 33)))))))), (g1 27, .inr (5, [.int 0, .int 0, .int 0, .ref (g1 28)])), (g1 29, .inr (5, [.int 0, .int 0, .int 0, .ref (g1 30)])), (g1 31, .inr (5, [.int 0, .int 0, .int 0, .ref (g1 32)])), (g1 33, .inr (5, [.int 0, .int 0, .int 0, .ref (g1 34)])), (g2 60, .inr (9, mF g2)), (g2 1, .inl (cy 0, 4, .inl (upd (upd (upd (upd (fun _ => 0) 0 (-1)) 1 (-1)) 2 (-1)) 3 (-1))))] := hD
  have hw_18 := hw
  refine lv_icmp_eq (tgt := 2411) hx hb dL_law_2343 (by decide) (fun _ => ?_) (fun c9 => absurd (hw_9.trans hw_18.symm) c9)
  exact law_end ⟨hx, hb, hr, hml, hown0, hts0, hX, hbl, hlocks, hgv⟩ _ _ _ hS (lv_sub hl [0, 3] rfl)

theorem q1344 : Cond.methodLink RL 254 yX8_paste ∈ lw_g := lw_gm (List.mem_of_getElem? (i := 1344) (by decide +kernel)) rfl
theorem q1345 : Cond.instanceMethod yX8_paste ∈ lw_g := lw_gm (List.mem_of_getElem? (i := 1345) (by decide +kernel)) rfl
theorem q1346 : Cond.selects RX8 yX8_paste yX8_paste ∈ lw_g := lw_gm (List.mem_of_getElem? (i := 1346) (by decide +kernel)) rfl
theorem q1560 : Cond.methodLink RL 257 yX9_paste ∈ lw_g := lw_gm (List.mem_of_getElem? (i := 1560) (by decide +kernel)) rfl
theorem q1561 : Cond.instanceMethod yX9_paste ∈ lw_g := lw_gm (List.mem_of_getElem? (i := 1561) (by decide +kernel)) rfl
theorem q1562 : Cond.selects RX9 yX9_paste yX9_paste ∈ lw_g := lw_gm (List.mem_of_getElem? (i := 1562) (by decide +kernel)) rfl
theorem dL_law_2348 : decode cL_law 2348 = .ok (.aload_n 1, 1) := by decide +kernel
theorem dL_law_2349 : decode cL_law 2349 = .ok (.aload_n 0, 1) := by decide +kernel
theorem dL_law_2350 : decode cL_law 2350 = .ok (.iload_n 3, 1) := by decide +kernel
theorem dL_law_2351 : decode cL_law 2351 = .ok (.iconst 1, 1) := by decide +kernel
theorem dL_law_2352 : decode cL_law 2352 = .ok (.iadd, 1) := by decide +kernel
theorem dL_law_2353 : decode cL_law 2353 = .ok (.iaload, 1) := by decide +kernel
theorem dL_law_2354 : decode cL_law 2354 = .ok (.aload_n 0, 1) := by decide +kernel
theorem dL_law_2355 : decode cL_law 2355 = .ok (.iload_n 3, 1) := by decide +kernel
theorem dL_law_2356 : decode cL_law 2356 = .ok (.iconst 2, 1) := by decide +kernel
theorem dL_law_2357 : decode cL_law 2357 = .ok (.iadd, 1) := by decide +kernel
theorem dL_law_2358 : decode cL_law 2358 = .ok (.iaload, 1) := by decide +kernel
theorem dL_law_2359 : decode cL_law 2359 = .ok (.aload_n 0, 1) := by decide +kernel
theorem dL_law_2360 : decode cL_law 2360 = .ok (.iload_n 3, 1) := by decide +kernel
theorem dL_law_2361 : decode cL_law 2361 = .ok (.iconst 3, 1) := by decide +kernel
theorem dL_law_2362 : decode cL_law 2362 = .ok (.iadd, 1) := by decide +kernel
theorem dL_law_2363 : decode cL_law 2363 = .ok (.iaload, 1) := by decide +kernel
theorem dL_law_2364 : decode cL_law 2364 = .ok (.aload_n 0, 1) := by decide +kernel
theorem dL_law_2365 : decode cL_law 2365 = .ok (.iload_n 3, 1) := by decide +kernel
theorem dL_law_2366 : decode cL_law 2366 = .ok (.iconst 4, 1) := by decide +kernel
theorem dL_law_2367 : decode cL_law 2367 = .ok (.iadd, 1) := by decide +kernel
theorem dL_law_2368 : decode cL_law 2368 = .ok (.iaload, 1) := by decide +kernel
theorem dL_law_2369 : decode cL_law 2369 = .ok (.aload_n 0, 1) := by decide +kernel
theorem dL_law_2370 : decode cL_law 2370 = .ok (.iload_n 3, 1) := by decide +kernel
theorem dL_law_2371 : decode cL_law 2371 = .ok (.iconst 5, 1) := by decide +kernel
theorem dL_law_2372 : decode cL_law 2372 = .ok (.iadd, 1) := by decide +kernel
theorem dL_law_2373 : decode cL_law 2373 = .ok (.iaload, 1) := by decide +kernel
theorem dL_law_2374 : decode cL_law 2374 = .ok (.invokevirtual 254, 3) := by decide +kernel
theorem dL_law_2377 : decode cL_law 2377 = .ok (.aload_n 2, 1) := by decide +kernel
theorem dL_law_2378 : decode cL_law 2378 = .ok (.aload_n 0, 1) := by decide +kernel
theorem dL_law_2379 : decode cL_law 2379 = .ok (.iload_n 3, 1) := by decide +kernel
theorem dL_law_2380 : decode cL_law 2380 = .ok (.iconst 1, 1) := by decide +kernel
theorem dL_law_2381 : decode cL_law 2381 = .ok (.iadd, 1) := by decide +kernel
theorem dL_law_2382 : decode cL_law 2382 = .ok (.iaload, 1) := by decide +kernel
theorem dL_law_2383 : decode cL_law 2383 = .ok (.aload_n 0, 1) := by decide +kernel
theorem dL_law_2384 : decode cL_law 2384 = .ok (.iload_n 3, 1) := by decide +kernel
theorem dL_law_2385 : decode cL_law 2385 = .ok (.iconst 2, 1) := by decide +kernel
theorem dL_law_2386 : decode cL_law 2386 = .ok (.iadd, 1) := by decide +kernel
theorem dL_law_2387 : decode cL_law 2387 = .ok (.iaload, 1) := by decide +kernel
theorem dL_law_2388 : decode cL_law 2388 = .ok (.aload_n 0, 1) := by decide +kernel
theorem dL_law_2389 : decode cL_law 2389 = .ok (.iload_n 3, 1) := by decide +kernel
theorem dL_law_2390 : decode cL_law 2390 = .ok (.iconst 3, 1) := by decide +kernel
theorem dL_law_2391 : decode cL_law 2391 = .ok (.iadd, 1) := by decide +kernel
theorem dL_law_2392 : decode cL_law 2392 = .ok (.iaload, 1) := by decide +kernel
theorem dL_law_2393 : decode cL_law 2393 = .ok (.aload_n 0, 1) := by decide +kernel
theorem dL_law_2394 : decode cL_law 2394 = .ok (.iload_n 3, 1) := by decide +kernel
theorem dL_law_2395 : decode cL_law 2395 = .ok (.iconst 4, 1) := by decide +kernel
theorem dL_law_2396 : decode cL_law 2396 = .ok (.iadd, 1) := by decide +kernel
theorem dL_law_2397 : decode cL_law 2397 = .ok (.iaload, 1) := by decide +kernel
theorem dL_law_2398 : decode cL_law 2398 = .ok (.aload_n 0, 1) := by decide +kernel
theorem dL_law_2399 : decode cL_law 2399 = .ok (.iload_n 3, 1) := by decide +kernel
theorem dL_law_2400 : decode cL_law 2400 = .ok (.iconst 5, 1) := by decide +kernel
theorem dL_law_2401 : decode cL_law 2401 = .ok (.iadd, 1) := by decide +kernel
theorem dL_law_2402 : decode cL_law 2402 = .ok (.iaload, 1) := by decide +kernel
theorem dL_law_2403 : decode cL_law 2403 = .ok (.invokevirtual 257, 3) := by decide +kernel
theorem dL_law_2406 : decode cL_law 2406 = .ok (.if_icmp .eq 5, 3) := by decide +kernel
set_option maxHeartbeats 4000000 in
set_option maxRecDepth 100000 in
theorem lawc_paste {p : Program} {l : Launch} {e : Env} {s : State} {m : MethodId} {below : List Frame} {meth : Method} {c : Code} {b : Nat} {xs : Nat → Int32} (D : va_G) (cy : Nat → ClassId) (g1 g2 : Nat → Nat) (C0 : lw_At p s m meth c b 6 xs) (hK : va_K D clz (tyl cy) s) (H : Heap) (locs : List Loc) (ls : Array Slot) (hP : va_P D clz [(g1 0, .inr (8, xF g1)), (g1 26, .inl (cy 5, 4, .inr (.inr (.inr (.inr (va_up (va_up (va_up (va_up (fun _ => none) 0 (some (g1 27))) 1 (some (g1 29))) 2 (some (g1 31))) 3 (some (g1 33)))))))), (g1 27, .inr (5, [.int 0, .int 0, .int 0, .ref (g1 28)])), (g1 29, .inr (5, [.int 0, .int 0, .int 0, .ref (g1 30)])), (g1 31, .inr (5, [.int 0, .int 0, .int 0, .ref (g1 32)])), (g1 33, .inr (5, [.int 0, .int 0, .int 0, .ref (g1 34)])), (g2 60, .inr (9, mF g2)), (g2 1, .inl (cy 0, 4, .inl (upd (upd (upd (upd (fun _ => 0) 0 (-1)) 1 (-1)) 2 (-1)) 3 (-1))))] H) (hD : va_D (fun q : Nat => s.heap.size ≤ q) [(g1 0, .inr (8, xF g1)), (g1 26, .inl (cy 5, 4, .inr (.inr (.inr (.inr (va_up (va_up (va_up (va_up (fun _ => none) 0 (some (g1 27))) 1 (some (g1 29))) 2 (some (g1 31))) 3 (some (g1 33)))))))), (g1 27, .inr (5, [.int 0, .int 0, .int 0, .ref (g1 28)])), (g1 29, .inr (5, [.int 0, .int 0, .int 0, .ref (g1 30)])), (g1 31, .inr (5, [.int 0, .int 0, .int 0, .ref (g1 32)])), (g1 33, .inr (5, [.int 0, .int 0, .int 0, .ref (g1 34)])), (g2 60, .inr (9, mF g2)), (g2 1, .inl (cy 0, 4, .inl (upd (upd (upd (upd (fun _ => 0) 0 (-1)) 1 (-1)) 2 (-1)) 3 (-1))))]) (hS : va_S (fun q : Nat => s.heap.size ≤ q) s.heap H locs) (hl : lv_has ls 4 [(3, .int 0), (2, .ref (g2 60)), (1, .ref (g1 0)), (0, .ref b)]) : W p l e room_1 s m #[Value.ref b] below meth c H locs 200 700000 (lw_Z below #[Value.ref b] s) (F0 m 2348 ls []) := by
  obtain ⟨hx, hb, hr, hml, hown0, hts0, hX, hbl, hlocks, hgv⟩ := C0
  have hown : s.vm.findClass RL = some m.cls := hown0
  have hts : ∀ w ∈ lw_g, w.before #[Value.ref b] s = true := fun w h => hts0 w (lw_gt h)
  have hA : ∀ q : Nat, s.heap.size ≤ q → (fun q : Nat => s.heap.size ≤ q) q := fun _ h => h
  have hbA : ¬ (fun q : Nat => s.heap.size ≤ q) b := Nat.not_le.mpr hbl
  refine lv_aload_n hx hb dL_law_2348 rfl (lv_at hl 2 rfl) ?_
  refine lv_aload_n hx hb dL_law_2349 rfl (lv_at hl 3 rfl) ?_
  refine lv_iload_n hx hb dL_law_2350 rfl (lv_at hl 0 rfl) ?_
  refine lv_iconst (v := 1) hx hb dL_law_2351 (by decide) ?_
  refine lv_iadd hx hb dL_law_2352 ?_
  refine lv_topi (fun x_1 ex_1 => ?_)
  obtain rfl : x_1 = 1 := ex_1.trans (by decide)
  refine va_sld hx hb hX hbl hbA hS (vpi (by decide)) dL_law_2353 ?_
  refine lv_aload_n hx hb dL_law_2354 rfl (lv_at hl 3 rfl) ?_
  refine lv_iload_n hx hb dL_law_2355 rfl (lv_at hl 0 rfl) ?_
  refine lv_iconst (v := 2) hx hb dL_law_2356 (by decide) ?_
  refine lv_iadd hx hb dL_law_2357 ?_
  refine lv_topi (fun x_2 ex_2 => ?_)
  obtain rfl : x_2 = 2 := ex_2.trans (by decide)
  refine va_sld hx hb hX hbl hbA hS (vpi (by decide)) dL_law_2358 ?_
  refine lv_aload_n hx hb dL_law_2359 rfl (lv_at hl 3 rfl) ?_
  refine lv_iload_n hx hb dL_law_2360 rfl (lv_at hl 0 rfl) ?_
  refine lv_iconst (v := 3) hx hb dL_law_2361 (by decide) ?_
  refine lv_iadd hx hb dL_law_2362 ?_
  refine lv_topi (fun x_3 ex_3 => ?_)
  obtain rfl : x_3 = 3 := ex_3.trans (by decide)
  refine va_sld hx hb hX hbl hbA hS (vpi (by decide)) dL_law_2363 ?_
  refine lv_aload_n hx hb dL_law_2364 rfl (lv_at hl 3 rfl) ?_
  refine lv_iload_n hx hb dL_law_2365 rfl (lv_at hl 0 rfl) ?_
  refine lv_iconst (v := 4) hx hb dL_law_2366 (by decide) ?_
  refine lv_iadd hx hb dL_law_2367 ?_
  refine lv_topi (fun x_4 ex_4 => ?_)
  obtain rfl : x_4 = 4 := ex_4.trans (by decide)
  refine va_sld hx hb hX hbl hbA hS (vpi (by decide)) dL_law_2368 ?_
  refine lv_aload_n hx hb dL_law_2369 rfl (lv_at hl 3 rfl) ?_
  refine lv_iload_n hx hb dL_law_2370 rfl (lv_at hl 0 rfl) ?_
  refine lv_iconst (v := 5) hx hb dL_law_2371 (by decide) ?_
  refine lv_iadd hx hb dL_law_2372 ?_
  refine lv_topi (fun x_5 ex_5 => ?_)
  obtain rfl : x_5 = 5 := ex_5.trans (by decide)
  refine va_sld hx hb hX hbl hbA hS (vpi (by decide)) dL_law_2373 ?_
  have hPc := hP.sub (ws' := [(g1 0, .inr (8, xF g1)), (g1 26, .inl (cy 5, 4, .inr (.inr (.inr (.inr (va_up (va_up (va_up (va_up (fun _ => none) 0 (some (g1 27))) 1 (some (g1 29))) 2 (some (g1 31))) 3 (some (g1 33)))))))), (g1 27, .inr (5, [.int 0, .int 0, .int 0, .ref (g1 28)])), (g1 29, .inr (5, [.int 0, .int 0, .int 0, .ref (g1 30)])), (g1 31, .inr (5, [.int 0, .int 0, .int 0, .ref (g1 32)])), (g1 33, .inr (5, [.int 0, .int 0, .int 0, .ref (g1 34)]))]) [0, 1, 2, 3, 4, 5] rfl
  have hDc := hD.sub (ws' := [(g1 0, .inr (8, xF g1)), (g1 26, .inl (cy 5, 4, .inr (.inr (.inr (.inr (va_up (va_up (va_up (va_up (fun _ => none) 0 (some (g1 27))) 1 (some (g1 29))) 2 (some (g1 31))) 3 (some (g1 33)))))))), (g1 27, .inr (5, [.int 0, .int 0, .int 0, .ref (g1 28)])), (g1 29, .inr (5, [.int 0, .int 0, .int 0, .ref (g1 30)])), (g1 31, .inr (5, [.int 0, .int 0, .int 0, .ref (g1 32)])), (g1 33, .inr (5, [.int 0, .int 0, .int 0, .ref (g1 34)]))]) [0, 1, 2, 3, 4, 5] (by decide) rfl
  have hFc := va_free (wc := [(g1 0, .inr (8, xF g1)), (g1 26, .inl (cy 5, 4, .inr (.inr (.inr (.inr (va_up (va_up (va_up (va_up (fun _ => none) 0 (some (g1 27))) 1 (some (g1 29))) 2 (some (g1 31))) 3 (some (g1 33)))))))), (g1 27, .inr (5, [.int 0, .int 0, .int 0, .ref (g1 28)])), (g1 29, .inr (5, [.int 0, .int 0, .int 0, .ref (g1 30)])), (g1 31, .inr (5, [.int 0, .int 0, .int 0, .ref (g1 32)])), (g1 33, .inr (5, [.int 0, .int 0, .int 0, .ref (g1 34)]))]) hD hS hA [0, 1, 2, 3, 4, 5] rfl
  refine va_calli (va_runV (As := [.int (xs (1 : Int32).toNatClampNeg), .int (xs (2 : Int32).toNatClampNeg), .int (xs (3 : Int32).toNatClampNeg), .int (xs (4 : Int32).toNatClampNeg), .int (xs (5 : Int32).toNatClampNeg)]) (rest := []) ⟨hx, hb, hml, hown, hts⟩ (c_X8_paste l D cy g1 (xs (1 : Int32).toNatClampNeg) (xs (2 : Int32).toNatClampNeg) (xs (3 : Int32).toNatClampNeg) (xs (4 : Int32).toNatClampNeg) (xs (5 : Int32).toNatClampNeg) H.size) (cwV 5 hts (gd_V q1344 q1345 q1346 q125 q1347) rfl rfl rfl (by decide +kernel) ⟨Nat.le_of_ble_eq_true rfl, Nat.le_of_ble_eq_true rfl⟩) (pr_V hPc hK hDc (va_recv hK hPc (ci := 8) (q0 := 0) rfl rfl)) rfl rfl hl.1 rfl (lv_room (Nat.le_of_ble_eq_true rfl)) dL_law_2374 ⟨Nat.le_of_ble_eq_true rfl, Nat.le_of_ble_eq_true rfl⟩) hS (fun q _ h => hFc q h) hFc (fun r_6 u tS H1 locs ht hvm hw hB hz1 hk1 hS => ?_)
  obtain ⟨hP1, hK1, hD1⟩ := hB
  rw [ht] at hP1
  try dsimp only at hw
  obtain ⟨hP, hD⟩ := va_join (wr := [(g2 60, .inr (9, mF g2)), (g2 1, .inl (cy 0, 4, .inl (upd (upd (upd (upd (fun _ => 0) 0 (-1)) 1 (-1)) 2 (-1)) 3 (-1))))]) (w1 := [(g1 0, .inr (8, xF g1)), (g1 26, .inl (cy 5, 4, .inr (.inr (.inr (.inr (va_up (va_up (va_up (va_up (fun _ => none) 0 (some (g1 27))) 1 (some (g1 29))) 2 (some (g1 31))) 3 (some (g1 33)))))))), (g1 27, .inr (5, [.int 0, .int 0, .int 0, .ref (g1 28)])), (g1 29, .inr (5, [.int 0, .int 0, .int 0, .ref (g1 30)])), (g1 31, .inr (5, [.int 0, .int 0, .int 0, .ref (g1 32)])), (g1 33, .inr (5, [.int 0, .int 0, .int 0, .ref (g1 34)]))]) hP hD [0, 1, 2, 3, 4, 5] [6, 7] rfl rfl (by decide) (by decide) hk1 hFc hP1 hD1
  generalize H1 = H at hP hS ⊢
  have hP : va_P D clz [(g2 60, .inr (9, mF g2)), (g2 1, .inl (cy 0, 4, .inl (upd (upd (upd (upd (fun _ => 0) 0 (-1)) 1 (-1)) 2 (-1)) 3 (-1)))), (g1 0, .inr (8, xF g1)), (g1 26, .inl (cy 5, 4, .inr (.inr (.inr (.inr (va_up (va_up (va_up (va_up (fun _ => none) 0 (some (g1 27))) 1 (some (g1 29))) 2 (some (g1 31))) 3 (some (g1 33)))))))), (g1 27, .inr (5, [.int 0, .int 0, .int 0, .ref (g1 28)])), (g1 29, .inr (5, [.int 0, .int 0, .int 0, .ref (g1 30)])), (g1 31, .inr (5, [.int 0, .int 0, .int 0, .ref (g1 32)])), (g1 33, .inr (5, [.int 0, .int 0, .int 0, .ref (g1 34)]))] H := hP
  have hD : va_D (fun q : Nat => s.heap.size ≤ q) [(g2 60, .inr (9, mF g2)), (g2 1, .inl (cy 0, 4, .inl (upd (upd (upd (upd (fun _ => 0) 0 (-1)) 1 (-1)) 2 (-1)) 3 (-1)))), (g1 0, .inr (8, xF g1)), (g1 26, .inl (cy 5, 4, .inr (.inr (.inr (.inr (va_up (va_up (va_up (va_up (fun _ => none) 0 (some (g1 27))) 1 (some (g1 29))) 2 (some (g1 31))) 3 (some (g1 33)))))))), (g1 27, .inr (5, [.int 0, .int 0, .int 0, .ref (g1 28)])), (g1 29, .inr (5, [.int 0, .int 0, .int 0, .ref (g1 30)])), (g1 31, .inr (5, [.int 0, .int 0, .int 0, .ref (g1 32)])), (g1 33, .inr (5, [.int 0, .int 0, .int 0, .ref (g1 34)]))] := hD
  have hw_7 := hw
  refine lv_aload_n hx hb dL_law_2377 rfl (lv_at hl 1 rfl) ?_
  refine lv_aload_n hx hb dL_law_2378 rfl (lv_at hl 3 rfl) ?_
  refine lv_iload_n hx hb dL_law_2379 rfl (lv_at hl 0 rfl) ?_
  refine lv_iconst (v := 1) hx hb dL_law_2380 (by decide) ?_
  refine lv_iadd hx hb dL_law_2381 ?_
  refine lv_topi (fun x_8 ex_8 => ?_)
  obtain rfl : x_8 = 1 := ex_8.trans (by decide)
  refine va_sld hx hb hX hbl hbA hS (vpi (by decide)) dL_law_2382 ?_
  refine lv_aload_n hx hb dL_law_2383 rfl (lv_at hl 3 rfl) ?_
  refine lv_iload_n hx hb dL_law_2384 rfl (lv_at hl 0 rfl) ?_
  refine lv_iconst (v := 2) hx hb dL_law_2385 (by decide) ?_
  refine lv_iadd hx hb dL_law_2386 ?_
  refine lv_topi (fun x_9 ex_9 => ?_)
  obtain rfl : x_9 = 2 := ex_9.trans (by decide)
  refine va_sld hx hb hX hbl hbA hS (vpi (by decide)) dL_law_2387 ?_
  refine lv_aload_n hx hb dL_law_2388 rfl (lv_at hl 3 rfl) ?_
  refine lv_iload_n hx hb dL_law_2389 rfl (lv_at hl 0 rfl) ?_
  refine lv_iconst (v := 3) hx hb dL_law_2390 (by decide) ?_
  refine lv_iadd hx hb dL_law_2391 ?_
  refine lv_topi (fun x_10 ex_10 => ?_)
  obtain rfl : x_10 = 3 := ex_10.trans (by decide)
  refine va_sld hx hb hX hbl hbA hS (vpi (by decide)) dL_law_2392 ?_
  refine lv_aload_n hx hb dL_law_2393 rfl (lv_at hl 3 rfl) ?_
  refine lv_iload_n hx hb dL_law_2394 rfl (lv_at hl 0 rfl) ?_
  refine lv_iconst (v := 4) hx hb dL_law_2395 (by decide) ?_
  refine lv_iadd hx hb dL_law_2396 ?_
  refine lv_topi (fun x_11 ex_11 => ?_)
  obtain rfl : x_11 = 4 := ex_11.trans (by decide)
  refine va_sld hx hb hX hbl hbA hS (vpi (by decide)) dL_law_2397 ?_
  refine lv_aload_n hx hb dL_law_2398 rfl (lv_at hl 3 rfl) ?_
  refine lv_iload_n hx hb dL_law_2399 rfl (lv_at hl 0 rfl) ?_
  refine lv_iconst (v := 5) hx hb dL_law_2400 (by decide) ?_
  refine lv_iadd hx hb dL_law_2401 ?_
  refine lv_topi (fun x_12 ex_12 => ?_)
  obtain rfl : x_12 = 5 := ex_12.trans (by decide)
  refine va_sld hx hb hX hbl hbA hS (vpi (by decide)) dL_law_2402 ?_
  have hPc := hP.sub (ws' := [(g2 60, .inr (9, mF g2)), (g2 1, .inl (cy 0, 4, .inl (upd (upd (upd (upd (fun _ => 0) 0 (-1)) 1 (-1)) 2 (-1)) 3 (-1))))]) [0, 1] rfl
  have hDc := hD.sub (ws' := [(g2 60, .inr (9, mF g2)), (g2 1, .inl (cy 0, 4, .inl (upd (upd (upd (upd (fun _ => 0) 0 (-1)) 1 (-1)) 2 (-1)) 3 (-1))))]) [0, 1] (by decide) rfl
  have hFc := va_free (wc := [(g2 60, .inr (9, mF g2)), (g2 1, .inl (cy 0, 4, .inl (upd (upd (upd (upd (fun _ => 0) 0 (-1)) 1 (-1)) 2 (-1)) 3 (-1))))]) hD hS hA [0, 1] rfl
  refine va_calli (va_runV (As := [.int (xs (1 : Int32).toNatClampNeg), .int (xs (2 : Int32).toNatClampNeg), .int (xs (3 : Int32).toNatClampNeg), .int (xs (4 : Int32).toNatClampNeg), .int (xs (5 : Int32).toNatClampNeg)]) (rest := [.int r_6]) ⟨hx, hb, hml, hown, hts⟩ (c_X9_paste l D cy g2 (xs (1 : Int32).toNatClampNeg) (xs (2 : Int32).toNatClampNeg) (xs (3 : Int32).toNatClampNeg) (xs (4 : Int32).toNatClampNeg) (xs (5 : Int32).toNatClampNeg) H.size) (cwV 5 hts (gd_V q1560 q1561 q1562 q134 q1563) rfl rfl rfl (by decide +kernel) ⟨Nat.le_of_ble_eq_true rfl, Nat.le_of_ble_eq_true rfl⟩) (pr_V hPc hK hDc (va_recv hK hPc (ci := 9) (q0 := 0) rfl rfl)) rfl rfl hl.1 rfl (lv_room (Nat.le_of_ble_eq_true rfl)) dL_law_2403 ⟨Nat.le_of_ble_eq_true rfl, Nat.le_of_ble_eq_true rfl⟩) hS (fun q _ h => hFc q h) hFc (fun r_13 u tS H1 locs ht hvm hw hB hz1 hk1 hS => ?_)
  obtain ⟨hP1, hK1, hD1⟩ := hB
  rw [ht] at hP1
  try dsimp only at hw
  obtain ⟨hP, hD⟩ := va_join (wr := [(g1 0, .inr (8, xF g1)), (g1 26, .inl (cy 5, 4, .inr (.inr (.inr (.inr (va_up (va_up (va_up (va_up (fun _ => none) 0 (some (g1 27))) 1 (some (g1 29))) 2 (some (g1 31))) 3 (some (g1 33)))))))), (g1 27, .inr (5, [.int 0, .int 0, .int 0, .ref (g1 28)])), (g1 29, .inr (5, [.int 0, .int 0, .int 0, .ref (g1 30)])), (g1 31, .inr (5, [.int 0, .int 0, .int 0, .ref (g1 32)])), (g1 33, .inr (5, [.int 0, .int 0, .int 0, .ref (g1 34)]))]) (w1 := [(g2 60, .inr (9, mF g2)), (g2 1, .inl (cy 0, 4, .inl (upd (upd (upd (upd (fun _ => 0) 0 (-1)) 1 (-1)) 2 (-1)) 3 (-1))))]) hP hD [0, 1] [2, 3, 4, 5, 6, 7] rfl rfl (by decide) (by decide) hk1 hFc hP1 hD1
  generalize H1 = H at hP hS ⊢
  have hP : va_P D clz [(g1 0, .inr (8, xF g1)), (g1 26, .inl (cy 5, 4, .inr (.inr (.inr (.inr (va_up (va_up (va_up (va_up (fun _ => none) 0 (some (g1 27))) 1 (some (g1 29))) 2 (some (g1 31))) 3 (some (g1 33)))))))), (g1 27, .inr (5, [.int 0, .int 0, .int 0, .ref (g1 28)])), (g1 29, .inr (5, [.int 0, .int 0, .int 0, .ref (g1 30)])), (g1 31, .inr (5, [.int 0, .int 0, .int 0, .ref (g1 32)])), (g1 33, .inr (5, [.int 0, .int 0, .int 0, .ref (g1 34)])), (g2 60, .inr (9, mF g2)), (g2 1, .inl (cy 0, 4, .inl (upd (upd (upd (upd (fun _ => 0) 0 (-1)) 1 (-1)) 2 (-1)) 3 (-1))))] H := hP
  have hD : va_D (fun q : Nat => s.heap.size ≤ q) [(g1 0, .inr (8, xF g1)), (g1 26, .inl (cy 5, 4, .inr (.inr (.inr (.inr (va_up (va_up (va_up (va_up (fun _ => none) 0 (some (g1 27))) 1 (some (g1 29))) 2 (some (g1 31))) 3 (some (g1 33)))))))), (g1 27, .inr (5, [.int 0, .int 0, .int 0, .ref (g1 28)])), (g1 29, .inr (5, [.int 0, .int 0, .int 0, .ref (g1 30)])), (g1 31, .inr (5, [.int 0, .int 0, .int 0, .ref (g1 32)])), (g1 33, .inr (5, [.int 0, .int 0, .int 0, .ref (g1 34)])), (g2 60, .inr (9, mF g2)), (g2 1, .inl (cy 0, 4, .inl (upd (upd (upd (upd (fun _ => 0) 0 (-1)) 1 (-1)) 2 (-1)) 3 (-1))))] := hD
  have hw_14 := hw
  refine lv_icmp_eq (tgt := 2411) hx hb dL_law_2406 (by decide) (fun _ => ?_) (fun c9 => absurd (hw_7.trans hw_14.symm) c9)
  exact law_end ⟨hx, hb, hr, hml, hown0, hts0, hX, hbl, hlocks, hgv⟩ _ _ _ hS (lv_sub hl [0, 3] rfl)

