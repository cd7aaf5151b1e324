theorem q144 : Cond.instantiable RX8 12 ∈ lw_g := lw_gm (List.mem_of_getElem? (i := 144) (by decide +kernel)) rfl
theorem q1354 : Cond.instantiable RX9 60 ∈ lw_g := lw_gm (List.mem_of_getElem? (i := 1354) (by decide +kernel)) rfl
theorem q143 : Cond.classLink RL 7 RX8 ∈ lw_g := lw_gm (List.mem_of_getElem? (i := 143) (by decide +kernel)) rfl
theorem q145 : Cond.methodLink RL 9 yX8_init ∈ lw_g := lw_gm (List.mem_of_getElem? (i := 145) (by decide +kernel)) rfl
theorem q146 : Cond.instanceMethod yX8_init ∈ lw_g := lw_gm (List.mem_of_getElem? (i := 146) (by decide +kernel)) rfl
theorem q1353 : Cond.classLink RL 10 RX9 ∈ lw_g := lw_gm (List.mem_of_getElem? (i := 1353) (by decide +kernel)) rfl
theorem q1355 : Cond.methodLink RL 12 yX9_init ∈ lw_g := lw_gm (List.mem_of_getElem? (i := 1355) (by decide +kernel)) rfl
theorem q1356 : Cond.instanceMethod yX9_init ∈ lw_g := lw_gm (List.mem_of_getElem? (i := 1356) (by decide +kernel)) rfl
theorem dL_law_0 : decode cL_law 0 = .ok (.new 7, 3) := by decide +kernel
theorem dL_law_3 : decode cL_law 3 = .ok (.dup, 1) := by decide +kernel
theorem dL_law_4 : decode cL_law 4 = .ok (.invokespecial 9, 3) := by decide +kernel
theorem dL_law_7 : decode cL_law 7 = .ok (.astore_n 1, 1) := by decide +kernel
theorem dL_law_8 : decode cL_law 8 = .ok (.new 10, 3) := by decide +kernel
theorem dL_law_11 : decode cL_law 11 = .ok (.dup, 1) := by decide +kernel
theorem dL_law_12 : decode cL_law 12 = .ok (.invokespecial 12, 3) := by decide +kernel
theorem dL_law_15 : decode cL_law 15 = .ok (.astore_n 2, 1) := by decide +kernel
theorem dL_law_16 : decode cL_law 16 = .ok (.iconst 0, 1) := by decide +kernel
theorem dL_law_17 : decode cL_law 17 = .ok (.istore_n 3, 1) := by decide +kernel
theorem ar_prim {ty : FieldType} {args : Array Value} {s : State} (h : (Cond.arrayClass ty).before args s = true) : ∃ cA : ClassId, ArrOfT s cA ty ∧ s.vm.findClass ("[" ++ ty.toString) = some cA := by
  obtain ⟨c, k, comp, h1, h2, h3⟩ := Cond.arrayClass_spec h
  exact ⟨c, fun n z => ⟨fun k h => (by cases h), k, h2, comp, h3⟩, h1⟩
theorem ar_obj {C : String} {s : State} (h : va_AO C s) : ∃ cA : ClassId, ArrOfT s cA (.object C) ∧ va_RA s cA (.object C) := by
  obtain ⟨comp, c, k, h1, h2, h3, h4, h5⟩ := Cond.arrayOver_spec h
  exact ⟨c, fun n z => ⟨fun k h => (by cases h), k, h3, comp, h4⟩, k, comp, h3, h4, h1, h5⟩
theorem st_isRef {args : Array Value} {s : State} {t : Term} (h : (Cond.isRef t).before args s = true) : ∃ v : Value, t.eval args s none [] s = some v ∧ (v = .null ∨ ∃ q : Nat, v = .ref q) := by
  obtain ⟨v, h1, h2⟩ := Cond.isRef_spec h
  cases v with
  | ref t => exact ⟨_, h1, Or.inr ⟨t, rfl⟩⟩
  | null => exact ⟨_, h1, Or.inl rfl⟩
  | _ => cases h2
set_option maxHeartbeats 8000000 in
set_option maxRecDepth 100000 in
theorem st_nst {s : State} {b : Nat} (hts0 : ∀ w ∈ lw_tbl, w.before #[Value.ref b] s = true) : nst s := ⟨va_Nw.of rfl (show (Cond.methodLinkNest RX8 9 yX4_init RX8).before #[Value.ref b] s = true from hts0 _ (List.mem_of_getElem? (i := 153) (by decide +kernel))), va_Nw.of rfl (show (Cond.methodLinkNest RX8 18 yX0_init RX8).before #[Value.ref b] s = true from hts0 _ (List.mem_of_getElem? (i := 188) (by decide +kernel))), va_Nw.of rfl (show (Cond.methodLinkNest RX8 42 yX7_init RX8).before #[Value.ref b] s = true from hts0 _ (List.mem_of_getElem? (i := 243) (by decide +kernel))), va_Nw.of rfl (show (Cond.methodLinkNest RX8 52 yX3_init RX8).before #[Value.ref b] s = true from hts0 _ (List.mem_of_getElem? (i := 274) (by decide +kernel))), va_Nw.of rfl (show (Cond.methodLinkNest RX8 59 yX2_init RX8).before #[Value.ref b] s = true from hts0 _ (List.mem_of_getElem? (i := 348) (by decide +kernel))), va_Nw.of rfl (show (Cond.methodLinkNest RX8 66 yX1_init RX8).before #[Value.ref b] s = true from hts0 _ (List.mem_of_getElem? (i := 363) (by decide +kernel))), va_Nw.of rfl (show (Cond.methodLinkNest RX8 73 yX6_init RX8).before #[Value.ref b] s = true from hts0 _ (List.mem_of_getElem? (i := 397) (by decide +kernel))), va_Nw.of rfl (show (Cond.methodLinkNest RX8 78 yX5_init RX8).before #[Value.ref b] s = true from hts0 _ (List.mem_of_getElem? (i := 412) (by decide +kernel))), va_Nw.of rfl (show (Cond.methodLinkNest RX3 13 yX7_init RX8).before #[Value.ref b] s = true from hts0 _ (List.mem_of_getElem? (i := 279) (by decide +kernel))), va_AO.of (show (Cond.arrayOver (.object RX0)).before #[Value.ref b] s = true from hts0 _ (List.mem_of_getElem? (i := 238) (by decide +kernel))), va_AO.of (show (Cond.arrayOver (.object RX5)).before #[Value.ref b] s = true from hts0 _ (List.mem_of_getElem? (i := 240) (by decide +kernel)))⟩
set_option maxHeartbeats 8000000 in
set_option maxRecDepth 100000 in
theorem st_world {s : State} {b : Nat} (hts : ∀ w ∈ lw_g, w.before #[Value.ref b] s = true) (hN : nst s) : ∃ (D : va_G) (cy : Nat → ClassId), va_K D clz (tyl cy) s := by
  obtain ⟨c0, iS0, hKn0⟩ := u_known (C := RX0) (T := TX0) (N := 10) (n := 10) hts iX0 (hts _ q187)
  obtain ⟨c1, iS1, hKn1⟩ := u_known (C := RX1) (T := TX1) (N := 9) (n := 9) hts iX1 (hts _ q362)
  obtain ⟨c2, iS2, hKn2⟩ := u_known (C := RX2) (T := TX2) (N := 2) (n := 2) hts iX2 (hts _ q347)
  obtain ⟨c3, iS3, hKn3⟩ := u_known (C := RX3) (T := TX3) (N := 20) (n := 20) hts iX3 (hts _ q273)
  obtain ⟨c4, iS4, hKn4⟩ := u_known (C := RX4) (T := TX4) (N := 8) (n := 8) hts iX4 (hts _ q152)
  obtain ⟨c5, iS5, hKn5⟩ := u_known (C := RX5) (T := TX5) (N := 4) (n := 4) hts iX5 (hts _ q411)
  obtain ⟨c6, iS6, hKn6⟩ := u_known (C := RX6) (T := TX6) (N := 3) (n := 3) hts iX6 (hts _ q396)
  obtain ⟨c7, iS7, hKn7⟩ := u_known (C := RX7) (T := TX7) (N := 7) (n := 7) hts iX7 (hts _ q242)
  obtain ⟨c8, iS8, hKn8⟩ := u_known (C := RX8) (T := TX8) (N := 12) (n := 12) hts iX8 (hts _ q144)
  obtain ⟨c9, iS9, hKn9⟩ := u_known (C := RX9) (T := TX9) (N := 60) (n := 60) hts iX9 (hts _ q1354)
  obtain ⟨D, hKc⟩ : ∃ D : va_G, ∀ (k : Nat) (q : vw_C), clz[k]? = some q → u_Kn s q.1 q.2.1 q.2.2 (D.1 k) (D.2 k) := by
    refine ⟨(fun k => match k with | 0 => c0 | 1 => c1 | 2 => c2 | 3 => c3 | 4 => c4 | 5 => c5 | 6 => c6 | 7 => c7 | 8 => c8 | _ => c9, fun k => match k with | 0 => iS0 | 1 => iS1 | 2 => iS2 | 3 => iS3 | 4 => iS4 | 5 => iS5 | 6 => iS6 | 7 => iS7 | 8 => iS8 | _ => iS9), ?_⟩
    intro k q hq
    match k, hq with
    | 0, hq => cases hq; exact hKn0
    | 1, hq => cases hq; exact hKn1
    | 2, hq => cases hq; exact hKn2
    | 3, hq => cases hq; exact hKn3
    | 4, hq => cases hq; exact hKn4
    | 5, hq => cases hq; exact hKn5
    | 6, hq => cases hq; exact hKn6
    | 7, hq => cases hq; exact hKn7
    | 8, hq => cases hq; exact hKn8
    | 9, hq => cases hq; exact hKn9
    | k + 10, hq => simp at hq
  obtain ⟨y0, hy0, hz0⟩ := ar_prim (hts (.arrayClass .int) q237)
  obtain ⟨y1, hy1, hz1⟩ := ar_prim (hts (.arrayClass .byte) q185)
  obtain ⟨y2, hy2, hz2⟩ := ar_prim (hts (.arrayClass .long) q433)
  obtain ⟨y3, hy3, hz3⟩ := ar_prim (hts (.arrayClass .boolean) q1541)
  obtain ⟨y4, hy4, hz4⟩ := ar_obj hN.2.2.2.2.2.2.2.2.2.1
  obtain ⟨y5, hy5, hz5⟩ := ar_obj hN.2.2.2.2.2.2.2.2.2.2
  obtain ⟨cy, hcy⟩ : ∃ cy : Nat → ClassId, ∀ (k : Nat) (q : ClassId × FieldType), (tyl cy)[k]? = some q → ArrOfT s q.1 q.2 ∧ va_RA s q.1 q.2 := by
    refine ⟨fun k => match k with | 0 => y0 | 1 => y1 | 2 => y2 | 3 => y3 | 4 => y4 | _ => y5, ?_⟩
    intro k q hq
    match k, hq with
    | 0, hq => cases hq; exact ⟨hy0, hz0⟩
    | 1, hq => cases hq; exact ⟨hy1, hz1⟩
    | 2, hq => cases hq; exact ⟨hy2, hz2⟩
    | 3, hq => cases hq; exact ⟨hy3, hz3⟩
    | 4, hq => cases hq; exact ⟨hy4, hz4⟩
    | 5, hq => cases hq; exact ⟨hy5, hz5⟩
    | k + 6, hq => simp at hq
  exact ⟨D, cy, hKc, hcy⟩
theorem hAl {s : State} : ∀ a : Nat, a < s.heap.size → ¬ lawA s a := fun a h q => absurd q (Nat.not_le.mpr h)
def sWi : List Nat := [518, 575, 584, 585, 612, 613, 614, 634, 639, 681, 606, 608, 609, 610, 611, 631, 632, 633, 674, 675, 680]
abbrev tmS (i : Nat) : Term := Term.string RX4 (sIx.getD i 0)
theorem st_tab {args : Array Value} {s : State} {C n : String} {N : Nat} {vs : List Int32} (hN : N < 2 ^ 31) (hl : (Cond.laysStatic C n "[I").before args s = true) (hini : (Cond.initialized C).before args s = true) (ha : (Cond.arrayOf (.static C n "[I") .int).before args s = true) (hlen : (Cond.eq (.length (.static C n "[I")) (.int (Int32.ofNat N))).before args s = true) (hel : ∀ j : Nat, j < N → (Cond.eq (.elem (.static C n "[I") (.int (Int32.ofNat j))) (.int (vs.getD j 0))).before args s = true) : ∃ t : Nat, va_Z C n "[I" (.ref t) (lawA s) s s.heap ∧ va_T .int t N (fun j => .int (vs.getD j 0)) (lawA s) s s.heap := by
  obtain ⟨t, h1, h2⟩ := va_Tof (f := fun j => .int (vs.getD j 0)) (A := lawA s) hN ha (va_eqt hlen) (fun j hj => va_eqt (hel j hj)) hAl
  exact ⟨t, va_Zref hl hini h1 hAl, h2⟩
set_option maxHeartbeats 8000000 in
set_option maxRecDepth 100000 in
theorem st_tc {s : State} {b : Nat} (hts0 : ∀ w ∈ lw_tbl, w.before #[Value.ref b] s = true) (hgv : (Jvm.Cond.and given_1 narrow_1).before #[Value.ref b] s = true) : ∃ t : Nat, va_Z "LipsAndSlidesModel" "CENTS" "[I" (.ref t) (lawA s) s s.heap ∧ va_T .int t 13 (fun j => .int (([0, 0, 1200, 1902, 2400, 2786, 3102, 3369, 3600, 3804, 3986, 4151, 4302] : List Int32).getD j 0)) (lawA s) s s.heap := by
  have hs := flat_of_before _ hgv
  exact (st_tab (C := "LipsAndSlidesModel") (n := "CENTS") (N := 13) (vs := [0, 0, 1200, 1902, 2400, 2786, 3102, 3369, 3600, 3804, 3986, 4151, 4302]) (by decide) (hts0 _ (List.mem_of_getElem? (i := 1777) (by decide +kernel))) (hts0 _ (List.mem_of_getElem? (i := 134) (by decide +kernel))) (hs _ (show Cond.arrayOf (.static "LipsAndSlidesModel" "CENTS" "[I") .int ∈ flatC (Jvm.Cond.and given_1 narrow_1) from by decide +kernel)) (hs _ (show Cond.eq (.length (.static "LipsAndSlidesModel" "CENTS" "[I")) (.int (Int32.ofNat 13)) ∈ flatC (Jvm.Cond.and given_1 narrow_1) from by decide +kernel)) (fun j hj => hs _ ((show ∀ j : Nat, j < 13 → Cond.eq (.elem (.static "LipsAndSlidesModel" "CENTS" "[I") (.int (Int32.ofNat j))) (.int (([0, 0, 1200, 1902, 2400, 2786, 3102, 3369, 3600, 3804, 3986, 4151, 4302] : List Int32).getD j 0)) ∈ flatC (Jvm.Cond.and given_1 narrow_1) from by decide +kernel) j hj)))
set_option maxHeartbeats 8000000 in
set_option maxRecDepth 100000 in
theorem st_tp {s : State} {b : Nat} (hts0 : ∀ w ∈ lw_tbl, w.before #[Value.ref b] s = true) (hgv : (Jvm.Cond.and given_1 narrow_1).before #[Value.ref b] s = true) : ∃ t : Nat, va_Z "LipsAndSlides$Tube" "PARTIAL_CENTS" "[I" (.ref t) (lawA s) s s.heap ∧ va_T .int t 11 (fun j => .int (([1200, 1902, 2400, 2786, 3102, 3369, 3600, 3804, 3986, 4151, 4302] : List Int32).getD j 0)) (lawA s) s s.heap := by
  have hs := flat_of_before _ hgv
  exact (st_tab (C := "LipsAndSlides$Tube") (n := "PARTIAL_CENTS") (N := 11) (vs := [1200, 1902, 2400, 2786, 3102, 3369, 3600, 3804, 3986, 4151, 4302]) (by decide) (hts0 _ (List.mem_of_getElem? (i := 848) (by decide +kernel))) (hts0 _ (List.mem_of_getElem? (i := 128) (by decide +kernel))) (hs _ (show Cond.arrayOf (.static "LipsAndSlides$Tube" "PARTIAL_CENTS" "[I") .int ∈ flatC (Jvm.Cond.and given_1 narrow_1) from by decide +kernel)) (hs _ (show Cond.eq (.length (.static "LipsAndSlides$Tube" "PARTIAL_CENTS" "[I")) (.int (Int32.ofNat 11)) ∈ flatC (Jvm.Cond.and given_1 narrow_1) from by decide +kernel)) (fun j hj => hs _ ((show ∀ j : Nat, j < 11 → Cond.eq (.elem (.static "LipsAndSlides$Tube" "PARTIAL_CENTS" "[I") (.int (Int32.ofNat j))) (.int (([1200, 1902, 2400, 2786, 3102, 3369, 3600, 3804, 3986, 4151, 4302] : List Int32).getD j 0)) ∈ flatC (Jvm.Cond.and given_1 narrow_1) from by decide +kernel) j hj)))
theorem st_cst {s : State} {b : Nat} (hts0 : ∀ w ∈ lw_tbl, w.before #[Value.ref b] s = true) (hgv : (Jvm.Cond.and given_1 narrow_1).before #[Value.ref b] s = true) : cst (lawA s) s s.heap := ⟨st_tc hts0 hgv, st_tp hts0 hgv⟩
set_option maxHeartbeats 8000000 in
set_option maxRecDepth 100000 in
theorem st_str {s : State} {b : Nat} (hts0 : ∀ w ∈ lw_tbl, w.before #[Value.ref b] s = true) (hgv : (Jvm.Cond.and given_1 narrow_1).before #[Value.ref b] s = true) : ∃ adK adV : Nat → Nat, vk_S 21 sLen sByt adK adV (lawA s) s s.heap ∧ ∀ i : Nat, i < 21 → (tmS i).eval #[Value.ref b] s none [] s = some (.ref (adK i)) := by
  have hs := flat_of_before _ hgv
  refine vk_Sof (tm := tmS) (by decide) (fun i hi => hs _ ((show ∀ i : Nat, i < 21 → Cond.exactly (tmS i) "java/lang/String" ∈ flatC (Jvm.Cond.and given_1 narrow_1) from by decide +kernel) i hi)) (fun i hi => hs _ ((show ∀ i : Nat, i < 21 → Cond.eq (.field (tmS i) "java/lang/String" "coder" "B") (.int 0) ∈ flatC (Jvm.Cond.and given_1 narrow_1) from by decide +kernel) i hi)) (fun i hi => hs _ ((show ∀ i : Nat, i < 21 → Cond.arrayOf (.field (tmS i) "java/lang/String" "value" "[B") .byte ∈ flatC (Jvm.Cond.and given_1 narrow_1) from by decide +kernel) i hi)) (fun i hi => hs _ ((show ∀ i : Nat, i < 21 → Cond.eq (.length (.field (tmS i) "java/lang/String" "value" "[B")) (.int (Int32.ofNat (sLen.getD i 0))) ∈ flatC (Jvm.Cond.and given_1 narrow_1) from by decide +kernel) i hi)) ?_ ?_ hAl
  · exact fun i hi j hj => hs _ ((show ∀ i : Nat, i < 21 → ∀ j : Nat, j < sLen.getD i 0 → Cond.eq (.elem (.field (tmS i) "java/lang/String" "value" "[B") (.int (Int32.ofNat j))) (.int ((sByt.getD i []).getD j 0)) ∈ flatC (Jvm.Cond.and given_1 narrow_1) from by decide +kernel) i hi j hj)
  · intro i j hi hj hne
    rcases ((show ∀ i : Nat, i < 21 → ∀ j : Nat, j < 21 → i ≠ j → (Cond.not (Cond.eq (tmS i) (tmS j)) ∈ flatC (Jvm.Cond.and given_1 narrow_1) ∨ Cond.not (Cond.eq (tmS j) (tmS i)) ∈ flatC (Jvm.Cond.and given_1 narrow_1)) from by decide +kernel) i hi j hj hne) with h | h
    · exact Or.inl (hs _ h)
    · exact Or.inr (hs _ h)
set_option maxHeartbeats 8000000 in
set_option maxRecDepth 100000 in
theorem st_cst8 {s : State} {b : Nat} (hts0 : ∀ w ∈ lw_tbl, w.before #[Value.ref b] s = true) (hgv : (Jvm.Cond.and given_1 narrow_1).before #[Value.ref b] s = true) : ∃ f : Nat → Nat, ∀ g : Nat → Nat, cst8 (fun k => if k < 5000 then g k else f k) (lawA s) s s.heap := by
  obtain ⟨adK, adV, h1, h2⟩ := st_str hts0 hgv
  have hs := flat_of_before _ hgv
  refine ⟨fun k => if k % 2 = 0 then adK ((k - 5000) / 2) else adV ((k - 5000) / 2), fun g => ?_⟩
  have eK : gS (fun k => if k < 5000 then g k else if k % 2 = 0 then adK ((k - 5000) / 2) else adV ((k - 5000) / 2)) = adK := by
    funext i
    unfold gS
    rw [if_neg (by omega), if_pos (by omega), show (5000 + 2 * i - 5000) / 2 = i by omega]
  have eV : gV (fun k => if k < 5000 then g k else if k % 2 = 0 then adK ((k - 5000) / 2) else adV ((k - 5000) / 2)) = adV := by
    funext i
    unfold gV
    rw [if_neg (by omega), if_neg (by omega), show (5001 + 2 * i - 5000) / 2 = i by omega]
  unfold cst8
  rw [eK, eV]
  refine ⟨st_tp hts0 hgv, h1, fun i hi => ?_, ?_, ?_, ?_⟩
  · exact vk_R.of (hts0 _ (List.mem_of_getElem? (i := sWi.getD i 0) ((show ∀ i : Nat, i < 21 → lw_tbl[sWi.getD i 0]? = some (Cond.stringRef RX4 (sIx.getD i 0) (sTx.getD i "")) from by decide +kernel) i hi))) (h2 i hi)
  · exact va_Zof (hts0 _ (List.mem_of_getElem? (i := 532) (by decide +kernel))) (hts0 _ (List.mem_of_getElem? (i := 136) (by decide +kernel))) (va_eqi (hs _ (show Cond.eq (.static "java/lang/String" "COMPACT_STRINGS" "Z") (.int 1) ∈ flatC (Jvm.Cond.and given_1 narrow_1) from by decide +kernel))) hAl
  · exact va_Nw.of rfl (show (Cond.methodLinkNest RX3 94 yX8_isPitch RX8).before #[Value.ref b] s = true from hts0 _ (List.mem_of_getElem? (i := 944) (by decide +kernel)))
  · have q := hs _ (show Cond.isRef (.static "jdk/internal/util/Preconditions" "SIOOBE_FORMATTER" "Ljava/util/function/BiFunction;") ∈ flatC (Jvm.Cond.and given_1 narrow_1) from by decide +kernel)
    obtain ⟨v, ht, hv⟩ := st_isRef q
    exact ⟨v, va_Zof (hts0 _ (List.mem_of_getElem? (i := 548) (by decide +kernel))) (hts0 _ (List.mem_of_getElem? (i := 138) (by decide +kernel))) ht hAl, hv⟩
theorem JI8_0 (c k : Nat) : JI8 c k 0 := by
  unfold JI8
  split <;> first | trivial | (constructor <;> decide)
theorem PA8_0 (c k : Nat) : PA8 c k 0 := by
  unfold PA8
  split <;> first | trivial | (constructor <;> decide)
theorem JI9_0 (k : Nat) : JI9 k 0 := by
  unfold JI9
  split <;> first | trivial | (constructor <;> decide)
theorem PA9_0 (k j : Nat) : PA9 k j 0 := by
  unfold PA9
  have z : (0 : Int32).toInt = 0 := by decide
  split <;> first | trivial | (refine ⟨?_, ?_⟩ <;> omega) | (refine ⟨?_, ?_, ?_⟩ <;> omega) | (refine ⟨?_, ?_, ?_, ?_⟩ <;> omega) | (refine ⟨?_, ?_, ?_, ?_, ?_, ?_⟩ <;> omega)
theorem J8_z0 : J8 z0 := fun o => ⟨fun k => JI8_0 _ k, fun k j => PA8_0 _ k⟩
theorem J8_z8 : J8 z8 := (J8_z0.I (σ := z0) (τ := sI z0 12 3 (-1)) (o := 12) (k := 3) (c := 4) rfl rfl trivial).I (o := 17) (k := 2) (c := 8) rfl rfl (show (0 : Int) ≤ (1 : Int32).toInt ∧ (1 : Int32).toInt ≤ 1 from by decide)
theorem J9_z0 : J9 (z0 9) := ⟨fun k => JI9_0 k, fun k j => PA9_0 k j⟩
theorem J9_z9 : J9 (z9 9) := J9.M (o := 9) (k := 1) (J9.I (σ := z0) (τ := sI z0 9 15 (-1)) (o := 9) (k := 15) J9_z0 rfl trivial) rfl (fun _ => trivial)
theorem DKA_z9 : DKA (z9 9) := by
  intro d hd
  have e : ∀ j : Nat, (z9 9).2.2.1 17 j = 0 := fun j => rfl
  unfold DKd
  rw [e, e]
  have z : (0 : Int32).toInt = 0 := by decide
  exact ⟨fun b hb => absurd hb (by omega), fun q hq => absurd hq (by omega)⟩
theorem WD8_ext {cy : Nat → ClassId} {g f : Nat → Nat} {σ : ST} : WD8 cy (fun k => if k < 5000 then g k else f k) σ = WD8 cy g σ := rfl
set_option maxHeartbeats 8000000 in
set_option maxRecDepth 100000 in
theorem whole_start {p : Program} {e : Env} {s : State} {m : MethodId} {below : List Frame} {meth : Method} {c : Code} (l : Launch) (hflags : l.flags = flags0) {b L : Nat} {xs : Nat → Int32} (hL : L ≤ 3072) (C0 : lw_At p s m meth c b L xs) : W p l e room_1 s m #[Value.ref b] below meth c s.heap [] 0 0 (lw_Z below #[Value.ref b] s) (entryFrame m ([Value.ref b] : List Value).toArray 4) := by
  obtain ⟨hx, hb, hr, hml, hown0, hts0, hX, hbl, hlocks, hgv⟩ := id C0
  have hown : s.vm.findClass RL = some m.cls := hown0
  have hts : ∀ w ∈ lw_g, w.before #[Value.ref b] s = true := fun w h => hts0 w (lw_gt h)
  have hA : ∀ q : Nat, s.heap.size ≤ q → lawA s q := fun _ h => h
  have hN := st_nst hts0
  obtain ⟨D, cy, hK⟩ := st_world hts hN
  have hS : va_S (lawA s) s.heap s.heap [] := va_S.rf
  have hP : va_P D clz [] s.heap := fun k q h => by simp at h
  have hD : va_D (lawA s) [] := ⟨fun i j p q h => by simp at h, fun k q h => by simp at h⟩
  have hl := lv_entry ([.ref b]) (n := 4) (Nat.le_of_ble_eq_true rfl)
  rw [lg_entry_eq]
  generalize (lg_sl ([.ref b]) ++ List.replicate (4 - (lg_sl ([.ref b])).length) Slot.unset).toArray = ls at hl ⊢
  have hl : lv_has ls 4 [(0, .ref b)] := hl
  refine va_new (ci := 8) (fs := [.null, .null, .null, .null, .null, .null, .null, .null, .null, .null, .null, .null]) (C := RX8) (T := TX8) (N := 12) hx hb hts iX8 tyX8 tyX8_ok hown (hts _ q143) (hts _ q144) (hts _ q125) hK hP hD hS hA rfl dfX8 (Nat.le_of_ble_eq_true rfl) (Nat.le_of_ble_eq_true rfl) dL_law_0 (fun q1 H hP hD hS => ?_)
  have hP : va_P D clz [(q1, .inr (8, [.null, .null, .null, .null, .null, .null, .null, .null, .null, .null, .null, .null]))] H := hP
  have hD : va_D (lawA s) [(q1, .inr (8, [.null, .null, .null, .null, .null, .null, .null, .null, .null, .null, .null, .null]))] := hD
  refine W.widen (k := 1) (n := 12) (Nat.le_of_ble_eq_true rfl) (Nat.le_of_ble_eq_true rfl) ?_
  refine lv_dup hx hb dL_law_3 rfl ?_
  have hFc : ∀ q : Nat, va_A [(q1, .inr (8, [.null, .null, .null, .null, .null, .null, .null, .null, .null, .null, .null, .null]))] H.size q → lawA s q := fun q h => by
    rcases h with ⟨k, e, h⟩ | h
    · exact hD.2 k _ h
    · exact Nat.le_trans hS.1 h
  refine va_callv (va_runI (As := []) (rest := [.ref q1]) ⟨hx, hb, hml, hown, hts⟩ (k_X8_init l D cy q1 H.size) (cwI 0 hts (gd_I q147) rfl rfl rfl (hts _ q125) (hts _ q145) (hts _ q146) rfl (by decide +kernel) ⟨Nat.le_of_ble_eq_true rfl, Nat.le_of_ble_eq_true rfl⟩) (pr_N hN hP hK hD) rfl rfl hl.1 rfl (lv_room (Nat.le_of_ble_eq_true rfl)) dL_law_4 ⟨Nat.le_of_ble_eq_true rfl, Nat.le_of_ble_eq_true rfl⟩) hS (fun q _ h => hFc q h) hFc (fun u tS H1 locs ht hvm hw hB hz1 hk1 hS => ?_)
  obtain ⟨hP1, hK1, hD1⟩ := hB
  rw [ht] at hP1
  try dsimp only at hw
  obtain ⟨g1, rfl⟩ : ∃ z, z = u := ⟨_, rfl⟩
  rw [← hw]
  have hP : va_P D clz (WD8 cy g1 z8) H1 := hP1
  have hD : va_D (lawA s) (WD8 cy g1 z8) := hD1.weaken (fun k q hk h => hFc q.1 h)
  clear hP1 hD1 hK1 hFc hk1 hz1
  generalize H1 = H at hP hS ⊢
  refine W.widen (k := 71) (n := 31143) (Nat.le_of_ble_eq_true rfl) (Nat.le_of_ble_eq_true rfl) ?_
  refine lv_astore_n (lv' := [(1, .ref (gO g1 17)), (0, .ref b)]) hx hb dL_law_7 rfl hl (by decide) rfl (fun ls hl => ?_)
  refine va_new (ci := 9) (fs := [.int 0, .null, .null, .null, .null, .null, .int 0, .int 0, .int 0, .int 0, .int 0, .long 0, .int 0, .int 0, .int 0, .int 0, .null, .null, .null, .null, .null, .null, .null, .int 0, .null, .null, .null, .null, .int 0, .int 0, .int 0, .int 0, .null, .null, .null, .null, .null, .null, .null, .int 0, .int 0, .long 0, .null, .null, .null, .null, .null, .null, .null, .null, .null, .int 0, .int 0, .null, .null, .null, .null, .null, .int 0, .int 0]) (C := RX9) (T := TX9) (N := 60) hx hb hts iX9 tyX9 tyX9_ok hown (hts _ q1353) (hts _ q1354) (hts _ q134) hK hP hD hS hA rfl dfX9 (Nat.le_of_ble_eq_true rfl) (Nat.le_of_ble_eq_true rfl) dL_law_8 (fun q2 H hP hD hS => ?_)
  refine W.widen (k := 72) (n := 31203) (Nat.le_of_ble_eq_true rfl) (Nat.le_of_ble_eq_true rfl) ?_
  refine lv_dup hx hb dL_law_11 rfl ?_
  have hPc : va_P D clz [(q2, .inr (9, [.int 0, .null, .null, .null, .null, .null, .int 0, .int 0, .int 0, .int 0, .int 0, .long 0, .int 0, .int 0, .int 0, .int 0, .null, .null, .null, .null, .null, .null, .null, .int 0, .null, .null, .null, .null, .int 0, .int 0, .int 0, .int 0, .null, .null, .null, .null, .null, .null, .null, .int 0, .int 0, .long 0, .null, .null, .null, .null, .null, .null, .null, .null, .null, .int 0, .int 0, .null, .null, .null, .null, .null, .int 0, .int 0]))] H := P_r hP
  have hDc : va_D (lawA s) [(q2, .inr (9, [.int 0, .null, .null, .null, .null, .null, .int 0, .int 0, .int 0, .int 0, .int 0, .long 0, .int 0, .int 0, .int 0, .int 0, .null, .null, .null, .null, .null, .null, .null, .int 0, .null, .null, .null, .null, .int 0, .int 0, .int 0, .int 0, .null, .null, .null, .null, .null, .null, .null, .int 0, .int 0, .long 0, .null, .null, .null, .null, .null, .null, .null, .null, .null, .int 0, .int 0, .null, .null, .null, .null, .null, .int 0, .int 0]))] := D_r hD
  have hFc : ∀ q : Nat, va_A [(q2, .inr (9, [.int 0, .null, .null, .null, .null, .null, .int 0, .int 0, .int 0, .int 0, .int 0, .long 0, .int 0, .int 0, .int 0, .int 0, .null, .null, .null, .null, .null, .null, .null, .int 0, .null, .null, .null, .null, .int 0, .int 0, .int 0, .int 0, .null, .null, .null, .null, .null, .null, .null, .int 0, .int 0, .long 0, .null, .null, .null, .null, .null, .null, .null, .null, .null, .int 0, .int 0, .null, .null, .null, .null, .null, .int 0, .int 0]))] H.size q → lawA s q := fun q h => by
    rcases h with ⟨k, e, h⟩ | h
    · exact hDc.2 k _ h
    · exact Nat.le_trans hS.1 h
  refine va_callv (va_runI (As := []) (rest := [.ref q2]) ⟨hx, hb, hml, hown, hts⟩ (k_X9_init l D cy q2 H.size) (cwI 0 hts (gd_I q1357) rfl rfl rfl (hts _ q134) (hts _ q1355) (hts _ q1356) rfl (by decide +kernel) ⟨Nat.le_of_ble_eq_true rfl, Nat.le_of_ble_eq_true rfl⟩) (pr_S hPc hK hDc) rfl rfl hl.1 rfl (lv_room (Nat.le_of_ble_eq_true rfl)) dL_law_12 ⟨Nat.le_of_ble_eq_true rfl, Nat.le_of_ble_eq_true rfl⟩) hS (fun q _ h => hFc q h) hFc (fun u tS H1 locs ht hvm hw hB hz1 hk1 hS => ?_)
  obtain ⟨hP1, hK1, hD1⟩ := hB
  rw [ht] at hP1
  try dsimp only at hw
  obtain ⟨g2, rfl⟩ : ∃ z, z = u := ⟨_, rfl⟩
  rw [← hw]
  have hP9 : va_P D clz (WD9 cy g2 z9) H1 := hP1
  have hP8 : va_P D clz (WD8 cy g1 z8) H1 := (P_l hP).kept (fun k q h => hk1 q.1 ((P_l hP k q h).lt) (fun hA1 => by
    rcases hA1 with ⟨k1, e1, h1⟩ | h1
    · exact apart hD h h1 rfl
    · have := (P_l hP k q h).lt
      omega))
  have hDD : va_D (lawA s) (WD8 cy g1 z8 ++ WD9 cy g2 z9) := (D_l hD).app (hD1.weaken (fun k q hk h => hFc q.1 h)) (fun i j p q hi hj e => by
    rcases hD1.2 j q hj with ⟨k1, e1, h1⟩ | h1
    · exact apart hD hi h1 e
    · have := (P_l hP i p hi).lt
      omega)
  have hDD0 : va_D (lawA s) (WD8 cy g1 z0 ++ WD9 cy g2 z0) := map_D (by rw [List.map_append, List.map_append, WD8_m (τ := z0), WD9_m (τ := z0)]) hDD
  clear hP1 hD1 hK1 hFc hk1 hz1 hPc hDc hDD hP hD
  generalize H1 = H at hP8 hP9 hS ⊢
  refine W.widen (k := 109) (n := 568502) (Nat.le_of_ble_eq_true rfl) (Nat.le_of_ble_eq_true rfl) ?_
  refine lv_astore_n (lv' := [(2, .ref (g2 60)), (1, .ref (gO g1 17)), (0, .ref b)]) hx hb dL_law_15 rfl hl (by decide) rfl (fun ls hl => ?_)
  refine lv_iconst (v := 0) hx hb dL_law_16 (by decide) ?_
  refine lv_istore_n (lv' := [(3, .int 0), (2, .ref (g2 60)), (1, .ref (gO g1 17)), (0, .ref b)]) hx hb dL_law_17 rfl hl (by decide) rfl (fun ls hl => ?_)
  refine W.widen (k := 200) (n := 700000) (Nat.le_of_ble_eq_true rfl) (Nat.le_of_ble_eq_true rfl) ?_
  obtain ⟨f, hf⟩ := st_cst8 hts0 hgv
  have hC8 := hf g1
  obtain ⟨gg, egg⟩ : ∃ z : Nat → Nat, z = (fun k => if k < 5000 then g1 k else f k) := ⟨_, rfl⟩
  rw [← egg] at hC8
  have hP8 : va_P D clz (WD8 cy gg z8) H := by rw [egg, WD8_ext]; exact hP8
  have hDD0 : va_D (lawA s) (WD8 cy gg z0 ++ WD9 cy g2 z0) := by rw [egg, WD8_ext]; exact hDD0
  have eg : gO g1 17 = gO gg 17 := by rw [egg]; rfl
  rw [eg] at hl
  have z0i : (0 : Int32).toInt = 0 := by decide
  exact law_loop ⟨C0, hK, hDD0, hC8, st_cst hts0 hgv⟩ hL _ 0 z8 z9 H locs ls (Nat.le_refl _) ⟨by omega, by omega⟩ J8_z8 J9_z9 DKA_z9 hP8 hP9 hS hl

-- ===== YOUR PART ENDS =====
set_option maxHeartbeats 4000000 in
theorem lw_walk (l : Launch) (hflags : l.flags = flags0) (b : Addr) (xs : List Int32) : MetFree l x (headSpec (Jvm.Cond.code x code maxLocals ret :: tables_1) room_1) (lw_P b xs) (fun _ _ _ _ _ => True) lw_Q := by
  refine MetFree.of_bodyS (code := code) (maxLocals := maxLocals) (ret := ret) (by decide) ?_ ?_
  · intro args s m h hn
    obtain ⟨meth, c, h1, h2, h3, h4, h5, h6, -, -⟩ := Cond.code_spec hn (atoms_spec (ws := Jvm.Cond.code x code maxLocals ret :: tables_1) h _ List.mem_cons_self)
    exact ⟨meth, c, h1, h2, h3, h4, h5, h6⟩
  · intro p e s m args below meth c s₁ B hml0 hP _
    obtain ⟨rfl, hx, hbd, hgv⟩ := hP
    obtain ⟨scr, harrAt, hlist, hof, hsmall⟩ := hx
    obtain ⟨hcb, hkn, -, -⟩ := State.arrayAt?_spec harrAt
    have hown : s.vm.findClass R_law = some m.cls := findClass_of_methodNamed B.named
    have hts0 : ∀ c ∈ (Jvm.Cond.code x code maxLocals ret :: tables_1), c.before #[Value.ref b] s = true := atoms_spec (ws := Jvm.Cond.code x code maxLocals ret :: tables_1) B.pre
    have hts : ∀ w ∈ lw_tbl, w.before #[Value.ref b] s = true := k2_hts_sels lw_privs (fun w hw => hts0 w (List.mem_cons_of_mem _ hw)) lw_privs_ok
    have hml : c.maxLocals = 4 := B.maxLocals_eq (hts0 _ List.mem_cons_self)
    have X₀ : Stand p l e room_1 s m #[Value.ref b] below meth c s₁ [] 0 0 := Stand.of_body B
    have hh0 : s₁.heap = s.heap := by rw [B.state]; rfl
    have hsz : scr.slots.size = xs.length := by rw [← Array.length_toList, hlist, List.length_map]
    have hval : ∀ j : Nat, j < xs.length → scr.slots[j]? = some (.int (xs.getD j 0)) := fun j hj => by
      rw [← Array.getElem?_toList, hlist]
      simp [hj]
    have hbl : b < s.heap.size := (Array.getElem?_eq_some_iff.mp hcb).1
    have hX : va_X b xs.length (fun j => xs.getD j 0) s s.heap := ⟨scr, hcb, hof, hkn, hsz, hval⟩
    have K : W p l e room_1 s m #[Value.ref b] below meth c s₁.heap [] 0 0 (lw_Z below #[Value.ref b] s) (entryFrame m ([Value.ref b] : List Value).toArray 4) := by
      rw [hh0]
      exact whole_start l hflags hbd ⟨B.exec, B.bytes, B.returns, hml, hown, hts, hX, hbl, B.notSynchronized, hgv⟩
    obtain ⟨t, a1, o, b1, b2, b3⟩ := K s₁ rfl X₀
    exact ⟨t, o, a1, b1, b2, b3⟩
theorem lw_pre_spec {args : Array Value} {s : State} (h : (Jvm.Cond.and given_1 narrow_1).before args s = true) (hr : rest_1_c.before args s = true) : ∃ (b : Addr) (xs : List Int32), lw_P b xs args s := by
  have hs := flat_of_before _ h
  have hq := flat_of_before _ hr
  have hc : (Cond.count 1).before args s = true := hs _ (by decide +kernel)
  have harr : (Cond.arrayOf (.arg 0) .int).before args s = true := hs _ (by decide +kernel)
  have hle : (Cond.le (.length (.arg 0)) (.int 3072)).before args s = true := hs _ (by decide +kernel)
  have hlen : (Cond.isInt (.length (.arg 0))).before args s = true := hq _ (by decide +kernel)
  have hall : (Cond.all (.arg 0) (.isInt (.elem (.arg 0) (.index 0)))).before args s = true := hq _ (by decide +kernel)
  obtain ⟨b, xs, hb, hx⟩ := State.ints_of_pre rfl harr hlen hall
  have hsm : xs.length < 2 ^ 31 := hx.choose_spec.2.2.2
  have hev : (Term.length (.arg 0)).eval args s none [] s = some (.int xs.length.toInt32) := hx.length_eval hb
  have hv := Cond.le_ints hev (show (Term.int 3072).eval args s none [] s = some (.int 3072) from rfl)
  have hd : xs.length.toInt32 ≤ 3072 := by
    simpa [Cond.before, Cond.holds, hv] using hle
  have hN : xs.length ≤ 3072 := (Int32.ofNat_le_ofNat hsm (by decide)).mp (show Int32.ofNat xs.length ≤ Int32.ofNat 3072 from hd)
  exact ⟨b, xs, Cond.one_arg hc (show args[0]? = some (.ref b) from hb), hx, hN, h⟩
theorem lw_comes (l : Launch) (hflags : l.flags = flags0) : Comes l x (Jvm.Cond.code x code maxLocals ret :: tables_1) room_1 (fun tb e args s => Calls_1 tb e args s ∧ rest_1 tb e args s ∧ Pre_1 tb e args s)
    (fun _ _ args s o t => lw_Q args s o t) := by
  intro p e ha hc hk s m args below hf hfit hheap happ hpre
  obtain ⟨b, xs, hP⟩ := lw_pre_spec hpre.2.2 hpre.2.1
  obtain ⟨k, o, h1, h2, h3, hQ⟩ := lw_walk l hflags b xs p e ha hc hk s m args below hf ((Spec.applies_iff_loose hf).mp happ).1 hP trivial
  exact ⟨k, o, h1, h2, h3, hQ⟩
theorem lw_frame {s t : State} {o : Outcome} {args : Array Value} (h : Framed s o t [] 600000 7302249) :
    Framed s o t (fieldLocs frame_1_writes args s ++ arrayLocs frame_1_arrays args s ++ staticLocs frame_1_statics s) 600000 7302249 := h
theorem lw_limb (L : Cond) (hL : ∀ (args : Array Value) (s t : State), L.after args s (.returned (some (.int 1))) t = true) :
    ArmFor flags0 classFile x code maxLocals ret World_1 tables_1 room_1 Calls_1 rest_1 Pre_1
      (fun tb e a s o t => postC L tb e a s o t ∧ Framed s o t (fieldLocs frame_1_writes a s ++ arrayLocs frame_1_arrays a s ++ staticLocs frame_1_statics s) 600000 7302249) := by
  intro l hflags _ _ p e ha hc hk s m args below hf hfit hheap happ hpre
  obtain ⟨k, o, h1, h2, h3, rfl, hF⟩ := lw_comes l hflags p e ha hc hk s m args below hf hfit hheap happ hpre
  exact ⟨k, _, h1, h2, h3, hL args s _, lw_frame hF⟩
theorem i_vc : Claimed_1_1 ∧ Claimed_1_2 := ⟨lw_limb limb_1_1 (fun args s t => by simp [limb_1_1, Cond.after, Cond.holds, Cond.value]), lw_limb limb_1_2 (fun args s t => Cond.after_iff.mpr (by
  first | (rw [show limb_1_2 = Cond.eq .result (.int 1) from rfl, Cond.eq_ints (x := 1) (y := 1) rfl rfl]; simp; done) | (simp [limb_1_2, Cond.value, Term.eval]; done)))⟩


