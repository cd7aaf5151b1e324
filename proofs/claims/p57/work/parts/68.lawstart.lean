theorem q144 : Cond.instantiable RX8 12 ∈ lw_g := lw_gm (List.mem_of_getElem? (i := 144) (by decide +kernel)) rfl
theorem q1354 : Cond.instantiable RX9 60 ∈ lw_g := lw_gm (List.mem_of_getElem? (i := 1354) (by decide +kernel)) rfl
theorem q143 : Cond.classLink RL 7 RX8 ∈ lw_g := lw_gm (List.mem_of_getElem? (i := 143) (by decide +kernel)) rfl
theorem q145 : Cond.methodLink RL 9 yX8_init ∈ lw_g := lw_gm (List.mem_of_getElem? (i := 145) (by decide +kernel)) rfl
theorem q146 : Cond.instanceMethod yX8_init ∈ lw_g := lw_gm (List.mem_of_getElem? (i := 146) (by decide +kernel)) rfl
theorem q1353 : Cond.classLink RL 10 RX9 ∈ lw_g := lw_gm (List.mem_of_getElem? (i := 1353) (by decide +kernel)) rfl
theorem q1355 : Cond.methodLink RL 12 yX9_init ∈ lw_g := lw_gm (List.mem_of_getElem? (i := 1355) (by decide +kernel)) rfl
theorem q1356 : Cond.instanceMethod yX9_init ∈ lw_g := lw_gm (List.mem_of_getElem? (i := 1356) (by decide +kernel)) rfl
theorem dL_law_0 : decode cL_law 0 = .ok (.new 7, 3) := by decide +kernel
theorem dL_law_3 : decode cL_law 3 = .ok (.dup, 1) := by decide +kernel
theorem dL_law_4 : decode cL_law 4 = .ok (.invokespecial 9, 3) := by decide +kernel
theorem dL_law_7 : decode cL_law 7 = .ok (.astore_n 1, 1) := by decide +kernel
theorem dL_law_8 : decode cL_law 8 = .ok (.new 10, 3) := by decide +kernel
theorem dL_law_11 : decode cL_law 11 = .ok (.dup, 1) := by decide +kernel
theorem dL_law_12 : decode cL_law 12 = .ok (.invokespecial 12, 3) := by decide +kernel
theorem dL_law_15 : decode cL_law 15 = .ok (.astore_n 2, 1) := by decide +kernel
theorem dL_law_16 : decode cL_law 16 = .ok (.iconst 0, 1) := by decide +kernel
theorem dL_law_17 : decode cL_law 17 = .ok (.istore_n 3, 1) := by decide +kernel
theorem ar_prim {ty : FieldType} {args : Array Value} {s : State} (h : (Cond.arrayClass ty).before args s = true) : ∃ cA : ClassId, ArrOfT s cA ty ∧ s.vm.findClass ("[" ++ ty.toString) = some cA := by
  obtain ⟨c, k, comp, h1, h2, h3⟩ := Cond.arrayClass_spec h
  exact ⟨c, fun n z => ⟨fun k h => (by cases h), k, h2, comp, h3⟩, h1⟩
theorem ar_obj {C : String} {s : State} (h : va_AO C s) : ∃ cA : ClassId, ArrOfT s cA (.object C) ∧ va_RA s cA (.object C) := by
  obtain ⟨comp, c, k, h1, h2, h3, h4, h5⟩ := Cond.arrayOver_spec h
  exact ⟨c, fun n z => ⟨fun k h => (by cases h), k, h3, comp, h4⟩, k, comp, h3, h4, h1, h5⟩
theorem st_isRef {args : Array Value} {s : State} {t : Term} (h : (Cond.isRef t).before args s = true) : ∃ v : Value, t.eval args s none [] s = some v ∧ (v = .null ∨ ∃ q : Nat, v = .ref q) := by
  obtain ⟨v, h1, h2⟩ := Cond.isRef_spec h
  cases v with
  | ref t => exact ⟨_, h1, Or.inr ⟨t, rfl⟩⟩
  | null => exact ⟨_, h1, Or.inl rfl⟩
  | _ => cases h2
set_option maxHeartbeats 8000000 in
set_option maxRecDepth 100000 in
theorem st_nst {s : State} {b : Nat} (hts0 : ∀ w ∈ lw_tbl, w.before #[Value.ref b] s = true) : nst s := ⟨va_Nw.of rfl (show (Cond.methodLinkNest RX8 9 yX4_init RX8).before #[Value.ref b] s = true from hts0 _ (List.mem_of_getElem? (i := 153) (by decide +kernel))), va_Nw.of rfl (show (Cond.methodLinkNest RX8 18 yX0_init RX8).before #[Value.ref b] s = true from hts0 _ (List.mem_of_getElem? (i := 188) (by decide +kernel))), va_Nw.of rfl (show (Cond.methodLinkNest RX8 42 yX7_init RX8).before #[Value.ref b] s = true from hts0 _ (List.mem_of_getElem? (i := 243) (by decide +kernel))), va_Nw.of rfl (show (Cond.methodLinkNest RX8 52 yX3_init RX8).before #[Value.ref b] s = true from hts0 _ (List.mem_of_getElem? (i := 274) (by decide +kernel))), va_Nw.of rfl (show (Cond.methodLinkNest RX8 59 yX2_init RX8).before #[Value.ref b] s = true from hts0 _ (List.mem_of_getElem? (i := 348) (by decide +kernel))), va_Nw.of rfl (show (Cond.methodLinkNest RX8 66 yX1_init RX8).before #[Value.ref b] s = true from hts0 _ (List.mem_of_getElem? (i := 363) (by decide +kernel))), va_Nw.of rfl (show (Cond.methodLinkNest RX8 73 yX6_init RX8).before #[Value.ref b] s = true from hts0 _ (List.mem_of_getElem? (i := 397) (by decide +kernel))), va_Nw.of rfl (show (Cond.methodLinkNest RX8 78 yX5_init RX8).before #[Value.ref b] s = true from hts0 _ (List.mem_of_getElem? (i := 412) (by decide +kernel))), va_Nw.of rfl (show (Cond.methodLinkNest RX3 13 yX7_init RX8).before #[Value.ref b] s = true from hts0 _ (List.mem_of_getElem? (i := 279) (by decide +kernel))), va_AO.of (show (Cond.arrayOver (.object RX0)).before #[Value.ref b] s = true from hts0 _ (List.mem_of_getElem? (i := 238) (by decide +kernel))), va_AO.of (show (Cond.arrayOver (.object RX5)).before #[Value.ref b] s = true from hts0 _ (List.mem_of_getElem? (i := 240) (by decide +kernel)))⟩
set_option maxHeartbeats 8000000 in
set_option maxRecDepth 100000 in
theorem st_world {s : State} {b : Nat} (hts : ∀ w ∈ lw_g, w.before #[Value.ref b] s = true) (hN : nst s) : ∃ (D : va_G) (cy : Nat → ClassId), va_K D clz (tyl cy) s := by
  obtain ⟨c0, iS0, hKn0⟩ := u_known (C := RX0) (T := TX0) (N := 10) (n := 10) hts iX0 (hts _ q187)
  obtain ⟨c1, iS1, hKn1⟩ := u_known (C := RX1) (T := TX1) (N := 9) (n := 9) hts iX1 (hts _ q362)
  obtain ⟨c2, iS2, hKn2⟩ := u_known (C := RX2) (T := TX2) (N := 2) (n := 2) hts iX2 (hts _ q347)
  obtain ⟨c3, iS3, hKn3⟩ := u_known (C := RX3) (T := TX3) (N := 20) (n := 20) hts iX3 (hts _ q273)
  obtain ⟨c4, iS4, hKn4⟩ := u_known (C := RX4) (T := TX4) (N := 8) (n := 8) hts iX4 (hts _ q152)
  obtain ⟨c5, iS5, hKn5⟩ := u_known (C := RX5) (T := TX5) (N := 4) (n := 4) hts iX5 (hts _ q411)
  obtain ⟨c6, iS6, hKn6⟩ := u_known (C := RX6) (T := TX6) (N := 3) (n := 3) hts iX6 (hts _ q396)
  obtain ⟨c7, iS7, hKn7⟩ := u_known (C := RX7) (T := TX7) (N := 7) (n := 7) hts iX7 (hts _ q242)
  obtain ⟨c8, iS8, hKn8⟩ := u_known (C := RX8) (T := TX8) (N := 12) (n := 12) hts iX8 (hts _ q144)
  obtain ⟨c9, iS9, hKn9⟩ := u_known (C := RX9) (T := TX9) (N := 60) (n := 60) hts iX9 (hts _ q1354)
  obtain ⟨D, hKc⟩ : ∃ D : va_G, ∀ (k : Nat) (q : vw_C), clz[k]? = some q → u_Kn s q.1 q.2.1 q.2.2 (D.1 k) (D.2 k) := by
    refine ⟨(fun k => match k with | 0 => c0 | 1 => c1 | 2 => c2 | 3 => c3 | 4 => c4 | 5 => c5 | 6 => c6 | 7 => c7 | 8 => c8 | _ => c9, fun k => match k with | 0 => iS0 | 1 => iS1 | 2 => iS2 | 3 => iS3 | 4 => iS4 | 5 => iS5 | 6 => iS6 | 7 => iS7 | 8 => iS8 | _ => iS9), ?_⟩
    intro k q hq
    match k, hq with
    | 0, hq => cases hq; exact hKn0
    | 1, hq => cases hq; exact hKn1
    | 2, hq => cases hq; exact hKn2
    | 3, hq => cases hq; exact hKn3
    | 4, hq => cases hq; exact hKn4
    | 5, hq => cases hq; exact hKn5
    | 6, hq => cases hq; exact hKn6
    | 7, hq => cases hq; exact hKn7
    | 8, hq => cases hq; exact hKn8
    | 9, hq => cases hq; exact hKn9
    | k + 10, hq => simp at hq
  obtain ⟨y0, hy0, hz0⟩ := ar_prim (hts (.arrayClass .int) q237)
  obtain ⟨y1, hy1, hz1⟩ := ar_prim (hts (.arrayClass .byte) q185)
  obtain ⟨y2, hy2, hz2⟩ := ar_prim (hts (.arrayClass .long) q433)
  obtain ⟨y3, hy3, hz3⟩ := ar_prim (hts (.arrayClass .boolean) q1541)
  obtain ⟨y4, hy4, hz4⟩ := ar_obj hN.2.2.2.2.2.2.2.2.2.1
  obtain ⟨y5, hy5, hz5⟩ := ar_obj hN.2.2.2.2.2.2.2.2.2.2
  obtain ⟨cy, hcy⟩ : ∃ cy : Nat → ClassId, ∀ (k : Nat) (q : ClassId × FieldType), (tyl cy)[k]? = some q → ArrOfT s q.1 q.2 ∧ va_RA s q.1 q.2 := by
    refine ⟨fun k => match k with | 0 => y0 | 1 => y1 | 2 => y2 | 3 => y3 | 4 => y4 | _ => y5, ?_⟩
    intro k q hq
    match k, hq with
    | 0, hq => cases hq; exact ⟨hy0, hz0⟩
    | 1, hq => cases hq; exact ⟨hy1, hz1⟩
    | 2, hq => cases hq; exact ⟨hy2, hz2⟩
    | 3, hq => cases hq; exact ⟨hy3, hz3⟩
    | 4, hq => cases hq; exact ⟨hy4, hz4⟩
    | 5, hq => cases hq; exact ⟨hy5, hz5⟩
    | k + 6, hq => simp at hq
  exact ⟨D, cy, hKc, hcy⟩
theorem hAl {s : State} : ∀ a : Nat, a < s.heap.size → ¬ lawA s a := fun a h q => absurd q (Nat.not_le.mpr h)
def sWi : List Nat := [518, 575, 584, 585, 612, 613, 614, 634, 639, 681, 606, 608, 609, 610, 611, 631, 632, 633, 674, 675, 680]
abbrev tmS (i : Nat) : Term := Term.string RX4 (sIx.getD i 0)
theorem st_tab {args : Array Value} {s : State} {C n : String} {N : Nat} {vs : List Int32} (hN : N < 2 ^ 31) (hl : (Cond.laysStatic C n "[I").before args s = true) (hini : (Cond.initialized C).before args s = true) (ha : (Cond.arrayOf (.static C n "[I") .int).before args s = true) (hlen : (Cond.eq (.length (.static C n "[I")) (.int (Int32.ofNat N))).before args s = true) (hel : ∀ j : Nat, j < N → (Cond.eq (.elem (.static C n "[I") (.int (Int32.ofNat j))) (.int (vs.getD j 0))).before args s = true) : ∃ t : Nat, va_Z C n "[I" (.ref t) (lawA s) s s.heap ∧ va_T .int t N (fun j => .int (vs.getD j 0)) (lawA s) s s.heap := by
  obtain ⟨t, h1, h2⟩ := va_Tof (f := fun j => .int (vs.getD j 0)) (A := lawA s) hN ha (va_eqt hlen) (fun j hj => va_eqt (hel j hj)) hAl
  exact ⟨t, va_Zref hl hini h1 hAl, h2⟩
set_option maxHeartbeats 8000000 in
set_option maxRecDepth 100000 in
theorem st_tc {s : State} {b : Nat} (hts0 : ∀ w ∈ lw_tbl, w.before #[Value.ref b] s = true) (hgv : (Jvm.Cond.and given_1 narrow_1).before #[Value.ref b] s = true) : ∃ t : Nat, va_Z "LipsAndSlidesModel" "CENTS" "[I" (.ref t) (lawA s) s s.heap ∧ va_T .int t 13 (fun j => .int (([0, 0, 1200, 1902, 2400, 2786, 3102, 3369, 3600, 3804, 3986, 4151, 4302] : List Int32).getD j 0)) (lawA s) s s.heap := by
  have hs := flat_of_before _ hgv
  exact (st_tab (C := "LipsAndSlidesModel") (n := "CENTS") (N := 13) (vs := [0, 0, 1200, 1902, 2400, 2786, 3102, 3369, 3600, 3804, 3986, 4151, 4302]) (by decide) (hts0 _ (List.mem_of_getElem? (i := 1777) (by decide +kernel))) (hts0 _ (List.mem_of_getElem? (i := 134) (by decide +kernel))) (hs _ (show Cond.arrayOf (.static "LipsAndSlidesModel" "CENTS" "[I") .int ∈ flatC (Jvm.Cond.and given_1 narrow_1) from by decide +kernel)) (hs _ (show Cond.eq (.length (.static "LipsAndSlidesModel" "CENTS" "[I")) (.int (Int32.ofNat 13)) ∈ flatC (Jvm.Cond.and given_1 narrow_1) from by decide +kernel)) (fun j hj => hs _ ((show ∀ j : Nat, j < 13 → Cond.eq (.elem (.static "LipsAndSlidesModel" "CENTS" "[I") (.int (Int32.ofNat j))) (.int (([0, 0, 1200, 1902, 2400, 2786, 3102, 3369, 3600, 3804, 3986, 4151, 4302] : List Int32).getD j 0)) ∈ flatC (Jvm.Cond.and given_1 narrow_1) from by decide +kernel) j hj)))
set_option maxHeartbeats 8000000 in
set_option maxRecDepth 100000 in
theorem st_tp {s : State} {b : Nat} (hts0 : ∀ w ∈ lw_tbl, w.before #[Value.ref b] s = true) (hgv : (Jvm.Cond.and given_1 narrow_1).before #[Value.ref b] s = true) : ∃ t : Nat, va_Z "LipsAndSlides$Tube" "PARTIAL_CENTS" "[I" (.ref t) (lawA s) s s.heap ∧ va_T .int t 11 (fun j => .int (([1200, 1902, 2400, 2786, 3102, 3369, 3600, 3804, 3986, 4151, 4302] : List Int32).getD j 0)) (lawA s) s s.heap := by
  have hs := flat_of_before _ hgv
  exact (st_tab (C := "LipsAndSlides$Tube") (n := "PARTIAL_CENTS") (N := 11) (vs := [1200, 1902, 2400, 2786, 3102, 3369, 3600, 3804, 3986, 4151, 4302]) (by decide) (hts0 _ (List.mem_of_getElem? (i := 848) (by decide +kernel))) (hts0 _ (List.mem_of_getElem? (i := 128) (by decide +kernel))) (hs _ (show Cond.arrayOf (.static "LipsAndSlides$Tube" "PARTIAL_CENTS" "[I") .int ∈ flatC (Jvm.Cond.and given_1 narrow_1) from by decide +kernel)) (hs _ (show Cond.eq (.length (.static "LipsAndSlides$Tube" "PARTIAL_CENTS" "[I")) (.int (Int32.ofNat 11)) ∈ flatC (Jvm.Cond.and given_1 narrow_1) from by decide +kernel)) (fun j hj => hs _ ((show ∀ j : Nat, j < 11 → Cond.eq (.elem (.static "LipsAndSlides$Tube" "PARTIAL_CENTS" "[I") (.int (Int32.ofNat j))) (.int (([1200, 1902, 2400, 2786, 3102, 3369, 3600, 3804, 3986, 4151, 4302] : List Int32).getD j 0)) ∈ flatC (Jvm.Cond.and given_1 narrow_1) from by decide +kernel) j hj)))
theorem st_cst {s : State} {b : Nat} (hts0 : ∀ w ∈ lw_tbl, w.before #[Value.ref b] s = true) (hgv : (Jvm.Cond.and given_1 narrow_1).before #[Value.ref b] s = true) : cst (lawA s) s s.heap := ⟨st_tc hts0 hgv, st_tp hts0 hgv⟩
def sEX : List Nat := [59, 67, 77, 90, 175, 192, 211, 295, 318, 424, 102, 114, 127, 143, 159, 232, 253, 273, 342, 366, 395]
def sCO : List Nat := [60, 68, 78, 91, 176, 193, 212, 296, 319, 425, 103, 115, 128, 144, 160, 233, 254, 274, 343, 367, 396]
def sAR : List Nat := [61, 69, 79, 92, 177, 194, 213, 297, 320, 426, 104, 116, 129, 145, 161, 234, 255, 275, 344, 368, 397]
def sLE : List Nat := [62, 70, 80, 93, 178, 195, 214, 298, 321, 427, 105, 117, 130, 146, 162, 235, 256, 276, 345, 369, 398]
def sEL : List (List Nat) := [[63, 64, 65, 66], [71, 72, 73, 74, 75], [81, 82, 83, 84, 85, 86, 87], [94, 95, 96, 97, 98], [179, 180, 181, 182], [196, 197, 198, 199, 200], [215, 216, 217, 218, 219, 220], [299, 300, 301, 302], [322, 323, 324, 325], [428, 429, 430, 431], [106, 107, 108, 109], [118, 119, 120, 121], [131, 132, 133, 134, 135, 136], [147, 148, 149, 150, 151], [163, 164, 165, 166], [236, 237, 238, 239, 240], [257, 258, 259], [277, 278, 279, 280], [346, 347, 348], [370, 371, 372, 373, 374, 375, 376], [399, 400, 401, 402, 403, 404]]
def sNE : List (List Nat) := [[0, 76, 88, 99, 183, 201, 221, 303, 326, 432, 110, 122, 137, 152, 167, 241, 260, 281, 349, 377, 405], [76, 0, 89, 100, 184, 202, 222, 304, 327, 433, 111, 123, 138, 153, 168, 242, 261, 282, 350, 378, 406], [88, 89, 0, 101, 185, 203, 223, 305, 328, 434, 112, 124, 139, 154, 169, 243, 262, 283, 351, 379, 407], [99, 100, 101, 0, 186, 204, 224, 306, 329, 435, 113, 125, 140, 155, 170, 244, 263, 284, 352, 380, 408], [183, 184, 185, 186, 0, 210, 230, 312, 335, 441, 187, 188, 189, 190, 191, 250, 269, 290, 358, 386, 414], [201, 202, 203, 204, 210, 0, 231, 313, 336, 442, 205, 206, 207, 208, 209, 251, 270, 291, 359, 387, 415], [221, 222, 223, 224, 230, 231, 0, 314, 337, 443, 225, 226, 227, 228, 229, 252, 271, 292, 360, 388, 416], [303, 304, 305, 306, 312, 313, 314, 0, 341, 447, 307, 308, 309, 310, 311, 315, 316, 317, 364, 392, 420], [326, 327, 328, 329, 335, 336, 337, 341, 0, 448, 330, 331, 332, 333, 334, 338, 339, 340, 365, 393, 421], [432, 433, 434, 435, 441, 442, 443, 447, 448, 0, 436, 437, 438, 439, 440, 444, 445, 446, 449, 450, 451], [110, 111, 112, 113, 187, 205, 225, 307, 330, 436, 0, 126, 141, 156, 171, 245, 264, 285, 353, 381, 409], [122, 123, 124, 125, 188, 206, 226, 308, 331, 437, 126, 0, 142, 157, 172, 246, 265, 286, 354, 382, 410], [137, 138, 139, 140, 189, 207, 227, 309, 332, 438, 141, 142, 0, 158, 173, 247, 266, 287, 355, 383, 411], [152, 153, 154, 155, 190, 208, 228, 310, 333, 439, 156, 157, 158, 0, 174, 248, 267, 288, 356, 384, 412], [167, 168, 169, 170, 191, 209, 229, 311, 334, 440, 171, 172, 173, 174, 0, 249, 268, 289, 357, 385, 413], [241, 242, 243, 244, 250, 251, 252, 315, 338, 444, 245, 246, 247, 248, 249, 0, 272, 293, 361, 389, 417], [260, 261, 262, 263, 269, 270, 271, 316, 339, 445, 264, 265, 266, 267, 268, 272, 0, 294, 362, 390, 418], [281, 282, 283, 284, 290, 291, 292, 317, 340, 446, 285, 286, 287, 288, 289, 293, 294, 0, 363, 391, 419], [349, 350, 351, 352, 358, 359, 360, 364, 365, 449, 353, 354, 355, 356, 357, 361, 362, 363, 0, 394, 422], [377, 378, 379, 380, 386, 387, 388, 392, 393, 450, 381, 382, 383, 384, 385, 389, 390, 391, 394, 0, 423], [405, 406, 407, 408, 414, 415, 416, 420, 421, 451, 409, 410, 411, 412, 413, 417, 418, 419, 422, 423, 0]]
def FLT : List Cond := flatC (Jvm.Cond.and given_1 narrow_1)
set_option maxHeartbeats 8000000 in
set_option maxRecDepth 100000 in
theorem st_sx : ∀ i : Nat, i < 21 → FLT[sEX.getD i 0]? = some (Cond.exactly (tmS i) "java/lang/String") := by decide +kernel
set_option maxHeartbeats 8000000 in
set_option maxRecDepth 100000 in
theorem st_sc : ∀ i : Nat, i < 21 → FLT[sCO.getD i 0]? = some (Cond.eq (.field (tmS i) "java/lang/String" "coder" "B") (.int 0)) := by decide +kernel
set_option maxHeartbeats 8000000 in
set_option maxRecDepth 100000 in
theorem st_sa : ∀ i : Nat, i < 21 → FLT[sAR.getD i 0]? = some (Cond.arrayOf (.field (tmS i) "java/lang/String" "value" "[B") .byte) := by decide +kernel
set_option maxHeartbeats 8000000 in
set_option maxRecDepth 100000 in
theorem st_sl : ∀ i : Nat, i < 21 → FLT[sLE.getD i 0]? = some (Cond.eq (.length (.field (tmS i) "java/lang/String" "value" "[B")) (.int (Int32.ofNat (sLen.getD i 0)))) := by decide +kernel
set_option maxHeartbeats 8000000 in
set_option maxRecDepth 100000 in
theorem st_se : ∀ i : Nat, i < 21 → ∀ j : Nat, j < sLen.getD i 0 → FLT[(sEL.getD i []).getD j 0]? = some (Cond.eq (.elem (.field (tmS i) "java/lang/String" "value" "[B") (.int (Int32.ofNat j))) (.int ((sByt.getD i []).getD j 0))) := by decide +kernel
set_option maxHeartbeats 8000000 in
set_option maxRecDepth 100000 in
theorem st_sn : ∀ i : Nat, i < 21 → ∀ j : Nat, j < 21 → i ≠ j → (FLT[(sNE.getD i []).getD j 0]? = some (Cond.not (Cond.eq (tmS i) (tmS j))) ∨ FLT[(sNE.getD i []).getD j 0]? = some (Cond.not (Cond.eq (tmS j) (tmS i)))) := by decide +kernel
set_option maxHeartbeats 8000000 in
set_option maxRecDepth 100000 in
theorem st_str {s : State} {b : Nat} (hts0 : ∀ w ∈ lw_tbl, w.before #[Value.ref b] s = true) (hgv : (Jvm.Cond.and given_1 narrow_1).before #[Value.ref b] s = true) : ∃ adK adV : Nat → Nat, vk_S 21 sLen sByt adK adV (lawA s) s s.heap ∧ ∀ i : Nat, i < 21 → (tmS i).eval #[Value.ref b] s none [] s = some (.ref (adK i)) := by
  have hs : ∀ c ∈ FLT, c.before #[Value.ref b] s = true := flat_of_before _ hgv
  refine vk_Sof (tm := tmS) (by decide) (fun i hi => hs _ (List.mem_of_getElem? (st_sx i hi))) (fun i hi => hs _ (List.mem_of_getElem? (st_sc i hi))) (fun i hi => hs _ (List.mem_of_getElem? (st_sa i hi))) (fun i hi => hs _ (List.mem_of_getElem? (st_sl i hi))) ?_ ?_ hAl
  · exact fun i hi j hj => hs _ (List.mem_of_getElem? (st_se i hi j hj))
  · intro i j hi hj hne
    rcases st_sn i hi j hj hne with h | h
    · exact Or.inl (hs _ (List.mem_of_getElem? h))
    · exact Or.inr (hs _ (List.mem_of_getElem? h))
set_option maxHeartbeats 8000000 in
set_option maxRecDepth 100000 in
theorem st_cst8 {s : State} {b : Nat} (hts0 : ∀ w ∈ lw_tbl, w.before #[Value.ref b] s = true) (hgv : (Jvm.Cond.and given_1 narrow_1).before #[Value.ref b] s = true) : ∃ f : Nat → Nat, ∀ g : Nat → Nat, cst8 (fun k => if k < 5000 then g k else f k) (lawA s) s s.heap := by
  obtain ⟨adK, adV, h1, h2⟩ := st_str hts0 hgv
  have hs := flat_of_before _ hgv
  refine ⟨fun k => if k % 2 = 0 then adK ((k - 5000) / 2) else adV ((k - 5000) / 2), fun g => ?_⟩
  have eK : gS (fun k => if k < 5000 then g k else if k % 2 = 0 then adK ((k - 5000) / 2) else adV ((k - 5000) / 2)) = adK := by
    funext i
    unfold gS
    dsimp only
    rw [if_neg (by omega), if_pos (by omega), show (5000 + 2 * i - 5000) / 2 = i by omega]
  have eV : gV (fun k => if k < 5000 then g k else if k % 2 = 0 then adK ((k - 5000) / 2) else adV ((k - 5000) / 2)) = adV := by
    funext i
    unfold gV
    dsimp only
    rw [if_neg (by omega), if_neg (by omega), show (5001 + 2 * i - 5000) / 2 = i by omega]
  unfold cst8
  rw [eK, eV]
  refine ⟨st_tp hts0 hgv, h1, fun i hi => ?_, ?_, ?_, ?_⟩
  · exact vk_R.of (hts0 _ (List.mem_of_getElem? (i := sWi.getD i 0) ((show ∀ i : Nat, i < 21 → lw_tbl[sWi.getD i 0]? = some (Cond.stringRef RX4 (sIx.getD i 0) (sTx.getD i "")) from by decide +kernel) i hi))) (h2 i hi)
  · exact va_Zof (hts0 _ (List.mem_of_getElem? (i := 532) (by decide +kernel))) (hts0 _ (List.mem_of_getElem? (i := 136) (by decide +kernel))) (va_eqi (hs _ (show Cond.eq (.static "java/lang/String" "COMPACT_STRINGS" "Z") (.int 1) ∈ flatC (Jvm.Cond.and given_1 narrow_1) from by decide +kernel))) hAl
  · exact va_Nw.of rfl (show (Cond.methodLinkNest RX3 94 yX8_isPitch RX8).before #[Value.ref b] s = true from hts0 _ (List.mem_of_getElem? (i := 944) (by decide +kernel)))
  · have q := hs _ (show Cond.isRef (.static "jdk/internal/util/Preconditions" "SIOOBE_FORMATTER" "Ljava/util/function/BiFunction;") ∈ flatC (Jvm.Cond.and given_1 narrow_1) from by decide +kernel)
    obtain ⟨v, ht, hv⟩ := st_isRef q
    exact ⟨v, va_Zof (hts0 _ (List.mem_of_getElem? (i := 548) (by decide +kernel))) (hts0 _ (List.mem_of_getElem? (i := 138) (by decide +kernel))) ht hAl, hv⟩
theorem JI8_0 (c k : Nat) : JI8 c k 0 := by
  unfold JI8
  split <;> first | trivial | (constructor <;> decide)
theorem PA8_0 (c k : Nat) : PA8 c k 0 := by
  unfold PA8
  split <;> first | trivial | (constructor <;> decide)
theorem JI9_0 (k : Nat) : JI9 k 0 := by
  unfold JI9
  split <;> first | trivial | (constructor <;> decide)
theorem PA9_0 (k j : Nat) : PA9 k j 0 := by
  unfold PA9
  have z : (0 : Int32).toInt = 0 := by decide
  split <;> first | trivial | (refine ⟨?_, ?_⟩ <;> omega) | (refine ⟨?_, ?_, ?_⟩ <;> omega) | (refine ⟨?_, ?_, ?_, ?_⟩ <;> omega) | (refine ⟨?_, ?_, ?_, ?_, ?_, ?_⟩ <;> omega)
theorem J8_z0 : J8 z0 := fun o => ⟨fun k => JI8_0 _ k, fun k j => PA8_0 _ k⟩
theorem J8_z8 : J8 z8 := (J8_z0.I (σ := z0) (τ := sI z0 12 3 (-1)) (o := 12) (k := 3) (c := 4) rfl rfl trivial).I (o := 17) (k := 2) (c := 8) rfl rfl (show (0 : Int) ≤ (1 : Int32).toInt ∧ (1 : Int32).toInt ≤ 1 from by decide)
theorem J9_z0 : J9 (z0 9) := ⟨fun k => JI9_0 k, fun k j => PA9_0 k j⟩
theorem J9_z9 : J9 (z9 9) := J9.M (o := 9) (k := 1) (J9.I (σ := z0) (τ := sI z0 9 15 (-1)) (o := 9) (k := 15) J9_z0 rfl trivial) rfl (fun _ => trivial)
theorem DKA_z9 : DKA (z9 9) := by
  intro d hd
  have e : ∀ j : Nat, (z9 9).2.2.1 17 j = 0 := fun j => rfl
  unfold DKd
  rw [e, e]
  have z : (0 : Int32).toInt = 0 := by decide
  exact ⟨fun b hb => absurd hb (by omega), fun q hq => absurd hq (by omega)⟩
theorem gO_ext {g f : Nat → Nat} {n : Nat} (h : 100 * n < 5000) : gO (fun k => if k < 5000 then g k else f k) n = gO g n := by
  unfold gO
  exact if_pos h
theorem eO8_ext {g f : Nat → Nat} {w : SG} (h1 : 100 * (w.1 1).toInt.toNat < 5000) (h2 : 100 * (w.1 2).toInt.toNat < 5000) : eO8 (fun k => if k < 5000 then g k else f k) 17 w = eO8 g 17 w := by
  unfold eO8
  rw [gO_ext h1, gO_ext h2]
  rfl
theorem WD8_ext {cy : Nat → ClassId} {g f : Nat → Nat} {σ : ST} (h1 : 100 * ((σ 17).1 1).toInt.toNat < 5000) (h2 : 100 * ((σ 17).1 2).toInt.toNat < 5000) : WD8 cy (fun k => if k < 5000 then g k else f k) σ = WD8 cy g σ := by
  unfold WD8
  rw [eO8_ext h1 h2]
  rfl
theorem z8_1 : 100 * ((z8 17).1 1).toInt.toNat < 5000 := by decide
theorem z8_2 : 100 * ((z8 17).1 2).toInt.toNat < 5000 := by decide
theorem z0_1 : 100 * ((z0 17).1 1).toInt.toNat < 5000 := by decide
theorem z0_2 : 100 * ((z0 17).1 2).toInt.toNat < 5000 := by decide

