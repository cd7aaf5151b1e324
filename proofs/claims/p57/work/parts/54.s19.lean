theorem q1335 : Cond.code yX5_renew cX5_renew 4 none ∈ lw_g := lw_gm (List.mem_of_getElem? (i := 1335) (by decide +kernel)) rfl
theorem q416 : Cond.fieldLink RX5 15 "LipsAndSlides$Row" "there" "Z" ∈ lw_g := lw_gm (List.mem_of_getElem? (i := 416) (by decide +kernel)) rfl
theorem q418 : Cond.fieldLink RX5 19 "LipsAndSlides$Row" "width" "I" ∈ lw_g := lw_gm (List.mem_of_getElem? (i := 418) (by decide +kernel)) rfl
theorem dX5_renew_0 : decode cX5_renew 0 = .ok (.aload_n 0, 1) := by decide +kernel
theorem dX5_renew_1 : decode cX5_renew 1 = .ok (.iconst 1, 1) := by decide +kernel
theorem dX5_renew_2 : decode cX5_renew 2 = .ok (.putfield 15, 3) := by decide +kernel
theorem dX5_renew_5 : decode cX5_renew 5 = .ok (.aload_n 0, 1) := by decide +kernel
theorem dX5_renew_6 : decode cX5_renew 6 = .ok (.iload_n 1, 1) := by decide +kernel
theorem dX5_renew_7 : decode cX5_renew 7 = .ok (.putfield 19, 3) := by decide +kernel
theorem dX5_renew_10 : decode cX5_renew 10 = .ok (.aload_n 0, 1) := by decide +kernel
theorem dX5_renew_11 : decode cX5_renew 11 = .ok (.iload_n 2, 1) := by decide +kernel
theorem dX5_renew_12 : decode cX5_renew 12 = .ok (.putfield 23, 3) := by decide +kernel
theorem dX5_renew_15 : decode cX5_renew 15 = .ok (.iconst 0, 1) := by decide +kernel
theorem dX5_renew_16 : decode cX5_renew 16 = .ok (.istore_n 3, 1) := by decide +kernel
theorem dX5_renew_17 : decode cX5_renew 17 = .ok (.iload_n 3, 1) := by decide +kernel
theorem dX5_renew_18 : decode cX5_renew 18 = .ok (.bipush 60, 2) := by decide +kernel
theorem dX5_renew_20 : decode cX5_renew 20 = .ok (.if_icmp .ge 16, 3) := by decide +kernel
theorem dX5_renew_23 : decode cX5_renew 23 = .ok (.aload_n 0, 1) := by decide +kernel
theorem dX5_renew_24 : decode cX5_renew 24 = .ok (.getfield 9, 3) := by decide +kernel
theorem dX5_renew_27 : decode cX5_renew 27 = .ok (.iload_n 3, 1) := by decide +kernel
theorem dX5_renew_28 : decode cX5_renew 28 = .ok (.lconst 0, 1) := by decide +kernel
theorem dX5_renew_29 : decode cX5_renew 29 = .ok (.lastore, 1) := by decide +kernel
theorem dX5_renew_30 : decode cX5_renew 30 = .ok (.iinc 3 1, 3) := by decide +kernel
theorem dX5_renew_33 : decode cX5_renew 33 = .ok (.goto (-16), 3) := by decide +kernel
theorem dX5_renew_36 : decode cX5_renew 36 = .ok (.return_, 1) := by decide +kernel
set_option maxHeartbeats 4000000 in
set_option maxRecDepth 100000 in
theorem m_X5_renew (l : Launch) (D : va_G) (cy : Nat → ClassId) (g : Nat → Nat) (σ : ST) (d0 : Nat) (p1 : Int32) (p2 : Int32) (sz : Nat) (hJ : J8 σ) (hd0 : 5 ≤ d0 ∧ d0 < 9) (h0 : (0 : Int) ≤ p1.toInt ∧ p1.toInt ≤ 3) (h1 : (0 : Int) ≤ p2.toInt ∧ p2.toInt ≤ 60) : Met l yX5_renew (ww yX5_renew cX5_renew 4 none) ({ frames := 1, cells := 0, slots := 0, locals := 64 }) (va_Pc [.ref (gO g d0), .int p1, .int p2] (pr8 D cy g σ sz)) (qv8 D cy g sz (fun τ => Fr (fO [d0]) σ τ ∧ J8 τ ∧ (RWN σ τ d0 p1 p2) ∧ True)) 0 0 (A8 cy g sz) := by
  refine Met.ofW (cc := cX5_renew) (maxL := 4) (ret := none) (by decide) rfl ?_
  intro p e s m args below meth c s₁ B hml hv
  obtain ⟨rfl, hsz, hP, hK, hD0, hC⟩ := hv
  have hx := B.exec
  have hb := B.bytes
  have hr := B.returns
  have hts := hts_g (atoms_spec (ws := ww yX5_renew cX5_renew 4 none) B.pre)
  have hown : s.vm.findClass RX5 = some m.cls := findClass_of_methodNamed B.named
  have hlocks := B.notSynchronized
  clear B
  subst hsz
  have hD := fun τ => A8_D (sz := s.heap.size) hD0 τ
  clear hD0
  have hS : va_S (A8 cy g s.heap.size) s.heap s.heap [] := va_S.rf
  have hl := lv_entry ([.ref (gO g d0), .int p1, .int p2]) (n := 4) (Nat.le_of_ble_eq_true rfl)
  rw [lg_entry_eq]
  generalize (lg_sl ([.ref (gO g d0), .int p1, .int p2]) ++ List.replicate (4 - (lg_sl ([.ref (gO g d0), .int p1, .int p2])).length) Slot.unset).toArray = ls at hl ⊢
  have hl : lv_has ls 4 [(0, .ref (gO g d0)), (1, .int p1), (2, .int p2)] := hl
  refine lv_aload_n hx hb dX5_renew_0 rfl (lv_at hl 0 rfl) ?_
  refine lv_iconst (v := 1) hx hb dX5_renew_1 (by decide) ?_
  refine p8_5_0 hx hb hts hown hK hP hd0 hD hS rfl rfl (hts _ q416) dX5_renew_2 (fun H locs σ1 eσ1 hP hS => ?_)
  have hJ2 : J8 σ1 := hJ.I eσ1 (clO_5 hd0) (show JI8 5 0 (1 : Int32) from (by constructor <;> decide))
  refine lv_aload_n hx hb dX5_renew_5 rfl (lv_at hl 0 rfl) ?_
  refine lv_iload_n hx hb dX5_renew_6 rfl (lv_at hl 1 rfl) ?_
  refine p8_5_1 hx hb hts hown hK hP hd0 hD hS (hts _ q418) dX5_renew_7 (fun H locs σ3 eσ3 hP hS => ?_)
  have hJ4 : J8 σ3 := hJ2.I eσ3 (clO_5 hd0) (show JI8 5 1 p1 from trivial)
  refine lv_aload_n hx hb dX5_renew_10 rfl (lv_at hl 0 rfl) ?_
  refine lv_iload_n hx hb dX5_renew_11 rfl (lv_at hl 2 rfl) ?_
  refine p8_5_2 hx hb hts hown hK hP hd0 hD hS (hts _ q420) dX5_renew_12 (fun H locs σ5 eσ5 hP hS => ?_)
  have hJ6 : J8 σ5 := hJ4.I eσ5 (clO_5 hd0) (show JI8 5 2 p2 from (by have f0 := h1; have g0 := rg32 p2; exact ⟨by omega, by omega⟩))
  refine lv_iconst (v := 0) hx hb dX5_renew_15 (by decide) ?_
  refine lv_istore_n (lv' := [(3, .int 0), (0, .ref (gO g d0)), (1, .int p1), (2, .int p2)]) hx hb dX5_renew_16 rfl hl (by decide) rfl (fun ls hl => ?_)
  refine loop8 4 17 (fun x : LZ => [(3, .int (x.2.1 0)), (0, .ref (gO g d0)), (1, .int p1), (2, .int p2)]) (fun x : LZ => (Fr (fO [d0]) σ5 x.1) ∧ (J8 x.1) ∧ ((0 : Int) ≤ (x.2.1 0).toInt ∧ (x.2.1 0).toInt ≤ 60) ∧ (FrI σ5 x.1) ∧ True) (fun x : LZ => ((61 : Int) - (x.2.1 0).toInt).toNat) ?_ (σ5, lf [0], lg []) ⟨Fr.rf, hJ6, (show (0 : Int) ≤ (0 : Int32).toInt ∧ (0 : Int32).toInt ≤ 60 from (by have z0 : (0 : Int32).toInt = 0 := (by decide); omega)), (show FrI σ5 σ5 from (fun _ _ => rfl)), trivial⟩ _ _ _ hP hS (lv_sub hl [0, 1, 2, 3] rfl)
  intro y9 hI8 nl7 H locs ls hP hS hl
  obtain ⟨σ10, eσ10⟩ : ∃ z, z = y9.1 := ⟨_, rfl⟩
  rw [← eσ10] at hP hI8
  have hF11 : Fr (fO [d0]) σ5 σ10 := hI8.1
  have hJ12 : J8 σ10 := hI8.2.1
  have b13 : (0 : Int) ≤ (y9.2.1 0).toInt ∧ (y9.2.1 0).toInt ≤ 60 := hI8.2.2.1
  have b14 : FrI σ5 σ10 := hI8.2.2.2.1
  have hl : lv_has ls 4 [(3, .int (y9.2.1 0)), (0, .ref (gO g d0)), (1, .int p1), (2, .int p2)] := hl
  refine lv_iload_n hx hb dX5_renew_17 rfl (lv_at hl 0 rfl) ?_
  refine lv_bipush (v := 60) hx hb dX5_renew_18 (by decide) ?_
  refine lv_icmp_ge (tgt := 36) hx hb dX5_renew_20 (by decide) (fun c15 => ?_) (fun c15 => ?_)
  ·
    have k16 := ple32 c15
    exact W.vret hx hb hr (fun tS ht hW => ⟨⟨σ10, rfl, ⟨Fr.tr (Fr.tr (Fr.tr (Fr.tr (Fr.rf) (sI_f eσ1) (fN_O mem0)) (sI_f eσ3) (fN_O mem0)) (sI_f eσ5) (fN_O mem0)) hF11 (fO_sub (fun _ q => q)), hJ12, (show RWN σ σ10 d0 p1 p2 from (RWN.mk eσ1 eσ3 eσ5 b14)), trivial⟩, (show va_P D clz (WD8 cy g σ10) tS.heap by rw [ht]; exact hP)⟩, hS.F ht⟩) hS.2.2 dX5_renew_36
  ·
    have k17 := nle32 c15
    refine lv_aload_n hx hb dX5_renew_23 rfl (lv_at hl 1 rfl) ?_
    refine g8_5_3 hx hb hts hown hK hP hd0 (hts _ q422) dX5_renew_24 ?_
    refine lv_iload_n hx hb dX5_renew_27 rfl (lv_at hl 0 rfl) ?_
    refine lv_lconst (v := 0) hx hb dX5_renew_28 (by decide) ?_
    refine t8_5_3 hx hb hK hP hd0 hD hS (vpo (by have f0 := b13; have f1 := k17; have g0 := rg32 (y9.2.1 0); have z60 : (60 : Int32).toInt = 60 := (by decide); omega)) dX5_renew_29 (fun H locs σ18 eσ18 hP hS => ?_)
    have hJ19 : J8 σ18 := hJ12.B eσ18
    obtain ⟨x20, ex20⟩ : ∃ y : Int32, y = (y9.2.1 0) + 1 := ⟨_, rfl⟩
    have t21 := addO ex20 (by have f0 := b13; have f1 := k17; have g0 := rg32 (y9.2.1 0); have z1 : (1 : Int32).toInt = 1 := (by decide); have z60 : (60 : Int32).toInt = 60 := (by decide); omega)
    refine lv_iinc (v := x20) (lv' := [(3, .int x20), (0, .ref (gO g d0)), (1, .int p1), (2, .int p2)]) hx hb dX5_renew_30 hl (k := 0) rfl (by rw [ex20]; rfl) (by decide) rfl (fun ls hl => ?_)
    refine lv_goto (tgt := 17) hx hb dX5_renew_33 (by decide) ?_
    have t22 : ((61 : Int) - x20.toInt).toNat < ((61 : Int) - (y9.2.1 0).toInt).toNat := (by have f0 := b13; have f1 := k17; have f2 := t21; have g0 := rg32 (y9.2.1 0); have g1 := rg32 x20; have z1 : (1 : Int32).toInt = 1 := (by decide); have z60 : (60 : Int32).toInt = 60 := (by decide); omega)
    exact nl7 (σ18, lf [x20], lg []) ⟨Fr.tr (Fr.tr (Fr.rf) hF11 (fO_sub (fun _ q => q))) (sB_f eσ18) (fN_O mem0), hJ19, (show (0 : Int) ≤ (x20 : Int32).toInt ∧ (x20 : Int32).toInt ≤ 60 from (by have f0 := t21; have f1 := b13; have f2 := k17; have g0 := rg32 x20; have z1 : (1 : Int32).toInt = 1 := (by decide); have z60 : (60 : Int32).toInt = 60 := (by decide); omega)), (show FrI σ5 σ18 from (FrI.tr b14 (FrI.B eσ18))), trivial⟩ (show ((61 : Int) - x20.toInt).toNat < _ from by first | exact t22 | (rw [← eσ10]; exact t22)) _ _ _ hP hS (lv_sub hl [0, 1, 2, 3] rfl)

theorem q1331 : Cond.code yX8_row cX8_row 4 (some .int) ∈ lw_g := lw_gm (List.mem_of_getElem? (i := 1331) (by decide +kernel)) rfl
theorem q1332 : Cond.methodLink RX8 409 yX5_renew ∈ lw_g := lw_gm (List.mem_of_getElem? (i := 1332) (by decide +kernel)) rfl
theorem q1333 : Cond.instanceMethod yX5_renew ∈ lw_g := lw_gm (List.mem_of_getElem? (i := 1333) (by decide +kernel)) rfl
theorem q1334 : Cond.selects RX5 yX5_renew yX5_renew ∈ lw_g := lw_gm (List.mem_of_getElem? (i := 1334) (by decide +kernel)) rfl
theorem dX8_row_0 : decode cX8_row 0 = .ok (.iload_n 1, 1) := by decide +kernel
theorem dX8_row_1 : decode cX8_row 1 = .ok (.invokestatic 360, 3) := by decide +kernel
theorem dX8_row_4 : decode cX8_row 4 = .ok (.ifCond .eq 18, 3) := by decide +kernel
theorem dX8_row_7 : decode cX8_row 7 = .ok (.iload_n 2, 1) := by decide +kernel
theorem dX8_row_8 : decode cX8_row 8 = .ok (.ifCond .lt 14, 3) := by decide +kernel
theorem dX8_row_11 : decode cX8_row 11 = .ok (.iload_n 2, 1) := by decide +kernel
theorem dX8_row_12 : decode cX8_row 12 = .ok (.iconst 3, 1) := by decide +kernel
theorem dX8_row_13 : decode cX8_row 13 = .ok (.if_icmp .gt 9, 3) := by decide +kernel
theorem dX8_row_16 : decode cX8_row 16 = .ok (.iload_n 3, 1) := by decide +kernel
theorem dX8_row_17 : decode cX8_row 17 = .ok (.bipush 60, 2) := by decide +kernel
theorem dX8_row_19 : decode cX8_row 19 = .ok (.if_icmp .le 6, 3) := by decide +kernel
theorem dX8_row_22 : decode cX8_row 22 = .ok (.bipush (-2), 2) := by decide +kernel
theorem dX8_row_24 : decode cX8_row 24 = .ok (.ireturn, 1) := by decide +kernel
theorem dX8_row_25 : decode cX8_row 25 = .ok (.iload_n 3, 1) := by decide +kernel
theorem dX8_row_26 : decode cX8_row 26 = .ok (.ifCond .ge 6, 3) := by decide +kernel
theorem dX8_row_29 : decode cX8_row 29 = .ok (.bipush (-3), 2) := by decide +kernel
theorem dX8_row_31 : decode cX8_row 31 = .ok (.ireturn, 1) := by decide +kernel
theorem dX8_row_32 : decode cX8_row 32 = .ok (.aload_n 0, 1) := by decide +kernel
theorem dX8_row_33 : decode cX8_row 33 = .ok (.getfield 36, 3) := by decide +kernel
theorem dX8_row_36 : decode cX8_row 36 = .ok (.iload_n 1, 1) := by decide +kernel
theorem dX8_row_37 : decode cX8_row 37 = .ok (.aaload, 1) := by decide +kernel
theorem dX8_row_38 : decode cX8_row 38 = .ok (.iload_n 2, 1) := by decide +kernel
theorem dX8_row_39 : decode cX8_row 39 = .ok (.iload_n 3, 1) := by decide +kernel
theorem dX8_row_40 : decode cX8_row 40 = .ok (.invokevirtual 409, 3) := by decide +kernel
theorem dX8_row_43 : decode cX8_row 43 = .ok (.iconst 0, 1) := by decide +kernel
theorem dX8_row_44 : decode cX8_row 44 = .ok (.ireturn, 1) := by decide +kernel
set_option maxHeartbeats 4000000 in
set_option maxRecDepth 100000 in
theorem m_X8_row (l : Launch) (D : va_G) (cy : Nat → ClassId) (g : Nat → Nat) (σ : ST) (p1 : Int32) (p2 : Int32) (p3 : Int32) (sz : Nat) (hJ : J8 σ)  : Met l yX8_row (ww yX8_row cX8_row 4 (some .int)) ({ frames := 2, cells := 0, slots := 0, locals := 128 }) (va_Pc [.ref (gO g 17), .int p1, .int p2, .int p3] (pr8 D cy g σ sz)) (qi8 D cy g sz (fun r τ => Fr (fO [5, 6, 7, 8]) σ τ ∧ J8 τ ∧ ((-3 : Int) ≤ r.toInt ∧ r.toInt ≤ 0) ∧ (((p1.toInt < 0 ∨ 3 < p1.toInt ∨ p2.toInt < 0 ∨ 3 < p2.toInt ∨ 60 < p3.toInt) ∧ r.toInt = -2) ∨ (¬ (p1.toInt < 0 ∨ 3 < p1.toInt ∨ p2.toInt < 0 ∨ 3 < p2.toInt ∨ 60 < p3.toInt) ∧ p3.toInt < 0 ∧ r.toInt = -3) ∨ (¬ (p1.toInt < 0 ∨ 3 < p1.toInt ∨ p2.toInt < 0 ∨ 3 < p2.toInt ∨ 60 < p3.toInt) ∧ 0 ≤ p3.toInt ∧ r.toInt = 0)) ∧ ((r.toInt = 0 ∧ RWN σ τ (5 + p1.toInt.toNat) p2 p3) ∨ (¬ r.toInt = 0 ∧ FrI σ τ)) ∧ True)) 0 0 (A8 cy g sz) := by
  refine Met.ofW (cc := cX8_row) (maxL := 4) (ret := (some .int)) (by decide) rfl ?_
  intro p e s m args below meth c s₁ B hml hv
  obtain ⟨rfl, hsz, hP, hK, hD0, hC⟩ := hv
  have hx := B.exec
  have hb := B.bytes
  have hr := B.returns
  have hts := hts_g (atoms_spec (ws := ww yX8_row cX8_row 4 (some .int)) B.pre)
  have hown : s.vm.findClass RX8 = some m.cls := findClass_of_methodNamed B.named
  have hlocks := B.notSynchronized
  clear B
  subst hsz
  have hD := fun τ => A8_D (sz := s.heap.size) hD0 τ
  clear hD0
  have hS : va_S (A8 cy g s.heap.size) s.heap s.heap [] := va_S.rf
  have hl := lv_entry ([.ref (gO g 17), .int p1, .int p2, .int p3]) (n := 4) (Nat.le_of_ble_eq_true rfl)
  rw [lg_entry_eq]
  generalize (lg_sl ([.ref (gO g 17), .int p1, .int p2, .int p3]) ++ List.replicate (4 - (lg_sl ([.ref (gO g 17), .int p1, .int p2, .int p3])).length) Slot.unset).toArray = ls at hl ⊢
  have hl : lv_has ls 4 [(0, .ref (gO g 17)), (1, .int p1), (2, .int p2), (3, .int p3)] := hl
  refine lv_iload_n hx hb dX8_row_0 rfl (lv_at hl 1 rfl) ?_
  refine va_calli (va_runS (As := [.int p1]) (rest := []) ⟨hx, hb, hml, hown, hts⟩ (m_X8_isSlot l D cy g σ  p1 _ hJ ) (va_cwS 1 hts (gd_S q1267 q1268 q125 q1269) rfl rfl rfl (by decide +kernel) ⟨(Nat.le_of_ble_eq_true rfl), (Nat.le_of_ble_eq_true rfl)⟩) (ps8 hP hK hD hC hS) rfl rfl hl.1 rfl (lv_room (Nat.le_of_ble_eq_true rfl)) dX8_row_1 ⟨Nat.le_of_ble_eq_true rfl, Nat.le_of_ble_eq_true rfl⟩) hS (fun q _ h => up8 hS q h) (up8 hS) (fun r1 σ2 tS H1 locs ht hvm hw3 hB hz1 hk1 hS => ?_)
  have hP : va_P D clz (WD8 cy g σ2) H1 := by rw [← ht]; exact hB
  clear hB hz1 hk1 hvm ht
  generalize H1 = H at hP hS ⊢
  have hw3E : σ = σ2 := (hw3.1).symm
  subst hw3E
  have b4 : (0 : Int) ≤ r1.toInt ∧ r1.toInt ≤ 1 := hw3.2.1
  have b5 : (r1.toInt = 0) ∨ ((0 : Int) ≤ p1.toInt ∧ p1.toInt ≤ 3) := hw3.2.2.1
  have b6 : r1.toInt = 1 ∨ p1.toInt < 0 ∨ 3 < p1.toInt := hw3.2.2.2.1
  refine lv_if_eq (tgt := 22) hx hb dX8_row_4 (by decide) (fun c7 => ?_) (fun c7 => ?_)
  ·
    have k8 := peq32 c7
    refine lv_bipush (v := (-2)) hx hb dX8_row_22 (by decide) ?_
    exact W.iret (v := (-2)) hx hb hr (fun tS ht hW => ⟨⟨(-2), σ, rfl, ⟨Fr.rf, hJ, (show (-3 : Int) ≤ ((-2) : Int32).toInt ∧ ((-2) : Int32).toInt ≤ 0 from (by have zm2 : ((-2) : Int32).toInt = (-2) := (by decide); omega)), (show ((p1.toInt < 0 ∨ 3 < p1.toInt ∨ p2.toInt < 0 ∨ 3 < p2.toInt ∨ 60 < p3.toInt) ∧ ((-2) : Int32).toInt = -2) ∨ (¬ (p1.toInt < 0 ∨ 3 < p1.toInt ∨ p2.toInt < 0 ∨ 3 < p2.toInt ∨ 60 < p3.toInt) ∧ p3.toInt < 0 ∧ ((-2) : Int32).toInt = -3) ∨ (¬ (p1.toInt < 0 ∨ 3 < p1.toInt ∨ p2.toInt < 0 ∨ 3 < p2.toInt ∨ 60 < p3.toInt) ∧ 0 ≤ p3.toInt ∧ ((-2) : Int32).toInt = 0) from (by have f0 := b5; have f1 := b6; have f2 := b4; have f3 := k8; have g0 := rg32 p1; have g1 := rg32 p2; have g2 := rg32 p3; have zm2 : ((-2) : Int32).toInt = (-2) := (by decide); have z0 : (0 : Int32).toInt = 0 := (by decide); omega)), (show (((-2) : Int32).toInt = 0 ∧ RWN σ σ (5 + p1.toInt.toNat) p2 p3) ∨ (¬ ((-2) : Int32).toInt = 0 ∧ FrI σ σ) from (Or.inr ⟨(by have zm2 : ((-2) : Int32).toInt = (-2) := (by decide); omega), fun _ _ => rfl⟩)), trivial⟩, (show va_P D clz (WD8 cy g σ) tS.heap by rw [ht]; exact hP)⟩, hS.F ht⟩) hS.2.2 dX8_row_24
  ·
    have k9 := neq32 c7
    refine lv_iload_n hx hb dX8_row_7 rfl (lv_at hl 2 rfl) ?_
    refine lv_if_lt (tgt := 22) hx hb dX8_row_8 (by decide) (fun c10 => ?_) (fun c10 => ?_)
    ·
      have k11 := plt32 c10
      refine lv_bipush (v := (-2)) hx hb dX8_row_22 (by decide) ?_
      exact W.iret (v := (-2)) hx hb hr (fun tS ht hW => ⟨⟨(-2), σ, rfl, ⟨Fr.rf, hJ, (show (-3 : Int) ≤ ((-2) : Int32).toInt ∧ ((-2) : Int32).toInt ≤ 0 from (by have zm2 : ((-2) : Int32).toInt = (-2) := (by decide); omega)), (show ((p1.toInt < 0 ∨ 3 < p1.toInt ∨ p2.toInt < 0 ∨ 3 < p2.toInt ∨ 60 < p3.toInt) ∧ ((-2) : Int32).toInt = -2) ∨ (¬ (p1.toInt < 0 ∨ 3 < p1.toInt ∨ p2.toInt < 0 ∨ 3 < p2.toInt ∨ 60 < p3.toInt) ∧ p3.toInt < 0 ∧ ((-2) : Int32).toInt = -3) ∨ (¬ (p1.toInt < 0 ∨ 3 < p1.toInt ∨ p2.toInt < 0 ∨ 3 < p2.toInt ∨ 60 < p3.toInt) ∧ 0 ≤ p3.toInt ∧ ((-2) : Int32).toInt = 0) from (by have f0 := b5; have f1 := b6; have f2 := k11; have f3 := b4; have f4 := k9; have g0 := rg32 p1; have g1 := rg32 p2; have g2 := rg32 p3; have zm2 : ((-2) : Int32).toInt = (-2) := (by decide); have z0 : (0 : Int32).toInt = 0 := (by decide); omega)), (show (((-2) : Int32).toInt = 0 ∧ RWN σ σ (5 + p1.toInt.toNat) p2 p3) ∨ (¬ ((-2) : Int32).toInt = 0 ∧ FrI σ σ) from (Or.inr ⟨(by have zm2 : ((-2) : Int32).toInt = (-2) := (by decide); omega), fun _ _ => rfl⟩)), trivial⟩, (show va_P D clz (WD8 cy g σ) tS.heap by rw [ht]; exact hP)⟩, hS.F ht⟩) hS.2.2 dX8_row_24
    ·
      have k12 := nlt32 c10
      refine lv_iload_n hx hb dX8_row_11 rfl (lv_at hl 2 rfl) ?_
      refine lv_iconst (v := 3) hx hb dX8_row_12 (by decide) ?_
      refine lv_icmp_gt (tgt := 22) hx hb dX8_row_13 (by decide) (fun c13 => ?_) (fun c13 => ?_)
      ·
        have k14 := plt32 c13
        refine lv_bipush (v := (-2)) hx hb dX8_row_22 (by decide) ?_
        exact W.iret (v := (-2)) hx hb hr (fun tS ht hW => ⟨⟨(-2), σ, rfl, ⟨Fr.rf, hJ, (show (-3 : Int) ≤ ((-2) : Int32).toInt ∧ ((-2) : Int32).toInt ≤ 0 from (by have zm2 : ((-2) : Int32).toInt = (-2) := (by decide); omega)), (show ((p1.toInt < 0 ∨ 3 < p1.toInt ∨ p2.toInt < 0 ∨ 3 < p2.toInt ∨ 60 < p3.toInt) ∧ ((-2) : Int32).toInt = -2) ∨ (¬ (p1.toInt < 0 ∨ 3 < p1.toInt ∨ p2.toInt < 0 ∨ 3 < p2.toInt ∨ 60 < p3.toInt) ∧ p3.toInt < 0 ∧ ((-2) : Int32).toInt = -3) ∨ (¬ (p1.toInt < 0 ∨ 3 < p1.toInt ∨ p2.toInt < 0 ∨ 3 < p2.toInt ∨ 60 < p3.toInt) ∧ 0 ≤ p3.toInt ∧ ((-2) : Int32).toInt = 0) from (by have f0 := b5; have f1 := b6; have f2 := k12; have f3 := k14; have f4 := b4; have f5 := k9; have g0 := rg32 p1; have g1 := rg32 p2; have g2 := rg32 p3; have zm2 : ((-2) : Int32).toInt = (-2) := (by decide); have z0 : (0 : Int32).toInt = 0 := (by decide); have z3 : (3 : Int32).toInt = 3 := (by decide); omega)), (show (((-2) : Int32).toInt = 0 ∧ RWN σ σ (5 + p1.toInt.toNat) p2 p3) ∨ (¬ ((-2) : Int32).toInt = 0 ∧ FrI σ σ) from (Or.inr ⟨(by have zm2 : ((-2) : Int32).toInt = (-2) := (by decide); omega), fun _ _ => rfl⟩)), trivial⟩, (show va_P D clz (WD8 cy g σ) tS.heap by rw [ht]; exact hP)⟩, hS.F ht⟩) hS.2.2 dX8_row_24
      ·
        have k15 := nlt32 c13
        refine lv_iload_n hx hb dX8_row_16 rfl (lv_at hl 3 rfl) ?_
        refine lv_bipush (v := 60) hx hb dX8_row_17 (by decide) ?_
        refine lv_icmp_le (tgt := 25) hx hb dX8_row_19 (by decide) (fun c16 => ?_) (fun c16 => ?_)
        ·
          have k17 := ple32 c16
          refine lv_iload_n hx hb dX8_row_25 rfl (lv_at hl 3 rfl) ?_
          refine lv_if_ge (tgt := 32) hx hb dX8_row_26 (by decide) (fun c18 => ?_) (fun c18 => ?_)
          ·
            have k19 := ple32 c18
            refine lv_aload_n hx hb dX8_row_32 rfl (lv_at hl 0 rfl) ?_
            refine g8_8_5 hx hb hts hown hK hP (hts _ q439) dX8_row_33 ?_
            refine lv_iload_n hx hb dX8_row_36 rfl (lv_at hl 1 rfl) ?_
            obtain ⟨dx20, edx20⟩ : ∃ z : Nat, 5 + p1.toInt.toNat = z := ⟨_, rfl⟩
            have hdx20 : 5 ≤ dx20 ∧ dx20 < 9 := mrow (n := 4) (by have f0 := b5; have f1 := b6; have f2 := b4; have f3 := k9; have g0 := rg32 p1; have z0 : (0 : Int32).toInt = 0 := (by decide); omega) edx20 rfl
            refine l8_8_5 hx hb hK hP (vpo (by have f0 := b5; have f1 := b6; have f2 := b4; have f3 := k9; have g0 := rg32 p1; have z0 : (0 : Int32).toInt = 0 := (by decide); omega)) edx20 dX8_row_37 ?_
            refine lv_iload_n hx hb dX8_row_38 rfl (lv_at hl 2 rfl) ?_
            refine lv_iload_n hx hb dX8_row_39 rfl (lv_at hl 3 rfl) ?_
            refine va_callv (va_runV (As := [.int p2, .int p3]) (rest := []) ⟨hx, hb, hml, hown, hts⟩ (m_X5_renew l D cy g σ  dx20 p2 p3 _ hJ (show 5 ≤ dx20 ∧ dx20 < 9 from hdx20) (show (0 : Int) ≤ p2.toInt ∧ p2.toInt ≤ 3 from (by have f0 := k12; have f1 := k15; have g0 := rg32 p2; have z0 : (0 : Int32).toInt = 0 := (by decide); have z3 : (3 : Int32).toInt = 3 := (by decide); omega)) (show (0 : Int) ≤ p3.toInt ∧ p3.toInt ≤ 60 from (by have f0 := k12; have f1 := k15; have f2 := k17; have f3 := k19; have g0 := rg32 p2; have g1 := rg32 p3; have z0 : (0 : Int32).toInt = 0 := (by decide); have z3 : (3 : Int32).toInt = 3 := (by decide); have z60 : (60 : Int32).toInt = 60 := (by decide); omega))) (cwV 2 hts (gd_V q1332 q1333 q1334 q133 q1335) rfl rfl rfl (by decide +kernel) ⟨(Nat.le_of_ble_eq_true rfl), (Nat.le_of_ble_eq_true rfl)⟩) (pv8 hP hK hD hC hS (rv8_5 hK hP hdx20)) rfl rfl hl.1 rfl (lv_room (Nat.le_of_ble_eq_true rfl)) dX8_row_40 ⟨Nat.le_of_ble_eq_true rfl, Nat.le_of_ble_eq_true rfl⟩) hS (fun q _ h => up8 hS q h) (up8 hS) (fun σ22 tS H1 locs ht hvm hw23 hB hz1 hk1 hS => ?_)
            have hP : va_P D clz (WD8 cy g σ22) H1 := by rw [← ht]; exact hB
            clear hB hz1 hk1 hvm ht
            generalize H1 = H at hP hS ⊢
            have hF24 : Fr (fO [dx20]) σ σ22 := hw23.1
            have hJ25 : J8 σ22 := hw23.2.1
            have b26 : RWN σ σ22 dx20 p2 p3 := hw23.2.2.1
            refine lv_iconst (v := 0) hx hb dX8_row_43 (by decide) ?_
            exact W.iret (v := 0) hx hb hr (fun tS ht hW => ⟨⟨0, σ22, rfl, ⟨Fr.tr (Fr.rf) hF24 (fO_sub (by have q0 := hdx20; intro x hx; simp at hx ⊢; omega)), hJ25, (show (-3 : Int) ≤ (0 : Int32).toInt ∧ (0 : Int32).toInt ≤ 0 from (by have z0 : (0 : Int32).toInt = 0 := (by decide); omega)), (show ((p1.toInt < 0 ∨ 3 < p1.toInt ∨ p2.toInt < 0 ∨ 3 < p2.toInt ∨ 60 < p3.toInt) ∧ (0 : Int32).toInt = -2) ∨ (¬ (p1.toInt < 0 ∨ 3 < p1.toInt ∨ p2.toInt < 0 ∨ 3 < p2.toInt ∨ 60 < p3.toInt) ∧ p3.toInt < 0 ∧ (0 : Int32).toInt = -3) ∨ (¬ (p1.toInt < 0 ∨ 3 < p1.toInt ∨ p2.toInt < 0 ∨ 3 < p2.toInt ∨ 60 < p3.toInt) ∧ 0 ≤ p3.toInt ∧ (0 : Int32).toInt = 0) from (by have f0 := b5; have f1 := b6; have f2 := k12; have f3 := k15; have f4 := k17; have f5 := k19; have f6 := b4; have f7 := k9; have g0 := rg32 p1; have g1 := rg32 p2; have g2 := rg32 p3; have z0 : (0 : Int32).toInt = 0 := (by decide); have z3 : (3 : Int32).toInt = 3 := (by decide); have z60 : (60 : Int32).toInt = 60 := (by decide); omega)), (show ((0 : Int32).toInt = 0 ∧ RWN σ σ22 (5 + p1.toInt.toNat) p2 p3) ∨ (¬ (0 : Int32).toInt = 0 ∧ FrI σ σ22) from (Or.inl ⟨(by have z0 : (0 : Int32).toInt = 0 := (by decide); omega), by rw [edx20]; exact b26⟩)), trivial⟩, (show va_P D clz (WD8 cy g σ22) tS.heap by rw [ht]; exact hP)⟩, hS.F ht⟩) hS.2.2 dX8_row_44
          ·
            have k27 := nle32 c18
            refine lv_bipush (v := (-3)) hx hb dX8_row_29 (by decide) ?_
            exact W.iret (v := (-3)) hx hb hr (fun tS ht hW => ⟨⟨(-3), σ, rfl, ⟨Fr.rf, hJ, (show (-3 : Int) ≤ ((-3) : Int32).toInt ∧ ((-3) : Int32).toInt ≤ 0 from (by have zm3 : ((-3) : Int32).toInt = (-3) := (by decide); omega)), (show ((p1.toInt < 0 ∨ 3 < p1.toInt ∨ p2.toInt < 0 ∨ 3 < p2.toInt ∨ 60 < p3.toInt) ∧ ((-3) : Int32).toInt = -2) ∨ (¬ (p1.toInt < 0 ∨ 3 < p1.toInt ∨ p2.toInt < 0 ∨ 3 < p2.toInt ∨ 60 < p3.toInt) ∧ p3.toInt < 0 ∧ ((-3) : Int32).toInt = -3) ∨ (¬ (p1.toInt < 0 ∨ 3 < p1.toInt ∨ p2.toInt < 0 ∨ 3 < p2.toInt ∨ 60 < p3.toInt) ∧ 0 ≤ p3.toInt ∧ ((-3) : Int32).toInt = 0) from (by have f0 := b5; have f1 := b6; have f2 := k12; have f3 := k15; have f4 := k17; have f5 := k27; have f6 := b4; have f7 := k9; have g0 := rg32 p1; have g1 := rg32 p2; have g2 := rg32 p3; have zm3 : ((-3) : Int32).toInt = (-3) := (by decide); have z0 : (0 : Int32).toInt = 0 := (by decide); have z3 : (3 : Int32).toInt = 3 := (by decide); have z60 : (60 : Int32).toInt = 60 := (by decide); omega)), (show (((-3) : Int32).toInt = 0 ∧ RWN σ σ (5 + p1.toInt.toNat) p2 p3) ∨ (¬ ((-3) : Int32).toInt = 0 ∧ FrI σ σ) from (Or.inr ⟨(by have zm3 : ((-3) : Int32).toInt = (-3) := (by decide); omega), fun _ _ => rfl⟩)), trivial⟩, (show va_P D clz (WD8 cy g σ) tS.heap by rw [ht]; exact hP)⟩, hS.F ht⟩) hS.2.2 dX8_row_31
        ·
          have k28 := nle32 c16
          refine lv_bipush (v := (-2)) hx hb dX8_row_22 (by decide) ?_
          exact W.iret (v := (-2)) hx hb hr (fun tS ht hW => ⟨⟨(-2), σ, rfl, ⟨Fr.rf, hJ, (show (-3 : Int) ≤ ((-2) : Int32).toInt ∧ ((-2) : Int32).toInt ≤ 0 from (by have zm2 : ((-2) : Int32).toInt = (-2) := (by decide); omega)), (show ((p1.toInt < 0 ∨ 3 < p1.toInt ∨ p2.toInt < 0 ∨ 3 < p2.toInt ∨ 60 < p3.toInt) ∧ ((-2) : Int32).toInt = -2) ∨ (¬ (p1.toInt < 0 ∨ 3 < p1.toInt ∨ p2.toInt < 0 ∨ 3 < p2.toInt ∨ 60 < p3.toInt) ∧ p3.toInt < 0 ∧ ((-2) : Int32).toInt = -3) ∨ (¬ (p1.toInt < 0 ∨ 3 < p1.toInt ∨ p2.toInt < 0 ∨ 3 < p2.toInt ∨ 60 < p3.toInt) ∧ 0 ≤ p3.toInt ∧ ((-2) : Int32).toInt = 0) from (by have f0 := b5; have f1 := b6; have f2 := k12; have f3 := k15; have f4 := k28; have f5 := b4; have f6 := k9; have g0 := rg32 p1; have g1 := rg32 p2; have g2 := rg32 p3; have zm2 : ((-2) : Int32).toInt = (-2) := (by decide); have z0 : (0 : Int32).toInt = 0 := (by decide); have z3 : (3 : Int32).toInt = 3 := (by decide); have z60 : (60 : Int32).toInt = 60 := (by decide); omega)), (show (((-2) : Int32).toInt = 0 ∧ RWN σ σ (5 + p1.toInt.toNat) p2 p3) ∨ (¬ ((-2) : Int32).toInt = 0 ∧ FrI σ σ) from (Or.inr ⟨(by have zm2 : ((-2) : Int32).toInt = (-2) := (by decide); omega), fun _ _ => rfl⟩)), trivial⟩, (show va_P D clz (WD8 cy g σ) tS.heap by rw [ht]; exact hP)⟩, hS.F ht⟩) hS.2.2 dX8_row_24

theorem q1343 : Cond.code yX5_setCut cX5_setCut 4 (some .boolean) ∈ lw_g := lw_gm (List.mem_of_getElem? (i := 1343) (by decide +kernel)) rfl
theorem dX5_setCut_0 : decode cX5_setCut 0 = .ok (.iload_n 1, 1) := by decide +kernel
theorem dX5_setCut_1 : decode cX5_setCut 1 = .ok (.ifCond .lt 17, 3) := by decide +kernel
theorem dX5_setCut_4 : decode cX5_setCut 4 = .ok (.iload_n 1, 1) := by decide +kernel
theorem dX5_setCut_5 : decode cX5_setCut 5 = .ok (.aload_n 0, 1) := by decide +kernel
theorem dX5_setCut_6 : decode cX5_setCut 6 = .ok (.getfield 23, 3) := by decide +kernel
theorem dX5_setCut_9 : decode cX5_setCut 9 = .ok (.if_icmp .ge 9, 3) := by decide +kernel
theorem dX5_setCut_12 : decode cX5_setCut 12 = .ok (.iload_n 1, 1) := by decide +kernel
theorem dX5_setCut_13 : decode cX5_setCut 13 = .ok (.bipush 60, 2) := by decide +kernel
theorem dX5_setCut_15 : decode cX5_setCut 15 = .ok (.if_icmp .lt 5, 3) := by decide +kernel
theorem dX5_setCut_18 : decode cX5_setCut 18 = .ok (.iconst 0, 1) := by decide +kernel
theorem dX5_setCut_19 : decode cX5_setCut 19 = .ok (.ireturn, 1) := by decide +kernel
theorem dX5_setCut_20 : decode cX5_setCut 20 = .ok (.aload_n 0, 1) := by decide +kernel
theorem dX5_setCut_21 : decode cX5_setCut 21 = .ok (.getfield 19, 3) := by decide +kernel
theorem dX5_setCut_24 : decode cX5_setCut 24 = .ok (.tableswitch 66 0 2 #[28, 41, 54], 28) := by decide +kernel
theorem dX5_setCut_52 : decode cX5_setCut 52 = .ok (.aload_n 0, 1) := by decide +kernel
theorem dX5_setCut_53 : decode cX5_setCut 53 = .ok (.getfield 9, 3) := by decide +kernel
theorem dX5_setCut_56 : decode cX5_setCut 56 = .ok (.iload_n 1, 1) := by decide +kernel
theorem dX5_setCut_57 : decode cX5_setCut 57 = .ok (.lload_n 2, 1) := by decide +kernel
theorem dX5_setCut_58 : decode cX5_setCut 58 = .ok (.l2i, 1) := by decide +kernel
theorem dX5_setCut_59 : decode cX5_setCut 59 = .ok (.i2b, 1) := by decide +kernel
theorem dX5_setCut_60 : decode cX5_setCut 60 = .ok (.i2l, 1) := by decide +kernel
theorem dX5_setCut_61 : decode cX5_setCut 61 = .ok (.lastore, 1) := by decide +kernel
theorem dX5_setCut_62 : decode cX5_setCut 62 = .ok (.goto 35, 3) := by decide +kernel
theorem dX5_setCut_65 : decode cX5_setCut 65 = .ok (.aload_n 0, 1) := by decide +kernel
theorem dX5_setCut_66 : decode cX5_setCut 66 = .ok (.getfield 9, 3) := by decide +kernel
theorem dX5_setCut_69 : decode cX5_setCut 69 = .ok (.iload_n 1, 1) := by decide +kernel
theorem dX5_setCut_70 : decode cX5_setCut 70 = .ok (.lload_n 2, 1) := by decide +kernel
theorem dX5_setCut_71 : decode cX5_setCut 71 = .ok (.l2i, 1) := by decide +kernel
theorem dX5_setCut_72 : decode cX5_setCut 72 = .ok (.i2s, 1) := by decide +kernel
theorem dX5_setCut_73 : decode cX5_setCut 73 = .ok (.i2l, 1) := by decide +kernel
theorem dX5_setCut_74 : decode cX5_setCut 74 = .ok (.lastore, 1) := by decide +kernel
theorem dX5_setCut_75 : decode cX5_setCut 75 = .ok (.goto 22, 3) := by decide +kernel
theorem dX5_setCut_78 : decode cX5_setCut 78 = .ok (.aload_n 0, 1) := by decide +kernel
theorem dX5_setCut_79 : decode cX5_setCut 79 = .ok (.getfield 9, 3) := by decide +kernel
theorem dX5_setCut_82 : decode cX5_setCut 82 = .ok (.iload_n 1, 1) := by decide +kernel
theorem dX5_setCut_83 : decode cX5_setCut 83 = .ok (.lload_n 2, 1) := by decide +kernel
theorem dX5_setCut_84 : decode cX5_setCut 84 = .ok (.l2i, 1) := by decide +kernel
theorem dX5_setCut_85 : decode cX5_setCut 85 = .ok (.i2l, 1) := by decide +kernel
theorem dX5_setCut_86 : decode cX5_setCut 86 = .ok (.lastore, 1) := by decide +kernel
theorem dX5_setCut_87 : decode cX5_setCut 87 = .ok (.goto 10, 3) := by decide +kernel
theorem dX5_setCut_90 : decode cX5_setCut 90 = .ok (.aload_n 0, 1) := by decide +kernel
theorem dX5_setCut_91 : decode cX5_setCut 91 = .ok (.getfield 9, 3) := by decide +kernel
theorem dX5_setCut_94 : decode cX5_setCut 94 = .ok (.iload_n 1, 1) := by decide +kernel
theorem dX5_setCut_95 : decode cX5_setCut 95 = .ok (.lload_n 2, 1) := by decide +kernel
theorem dX5_setCut_96 : decode cX5_setCut 96 = .ok (.lastore, 1) := by decide +kernel
theorem dX5_setCut_97 : decode cX5_setCut 97 = .ok (.iconst 1, 1) := by decide +kernel
theorem dX5_setCut_98 : decode cX5_setCut 98 = .ok (.ireturn, 1) := by decide +kernel
set_option maxHeartbeats 4000000 in
set_option maxRecDepth 100000 in
theorem m_X5_setCut (l : Launch) (D : va_G) (cy : Nat → ClassId) (g : Nat → Nat) (σ : ST) (d0 : Nat) (p1 : Int32) (p2 : Int64) (sz : Nat) (hJ : J8 σ) (hd0 : 5 ≤ d0 ∧ d0 < 9) : Met l yX5_setCut (ww yX5_setCut cX5_setCut 4 (some .boolean)) ({ frames := 1, cells := 0, slots := 0, locals := 64 }) (va_Pc [.ref (gO g d0), .int p1, .long p2] (pr8 D cy g σ sz)) (qi8 D cy g sz (fun r τ => Fr (fO [d0]) σ τ ∧ J8 τ ∧ ((0 : Int) ≤ r.toInt ∧ r.toInt ≤ 1) ∧ ((r.toInt = 1 ∧ 0 ≤ p1.toInt ∧ p1.toInt < ((σ d0).1 2).toInt) ∨ (r.toInt = 0 ∧ ¬ (0 ≤ p1.toInt ∧ p1.toInt < ((σ d0).1 2).toInt))) ∧ (FrI σ τ) ∧ True)) 0 0 (A8 cy g sz) := by
  refine Met.ofW (cc := cX5_setCut) (maxL := 4) (ret := (some .boolean)) (by decide) rfl ?_
  intro p e s m args below meth c s₁ B hml hv
  obtain ⟨rfl, hsz, hP, hK, hD0, hC⟩ := hv
  have hx := B.exec
  have hb := B.bytes
  have hr := B.returns
  have hts := hts_g (atoms_spec (ws := ww yX5_setCut cX5_setCut 4 (some .boolean)) B.pre)
  have hown : s.vm.findClass RX5 = some m.cls := findClass_of_methodNamed B.named
  have hlocks := B.notSynchronized
  clear B
  subst hsz
  have hD := fun τ => A8_D (sz := s.heap.size) hD0 τ
  clear hD0
  have hS : va_S (A8 cy g s.heap.size) s.heap s.heap [] := va_S.rf
  have hl := lv_entry ([.ref (gO g d0), .int p1, .long p2]) (n := 4) (Nat.le_of_ble_eq_true rfl)
  rw [lg_entry_eq]
  generalize (lg_sl ([.ref (gO g d0), .int p1, .long p2]) ++ List.replicate (4 - (lg_sl ([.ref (gO g d0), .int p1, .long p2])).length) Slot.unset).toArray = ls at hl ⊢
  have hl : lv_has ls 4 [(0, .ref (gO g d0)), (1, .int p1), (2, .long p2)] := hl
  refine lv_iload_n hx hb dX5_setCut_0 rfl (lv_at hl 1 rfl) ?_
  refine lv_if_lt (tgt := 18) hx hb dX5_setCut_1 (by decide) (fun c1 => ?_) (fun c1 => ?_)
  ·
    have k2 := plt32 c1
    refine lv_iconst (v := 0) hx hb dX5_setCut_18 (by decide) ?_
    exact W.zret (v := 0) hx hb hr rfl (fun tS ht hW => ⟨⟨0, σ, rfl, ⟨Fr.rf, hJ, (show (0 : Int) ≤ (0 : Int32).toInt ∧ (0 : Int32).toInt ≤ 1 from (by have z0 : (0 : Int32).toInt = 0 := (by decide); omega)), (show ((0 : Int32).toInt = 1 ∧ 0 ≤ p1.toInt ∧ p1.toInt < ((σ d0).1 2).toInt) ∨ ((0 : Int32).toInt = 0 ∧ ¬ (0 ≤ p1.toInt ∧ p1.toInt < ((σ d0).1 2).toInt)) from (by have f0 := j8_5_2 hJ hd0 rfl; have f1 := k2; have g1 := rg32 p1; have z0 : (0 : Int32).toInt = 0 := (by decide); omega)), (show FrI σ σ from (fun _ _ => rfl)), trivial⟩, (show va_P D clz (WD8 cy g σ) tS.heap by rw [ht]; exact hP)⟩, hS.F ht⟩) hS.2.2 dX5_setCut_19
  ·
    have k3 := nlt32 c1
    refine lv_iload_n hx hb dX5_setCut_4 rfl (lv_at hl 1 rfl) ?_
    refine lv_aload_n hx hb dX5_setCut_5 rfl (lv_at hl 0 rfl) ?_
    refine g8_5_2 (x := ((σ d0).1 2)) hx hb hts hown hK hP hd0 (rfl) (hts _ q420) dX5_setCut_6 ?_
    refine lv_icmp_ge (tgt := 18) hx hb dX5_setCut_9 (by decide) (fun c4 => ?_) (fun c4 => ?_)
    ·
      have k5 := ple32 c4
      refine lv_iconst (v := 0) hx hb dX5_setCut_18 (by decide) ?_
      exact W.zret (v := 0) hx hb hr rfl (fun tS ht hW => ⟨⟨0, σ, rfl, ⟨Fr.rf, hJ, (show (0 : Int) ≤ (0 : Int32).toInt ∧ (0 : Int32).toInt ≤ 1 from (by have z0 : (0 : Int32).toInt = 0 := (by decide); omega)), (show ((0 : Int32).toInt = 1 ∧ 0 ≤ p1.toInt ∧ p1.toInt < ((σ d0).1 2).toInt) ∨ ((0 : Int32).toInt = 0 ∧ ¬ (0 ≤ p1.toInt ∧ p1.toInt < ((σ d0).1 2).toInt)) from (by have f0 := j8_5_2 hJ hd0 rfl; have f1 := k3; have f2 := k5; have g1 := rg32 p1; have z0 : (0 : Int32).toInt = 0 := (by decide); omega)), (show FrI σ σ from (fun _ _ => rfl)), trivial⟩, (show va_P D clz (WD8 cy g σ) tS.heap by rw [ht]; exact hP)⟩, hS.F ht⟩) hS.2.2 dX5_setCut_19
    ·
      have k6 := nle32 c4
      refine lv_iload_n hx hb dX5_setCut_12 rfl (lv_at hl 1 rfl) ?_
      refine lv_bipush (v := 60) hx hb dX5_setCut_13 (by decide) ?_
      refine lv_icmp_lt (tgt := 20) hx hb dX5_setCut_15 (by decide) (fun c7 => ?_) (fun c7 => ?_)
      ·
        have k8 := plt32 c7
        refine lv_aload_n hx hb dX5_setCut_20 rfl (lv_at hl 0 rfl) ?_
        refine g8_5_1 (x := ((σ d0).1 1)) hx hb hts hown hK hP hd0 (rfl) (hts _ q418) dX5_setCut_21 ?_
        by_cases hk9 : ((σ d0).1 1) = 0
        ·
          refine lv_tableIn (off := 28) (tgt := 52) hx hb dX5_setCut_24 (by rw [hk9]; decide) (by rw [hk9]; decide) (by rw [hk9]; decide) (by decide) ?_
          refine lv_aload_n hx hb dX5_setCut_52 rfl (lv_at hl 0 rfl) ?_
          refine g8_5_3 hx hb hts hown hK hP hd0 (hts _ q422) dX5_setCut_53 ?_
          refine lv_iload_n hx hb dX5_setCut_56 rfl (lv_at hl 1 rfl) ?_
          refine lv_lload_n hx hb dX5_setCut_57 rfl (lv_at hl 2 rfl) ?_
          refine lv_l2i hx hb dX5_setCut_58 rfl ?_
          refine lv_topi (fun x10 ex10 => ?_)
          refine lv_i2b hx hb dX5_setCut_59 rfl ?_
          refine lv_topi (fun x11 ex11 => ?_)
          refine lv_i2l (v := x11.toInt64) hx hb dX5_setCut_60 rfl ?_
          refine t8_5_3 hx hb hK hP hd0 hD hS (vpo (by have f0 := k3; have f1 := k6; have f2 := k8; have f3 := j8_5_2 hJ hd0 rfl; have g0 := rg32 p1; have z0 : (0 : Int32).toInt = 0 := (by decide); have z60 : (60 : Int32).toInt = 60 := (by decide); omega)) dX5_setCut_61 (fun H locs σ12 eσ12 hP hS => ?_)
          have hJ13 : J8 σ12 := hJ.B eσ12
          refine lv_goto (tgt := 97) hx hb dX5_setCut_62 (by decide) ?_
          refine lv_iconst (v := 1) hx hb dX5_setCut_97 (by decide) ?_
          exact W.zret (v := 1) hx hb hr rfl (fun tS ht hW => ⟨⟨1, σ12, rfl, ⟨Fr.tr (Fr.rf) (sB_f eσ12) (fN_O mem0), hJ13, (show (0 : Int) ≤ (1 : Int32).toInt ∧ (1 : Int32).toInt ≤ 1 from (by have z1 : (1 : Int32).toInt = 1 := (by decide); omega)), (show ((1 : Int32).toInt = 1 ∧ 0 ≤ p1.toInt ∧ p1.toInt < ((σ d0).1 2).toInt) ∨ ((1 : Int32).toInt = 0 ∧ ¬ (0 ≤ p1.toInt ∧ p1.toInt < ((σ d0).1 2).toInt)) from (by have f0 := j8_5_2 hJ hd0 rfl; have f1 := k3; have f2 := k6; have f3 := k8; have g1 := rg32 p1; have z0 : (0 : Int32).toInt = 0 := (by decide); have z1 : (1 : Int32).toInt = 1 := (by decide); have z60 : (60 : Int32).toInt = 60 := (by decide); omega)), (show FrI σ σ12 from (FrI.B eσ12)), trivial⟩, (show va_P D clz (WD8 cy g σ12) tS.heap by rw [ht]; exact hP)⟩, hS.F ht⟩) hS.2.2 dX5_setCut_98
        by_cases hk14 : ((σ d0).1 1) = 1
        ·
          refine lv_tableIn (off := 41) (tgt := 65) hx hb dX5_setCut_24 (by rw [hk14]; decide) (by rw [hk14]; decide) (by rw [hk14]; decide) (by decide) ?_
          refine lv_aload_n hx hb dX5_setCut_65 rfl (lv_at hl 0 rfl) ?_
          refine g8_5_3 hx hb hts hown hK hP hd0 (hts _ q422) dX5_setCut_66 ?_
          refine lv_iload_n hx hb dX5_setCut_69 rfl (lv_at hl 1 rfl) ?_
          refine lv_lload_n hx hb dX5_setCut_70 rfl (lv_at hl 2 rfl) ?_
          refine lv_l2i hx hb dX5_setCut_71 rfl ?_
          refine lv_topi (fun x15 ex15 => ?_)
          refine lv_i2s hx hb dX5_setCut_72 rfl ?_
          refine lv_topi (fun x16 ex16 => ?_)
          refine lv_i2l (v := x16.toInt64) hx hb dX5_setCut_73 rfl ?_
          refine t8_5_3 hx hb hK hP hd0 hD hS (vpo (by have f0 := k3; have f1 := k6; have f2 := k8; have f3 := j8_5_2 hJ hd0 rfl; have g0 := rg32 p1; have z0 : (0 : Int32).toInt = 0 := (by decide); have z60 : (60 : Int32).toInt = 60 := (by decide); omega)) dX5_setCut_74 (fun H locs σ17 eσ17 hP hS => ?_)
          have hJ18 : J8 σ17 := hJ.B eσ17
          refine lv_goto (tgt := 97) hx hb dX5_setCut_75 (by decide) ?_
          refine lv_iconst (v := 1) hx hb dX5_setCut_97 (by decide) ?_
          exact W.zret (v := 1) hx hb hr rfl (fun tS ht hW => ⟨⟨1, σ17, rfl, ⟨Fr.tr (Fr.rf) (sB_f eσ17) (fN_O mem0), hJ18, (show (0 : Int) ≤ (1 : Int32).toInt ∧ (1 : Int32).toInt ≤ 1 from (by have z1 : (1 : Int32).toInt = 1 := (by decide); omega)), (show ((1 : Int32).toInt = 1 ∧ 0 ≤ p1.toInt ∧ p1.toInt < ((σ d0).1 2).toInt) ∨ ((1 : Int32).toInt = 0 ∧ ¬ (0 ≤ p1.toInt ∧ p1.toInt < ((σ d0).1 2).toInt)) from (by have f0 := j8_5_2 hJ hd0 rfl; have f1 := k3; have f2 := k6; have f3 := k8; have g1 := rg32 p1; have z0 : (0 : Int32).toInt = 0 := (by decide); have z1 : (1 : Int32).toInt = 1 := (by decide); have z60 : (60 : Int32).toInt = 60 := (by decide); omega)), (show FrI σ σ17 from (FrI.B eσ17)), trivial⟩, (show va_P D clz (WD8 cy g σ17) tS.heap by rw [ht]; exact hP)⟩, hS.F ht⟩) hS.2.2 dX5_setCut_98
        by_cases hk19 : ((σ d0).1 1) = 2
        ·
          refine lv_tableIn (off := 54) (tgt := 78) hx hb dX5_setCut_24 (by rw [hk19]; decide) (by rw [hk19]; decide) (by rw [hk19]; decide) (by decide) ?_
          refine lv_aload_n hx hb dX5_setCut_78 rfl (lv_at hl 0 rfl) ?_
          refine g8_5_3 hx hb hts hown hK hP hd0 (hts _ q422) dX5_setCut_79 ?_
          refine lv_iload_n hx hb dX5_setCut_82 rfl (lv_at hl 1 rfl) ?_
          refine lv_lload_n hx hb dX5_setCut_83 rfl (lv_at hl 2 rfl) ?_
          refine lv_l2i hx hb dX5_setCut_84 rfl ?_
          refine lv_topi (fun x20 ex20 => ?_)
          refine lv_i2l (v := x20.toInt64) hx hb dX5_setCut_85 rfl ?_
          refine t8_5_3 hx hb hK hP hd0 hD hS (vpo (by have f0 := k3; have f1 := k6; have f2 := k8; have f3 := j8_5_2 hJ hd0 rfl; have g0 := rg32 p1; have z0 : (0 : Int32).toInt = 0 := (by decide); have z60 : (60 : Int32).toInt = 60 := (by decide); omega)) dX5_setCut_86 (fun H locs σ21 eσ21 hP hS => ?_)
          have hJ22 : J8 σ21 := hJ.B eσ21
          refine lv_goto (tgt := 97) hx hb dX5_setCut_87 (by decide) ?_
          refine lv_iconst (v := 1) hx hb dX5_setCut_97 (by decide) ?_
          exact W.zret (v := 1) hx hb hr rfl (fun tS ht hW => ⟨⟨1, σ21, rfl, ⟨Fr.tr (Fr.rf) (sB_f eσ21) (fN_O mem0), hJ22, (show (0 : Int) ≤ (1 : Int32).toInt ∧ (1 : Int32).toInt ≤ 1 from (by have z1 : (1 : Int32).toInt = 1 := (by decide); omega)), (show ((1 : Int32).toInt = 1 ∧ 0 ≤ p1.toInt ∧ p1.toInt < ((σ d0).1 2).toInt) ∨ ((1 : Int32).toInt = 0 ∧ ¬ (0 ≤ p1.toInt ∧ p1.toInt < ((σ d0).1 2).toInt)) from (by have f0 := j8_5_2 hJ hd0 rfl; have f1 := k3; have f2 := k6; have f3 := k8; have g1 := rg32 p1; have z0 : (0 : Int32).toInt = 0 := (by decide); have z1 : (1 : Int32).toInt = 1 := (by decide); have z60 : (60 : Int32).toInt = 60 := (by decide); omega)), (show FrI σ σ21 from (FrI.B eσ21)), trivial⟩, (show va_P D clz (WD8 cy g σ21) tS.heap by rw [ht]; exact hP)⟩, hS.F ht⟩) hS.2.2 dX5_setCut_98
        refine lv_tableOut (tgt := 90) hx hb dX5_setCut_24 (by have f0 := neq32 hk9; have f1 := neq32 hk14; have f2 := neq32 hk19; have z0 : (0 : Int32).toInt = 0 := (by decide); have z1 : (1 : Int32).toInt = 1 := (by decide); have z2 : (2 : Int32).toInt = 2 := (by decide); omega) (by decide) ?_
        refine lv_aload_n hx hb dX5_setCut_90 rfl (lv_at hl 0 rfl) ?_
        refine g8_5_3 hx hb hts hown hK hP hd0 (hts _ q422) dX5_setCut_91 ?_
        refine lv_iload_n hx hb dX5_setCut_94 rfl (lv_at hl 1 rfl) ?_
        refine lv_lload_n hx hb dX5_setCut_95 rfl (lv_at hl 2 rfl) ?_
        refine t8_5_3 hx hb hK hP hd0 hD hS (vpo (by have f0 := k3; have f1 := k6; have f2 := k8; have f3 := j8_5_2 hJ hd0 rfl; have g0 := rg32 p1; have z0 : (0 : Int32).toInt = 0 := (by decide); have z60 : (60 : Int32).toInt = 60 := (by decide); omega)) dX5_setCut_96 (fun H locs σ23 eσ23 hP hS => ?_)
        have hJ24 : J8 σ23 := hJ.B eσ23
        refine lv_iconst (v := 1) hx hb dX5_setCut_97 (by decide) ?_
        exact W.zret (v := 1) hx hb hr rfl (fun tS ht hW => ⟨⟨1, σ23, rfl, ⟨Fr.tr (Fr.rf) (sB_f eσ23) (fN_O mem0), hJ24, (show (0 : Int) ≤ (1 : Int32).toInt ∧ (1 : Int32).toInt ≤ 1 from (by have z1 : (1 : Int32).toInt = 1 := (by decide); omega)), (show ((1 : Int32).toInt = 1 ∧ 0 ≤ p1.toInt ∧ p1.toInt < ((σ d0).1 2).toInt) ∨ ((1 : Int32).toInt = 0 ∧ ¬ (0 ≤ p1.toInt ∧ p1.toInt < ((σ d0).1 2).toInt)) from (by have f0 := j8_5_2 hJ hd0 rfl; have f1 := k3; have f2 := k6; have f3 := k8; have g1 := rg32 p1; have z0 : (0 : Int32).toInt = 0 := (by decide); have z1 : (1 : Int32).toInt = 1 := (by decide); have z60 : (60 : Int32).toInt = 60 := (by decide); omega)), (show FrI σ σ23 from (FrI.B eσ23)), trivial⟩, (show va_P D clz (WD8 cy g σ23) tS.heap by rw [ht]; exact hP)⟩, hS.F ht⟩) hS.2.2 dX5_setCut_98
      ·
        have k25 := nlt32 c7
        exact False.elim (by have f0 := k3; have f1 := k6; have f2 := k25; have f3 := j8_5_2 hJ hd0 rfl; have g0 := rg32 p1; have z0 : (0 : Int32).toInt = 0 := (by decide); have z60 : (60 : Int32).toInt = 60 := (by decide); omega)

theorem q1339 : Cond.code yX8_write cX8_write 5 (some .int) ∈ lw_g := lw_gm (List.mem_of_getElem? (i := 1339) (by decide +kernel)) rfl
theorem q1340 : Cond.methodLink RX8 412 yX5_setCut ∈ lw_g := lw_gm (List.mem_of_getElem? (i := 1340) (by decide +kernel)) rfl
theorem q1341 : Cond.instanceMethod yX5_setCut ∈ lw_g := lw_gm (List.mem_of_getElem? (i := 1341) (by decide +kernel)) rfl
theorem q1342 : Cond.selects RX5 yX5_setCut yX5_setCut ∈ lw_g := lw_gm (List.mem_of_getElem? (i := 1342) (by decide +kernel)) rfl
theorem dX8_write_0 : decode cX8_write 0 = .ok (.iload_n 1, 1) := by decide +kernel
theorem dX8_write_1 : decode cX8_write 1 = .ok (.invokestatic 360, 3) := by decide +kernel
theorem dX8_write_4 : decode cX8_write 4 = .ok (.ifCond .ne 6, 3) := by decide +kernel
theorem dX8_write_7 : decode cX8_write 7 = .ok (.bipush (-2), 2) := by decide +kernel
theorem dX8_write_9 : decode cX8_write 9 = .ok (.ireturn, 1) := by decide +kernel
theorem dX8_write_10 : decode cX8_write 10 = .ok (.aload_n 0, 1) := by decide +kernel
theorem dX8_write_11 : decode cX8_write 11 = .ok (.getfield 36, 3) := by decide +kernel
theorem dX8_write_14 : decode cX8_write 14 = .ok (.iload_n 1, 1) := by decide +kernel
theorem dX8_write_15 : decode cX8_write 15 = .ok (.aaload, 1) := by decide +kernel
theorem dX8_write_16 : decode cX8_write 16 = .ok (.getfield 123, 3) := by decide +kernel
theorem dX8_write_19 : decode cX8_write 19 = .ok (.ifCond .ne 6, 3) := by decide +kernel
theorem dX8_write_22 : decode cX8_write 22 = .ok (.bipush (-6), 2) := by decide +kernel
theorem dX8_write_24 : decode cX8_write 24 = .ok (.ireturn, 1) := by decide +kernel
theorem dX8_write_25 : decode cX8_write 25 = .ok (.aload_n 0, 1) := by decide +kernel
theorem dX8_write_26 : decode cX8_write 26 = .ok (.getfield 36, 3) := by decide +kernel
theorem dX8_write_29 : decode cX8_write 29 = .ok (.iload_n 1, 1) := by decide +kernel
theorem dX8_write_30 : decode cX8_write 30 = .ok (.aaload, 1) := by decide +kernel
theorem dX8_write_31 : decode cX8_write 31 = .ok (.iload_n 2, 1) := by decide +kernel
theorem dX8_write_32 : decode cX8_write 32 = .ok (.lload_n 3, 1) := by decide +kernel
theorem dX8_write_33 : decode cX8_write 33 = .ok (.invokevirtual 412, 3) := by decide +kernel
theorem dX8_write_36 : decode cX8_write 36 = .ok (.ifCond .eq 7, 3) := by decide +kernel
theorem dX8_write_39 : decode cX8_write 39 = .ok (.iconst 0, 1) := by decide +kernel
theorem dX8_write_40 : decode cX8_write 40 = .ok (.goto 5, 3) := by decide +kernel
theorem dX8_write_43 : decode cX8_write 43 = .ok (.bipush (-7), 2) := by decide +kernel
theorem dX8_write_45 : decode cX8_write 45 = .ok (.ireturn, 1) := by decide +kernel
set_option maxHeartbeats 4000000 in
set_option maxRecDepth 100000 in
theorem m_X8_write (l : Launch) (D : va_G) (cy : Nat → ClassId) (g : Nat → Nat) (σ : ST) (p1 : Int32) (p2 : Int32) (p3 : Int64) (sz : Nat) (hJ : J8 σ)  : Met l yX8_write (ww yX8_write cX8_write 5 (some .int)) ({ frames := 2, cells := 0, slots := 0, locals := 128 }) (va_Pc [.ref (gO g 17), .int p1, .int p2, .long p3] (pr8 D cy g σ sz)) (qi8 D cy g sz (fun r τ => Fr (fO [5, 6, 7, 8]) σ τ ∧ J8 τ ∧ ((-7 : Int) ≤ r.toInt ∧ r.toInt ≤ 0) ∧ ((¬ (0 ≤ p1.toInt ∧ p1.toInt ≤ 3) ∧ r.toInt = -2) ∨ (0 ≤ p1.toInt ∧ p1.toInt ≤ 3 ∧ ((σ (5 + p1.toInt.toNat)).1 0).toInt = 0 ∧ r.toInt = -6) ∨ (0 ≤ p1.toInt ∧ p1.toInt ≤ 3 ∧ ¬ ((σ (5 + p1.toInt.toNat)).1 0).toInt = 0 ∧ ¬ (0 ≤ p2.toInt ∧ p2.toInt < ((σ (5 + p1.toInt.toNat)).1 2).toInt) ∧ r.toInt = -7) ∨ (0 ≤ p1.toInt ∧ p1.toInt ≤ 3 ∧ ¬ ((σ (5 + p1.toInt.toNat)).1 0).toInt = 0 ∧ 0 ≤ p2.toInt ∧ p2.toInt < ((σ (5 + p1.toInt.toNat)).1 2).toInt ∧ r.toInt = 0)) ∧ (FrI σ τ) ∧ True)) 0 0 (A8 cy g sz) := by
  refine Met.ofW (cc := cX8_write) (maxL := 5) (ret := (some .int)) (by decide) rfl ?_
  intro p e s m args below meth c s₁ B hml hv
  obtain ⟨rfl, hsz, hP, hK, hD0, hC⟩ := hv
  have hx := B.exec
  have hb := B.bytes
  have hr := B.returns
  have hts := hts_g (atoms_spec (ws := ww yX8_write cX8_write 5 (some .int)) B.pre)
  have hown : s.vm.findClass RX8 = some m.cls := findClass_of_methodNamed B.named
  have hlocks := B.notSynchronized
  clear B
  subst hsz
  have hD := fun τ => A8_D (sz := s.heap.size) hD0 τ
  clear hD0
  have hS : va_S (A8 cy g s.heap.size) s.heap s.heap [] := va_S.rf
  have hl := lv_entry ([.ref (gO g 17), .int p1, .int p2, .long p3]) (n := 5) (Nat.le_of_ble_eq_true rfl)
  rw [lg_entry_eq]
  generalize (lg_sl ([.ref (gO g 17), .int p1, .int p2, .long p3]) ++ List.replicate (5 - (lg_sl ([.ref (gO g 17), .int p1, .int p2, .long p3])).length) Slot.unset).toArray = ls at hl ⊢
  have hl : lv_has ls 5 [(0, .ref (gO g 17)), (1, .int p1), (2, .int p2), (3, .long p3)] := hl
  refine lv_iload_n hx hb dX8_write_0 rfl (lv_at hl 1 rfl) ?_
  refine va_calli (va_runS (As := [.int p1]) (rest := []) ⟨hx, hb, hml, hown, hts⟩ (m_X8_isSlot l D cy g σ  p1 _ hJ ) (va_cwS 1 hts (gd_S q1267 q1268 q125 q1269) rfl rfl rfl (by decide +kernel) ⟨(Nat.le_of_ble_eq_true rfl), (Nat.le_of_ble_eq_true rfl)⟩) (ps8 hP hK hD hC hS) rfl rfl hl.1 rfl (lv_room (Nat.le_of_ble_eq_true rfl)) dX8_write_1 ⟨Nat.le_of_ble_eq_true rfl, Nat.le_of_ble_eq_true rfl⟩) hS (fun q _ h => up8 hS q h) (up8 hS) (fun r1 σ2 tS H1 locs ht hvm hw3 hB hz1 hk1 hS => ?_)
  have hP : va_P D clz (WD8 cy g σ2) H1 := by rw [← ht]; exact hB
  clear hB hz1 hk1 hvm ht
  generalize H1 = H at hP hS ⊢
  have hw3E : σ = σ2 := (hw3.1).symm
  subst hw3E
  have b4 : (0 : Int) ≤ r1.toInt ∧ r1.toInt ≤ 1 := hw3.2.1
  have b5 : (r1.toInt = 0) ∨ ((0 : Int) ≤ p1.toInt ∧ p1.toInt ≤ 3) := hw3.2.2.1
  have b6 : r1.toInt = 1 ∨ p1.toInt < 0 ∨ 3 < p1.toInt := hw3.2.2.2.1
  refine lv_if_ne (tgt := 10) hx hb dX8_write_4 (by decide) (fun c7 => ?_) (fun c7 => ?_)
  ·
    have k8 := neq32 c7
    refine lv_aload_n hx hb dX8_write_10 rfl (lv_at hl 0 rfl) ?_
    refine g8_8_5 hx hb hts hown hK hP (hts _ q439) dX8_write_11 ?_
    refine lv_iload_n hx hb dX8_write_14 rfl (lv_at hl 1 rfl) ?_
    obtain ⟨dx9, edx9⟩ : ∃ z : Nat, 5 + p1.toInt.toNat = z := ⟨_, rfl⟩
    have hdx9 : 5 ≤ dx9 ∧ dx9 < 9 := mrow (n := 4) (by have f0 := b5; have f1 := b6; have f2 := b4; have f3 := k8; have g0 := rg32 p1; have z0 : (0 : Int32).toInt = 0 := (by decide); omega) edx9 rfl
    refine l8_8_5 hx hb hK hP (vpo (by have f0 := b5; have f1 := b6; have f2 := b4; have f3 := k8; have g0 := rg32 p1; have z0 : (0 : Int32).toInt = 0 := (by decide); omega)) edx9 dX8_write_15 ?_
    refine g8_5_0 (x := ((σ dx9).1 0)) hx hb hts hown hK hP hdx9 (rfl) (hts _ q417) dX8_write_16 ?_
    refine lv_if_ne (tgt := 25) hx hb dX8_write_19 (by decide) (fun c10 => ?_) (fun c10 => ?_)
    ·
      have k11 := neq32 c10
      refine lv_aload_n hx hb dX8_write_25 rfl (lv_at hl 0 rfl) ?_
      refine g8_8_5 hx hb hts hown hK hP (hts _ q439) dX8_write_26 ?_
      refine lv_iload_n hx hb dX8_write_29 rfl (lv_at hl 1 rfl) ?_
      refine l8_8_5 hx hb hK hP (vpo (by have f0 := b5; have f1 := b6; have f2 := b4; have f3 := k8; have g0 := rg32 p1; have z0 : (0 : Int32).toInt = 0 := (by decide); omega)) edx9 dX8_write_30 ?_
      refine lv_iload_n hx hb dX8_write_31 rfl (lv_at hl 2 rfl) ?_
      refine lv_lload_n hx hb dX8_write_32 rfl (lv_at hl 3 rfl) ?_
      refine va_calli (va_runV (As := [.int p2, .long p3]) (rest := []) ⟨hx, hb, hml, hown, hts⟩ (m_X5_setCut l D cy g σ  dx9 p2 p3 _ hJ (show 5 ≤ dx9 ∧ dx9 < 9 from hdx9)) (cwV 2 hts (gd_V q1340 q1341 q1342 q133 q1343) rfl rfl rfl (by decide +kernel) ⟨(Nat.le_of_ble_eq_true rfl), (Nat.le_of_ble_eq_true rfl)⟩) (pv8 hP hK hD hC hS (rv8_5 hK hP hdx9)) rfl rfl hl.1 rfl (lv_room (Nat.le_of_ble_eq_true rfl)) dX8_write_33 ⟨Nat.le_of_ble_eq_true rfl, Nat.le_of_ble_eq_true rfl⟩) hS (fun q _ h => up8 hS q h) (up8 hS) (fun r12 σ13 tS H1 locs ht hvm hw14 hB hz1 hk1 hS => ?_)
      have hP : va_P D clz (WD8 cy g σ13) H1 := by rw [← ht]; exact hB
      clear hB hz1 hk1 hvm ht
      generalize H1 = H at hP hS ⊢
      have hF15 : Fr (fO [dx9]) σ σ13 := hw14.1
      have hJ16 : J8 σ13 := hw14.2.1
      have b17 : (0 : Int) ≤ r12.toInt ∧ r12.toInt ≤ 1 := hw14.2.2.1
      have b18 : (r12.toInt = 1 ∧ 0 ≤ p2.toInt ∧ p2.toInt < ((σ dx9).1 2).toInt) ∨ (r12.toInt = 0 ∧ ¬ (0 ≤ p2.toInt ∧ p2.toInt < ((σ dx9).1 2).toInt)) := hw14.2.2.2.1
      have b19 : FrI σ σ13 := hw14.2.2.2.2.1
      refine lv_if_eq (tgt := 43) hx hb dX8_write_36 (by decide) (fun c20 => ?_) (fun c20 => ?_)
      ·
        have k21 := peq32 c20
        refine lv_bipush (v := (-7)) hx hb dX8_write_43 (by decide) ?_
        exact W.iret (v := (-7)) hx hb hr (fun tS ht hW => ⟨⟨(-7), σ13, rfl, ⟨Fr.tr (Fr.rf) hF15 (fO_sub (by have q0 := hdx9; intro x hx; simp at hx ⊢; omega)), hJ16, (show (-7 : Int) ≤ ((-7) : Int32).toInt ∧ ((-7) : Int32).toInt ≤ 0 from (by have zm7 : ((-7) : Int32).toInt = (-7) := (by decide); omega)), (show (¬ (0 ≤ p1.toInt ∧ p1.toInt ≤ 3) ∧ ((-7) : Int32).toInt = -2) ∨ (0 ≤ p1.toInt ∧ p1.toInt ≤ 3 ∧ ((σ (5 + p1.toInt.toNat)).1 0).toInt = 0 ∧ ((-7) : Int32).toInt = -6) ∨ (0 ≤ p1.toInt ∧ p1.toInt ≤ 3 ∧ ¬ ((σ (5 + p1.toInt.toNat)).1 0).toInt = 0 ∧ ¬ (0 ≤ p2.toInt ∧ p2.toInt < ((σ (5 + p1.toInt.toNat)).1 2).toInt) ∧ ((-7) : Int32).toInt = -7) ∨ (0 ≤ p1.toInt ∧ p1.toInt ≤ 3 ∧ ¬ ((σ (5 + p1.toInt.toNat)).1 0).toInt = 0 ∧ 0 ≤ p2.toInt ∧ p2.toInt < ((σ (5 + p1.toInt.toNat)).1 2).toInt ∧ ((-7) : Int32).toInt = 0) from (by rw [edx9]; have f0 := j8_5_2 hJ hdx9 rfl; have f1 := j8_5_0 hJ hdx9 rfl; have f2 := b5; have f3 := b6; have f4 := k11; have f5 := b18; have f6 := b4; have f7 := k8; have f8 := b17; have f9 := k21; have g3 := rg32 p1; have g4 := rg32 p2; have zm7 : ((-7) : Int32).toInt = (-7) := (by decide); have z0 : (0 : Int32).toInt = 0 := (by decide); exact (Or.inr (Or.inr (Or.inl (by omega)))))), (show FrI σ σ13 from b19), trivial⟩, (show va_P D clz (WD8 cy g σ13) tS.heap by rw [ht]; exact hP)⟩, hS.F ht⟩) hS.2.2 dX8_write_45
      ·
        have k22 := neq32 c20
        refine lv_iconst (v := 0) hx hb dX8_write_39 (by decide) ?_
        refine lv_goto (tgt := 45) hx hb dX8_write_40 (by decide) ?_
        exact W.iret (v := 0) hx hb hr (fun tS ht hW => ⟨⟨0, σ13, rfl, ⟨Fr.tr (Fr.rf) hF15 (fO_sub (by have q0 := hdx9; intro x hx; simp at hx ⊢; omega)), hJ16, (show (-7 : Int) ≤ (0 : Int32).toInt ∧ (0 : Int32).toInt ≤ 0 from (by have z0 : (0 : Int32).toInt = 0 := (by decide); omega)), (show (¬ (0 ≤ p1.toInt ∧ p1.toInt ≤ 3) ∧ (0 : Int32).toInt = -2) ∨ (0 ≤ p1.toInt ∧ p1.toInt ≤ 3 ∧ ((σ (5 + p1.toInt.toNat)).1 0).toInt = 0 ∧ (0 : Int32).toInt = -6) ∨ (0 ≤ p1.toInt ∧ p1.toInt ≤ 3 ∧ ¬ ((σ (5 + p1.toInt.toNat)).1 0).toInt = 0 ∧ ¬ (0 ≤ p2.toInt ∧ p2.toInt < ((σ (5 + p1.toInt.toNat)).1 2).toInt) ∧ (0 : Int32).toInt = -7) ∨ (0 ≤ p1.toInt ∧ p1.toInt ≤ 3 ∧ ¬ ((σ (5 + p1.toInt.toNat)).1 0).toInt = 0 ∧ 0 ≤ p2.toInt ∧ p2.toInt < ((σ (5 + p1.toInt.toNat)).1 2).toInt ∧ (0 : Int32).toInt = 0) from (by rw [edx9]; have f0 := j8_5_2 hJ hdx9 rfl; have f1 := j8_5_0 hJ hdx9 rfl; have f2 := b5; have f3 := b6; have f4 := k11; have f5 := b18; have f6 := b4; have f7 := k8; have f8 := b17; have f9 := k22; have g3 := rg32 p1; have g4 := rg32 p2; have z0 : (0 : Int32).toInt = 0 := (by decide); exact (Or.inr (Or.inr (Or.inr (by omega)))))), (show FrI σ σ13 from b19), trivial⟩, (show va_P D clz (WD8 cy g σ13) tS.heap by rw [ht]; exact hP)⟩, hS.F ht⟩) hS.2.2 dX8_write_45
    ·
      have k23 := peq32 c10
      refine lv_bipush (v := (-6)) hx hb dX8_write_22 (by decide) ?_
      exact W.iret (v := (-6)) hx hb hr (fun tS ht hW => ⟨⟨(-6), σ, rfl, ⟨Fr.rf, hJ, (show (-7 : Int) ≤ ((-6) : Int32).toInt ∧ ((-6) : Int32).toInt ≤ 0 from (by have zm6 : ((-6) : Int32).toInt = (-6) := (by decide); omega)), (show (¬ (0 ≤ p1.toInt ∧ p1.toInt ≤ 3) ∧ ((-6) : Int32).toInt = -2) ∨ (0 ≤ p1.toInt ∧ p1.toInt ≤ 3 ∧ ((σ (5 + p1.toInt.toNat)).1 0).toInt = 0 ∧ ((-6) : Int32).toInt = -6) ∨ (0 ≤ p1.toInt ∧ p1.toInt ≤ 3 ∧ ¬ ((σ (5 + p1.toInt.toNat)).1 0).toInt = 0 ∧ ¬ (0 ≤ p2.toInt ∧ p2.toInt < ((σ (5 + p1.toInt.toNat)).1 2).toInt) ∧ ((-6) : Int32).toInt = -7) ∨ (0 ≤ p1.toInt ∧ p1.toInt ≤ 3 ∧ ¬ ((σ (5 + p1.toInt.toNat)).1 0).toInt = 0 ∧ 0 ≤ p2.toInt ∧ p2.toInt < ((σ (5 + p1.toInt.toNat)).1 2).toInt ∧ ((-6) : Int32).toInt = 0) from (by rw [edx9]; have f0 := j8_5_2 hJ hdx9 rfl; have f1 := j8_5_0 hJ hdx9 rfl; have f2 := b5; have f3 := b6; have f4 := k23; have f5 := b4; have f6 := k8; have g3 := rg32 p1; have g4 := rg32 p2; have zm6 : ((-6) : Int32).toInt = (-6) := (by decide); have z0 : (0 : Int32).toInt = 0 := (by decide); exact (Or.inr (Or.inl (by omega))))), (show FrI σ σ from (fun _ _ => rfl)), trivial⟩, (show va_P D clz (WD8 cy g σ) tS.heap by rw [ht]; exact hP)⟩, hS.F ht⟩) hS.2.2 dX8_write_24
  ·
    have k24 := peq32 c7
    refine lv_bipush (v := (-2)) hx hb dX8_write_7 (by decide) ?_
    exact W.iret (v := (-2)) hx hb hr (fun tS ht hW => ⟨⟨(-2), σ, rfl, ⟨Fr.rf, hJ, (show (-7 : Int) ≤ ((-2) : Int32).toInt ∧ ((-2) : Int32).toInt ≤ 0 from (by have zm2 : ((-2) : Int32).toInt = (-2) := (by decide); omega)), (show (¬ (0 ≤ p1.toInt ∧ p1.toInt ≤ 3) ∧ ((-2) : Int32).toInt = -2) ∨ (0 ≤ p1.toInt ∧ p1.toInt ≤ 3 ∧ ((σ (5 + p1.toInt.toNat)).1 0).toInt = 0 ∧ ((-2) : Int32).toInt = -6) ∨ (0 ≤ p1.toInt ∧ p1.toInt ≤ 3 ∧ ¬ ((σ (5 + p1.toInt.toNat)).1 0).toInt = 0 ∧ ¬ (0 ≤ p2.toInt ∧ p2.toInt < ((σ (5 + p1.toInt.toNat)).1 2).toInt) ∧ ((-2) : Int32).toInt = -7) ∨ (0 ≤ p1.toInt ∧ p1.toInt ≤ 3 ∧ ¬ ((σ (5 + p1.toInt.toNat)).1 0).toInt = 0 ∧ 0 ≤ p2.toInt ∧ p2.toInt < ((σ (5 + p1.toInt.toNat)).1 2).toInt ∧ ((-2) : Int32).toInt = 0) from (by have f0 := b5; have f1 := b6; have f2 := b4; have f3 := k24; have g0 := rg32 p1; have g1 := rg32 p2; have zm2 : ((-2) : Int32).toInt = (-2) := (by decide); have z0 : (0 : Int32).toInt = 0 := (by decide); exact (Or.inl (by omega)))), (show FrI σ σ from (fun _ _ => rfl)), trivial⟩, (show va_P D clz (WD8 cy g σ) tS.heap by rw [ht]; exact hP)⟩, hS.F ht⟩) hS.2.2 dX8_write_9

theorem q1351 : Cond.code yX5_holds cX5_holds 3 (some .boolean) ∈ lw_g := lw_gm (List.mem_of_getElem? (i := 1351) (by decide +kernel)) rfl
theorem dX5_holds_0 : decode cX5_holds 0 = .ok (.iload_n 1, 1) := by decide +kernel
theorem dX5_holds_1 : decode cX5_holds 1 = .ok (.ifCond .lt 25, 3) := by decide +kernel
theorem dX5_holds_4 : decode cX5_holds 4 = .ok (.iload_n 2, 1) := by decide +kernel
theorem dX5_holds_5 : decode cX5_holds 5 = .ok (.ifCond .lt 21, 3) := by decide +kernel
theorem dX5_holds_8 : decode cX5_holds 8 = .ok (.iload_n 1, 1) := by decide +kernel
theorem dX5_holds_9 : decode cX5_holds 9 = .ok (.i2l, 1) := by decide +kernel
theorem dX5_holds_10 : decode cX5_holds 10 = .ok (.iload_n 2, 1) := by decide +kernel
theorem dX5_holds_11 : decode cX5_holds 11 = .ok (.i2l, 1) := by decide +kernel
theorem dX5_holds_12 : decode cX5_holds 12 = .ok (.ladd, 1) := by decide +kernel
theorem dX5_holds_13 : decode cX5_holds 13 = .ok (.aload_n 0, 1) := by decide +kernel
theorem dX5_holds_14 : decode cX5_holds 14 = .ok (.getfield 23, 3) := by decide +kernel
theorem dX5_holds_17 : decode cX5_holds 17 = .ok (.i2l, 1) := by decide +kernel
theorem dX5_holds_18 : decode cX5_holds 18 = .ok (.lcmp, 1) := by decide +kernel
theorem dX5_holds_19 : decode cX5_holds 19 = .ok (.ifCond .gt 7, 3) := by decide +kernel
theorem dX5_holds_22 : decode cX5_holds 22 = .ok (.iconst 1, 1) := by decide +kernel
theorem dX5_holds_23 : decode cX5_holds 23 = .ok (.goto 4, 3) := by decide +kernel
theorem dX5_holds_26 : decode cX5_holds 26 = .ok (.iconst 0, 1) := by decide +kernel
theorem dX5_holds_27 : decode cX5_holds 27 = .ok (.ireturn, 1) := by decide +kernel
set_option maxHeartbeats 4000000 in
set_option maxRecDepth 100000 in
theorem m_X5_holds (l : Launch) (D : va_G) (cy : Nat → ClassId) (g : Nat → Nat) (σ : ST) (d0 : Nat) (p1 : Int32) (p2 : Int32) (sz : Nat) (hJ : J8 σ) (hd0 : 5 ≤ d0 ∧ d0 < 9) : Met l yX5_holds (ww yX5_holds cX5_holds 3 (some .boolean)) ({ frames := 1, cells := 0, slots := 0, locals := 64 }) (va_Pc [.ref (gO g d0), .int p1, .int p2] (pr8 D cy g σ sz)) (qi8 D cy g sz (fun r τ => τ = σ ∧ ((0 : Int) ≤ r.toInt ∧ r.toInt ≤ 1) ∧ ((r.toInt = 1 ∧ 0 ≤ p1.toInt ∧ 0 ≤ p2.toInt ∧ p1.toInt + p2.toInt ≤ ((σ d0).1 2).toInt) ∨ (r.toInt = 0 ∧ ¬ (0 ≤ p1.toInt ∧ 0 ≤ p2.toInt ∧ p1.toInt + p2.toInt ≤ ((σ d0).1 2).toInt))) ∧ True)) 0 0 (A8 cy g sz) := by
  refine Met.ofW (cc := cX5_holds) (maxL := 3) (ret := (some .boolean)) (by decide) rfl ?_
  intro p e s m args below meth c s₁ B hml hv
  obtain ⟨rfl, hsz, hP, hK, hD0, hC⟩ := hv
  have hx := B.exec
  have hb := B.bytes
  have hr := B.returns
  have hts := hts_g (atoms_spec (ws := ww yX5_holds cX5_holds 3 (some .boolean)) B.pre)
  have hown : s.vm.findClass RX5 = some m.cls := findClass_of_methodNamed B.named
  have hlocks := B.notSynchronized
  clear B
  subst hsz
  have hD := fun τ => A8_D (sz := s.heap.size) hD0 τ
  clear hD0
  have hS : va_S (A8 cy g s.heap.size) s.heap s.heap [] := va_S.rf
  have hl := lv_entry ([.ref (gO g d0), .int p1, .int p2]) (n := 3) (Nat.le_of_ble_eq_true rfl)
  rw [lg_entry_eq]
  generalize (lg_sl ([.ref (gO g d0), .int p1, .int p2]) ++ List.replicate (3 - (lg_sl ([.ref (gO g d0), .int p1, .int p2])).length) Slot.unset).toArray = ls at hl ⊢
  have hl : lv_has ls 3 [(0, .ref (gO g d0)), (1, .int p1), (2, .int p2)] := hl
  refine lv_iload_n hx hb dX5_holds_0 rfl (lv_at hl 1 rfl) ?_
  refine lv_if_lt (tgt := 26) hx hb dX5_holds_1 (by decide) (fun c1 => ?_) (fun c1 => ?_)
  ·
    have k2 := plt32 c1
    refine lv_iconst (v := 0) hx hb dX5_holds_26 (by decide) ?_
    exact W.zret (v := 0) hx hb hr rfl (fun tS ht hW => ⟨⟨0, σ, rfl, ⟨rfl, (show (0 : Int) ≤ (0 : Int32).toInt ∧ (0 : Int32).toInt ≤ 1 from (by have z0 : (0 : Int32).toInt = 0 := (by decide); omega)), (show ((0 : Int32).toInt = 1 ∧ 0 ≤ p1.toInt ∧ 0 ≤ p2.toInt ∧ p1.toInt + p2.toInt ≤ ((σ d0).1 2).toInt) ∨ ((0 : Int32).toInt = 0 ∧ ¬ (0 ≤ p1.toInt ∧ 0 ≤ p2.toInt ∧ p1.toInt + p2.toInt ≤ ((σ d0).1 2).toInt)) from (by have f0 := j8_5_2 hJ hd0 rfl; have f1 := k2; have g1 := rg32 p1; have g2 := rg32 p2; have z0 : (0 : Int32).toInt = 0 := (by decide); omega)), trivial⟩, (show va_P D clz (WD8 cy g σ) tS.heap by rw [ht]; exact hP)⟩, hS.F ht⟩) hS.2.2 dX5_holds_27
  ·
    have k3 := nlt32 c1
    refine lv_iload_n hx hb dX5_holds_4 rfl (lv_at hl 2 rfl) ?_
    refine lv_if_lt (tgt := 26) hx hb dX5_holds_5 (by decide) (fun c4 => ?_) (fun c4 => ?_)
    ·
      have k5 := plt32 c4
      refine lv_iconst (v := 0) hx hb dX5_holds_26 (by decide) ?_
      exact W.zret (v := 0) hx hb hr rfl (fun tS ht hW => ⟨⟨0, σ, rfl, ⟨rfl, (show (0 : Int) ≤ (0 : Int32).toInt ∧ (0 : Int32).toInt ≤ 1 from (by have z0 : (0 : Int32).toInt = 0 := (by decide); omega)), (show ((0 : Int32).toInt = 1 ∧ 0 ≤ p1.toInt ∧ 0 ≤ p2.toInt ∧ p1.toInt + p2.toInt ≤ ((σ d0).1 2).toInt) ∨ ((0 : Int32).toInt = 0 ∧ ¬ (0 ≤ p1.toInt ∧ 0 ≤ p2.toInt ∧ p1.toInt + p2.toInt ≤ ((σ d0).1 2).toInt)) from (by have f0 := j8_5_2 hJ hd0 rfl; have f1 := k3; have f2 := k5; have g1 := rg32 p1; have g2 := rg32 p2; have z0 : (0 : Int32).toInt = 0 := (by decide); omega)), trivial⟩, (show va_P D clz (WD8 cy g σ) tS.heap by rw [ht]; exact hP)⟩, hS.F ht⟩) hS.2.2 dX5_holds_27
    ·
      have k6 := nlt32 c4
      refine lv_iload_n hx hb dX5_holds_8 rfl (lv_at hl 1 rfl) ?_
      refine lv_i2l (v := p1.toInt64) hx hb dX5_holds_9 rfl ?_
      refine lv_iload_n hx hb dX5_holds_10 rfl (lv_at hl 2 rfl) ?_
      refine lv_i2l (v := p2.toInt64) hx hb dX5_holds_11 rfl ?_
      refine lv_ladd hx hb dX5_holds_12 ?_
      refine lv_topl (fun x7 ex7 => ?_)
      have t8 := addL ex7 (by have f0 := t64 (a := p1); have f1 := t64 (a := p2); have f2 := k3; have f3 := k6; have f4 := rg32 p1; have f5 := rg32 p2; have g0 := rg32 p1; have g2 := rg32 p2; have z0 : (0 : Int32).toInt = 0 := (by decide); have w9 := t64 (a := p1); have w10 := t64 (a := p2); omega)
      refine lv_aload_n hx hb dX5_holds_13 rfl (lv_at hl 0 rfl) ?_
      refine g8_5_2 (x := ((σ d0).1 2)) hx hb hts hown hK hP hd0 (rfl) (hts _ q420) dX5_holds_14 ?_
      refine lv_i2l (v := ((σ d0).1 2).toInt64) hx hb dX5_holds_17 rfl ?_
      refine W.lcmp hx hb dX5_holds_18 ?_
      refine lv_if_gt (tgt := 26) hx hb dX5_holds_19 (by decide) (fun c9 => ?_) (fun c9 => ?_)
      ·
        have k10 := plt64 ((lg_cmp_gt x7 ((σ d0).1 2).toInt64).mp c9)
        refine lv_iconst (v := 0) hx hb dX5_holds_26 (by decide) ?_
        exact W.zret (v := 0) hx hb hr rfl (fun tS ht hW => ⟨⟨0, σ, rfl, ⟨rfl, (show (0 : Int) ≤ (0 : Int32).toInt ∧ (0 : Int32).toInt ≤ 1 from (by have z0 : (0 : Int32).toInt = 0 := (by decide); omega)), (show ((0 : Int32).toInt = 1 ∧ 0 ≤ p1.toInt ∧ 0 ≤ p2.toInt ∧ p1.toInt + p2.toInt ≤ ((σ d0).1 2).toInt) ∨ ((0 : Int32).toInt = 0 ∧ ¬ (0 ≤ p1.toInt ∧ 0 ≤ p2.toInt ∧ p1.toInt + p2.toInt ≤ ((σ d0).1 2).toInt)) from (by have f0 := j8_5_2 hJ hd0 rfl; have f1 := k3; have f2 := k6; have f3 := t64 (a := p1); have f4 := rg32 p1; have f5 := t64 (a := p2); have f6 := rg32 p2; have f7 := t64 (a := ((σ d0).1 2)); have f8 := rg32 ((σ d0).1 2); have f9 := t8; have f10 := k10; have g2 := rg32 p1; have g4 := rg32 p2; have z0 : (0 : Int32).toInt = 0 := (by decide); have w14 := t64 (a := ((σ d0).1 2)); have w15 := t64 (a := p1); have w16 := t64 (a := p2); omega)), trivial⟩, (show va_P D clz (WD8 cy g σ) tS.heap by rw [ht]; exact hP)⟩, hS.F ht⟩) hS.2.2 dX5_holds_27
      ·
        have k11 := nlt64 (fun q => c9 ((lg_cmp_gt x7 ((σ d0).1 2).toInt64).mpr q))
        refine lv_iconst (v := 1) hx hb dX5_holds_22 (by decide) ?_
        refine lv_goto (tgt := 27) hx hb dX5_holds_23 (by decide) ?_
        exact W.zret (v := 1) hx hb hr rfl (fun tS ht hW => ⟨⟨1, σ, rfl, ⟨rfl, (show (0 : Int) ≤ (1 : Int32).toInt ∧ (1 : Int32).toInt ≤ 1 from (by have z1 : (1 : Int32).toInt = 1 := (by decide); omega)), (show ((1 : Int32).toInt = 1 ∧ 0 ≤ p1.toInt ∧ 0 ≤ p2.toInt ∧ p1.toInt + p2.toInt ≤ ((σ d0).1 2).toInt) ∨ ((1 : Int32).toInt = 0 ∧ ¬ (0 ≤ p1.toInt ∧ 0 ≤ p2.toInt ∧ p1.toInt + p2.toInt ≤ ((σ d0).1 2).toInt)) from (by have f0 := j8_5_2 hJ hd0 rfl; have f1 := k3; have f2 := k6; have f3 := t64 (a := p1); have f4 := rg32 p1; have f5 := t64 (a := p2); have f6 := rg32 p2; have f7 := t64 (a := ((σ d0).1 2)); have f8 := rg32 ((σ d0).1 2); have f9 := t8; have f10 := k11; have g2 := rg32 p1; have g4 := rg32 p2; have z0 : (0 : Int32).toInt = 0 := (by decide); have z1 : (1 : Int32).toInt = 1 := (by decide); have w15 := t64 (a := ((σ d0).1 2)); have w16 := t64 (a := p1); have w17 := t64 (a := p2); omega)), trivial⟩, (show va_P D clz (WD8 cy g σ) tS.heap by rw [ht]; exact hP)⟩, hS.F ht⟩) hS.2.2 dX5_holds_27

theorem q1347 : Cond.code yX8_paste cX8_paste 8 (some .int) ∈ lw_g := lw_gm (List.mem_of_getElem? (i := 1347) (by decide +kernel)) rfl
theorem q419 : Cond.fieldLink RX8 416 "LipsAndSlides$Row" "width" "I" ∈ lw_g := lw_gm (List.mem_of_getElem? (i := 419) (by decide +kernel)) rfl
theorem q1348 : Cond.methodLink RX8 419 yX5_holds ∈ lw_g := lw_gm (List.mem_of_getElem? (i := 1348) (by decide +kernel)) rfl
theorem q1349 : Cond.instanceMethod yX5_holds ∈ lw_g := lw_gm (List.mem_of_getElem? (i := 1349) (by decide +kernel)) rfl
theorem q1350 : Cond.selects RX5 yX5_holds yX5_holds ∈ lw_g := lw_gm (List.mem_of_getElem? (i := 1350) (by decide +kernel)) rfl
theorem q423 : Cond.fieldLink RX8 422 "LipsAndSlides$Row" "numbers" "[J" ∈ lw_g := lw_gm (List.mem_of_getElem? (i := 423) (by decide +kernel)) rfl
theorem q1352 : Cond.methodLink RX8 426 arraycopyName ∈ lw_g := lw_gm (List.mem_of_getElem? (i := 1352) (by decide +kernel)) rfl
theorem dX8_paste_0 : decode cX8_paste 0 = .ok (.iload_n 1, 1) := by decide +kernel
theorem dX8_paste_1 : decode cX8_paste 1 = .ok (.invokestatic 360, 3) := by decide +kernel
theorem dX8_paste_4 : decode cX8_paste 4 = .ok (.ifCond .eq 10, 3) := by decide +kernel
theorem dX8_paste_7 : decode cX8_paste 7 = .ok (.iload_n 3, 1) := by decide +kernel
theorem dX8_paste_8 : decode cX8_paste 8 = .ok (.invokestatic 360, 3) := by decide +kernel
theorem dX8_paste_11 : decode cX8_paste 11 = .ok (.ifCond .ne 6, 3) := by decide +kernel
theorem dX8_paste_14 : decode cX8_paste 14 = .ok (.bipush (-2), 2) := by decide +kernel
theorem dX8_paste_16 : decode cX8_paste 16 = .ok (.ireturn, 1) := by decide +kernel
theorem dX8_paste_17 : decode cX8_paste 17 = .ok (.aload_n 0, 1) := by decide +kernel
theorem dX8_paste_18 : decode cX8_paste 18 = .ok (.getfield 36, 3) := by decide +kernel
theorem dX8_paste_21 : decode cX8_paste 21 = .ok (.iload_n 1, 1) := by decide +kernel
theorem dX8_paste_22 : decode cX8_paste 22 = .ok (.aaload, 1) := by decide +kernel
theorem dX8_paste_23 : decode cX8_paste 23 = .ok (.astore 6, 2) := by decide +kernel
theorem dX8_paste_25 : decode cX8_paste 25 = .ok (.aload_n 0, 1) := by decide +kernel
theorem dX8_paste_26 : decode cX8_paste 26 = .ok (.getfield 36, 3) := by decide +kernel
theorem dX8_paste_29 : decode cX8_paste 29 = .ok (.iload_n 3, 1) := by decide +kernel
theorem dX8_paste_30 : decode cX8_paste 30 = .ok (.aaload, 1) := by decide +kernel
theorem dX8_paste_31 : decode cX8_paste 31 = .ok (.astore 7, 2) := by decide +kernel
theorem dX8_paste_33 : decode cX8_paste 33 = .ok (.aload 6, 2) := by decide +kernel
theorem dX8_paste_35 : decode cX8_paste 35 = .ok (.getfield 123, 3) := by decide +kernel
theorem dX8_paste_38 : decode cX8_paste 38 = .ok (.ifCond .eq 11, 3) := by decide +kernel
theorem dX8_paste_41 : decode cX8_paste 41 = .ok (.aload 7, 2) := by decide +kernel
theorem dX8_paste_43 : decode cX8_paste 43 = .ok (.getfield 123, 3) := by decide +kernel
theorem dX8_paste_46 : decode cX8_paste 46 = .ok (.ifCond .ne 6, 3) := by decide +kernel
theorem dX8_paste_49 : decode cX8_paste 49 = .ok (.bipush (-6), 2) := by decide +kernel
theorem dX8_paste_51 : decode cX8_paste 51 = .ok (.ireturn, 1) := by decide +kernel
theorem dX8_paste_52 : decode cX8_paste 52 = .ok (.aload 6, 2) := by decide +kernel
theorem dX8_paste_54 : decode cX8_paste 54 = .ok (.getfield 416, 3) := by decide +kernel
theorem dX8_paste_57 : decode cX8_paste 57 = .ok (.aload 7, 2) := by decide +kernel
theorem dX8_paste_59 : decode cX8_paste 59 = .ok (.getfield 416, 3) := by decide +kernel
theorem dX8_paste_62 : decode cX8_paste 62 = .ok (.if_icmp .eq 6, 3) := by decide +kernel
theorem dX8_paste_65 : decode cX8_paste 65 = .ok (.bipush (-8), 2) := by decide +kernel
theorem dX8_paste_67 : decode cX8_paste 67 = .ok (.ireturn, 1) := by decide +kernel
theorem dX8_paste_68 : decode cX8_paste 68 = .ok (.aload 6, 2) := by decide +kernel
theorem dX8_paste_70 : decode cX8_paste 70 = .ok (.iload_n 2, 1) := by decide +kernel
theorem dX8_paste_71 : decode cX8_paste 71 = .ok (.iload 5, 2) := by decide +kernel
theorem dX8_paste_73 : decode cX8_paste 73 = .ok (.invokevirtual 419, 3) := by decide +kernel
theorem dX8_paste_76 : decode cX8_paste 76 = .ok (.ifCond .eq 15, 3) := by decide +kernel
theorem dX8_paste_79 : decode cX8_paste 79 = .ok (.aload 7, 2) := by decide +kernel
theorem dX8_paste_81 : decode cX8_paste 81 = .ok (.iload 4, 2) := by decide +kernel
theorem dX8_paste_83 : decode cX8_paste 83 = .ok (.iload 5, 2) := by decide +kernel
theorem dX8_paste_85 : decode cX8_paste 85 = .ok (.invokevirtual 419, 3) := by decide +kernel
theorem dX8_paste_88 : decode cX8_paste 88 = .ok (.ifCond .ne 6, 3) := by decide +kernel
theorem dX8_paste_91 : decode cX8_paste 91 = .ok (.bipush (-7), 2) := by decide +kernel
theorem dX8_paste_93 : decode cX8_paste 93 = .ok (.ireturn, 1) := by decide +kernel
theorem dX8_paste_94 : decode cX8_paste 94 = .ok (.aload 6, 2) := by decide +kernel
theorem dX8_paste_96 : decode cX8_paste 96 = .ok (.getfield 422, 3) := by decide +kernel
theorem dX8_paste_99 : decode cX8_paste 99 = .ok (.iload_n 2, 1) := by decide +kernel
theorem dX8_paste_100 : decode cX8_paste 100 = .ok (.aload 7, 2) := by decide +kernel
theorem dX8_paste_102 : decode cX8_paste 102 = .ok (.getfield 422, 3) := by decide +kernel
theorem dX8_paste_105 : decode cX8_paste 105 = .ok (.iload 4, 2) := by decide +kernel
theorem dX8_paste_107 : decode cX8_paste 107 = .ok (.iload 5, 2) := by decide +kernel
theorem dX8_paste_109 : decode cX8_paste 109 = .ok (.invokestatic 426, 3) := by decide +kernel
theorem dX8_paste_112 : decode cX8_paste 112 = .ok (.iconst 0, 1) := by decide +kernel
theorem dX8_paste_113 : decode cX8_paste 113 = .ok (.ireturn, 1) := by decide +kernel
set_option maxHeartbeats 4000000 in
set_option maxRecDepth 100000 in
theorem m_X8_paste (l : Launch) (D : va_G) (cy : Nat → ClassId) (g : Nat → Nat) (σ : ST) (p1 : Int32) (p2 : Int32) (p3 : Int32) (p4 : Int32) (p5 : Int32) (sz : Nat) (hJ : J8 σ)  : Met l yX8_paste (ww yX8_paste cX8_paste 8 (some .int)) ({ frames := 2, cells := 0, slots := 0, locals := 128 }) (va_Pc [.ref (gO g 17), .int p1, .int p2, .int p3, .int p4, .int p5] (pr8 D cy g σ sz)) (qi8 D cy g sz (fun r τ => Fr (fO [5, 6, 7, 8]) σ τ ∧ J8 τ ∧ ((-8 : Int) ≤ r.toInt ∧ r.toInt ≤ 0) ∧ ((¬ (0 ≤ p1.toInt ∧ p1.toInt ≤ 3 ∧ 0 ≤ p3.toInt ∧ p3.toInt ≤ 3) ∧ r.toInt = -2) ∨ (0 ≤ p1.toInt ∧ p1.toInt ≤ 3 ∧ 0 ≤ p3.toInt ∧ p3.toInt ≤ 3 ∧ ¬ (¬ ((σ (5 + p1.toInt.toNat)).1 0).toInt = 0 ∧ ¬ ((σ (5 + p3.toInt.toNat)).1 0).toInt = 0) ∧ r.toInt = -6) ∨ (0 ≤ p1.toInt ∧ p1.toInt ≤ 3 ∧ 0 ≤ p3.toInt ∧ p3.toInt ≤ 3 ∧ ¬ ((σ (5 + p1.toInt.toNat)).1 0).toInt = 0 ∧ ¬ ((σ (5 + p3.toInt.toNat)).1 0).toInt = 0 ∧ ¬ ((σ (5 + p1.toInt.toNat)).1 1).toInt = ((σ (5 + p3.toInt.toNat)).1 1).toInt ∧ r.toInt = -8) ∨ (0 ≤ p1.toInt ∧ p1.toInt ≤ 3 ∧ 0 ≤ p3.toInt ∧ p3.toInt ≤ 3 ∧ ¬ ((σ (5 + p1.toInt.toNat)).1 0).toInt = 0 ∧ ¬ ((σ (5 + p3.toInt.toNat)).1 0).toInt = 0 ∧ ((σ (5 + p1.toInt.toNat)).1 1).toInt = ((σ (5 + p3.toInt.toNat)).1 1).toInt ∧ ¬ (0 ≤ p2.toInt ∧ 0 ≤ p4.toInt ∧ 0 ≤ p5.toInt ∧ p2.toInt + p5.toInt ≤ ((σ (5 + p1.toInt.toNat)).1 2).toInt ∧ p4.toInt + p5.toInt ≤ ((σ (5 + p3.toInt.toNat)).1 2).toInt) ∧ r.toInt = -7) ∨ (0 ≤ p1.toInt ∧ p1.toInt ≤ 3 ∧ 0 ≤ p3.toInt ∧ p3.toInt ≤ 3 ∧ ¬ ((σ (5 + p1.toInt.toNat)).1 0).toInt = 0 ∧ ¬ ((σ (5 + p3.toInt.toNat)).1 0).toInt = 0 ∧ ((σ (5 + p1.toInt.toNat)).1 1).toInt = ((σ (5 + p3.toInt.toNat)).1 1).toInt ∧ 0 ≤ p2.toInt ∧ 0 ≤ p4.toInt ∧ 0 ≤ p5.toInt ∧ p2.toInt + p5.toInt ≤ ((σ (5 + p1.toInt.toNat)).1 2).toInt ∧ p4.toInt + p5.toInt ≤ ((σ (5 + p3.toInt.toNat)).1 2).toInt ∧ r.toInt = 0)) ∧ (FrI σ τ) ∧ True)) 0 0 (A8 cy g sz) := by
  refine Met.ofW (cc := cX8_paste) (maxL := 8) (ret := (some .int)) (by decide) rfl ?_
  intro p e s m args below meth c s₁ B hml hv
  obtain ⟨rfl, hsz, hP, hK, hD0, hC⟩ := hv
  have hx := B.exec
  have hb := B.bytes
  have hr := B.returns
  have hts := hts_g (atoms_spec (ws := ww yX8_paste cX8_paste 8 (some .int)) B.pre)
  have hown : s.vm.findClass RX8 = some m.cls := findClass_of_methodNamed B.named
  have hlocks := B.notSynchronized
  clear B
  subst hsz
  have hD := fun τ => A8_D (sz := s.heap.size) hD0 τ
  clear hD0
  have hS : va_S (A8 cy g s.heap.size) s.heap s.heap [] := va_S.rf
  have hl := lv_entry ([.ref (gO g 17), .int p1, .int p2, .int p3, .int p4, .int p5]) (n := 8) (Nat.le_of_ble_eq_true rfl)
  rw [lg_entry_eq]
  generalize (lg_sl ([.ref (gO g 17), .int p1, .int p2, .int p3, .int p4, .int p5]) ++ List.replicate (8 - (lg_sl ([.ref (gO g 17), .int p1, .int p2, .int p3, .int p4, .int p5])).length) Slot.unset).toArray = ls at hl ⊢
  have hl : lv_has ls 8 [(0, .ref (gO g 17)), (1, .int p1), (2, .int p2), (3, .int p3), (4, .int p4), (5, .int p5)] := hl
  refine lv_iload_n hx hb dX8_paste_0 rfl (lv_at hl 1 rfl) ?_
  refine va_calli (va_runS (As := [.int p1]) (rest := []) ⟨hx, hb, hml, hown, hts⟩ (m_X8_isSlot l D cy g σ  p1 _ hJ ) (va_cwS 1 hts (gd_S q1267 q1268 q125 q1269) rfl rfl rfl (by decide +kernel) ⟨(Nat.le_of_ble_eq_true rfl), (Nat.le_of_ble_eq_true rfl)⟩) (ps8 hP hK hD hC hS) rfl rfl hl.1 rfl (lv_room (Nat.le_of_ble_eq_true rfl)) dX8_paste_1 ⟨Nat.le_of_ble_eq_true rfl, Nat.le_of_ble_eq_true rfl⟩) hS (fun q _ h => up8 hS q h) (up8 hS) (fun r1 σ2 tS H1 locs ht hvm hw3 hB hz1 hk1 hS => ?_)
  have hP : va_P D clz (WD8 cy g σ2) H1 := by rw [← ht]; exact hB
  clear hB hz1 hk1 hvm ht
  generalize H1 = H at hP hS ⊢
  have hw3E : σ = σ2 := (hw3.1).symm
  subst hw3E
  have b4 : (0 : Int) ≤ r1.toInt ∧ r1.toInt ≤ 1 := hw3.2.1
  have b5 : (r1.toInt = 0) ∨ ((0 : Int) ≤ p1.toInt ∧ p1.toInt ≤ 3) := hw3.2.2.1
  have b6 : r1.toInt = 1 ∨ p1.toInt < 0 ∨ 3 < p1.toInt := hw3.2.2.2.1
  refine lv_if_eq (tgt := 14) hx hb dX8_paste_4 (by decide) (fun c7 => ?_) (fun c7 => ?_)
  ·
    have k8 := peq32 c7
    refine lv_bipush (v := (-2)) hx hb dX8_paste_14 (by decide) ?_
    exact W.iret (v := (-2)) hx hb hr (fun tS ht hW => ⟨⟨(-2), σ, rfl, ⟨Fr.rf, hJ, (show (-8 : Int) ≤ ((-2) : Int32).toInt ∧ ((-2) : Int32).toInt ≤ 0 from (by have zm2 : ((-2) : Int32).toInt = (-2) := (by decide); omega)), (show (¬ (0 ≤ p1.toInt ∧ p1.toInt ≤ 3 ∧ 0 ≤ p3.toInt ∧ p3.toInt ≤ 3) ∧ ((-2) : Int32).toInt = -2) ∨ (0 ≤ p1.toInt ∧ p1.toInt ≤ 3 ∧ 0 ≤ p3.toInt ∧ p3.toInt ≤ 3 ∧ ¬ (¬ ((σ (5 + p1.toInt.toNat)).1 0).toInt = 0 ∧ ¬ ((σ (5 + p3.toInt.toNat)).1 0).toInt = 0) ∧ ((-2) : Int32).toInt = -6) ∨ (0 ≤ p1.toInt ∧ p1.toInt ≤ 3 ∧ 0 ≤ p3.toInt ∧ p3.toInt ≤ 3 ∧ ¬ ((σ (5 + p1.toInt.toNat)).1 0).toInt = 0 ∧ ¬ ((σ (5 + p3.toInt.toNat)).1 0).toInt = 0 ∧ ¬ ((σ (5 + p1.toInt.toNat)).1 1).toInt = ((σ (5 + p3.toInt.toNat)).1 1).toInt ∧ ((-2) : Int32).toInt = -8) ∨ (0 ≤ p1.toInt ∧ p1.toInt ≤ 3 ∧ 0 ≤ p3.toInt ∧ p3.toInt ≤ 3 ∧ ¬ ((σ (5 + p1.toInt.toNat)).1 0).toInt = 0 ∧ ¬ ((σ (5 + p3.toInt.toNat)).1 0).toInt = 0 ∧ ((σ (5 + p1.toInt.toNat)).1 1).toInt = ((σ (5 + p3.toInt.toNat)).1 1).toInt ∧ ¬ (0 ≤ p2.toInt ∧ 0 ≤ p4.toInt ∧ 0 ≤ p5.toInt ∧ p2.toInt + p5.toInt ≤ ((σ (5 + p1.toInt.toNat)).1 2).toInt ∧ p4.toInt + p5.toInt ≤ ((σ (5 + p3.toInt.toNat)).1 2).toInt) ∧ ((-2) : Int32).toInt = -7) ∨ (0 ≤ p1.toInt ∧ p1.toInt ≤ 3 ∧ 0 ≤ p3.toInt ∧ p3.toInt ≤ 3 ∧ ¬ ((σ (5 + p1.toInt.toNat)).1 0).toInt = 0 ∧ ¬ ((σ (5 + p3.toInt.toNat)).1 0).toInt = 0 ∧ ((σ (5 + p1.toInt.toNat)).1 1).toInt = ((σ (5 + p3.toInt.toNat)).1 1).toInt ∧ 0 ≤ p2.toInt ∧ 0 ≤ p4.toInt ∧ 0 ≤ p5.toInt ∧ p2.toInt + p5.toInt ≤ ((σ (5 + p1.toInt.toNat)).1 2).toInt ∧ p4.toInt + p5.toInt ≤ ((σ (5 + p3.toInt.toNat)).1 2).toInt ∧ ((-2) : Int32).toInt = 0) from (by have f0 := b5; have f1 := b6; have f2 := b4; have f3 := k8; have g0 := rg32 p1; have g1 := rg32 p2; have g2 := rg32 p3; have g3 := rg32 p4; have g4 := rg32 p5; have zm2 : ((-2) : Int32).toInt = (-2) := (by decide); have z0 : (0 : Int32).toInt = 0 := (by decide); exact (Or.inl (by omega)))), (show FrI σ σ from (fun _ _ => rfl)), trivial⟩, (show va_P D clz (WD8 cy g σ) tS.heap by rw [ht]; exact hP)⟩, hS.F ht⟩) hS.2.2 dX8_paste_16
  ·
    have k9 := neq32 c7
    refine lv_iload_n hx hb dX8_paste_7 rfl (lv_at hl 3 rfl) ?_
    refine va_calli (va_runS (As := [.int p3]) (rest := []) ⟨hx, hb, hml, hown, hts⟩ (m_X8_isSlot l D cy g σ  p3 _ hJ ) (va_cwS 1 hts (gd_S q1267 q1268 q125 q1269) rfl rfl rfl (by decide +kernel) ⟨(Nat.le_of_ble_eq_true rfl), (Nat.le_of_ble_eq_true rfl)⟩) (ps8 hP hK hD hC hS) rfl rfl hl.1 rfl (lv_room (Nat.le_of_ble_eq_true rfl)) dX8_paste_8 ⟨Nat.le_of_ble_eq_true rfl, Nat.le_of_ble_eq_true rfl⟩) hS (fun q _ h => up8 hS q h) (up8 hS) (fun r10 σ11 tS H1 locs ht hvm hw12 hB hz1 hk1 hS => ?_)
    have hP : va_P D clz (WD8 cy g σ11) H1 := by rw [← ht]; exact hB
    clear hB hz1 hk1 hvm ht
    generalize H1 = H at hP hS ⊢
    have hw12E : σ = σ11 := (hw12.1).symm
    subst hw12E
    have b13 : (0 : Int) ≤ r10.toInt ∧ r10.toInt ≤ 1 := hw12.2.1
    have b14 : (r10.toInt = 0) ∨ ((0 : Int) ≤ p3.toInt ∧ p3.toInt ≤ 3) := hw12.2.2.1
    have b15 : r10.toInt = 1 ∨ p3.toInt < 0 ∨ 3 < p3.toInt := hw12.2.2.2.1
    refine lv_if_ne (tgt := 17) hx hb dX8_paste_11 (by decide) (fun c16 => ?_) (fun c16 => ?_)
    ·
      have k17 := neq32 c16
      refine lv_aload_n hx hb dX8_paste_17 rfl (lv_at hl 0 rfl) ?_
      refine g8_8_5 hx hb hts hown hK hP (hts _ q439) dX8_paste_18 ?_
      refine lv_iload_n hx hb dX8_paste_21 rfl (lv_at hl 1 rfl) ?_
      obtain ⟨dx18, edx18⟩ : ∃ z : Nat, 5 + p1.toInt.toNat = z := ⟨_, rfl⟩
      have hdx18 : 5 ≤ dx18 ∧ dx18 < 9 := mrow (n := 4) (by have f0 := b5; have f1 := b6; have f2 := b4; have f3 := k9; have g0 := rg32 p1; have z0 : (0 : Int32).toInt = 0 := (by decide); omega) edx18 rfl
      refine l8_8_5 hx hb hK hP (vpo (by have f0 := b5; have f1 := b6; have f2 := b4; have f3 := k9; have g0 := rg32 p1; have z0 : (0 : Int32).toInt = 0 := (by decide); omega)) edx18 dX8_paste_22 ?_
      refine lv_astore (lv' := [(6, .ref (gO g dx18)), (0, .ref (gO g 17)), (1, .int p1), (2, .int p2), (3, .int p3), (4, .int p4), (5, .int p5)]) hx hb dX8_paste_23 hl (by decide) rfl (fun ls hl => ?_)
      refine lv_aload_n hx hb dX8_paste_25 rfl (lv_at hl 1 rfl) ?_
      refine g8_8_5 hx hb hts hown hK hP (hts _ q439) dX8_paste_26 ?_
      refine lv_iload_n hx hb dX8_paste_29 rfl (lv_at hl 4 rfl) ?_
      obtain ⟨dx19, edx19⟩ : ∃ z : Nat, 5 + p3.toInt.toNat = z := ⟨_, rfl⟩
      have hdx19 : 5 ≤ dx19 ∧ dx19 < 9 := mrow (n := 4) (by have f0 := b14; have f1 := b15; have f2 := b13; have f3 := k17; have g0 := rg32 p3; have z0 : (0 : Int32).toInt = 0 := (by decide); omega) edx19 rfl
      refine l8_8_5 hx hb hK hP (vpo (by have f0 := b14; have f1 := b15; have f2 := b13; have f3 := k17; have g0 := rg32 p3; have z0 : (0 : Int32).toInt = 0 := (by decide); omega)) edx19 dX8_paste_30 ?_
      refine lv_astore (lv' := [(7, .ref (gO g dx19)), (6, .ref (gO g dx18)), (0, .ref (gO g 17)), (1, .int p1), (2, .int p2), (3, .int p3), (4, .int p4), (5, .int p5)]) hx hb dX8_paste_31 hl (by decide) rfl (fun ls hl => ?_)
      refine lv_aload hx hb dX8_paste_33 (lv_at hl 1 rfl) ?_
      refine g8_5_0 (x := ((σ dx18).1 0)) hx hb hts hown hK hP hdx18 (rfl) (hts _ q417) dX8_paste_35 ?_
      refine lv_if_eq (tgt := 49) hx hb dX8_paste_38 (by decide) (fun c20 => ?_) (fun c20 => ?_)
      ·
        have k21 := peq32 c20
        refine lv_bipush (v := (-6)) hx hb dX8_paste_49 (by decide) ?_
        exact W.iret (v := (-6)) hx hb hr (fun tS ht hW => ⟨⟨(-6), σ, rfl, ⟨Fr.rf, hJ, (show (-8 : Int) ≤ ((-6) : Int32).toInt ∧ ((-6) : Int32).toInt ≤ 0 from (by have zm6 : ((-6) : Int32).toInt = (-6) := (by decide); omega)), (show (¬ (0 ≤ p1.toInt ∧ p1.toInt ≤ 3 ∧ 0 ≤ p3.toInt ∧ p3.toInt ≤ 3) ∧ ((-6) : Int32).toInt = -2) ∨ (0 ≤ p1.toInt ∧ p1.toInt ≤ 3 ∧ 0 ≤ p3.toInt ∧ p3.toInt ≤ 3 ∧ ¬ (¬ ((σ (5 + p1.toInt.toNat)).1 0).toInt = 0 ∧ ¬ ((σ (5 + p3.toInt.toNat)).1 0).toInt = 0) ∧ ((-6) : Int32).toInt = -6) ∨ (0 ≤ p1.toInt ∧ p1.toInt ≤ 3 ∧ 0 ≤ p3.toInt ∧ p3.toInt ≤ 3 ∧ ¬ ((σ (5 + p1.toInt.toNat)).1 0).toInt = 0 ∧ ¬ ((σ (5 + p3.toInt.toNat)).1 0).toInt = 0 ∧ ¬ ((σ (5 + p1.toInt.toNat)).1 1).toInt = ((σ (5 + p3.toInt.toNat)).1 1).toInt ∧ ((-6) : Int32).toInt = -8) ∨ (0 ≤ p1.toInt ∧ p1.toInt ≤ 3 ∧ 0 ≤ p3.toInt ∧ p3.toInt ≤ 3 ∧ ¬ ((σ (5 + p1.toInt.toNat)).1 0).toInt = 0 ∧ ¬ ((σ (5 + p3.toInt.toNat)).1 0).toInt = 0 ∧ ((σ (5 + p1.toInt.toNat)).1 1).toInt = ((σ (5 + p3.toInt.toNat)).1 1).toInt ∧ ¬ (0 ≤ p2.toInt ∧ 0 ≤ p4.toInt ∧ 0 ≤ p5.toInt ∧ p2.toInt + p5.toInt ≤ ((σ (5 + p1.toInt.toNat)).1 2).toInt ∧ p4.toInt + p5.toInt ≤ ((σ (5 + p3.toInt.toNat)).1 2).toInt) ∧ ((-6) : Int32).toInt = -7) ∨ (0 ≤ p1.toInt ∧ p1.toInt ≤ 3 ∧ 0 ≤ p3.toInt ∧ p3.toInt ≤ 3 ∧ ¬ ((σ (5 + p1.toInt.toNat)).1 0).toInt = 0 ∧ ¬ ((σ (5 + p3.toInt.toNat)).1 0).toInt = 0 ∧ ((σ (5 + p1.toInt.toNat)).1 1).toInt = ((σ (5 + p3.toInt.toNat)).1 1).toInt ∧ 0 ≤ p2.toInt ∧ 0 ≤ p4.toInt ∧ 0 ≤ p5.toInt ∧ p2.toInt + p5.toInt ≤ ((σ (5 + p1.toInt.toNat)).1 2).toInt ∧ p4.toInt + p5.toInt ≤ ((σ (5 + p3.toInt.toNat)).1 2).toInt ∧ ((-6) : Int32).toInt = 0) from (by rw [edx18, edx19]; have f0 := j8_5_0 hJ hdx19 rfl; have f1 := j8_5_2 hJ hdx19 rfl; have f2 := j8_5_2 hJ hdx18 rfl; have f3 := j8_5_0 hJ hdx18 rfl; have f4 := b5; have f5 := b6; have f6 := b14; have f7 := b15; have f8 := k21; have f9 := b4; have f10 := k9; have f11 := b13; have f12 := k17; have g6 := rg32 p1; have g7 := rg32 p2; have g8 := rg32 p3; have g9 := rg32 p4; have g10 := rg32 p5; have zm6 : ((-6) : Int32).toInt = (-6) := (by decide); have z0 : (0 : Int32).toInt = 0 := (by decide); exact (Or.inr (Or.inl (by omega))))), (show FrI σ σ from (fun _ _ => rfl)), trivial⟩, (show va_P D clz (WD8 cy g σ) tS.heap by rw [ht]; exact hP)⟩, hS.F ht⟩) hS.2.2 dX8_paste_51
      ·
        have k22 := neq32 c20
        refine lv_aload hx hb dX8_paste_41 (lv_at hl 0 rfl) ?_
        refine g8_5_0 (x := ((σ dx19).1 0)) hx hb hts hown hK hP hdx19 (rfl) (hts _ q417) dX8_paste_43 ?_
        refine lv_if_ne (tgt := 52) hx hb dX8_paste_46 (by decide) (fun c23 => ?_) (fun c23 => ?_)
        ·
          have k24 := neq32 c23
          refine lv_aload hx hb dX8_paste_52 (lv_at hl 1 rfl) ?_
          refine g8_5_1 (x := ((σ dx18).1 1)) hx hb hts hown hK hP hdx18 (rfl) (hts _ q419) dX8_paste_54 ?_
          refine lv_aload hx hb dX8_paste_57 (lv_at hl 0 rfl) ?_
          refine g8_5_1 (x := ((σ dx19).1 1)) hx hb hts hown hK hP hdx19 (rfl) (hts _ q419) dX8_paste_59 ?_
          refine lv_icmp_eq (tgt := 68) hx hb dX8_paste_62 (by decide) (fun c25 => ?_) (fun c25 => ?_)
          ·
            have k26 := peq32 c25
            refine lv_aload hx hb dX8_paste_68 (lv_at hl 1 rfl) ?_
            refine lv_iload_n hx hb dX8_paste_70 rfl (lv_at hl 4 rfl) ?_
            refine lv_iload hx hb dX8_paste_71 (lv_at hl 7 rfl) ?_
            refine va_calli (va_runV (As := [.int p2, .int p5]) (rest := []) ⟨hx, hb, hml, hown, hts⟩ (m_X5_holds l D cy g σ  dx18 p2 p5 _ hJ (show 5 ≤ dx18 ∧ dx18 < 9 from hdx18)) (cwV 2 hts (gd_V q1348 q1349 q1350 q133 q1351) rfl rfl rfl (by decide +kernel) ⟨(Nat.le_of_ble_eq_true rfl), (Nat.le_of_ble_eq_true rfl)⟩) (pv8 hP hK hD hC hS (rv8_5 hK hP hdx18)) rfl rfl hl.1 rfl (lv_room (Nat.le_of_ble_eq_true rfl)) dX8_paste_73 ⟨Nat.le_of_ble_eq_true rfl, Nat.le_of_ble_eq_true rfl⟩) hS (fun q _ h => up8 hS q h) (up8 hS) (fun r27 σ28 tS H1 locs ht hvm hw29 hB hz1 hk1 hS => ?_)
            have hP : va_P D clz (WD8 cy g σ28) H1 := by rw [← ht]; exact hB
            clear hB hz1 hk1 hvm ht
            generalize H1 = H at hP hS ⊢
            have hw29E : σ = σ28 := (hw29.1).symm
            subst hw29E
            have b30 : (0 : Int) ≤ r27.toInt ∧ r27.toInt ≤ 1 := hw29.2.1
            have b31 : (r27.toInt = 1 ∧ 0 ≤ p2.toInt ∧ 0 ≤ p5.toInt ∧ p2.toInt + p5.toInt ≤ ((σ dx18).1 2).toInt) ∨ (r27.toInt = 0 ∧ ¬ (0 ≤ p2.toInt ∧ 0 ≤ p5.toInt ∧ p2.toInt + p5.toInt ≤ ((σ dx18).1 2).toInt)) := hw29.2.2.1
            refine lv_if_eq (tgt := 91) hx hb dX8_paste_76 (by decide) (fun c32 => ?_) (fun c32 => ?_)
            ·
              have k33 := peq32 c32
              refine lv_bipush (v := (-7)) hx hb dX8_paste_91 (by decide) ?_
              exact W.iret (v := (-7)) hx hb hr (fun tS ht hW => ⟨⟨(-7), σ, rfl, ⟨Fr.rf, hJ, (show (-8 : Int) ≤ ((-7) : Int32).toInt ∧ ((-7) : Int32).toInt ≤ 0 from (by have zm7 : ((-7) : Int32).toInt = (-7) := (by decide); omega)), (show (¬ (0 ≤ p1.toInt ∧ p1.toInt ≤ 3 ∧ 0 ≤ p3.toInt ∧ p3.toInt ≤ 3) ∧ ((-7) : Int32).toInt = -2) ∨ (0 ≤ p1.toInt ∧ p1.toInt ≤ 3 ∧ 0 ≤ p3.toInt ∧ p3.toInt ≤ 3 ∧ ¬ (¬ ((σ (5 + p1.toInt.toNat)).1 0).toInt = 0 ∧ ¬ ((σ (5 + p3.toInt.toNat)).1 0).toInt = 0) ∧ ((-7) : Int32).toInt = -6) ∨ (0 ≤ p1.toInt ∧ p1.toInt ≤ 3 ∧ 0 ≤ p3.toInt ∧ p3.toInt ≤ 3 ∧ ¬ ((σ (5 + p1.toInt.toNat)).1 0).toInt = 0 ∧ ¬ ((σ (5 + p3.toInt.toNat)).1 0).toInt = 0 ∧ ¬ ((σ (5 + p1.toInt.toNat)).1 1).toInt = ((σ (5 + p3.toInt.toNat)).1 1).toInt ∧ ((-7) : Int32).toInt = -8) ∨ (0 ≤ p1.toInt ∧ p1.toInt ≤ 3 ∧ 0 ≤ p3.toInt ∧ p3.toInt ≤ 3 ∧ ¬ ((σ (5 + p1.toInt.toNat)).1 0).toInt = 0 ∧ ¬ ((σ (5 + p3.toInt.toNat)).1 0).toInt = 0 ∧ ((σ (5 + p1.toInt.toNat)).1 1).toInt = ((σ (5 + p3.toInt.toNat)).1 1).toInt ∧ ¬ (0 ≤ p2.toInt ∧ 0 ≤ p4.toInt ∧ 0 ≤ p5.toInt ∧ p2.toInt + p5.toInt ≤ ((σ (5 + p1.toInt.toNat)).1 2).toInt ∧ p4.toInt + p5.toInt ≤ ((σ (5 + p3.toInt.toNat)).1 2).toInt) ∧ ((-7) : Int32).toInt = -7) ∨ (0 ≤ p1.toInt ∧ p1.toInt ≤ 3 ∧ 0 ≤ p3.toInt ∧ p3.toInt ≤ 3 ∧ ¬ ((σ (5 + p1.toInt.toNat)).1 0).toInt = 0 ∧ ¬ ((σ (5 + p3.toInt.toNat)).1 0).toInt = 0 ∧ ((σ (5 + p1.toInt.toNat)).1 1).toInt = ((σ (5 + p3.toInt.toNat)).1 1).toInt ∧ 0 ≤ p2.toInt ∧ 0 ≤ p4.toInt ∧ 0 ≤ p5.toInt ∧ p2.toInt + p5.toInt ≤ ((σ (5 + p1.toInt.toNat)).1 2).toInt ∧ p4.toInt + p5.toInt ≤ ((σ (5 + p3.toInt.toNat)).1 2).toInt ∧ ((-7) : Int32).toInt = 0) from (by rw [edx18, edx19]; have f0 := j8_5_0 hJ hdx19 rfl; have f1 := j8_5_2 hJ hdx19 rfl; have f2 := j8_5_2 hJ hdx18 rfl; have f3 := j8_5_0 hJ hdx18 rfl; have f4 := b5; have f5 := b6; have f6 := b14; have f7 := b15; have f8 := k22; have f9 := k24; have f10 := k26; have f11 := b31; have f12 := b4; have f13 := k9; have f14 := b13; have f15 := k17; have f16 := b30; have f17 := k33; have g6 := rg32 p1; have g7 := rg32 p2; have g8 := rg32 p3; have g9 := rg32 p4; have g10 := rg32 p5; have zm7 : ((-7) : Int32).toInt = (-7) := (by decide); have z0 : (0 : Int32).toInt = 0 := (by decide); exact (Or.inr (Or.inr (Or.inr (Or.inl (by omega))))))), (show FrI σ σ from (fun _ _ => rfl)), trivial⟩, (show va_P D clz (WD8 cy g σ) tS.heap by rw [ht]; exact hP)⟩, hS.F ht⟩) hS.2.2 dX8_paste_93
            ·
              have k34 := neq32 c32
              refine lv_aload hx hb dX8_paste_79 (lv_at hl 0 rfl) ?_
              refine lv_iload hx hb dX8_paste_81 (lv_at hl 6 rfl) ?_
              refine lv_iload hx hb dX8_paste_83 (lv_at hl 7 rfl) ?_
              refine va_calli (va_runV (As := [.int p4, .int p5]) (rest := []) ⟨hx, hb, hml, hown, hts⟩ (m_X5_holds l D cy g σ  dx19 p4 p5 _ hJ (show 5 ≤ dx19 ∧ dx19 < 9 from hdx19)) (cwV 2 hts (gd_V q1348 q1349 q1350 q133 q1351) rfl rfl rfl (by decide +kernel) ⟨(Nat.le_of_ble_eq_true rfl), (Nat.le_of_ble_eq_true rfl)⟩) (pv8 hP hK hD hC hS (rv8_5 hK hP hdx19)) rfl rfl hl.1 rfl (lv_room (Nat.le_of_ble_eq_true rfl)) dX8_paste_85 ⟨Nat.le_of_ble_eq_true rfl, Nat.le_of_ble_eq_true rfl⟩) hS (fun q _ h => up8 hS q h) (up8 hS) (fun r35 σ36 tS H1 locs ht hvm hw37 hB hz1 hk1 hS => ?_)
              have hP : va_P D clz (WD8 cy g σ36) H1 := by rw [← ht]; exact hB
              clear hB hz1 hk1 hvm ht
              generalize H1 = H at hP hS ⊢
              have hw37E : σ = σ36 := (hw37.1).symm
              subst hw37E
              have b38 : (0 : Int) ≤ r35.toInt ∧ r35.toInt ≤ 1 := hw37.2.1
              have b39 : (r35.toInt = 1 ∧ 0 ≤ p4.toInt ∧ 0 ≤ p5.toInt ∧ p4.toInt + p5.toInt ≤ ((σ dx19).1 2).toInt) ∨ (r35.toInt = 0 ∧ ¬ (0 ≤ p4.toInt ∧ 0 ≤ p5.toInt ∧ p4.toInt + p5.toInt ≤ ((σ dx19).1 2).toInt)) := hw37.2.2.1
              refine lv_if_ne (tgt := 94) hx hb dX8_paste_88 (by decide) (fun c40 => ?_) (fun c40 => ?_)
              ·
                have k41 := neq32 c40
                refine lv_aload hx hb dX8_paste_94 (lv_at hl 1 rfl) ?_
                refine g8_5_3 hx hb hts hown hK hP hdx18 (hts _ q423) dX8_paste_96 ?_
                refine lv_iload_n hx hb dX8_paste_99 rfl (lv_at hl 4 rfl) ?_
                refine lv_aload hx hb dX8_paste_100 (lv_at hl 0 rfl) ?_
                refine g8_5_3 hx hb hts hown hK hP hdx19 (hts _ q423) dX8_paste_102 ?_
                refine lv_iload hx hb dX8_paste_105 (lv_at hl 6 rfl) ?_
                refine lv_iload hx hb dX8_paste_107 (lv_at hl 7 rfl) ?_
                refine va_copyl (ty := .long) hx hb (hml.trans hl.1.symm) hown (hts _ q1352) (hts _ q708) (hts _ q707) (hts _ q141) hK hP (hD σ) hS (2 * dx18 + 16) (2 * dx19 + 16) 2 2 (at8_5_3 hdx18) (at8_5_3 hdx19) rfl rfl rfl (ncp (by have f0 := b31; have f1 := j8_5_2 hJ hdx18 rfl; have f2 := b30; have f3 := k34; have f4 := b39; have f5 := j8_5_2 hJ hdx19 rfl; have f6 := b38; have f7 := k41; have g2 := rg32 p2; have g3 := rg32 p4; have g4 := rg32 p5; have z0 : (0 : Int32).toInt = 0 := (by decide); omega)) (ncp (by have f0 := b39; have f1 := j8_5_2 hJ hdx19 rfl; have f2 := b31; have f3 := b38; have f4 := k41; have f5 := j8_5_2 hJ hdx18 rfl; have f6 := b30; have f7 := k34; have g2 := rg32 p2; have g3 := rg32 p4; have g4 := rg32 p5; have z0 : (0 : Int32).toInt = 0 := (by decide); omega)) (ncp (by have f0 := b31; have f1 := b39; have f2 := j8_5_2 hJ hdx19 rfl; have f3 := j8_5_2 hJ hdx18 rfl; have f4 := b30; have f5 := k34; have f6 := b38; have f7 := k41; have g2 := rg32 p2; have g3 := rg32 p4; have g4 := rg32 p5; have z0 : (0 : Int32).toInt = 0 := (by decide); omega)) (ncs (by have f0 := b31; have f1 := b39; have f2 := j8_5_2 hJ hdx19 rfl; have f3 := j8_5_2 hJ hdx18 rfl; have f4 := b30; have f5 := k34; have f6 := b38; have f7 := k41; have g2 := rg32 p2; have g3 := rg32 p4; have g4 := rg32 p5; have z0 : (0 : Int32).toInt = 0 := (by decide); omega)) (ncs (by have f0 := b31; have f1 := b39; have f2 := j8_5_2 hJ hdx19 rfl; have f3 := j8_5_2 hJ hdx18 rfl; have f4 := b30; have f5 := k34; have f6 := b38; have f7 := k41; have g2 := rg32 p2; have g3 := rg32 p4; have g4 := rg32 p5; have z0 : (0 : Int32).toInt = 0 := (by decide); omega)) (fun _ _ => rfl) (Nat.le_of_ble_eq_true rfl) (Nat.le_of_ble_eq_true rfl) dX8_paste_109 (fun H locs hP hDx hS => ?_)
                clear hDx
                have hP := vpe (set8_5_3 hdx19 (cy := cy) (g := g) (σ := σ) (f := va_cpy ((σ dx18).2.2.2 3) ((σ dx19).2.2.2 3) p2.toNatClampNeg p4.toNatClampNeg p5.toNatClampNeg)) hP
                obtain ⟨σ42, eσ42⟩ : ∃ z, z = sB σ dx19 3 (va_cpy ((σ dx18).2.2.2 3) ((σ dx19).2.2.2 3) p2.toNatClampNeg p4.toNatClampNeg p5.toNatClampNeg) := ⟨_, rfl⟩
                rw [← eσ42] at hP
                have hJ43 : J8 σ42 := hJ.B eσ42
                refine lv_iconst (v := 0) hx hb dX8_paste_112 (by decide) ?_
                exact W.iret (v := 0) hx hb hr (fun tS ht hW => ⟨⟨0, σ42, rfl, ⟨Fr.tr (Fr.rf) (sB_f eσ42) (fN_O (by have q := hdx19; simp; omega)), hJ43, (show (-8 : Int) ≤ (0 : Int32).toInt ∧ (0 : Int32).toInt ≤ 0 from (by have z0 : (0 : Int32).toInt = 0 := (by decide); omega)), (show (¬ (0 ≤ p1.toInt ∧ p1.toInt ≤ 3 ∧ 0 ≤ p3.toInt ∧ p3.toInt ≤ 3) ∧ (0 : Int32).toInt = -2) ∨ (0 ≤ p1.toInt ∧ p1.toInt ≤ 3 ∧ 0 ≤ p3.toInt ∧ p3.toInt ≤ 3 ∧ ¬ (¬ ((σ (5 + p1.toInt.toNat)).1 0).toInt = 0 ∧ ¬ ((σ (5 + p3.toInt.toNat)).1 0).toInt = 0) ∧ (0 : Int32).toInt = -6) ∨ (0 ≤ p1.toInt ∧ p1.toInt ≤ 3 ∧ 0 ≤ p3.toInt ∧ p3.toInt ≤ 3 ∧ ¬ ((σ (5 + p1.toInt.toNat)).1 0).toInt = 0 ∧ ¬ ((σ (5 + p3.toInt.toNat)).1 0).toInt = 0 ∧ ¬ ((σ (5 + p1.toInt.toNat)).1 1).toInt = ((σ (5 + p3.toInt.toNat)).1 1).toInt ∧ (0 : Int32).toInt = -8) ∨ (0 ≤ p1.toInt ∧ p1.toInt ≤ 3 ∧ 0 ≤ p3.toInt ∧ p3.toInt ≤ 3 ∧ ¬ ((σ (5 + p1.toInt.toNat)).1 0).toInt = 0 ∧ ¬ ((σ (5 + p3.toInt.toNat)).1 0).toInt = 0 ∧ ((σ (5 + p1.toInt.toNat)).1 1).toInt = ((σ (5 + p3.toInt.toNat)).1 1).toInt ∧ ¬ (0 ≤ p2.toInt ∧ 0 ≤ p4.toInt ∧ 0 ≤ p5.toInt ∧ p2.toInt + p5.toInt ≤ ((σ (5 + p1.toInt.toNat)).1 2).toInt ∧ p4.toInt + p5.toInt ≤ ((σ (5 + p3.toInt.toNat)).1 2).toInt) ∧ (0 : Int32).toInt = -7) ∨ (0 ≤ p1.toInt ∧ p1.toInt ≤ 3 ∧ 0 ≤ p3.toInt ∧ p3.toInt ≤ 3 ∧ ¬ ((σ (5 + p1.toInt.toNat)).1 0).toInt = 0 ∧ ¬ ((σ (5 + p3.toInt.toNat)).1 0).toInt = 0 ∧ ((σ (5 + p1.toInt.toNat)).1 1).toInt = ((σ (5 + p3.toInt.toNat)).1 1).toInt ∧ 0 ≤ p2.toInt ∧ 0 ≤ p4.toInt ∧ 0 ≤ p5.toInt ∧ p2.toInt + p5.toInt ≤ ((σ (5 + p1.toInt.toNat)).1 2).toInt ∧ p4.toInt + p5.toInt ≤ ((σ (5 + p3.toInt.toNat)).1 2).toInt ∧ (0 : Int32).toInt = 0) from (by rw [edx18, edx19]; have f0 := j8_5_0 hJ hdx19 rfl; have f1 := j8_5_2 hJ hdx19 rfl; have f2 := j8_5_2 hJ hdx18 rfl; have f3 := j8_5_0 hJ hdx18 rfl; have f4 := b5; have f5 := b6; have f6 := b14; have f7 := b15; have f8 := k22; have f9 := k24; have f10 := k26; have f11 := b31; have f12 := b39; have f13 := b4; have f14 := k9; have f15 := b13; have f16 := k17; have f17 := b30; have f18 := k34; have f19 := b38; have f20 := k41; have g6 := rg32 p1; have g7 := rg32 p2; have g8 := rg32 p3; have g9 := rg32 p4; have g10 := rg32 p5; have z0 : (0 : Int32).toInt = 0 := (by decide); exact (Or.inr (Or.inr (Or.inr (Or.inr (by omega))))))), (show FrI σ σ42 from (FrI.B eσ42)), trivial⟩, (show va_P D clz (WD8 cy g σ42) tS.heap by rw [ht]; exact hP)⟩, hS.F ht⟩) hS.2.2 dX8_paste_113
              ·
                have k44 := peq32 c40
                refine lv_bipush (v := (-7)) hx hb dX8_paste_91 (by decide) ?_
                exact W.iret (v := (-7)) hx hb hr (fun tS ht hW => ⟨⟨(-7), σ, rfl, ⟨Fr.rf, hJ, (show (-8 : Int) ≤ ((-7) : Int32).toInt ∧ ((-7) : Int32).toInt ≤ 0 from (by have zm7 : ((-7) : Int32).toInt = (-7) := (by decide); omega)), (show (¬ (0 ≤ p1.toInt ∧ p1.toInt ≤ 3 ∧ 0 ≤ p3.toInt ∧ p3.toInt ≤ 3) ∧ ((-7) : Int32).toInt = -2) ∨ (0 ≤ p1.toInt ∧ p1.toInt ≤ 3 ∧ 0 ≤ p3.toInt ∧ p3.toInt ≤ 3 ∧ ¬ (¬ ((σ (5 + p1.toInt.toNat)).1 0).toInt = 0 ∧ ¬ ((σ (5 + p3.toInt.toNat)).1 0).toInt = 0) ∧ ((-7) : Int32).toInt = -6) ∨ (0 ≤ p1.toInt ∧ p1.toInt ≤ 3 ∧ 0 ≤ p3.toInt ∧ p3.toInt ≤ 3 ∧ ¬ ((σ (5 + p1.toInt.toNat)).1 0).toInt = 0 ∧ ¬ ((σ (5 + p3.toInt.toNat)).1 0).toInt = 0 ∧ ¬ ((σ (5 + p1.toInt.toNat)).1 1).toInt = ((σ (5 + p3.toInt.toNat)).1 1).toInt ∧ ((-7) : Int32).toInt = -8) ∨ (0 ≤ p1.toInt ∧ p1.toInt ≤ 3 ∧ 0 ≤ p3.toInt ∧ p3.toInt ≤ 3 ∧ ¬ ((σ (5 + p1.toInt.toNat)).1 0).toInt = 0 ∧ ¬ ((σ (5 + p3.toInt.toNat)).1 0).toInt = 0 ∧ ((σ (5 + p1.toInt.toNat)).1 1).toInt = ((σ (5 + p3.toInt.toNat)).1 1).toInt ∧ ¬ (0 ≤ p2.toInt ∧ 0 ≤ p4.toInt ∧ 0 ≤ p5.toInt ∧ p2.toInt + p5.toInt ≤ ((σ (5 + p1.toInt.toNat)).1 2).toInt ∧ p4.toInt + p5.toInt ≤ ((σ (5 + p3.toInt.toNat)).1 2).toInt) ∧ ((-7) : Int32).toInt = -7) ∨ (0 ≤ p1.toInt ∧ p1.toInt ≤ 3 ∧ 0 ≤ p3.toInt ∧ p3.toInt ≤ 3 ∧ ¬ ((σ (5 + p1.toInt.toNat)).1 0).toInt = 0 ∧ ¬ ((σ (5 + p3.toInt.toNat)).1 0).toInt = 0 ∧ ((σ (5 + p1.toInt.toNat)).1 1).toInt = ((σ (5 + p3.toInt.toNat)).1 1).toInt ∧ 0 ≤ p2.toInt ∧ 0 ≤ p4.toInt ∧ 0 ≤ p5.toInt ∧ p2.toInt + p5.toInt ≤ ((σ (5 + p1.toInt.toNat)).1 2).toInt ∧ p4.toInt + p5.toInt ≤ ((σ (5 + p3.toInt.toNat)).1 2).toInt ∧ ((-7) : Int32).toInt = 0) from (by rw [edx18, edx19]; have f0 := j8_5_0 hJ hdx19 rfl; have f1 := j8_5_2 hJ hdx19 rfl; have f2 := j8_5_2 hJ hdx18 rfl; have f3 := j8_5_0 hJ hdx18 rfl; have f4 := b5; have f5 := b6; have f6 := b14; have f7 := b15; have f8 := k22; have f9 := k24; have f10 := k26; have f11 := b31; have f12 := b39; have f13 := b4; have f14 := k9; have f15 := b13; have f16 := k17; have f17 := b30; have f18 := k34; have f19 := b38; have f20 := k44; have g6 := rg32 p1; have g7 := rg32 p2; have g8 := rg32 p3; have g9 := rg32 p4; have g10 := rg32 p5; have zm7 : ((-7) : Int32).toInt = (-7) := (by decide); have z0 : (0 : Int32).toInt = 0 := (by decide); exact (Or.inr (Or.inr (Or.inr (Or.inl (by omega))))))), (show FrI σ σ from (fun _ _ => rfl)), trivial⟩, (show va_P D clz (WD8 cy g σ) tS.heap by rw [ht]; exact hP)⟩, hS.F ht⟩) hS.2.2 dX8_paste_93
          ·
            have k45 := neq32 c25
            refine lv_bipush (v := (-8)) hx hb dX8_paste_65 (by decide) ?_
            exact W.iret (v := (-8)) hx hb hr (fun tS ht hW => ⟨⟨(-8), σ, rfl, ⟨Fr.rf, hJ, (show (-8 : Int) ≤ ((-8) : Int32).toInt ∧ ((-8) : Int32).toInt ≤ 0 from (by have zm8 : ((-8) : Int32).toInt = (-8) := (by decide); omega)), (show (¬ (0 ≤ p1.toInt ∧ p1.toInt ≤ 3 ∧ 0 ≤ p3.toInt ∧ p3.toInt ≤ 3) ∧ ((-8) : Int32).toInt = -2) ∨ (0 ≤ p1.toInt ∧ p1.toInt ≤ 3 ∧ 0 ≤ p3.toInt ∧ p3.toInt ≤ 3 ∧ ¬ (¬ ((σ (5 + p1.toInt.toNat)).1 0).toInt = 0 ∧ ¬ ((σ (5 + p3.toInt.toNat)).1 0).toInt = 0) ∧ ((-8) : Int32).toInt = -6) ∨ (0 ≤ p1.toInt ∧ p1.toInt ≤ 3 ∧ 0 ≤ p3.toInt ∧ p3.toInt ≤ 3 ∧ ¬ ((σ (5 + p1.toInt.toNat)).1 0).toInt = 0 ∧ ¬ ((σ (5 + p3.toInt.toNat)).1 0).toInt = 0 ∧ ¬ ((σ (5 + p1.toInt.toNat)).1 1).toInt = ((σ (5 + p3.toInt.toNat)).1 1).toInt ∧ ((-8) : Int32).toInt = -8) ∨ (0 ≤ p1.toInt ∧ p1.toInt ≤ 3 ∧ 0 ≤ p3.toInt ∧ p3.toInt ≤ 3 ∧ ¬ ((σ (5 + p1.toInt.toNat)).1 0).toInt = 0 ∧ ¬ ((σ (5 + p3.toInt.toNat)).1 0).toInt = 0 ∧ ((σ (5 + p1.toInt.toNat)).1 1).toInt = ((σ (5 + p3.toInt.toNat)).1 1).toInt ∧ ¬ (0 ≤ p2.toInt ∧ 0 ≤ p4.toInt ∧ 0 ≤ p5.toInt ∧ p2.toInt + p5.toInt ≤ ((σ (5 + p1.toInt.toNat)).1 2).toInt ∧ p4.toInt + p5.toInt ≤ ((σ (5 + p3.toInt.toNat)).1 2).toInt) ∧ ((-8) : Int32).toInt = -7) ∨ (0 ≤ p1.toInt ∧ p1.toInt ≤ 3 ∧ 0 ≤ p3.toInt ∧ p3.toInt ≤ 3 ∧ ¬ ((σ (5 + p1.toInt.toNat)).1 0).toInt = 0 ∧ ¬ ((σ (5 + p3.toInt.toNat)).1 0).toInt = 0 ∧ ((σ (5 + p1.toInt.toNat)).1 1).toInt = ((σ (5 + p3.toInt.toNat)).1 1).toInt ∧ 0 ≤ p2.toInt ∧ 0 ≤ p4.toInt ∧ 0 ≤ p5.toInt ∧ p2.toInt + p5.toInt ≤ ((σ (5 + p1.toInt.toNat)).1 2).toInt ∧ p4.toInt + p5.toInt ≤ ((σ (5 + p3.toInt.toNat)).1 2).toInt ∧ ((-8) : Int32).toInt = 0) from (by rw [edx18, edx19]; have f0 := j8_5_0 hJ hdx19 rfl; have f1 := j8_5_2 hJ hdx19 rfl; have f2 := j8_5_2 hJ hdx18 rfl; have f3 := j8_5_0 hJ hdx18 rfl; have f4 := b5; have f5 := b6; have f6 := b14; have f7 := b15; have f8 := k22; have f9 := k24; have f10 := k45; have f11 := b4; have f12 := k9; have f13 := b13; have f14 := k17; have g6 := rg32 p1; have g7 := rg32 p2; have g8 := rg32 p3; have g9 := rg32 p4; have g10 := rg32 p5; have zm8 : ((-8) : Int32).toInt = (-8) := (by decide); have z0 : (0 : Int32).toInt = 0 := (by decide); exact (Or.inr (Or.inr (Or.inl (by omega)))))), (show FrI σ σ from (fun _ _ => rfl)), trivial⟩, (show va_P D clz (WD8 cy g σ) tS.heap by rw [ht]; exact hP)⟩, hS.F ht⟩) hS.2.2 dX8_paste_67
        ·
          have k46 := peq32 c23
          refine lv_bipush (v := (-6)) hx hb dX8_paste_49 (by decide) ?_
          exact W.iret (v := (-6)) hx hb hr (fun tS ht hW => ⟨⟨(-6), σ, rfl, ⟨Fr.rf, hJ, (show (-8 : Int) ≤ ((-6) : Int32).toInt ∧ ((-6) : Int32).toInt ≤ 0 from (by have zm6 : ((-6) : Int32).toInt = (-6) := (by decide); omega)), (show (¬ (0 ≤ p1.toInt ∧ p1.toInt ≤ 3 ∧ 0 ≤ p3.toInt ∧ p3.toInt ≤ 3) ∧ ((-6) : Int32).toInt = -2) ∨ (0 ≤ p1.toInt ∧ p1.toInt ≤ 3 ∧ 0 ≤ p3.toInt ∧ p3.toInt ≤ 3 ∧ ¬ (¬ ((σ (5 + p1.toInt.toNat)).1 0).toInt = 0 ∧ ¬ ((σ (5 + p3.toInt.toNat)).1 0).toInt = 0) ∧ ((-6) : Int32).toInt = -6) ∨ (0 ≤ p1.toInt ∧ p1.toInt ≤ 3 ∧ 0 ≤ p3.toInt ∧ p3.toInt ≤ 3 ∧ ¬ ((σ (5 + p1.toInt.toNat)).1 0).toInt = 0 ∧ ¬ ((σ (5 + p3.toInt.toNat)).1 0).toInt = 0 ∧ ¬ ((σ (5 + p1.toInt.toNat)).1 1).toInt = ((σ (5 + p3.toInt.toNat)).1 1).toInt ∧ ((-6) : Int32).toInt = -8) ∨ (0 ≤ p1.toInt ∧ p1.toInt ≤ 3 ∧ 0 ≤ p3.toInt ∧ p3.toInt ≤ 3 ∧ ¬ ((σ (5 + p1.toInt.toNat)).1 0).toInt = 0 ∧ ¬ ((σ (5 + p3.toInt.toNat)).1 0).toInt = 0 ∧ ((σ (5 + p1.toInt.toNat)).1 1).toInt = ((σ (5 + p3.toInt.toNat)).1 1).toInt ∧ ¬ (0 ≤ p2.toInt ∧ 0 ≤ p4.toInt ∧ 0 ≤ p5.toInt ∧ p2.toInt + p5.toInt ≤ ((σ (5 + p1.toInt.toNat)).1 2).toInt ∧ p4.toInt + p5.toInt ≤ ((σ (5 + p3.toInt.toNat)).1 2).toInt) ∧ ((-6) : Int32).toInt = -7) ∨ (0 ≤ p1.toInt ∧ p1.toInt ≤ 3 ∧ 0 ≤ p3.toInt ∧ p3.toInt ≤ 3 ∧ ¬ ((σ (5 + p1.toInt.toNat)).1 0).toInt = 0 ∧ ¬ ((σ (5 + p3.toInt.toNat)).1 0).toInt = 0 ∧ ((σ (5 + p1.toInt.toNat)).1 1).toInt = ((σ (5 + p3.toInt.toNat)).1 1).toInt ∧ 0 ≤ p2.toInt ∧ 0 ≤ p4.toInt ∧ 0 ≤ p5.toInt ∧ p2.toInt + p5.toInt ≤ ((σ (5 + p1.toInt.toNat)).1 2).toInt ∧ p4.toInt + p5.toInt ≤ ((σ (5 + p3.toInt.toNat)).1 2).toInt ∧ ((-6) : Int32).toInt = 0) from (by rw [edx18, edx19]; have f0 := j8_5_0 hJ hdx19 rfl; have f1 := j8_5_2 hJ hdx19 rfl; have f2 := j8_5_2 hJ hdx18 rfl; have f3 := j8_5_0 hJ hdx18 rfl; have f4 := b5; have f5 := b6; have f6 := b14; have f7 := b15; have f8 := k22; have f9 := k46; have f10 := b4; have f11 := k9; have f12 := b13; have f13 := k17; have g6 := rg32 p1; have g7 := rg32 p2; have g8 := rg32 p3; have g9 := rg32 p4; have g10 := rg32 p5; have zm6 : ((-6) : Int32).toInt = (-6) := (by decide); have z0 : (0 : Int32).toInt = 0 := (by decide); exact (Or.inr (Or.inl (by omega))))), (show FrI σ σ from (fun _ _ => rfl)), trivial⟩, (show va_P D clz (WD8 cy g σ) tS.heap by rw [ht]; exact hP)⟩, hS.F ht⟩) hS.2.2 dX8_paste_51
    ·
      have k47 := peq32 c16
      refine lv_bipush (v := (-2)) hx hb dX8_paste_14 (by decide) ?_
      exact W.iret (v := (-2)) hx hb hr (fun tS ht hW => ⟨⟨(-2), σ, rfl, ⟨Fr.rf, hJ, (show (-8 : Int) ≤ ((-2) : Int32).toInt ∧ ((-2) : Int32).toInt ≤ 0 from (by have zm2 : ((-2) : Int32).toInt = (-2) := (by decide); omega)), (show (¬ (0 ≤ p1.toInt ∧ p1.toInt ≤ 3 ∧ 0 ≤ p3.toInt ∧ p3.toInt ≤ 3) ∧ ((-2) : Int32).toInt = -2) ∨ (0 ≤ p1.toInt ∧ p1.toInt ≤ 3 ∧ 0 ≤ p3.toInt ∧ p3.toInt ≤ 3 ∧ ¬ (¬ ((σ (5 + p1.toInt.toNat)).1 0).toInt = 0 ∧ ¬ ((σ (5 + p3.toInt.toNat)).1 0).toInt = 0) ∧ ((-2) : Int32).toInt = -6) ∨ (0 ≤ p1.toInt ∧ p1.toInt ≤ 3 ∧ 0 ≤ p3.toInt ∧ p3.toInt ≤ 3 ∧ ¬ ((σ (5 + p1.toInt.toNat)).1 0).toInt = 0 ∧ ¬ ((σ (5 + p3.toInt.toNat)).1 0).toInt = 0 ∧ ¬ ((σ (5 + p1.toInt.toNat)).1 1).toInt = ((σ (5 + p3.toInt.toNat)).1 1).toInt ∧ ((-2) : Int32).toInt = -8) ∨ (0 ≤ p1.toInt ∧ p1.toInt ≤ 3 ∧ 0 ≤ p3.toInt ∧ p3.toInt ≤ 3 ∧ ¬ ((σ (5 + p1.toInt.toNat)).1 0).toInt = 0 ∧ ¬ ((σ (5 + p3.toInt.toNat)).1 0).toInt = 0 ∧ ((σ (5 + p1.toInt.toNat)).1 1).toInt = ((σ (5 + p3.toInt.toNat)).1 1).toInt ∧ ¬ (0 ≤ p2.toInt ∧ 0 ≤ p4.toInt ∧ 0 ≤ p5.toInt ∧ p2.toInt + p5.toInt ≤ ((σ (5 + p1.toInt.toNat)).1 2).toInt ∧ p4.toInt + p5.toInt ≤ ((σ (5 + p3.toInt.toNat)).1 2).toInt) ∧ ((-2) : Int32).toInt = -7) ∨ (0 ≤ p1.toInt ∧ p1.toInt ≤ 3 ∧ 0 ≤ p3.toInt ∧ p3.toInt ≤ 3 ∧ ¬ ((σ (5 + p1.toInt.toNat)).1 0).toInt = 0 ∧ ¬ ((σ (5 + p3.toInt.toNat)).1 0).toInt = 0 ∧ ((σ (5 + p1.toInt.toNat)).1 1).toInt = ((σ (5 + p3.toInt.toNat)).1 1).toInt ∧ 0 ≤ p2.toInt ∧ 0 ≤ p4.toInt ∧ 0 ≤ p5.toInt ∧ p2.toInt + p5.toInt ≤ ((σ (5 + p1.toInt.toNat)).1 2).toInt ∧ p4.toInt + p5.toInt ≤ ((σ (5 + p3.toInt.toNat)).1 2).toInt ∧ ((-2) : Int32).toInt = 0) from (by have f0 := b5; have f1 := b6; have f2 := b14; have f3 := b15; have f4 := b4; have f5 := k9; have f6 := b13; have f7 := k47; have g0 := rg32 p1; have g1 := rg32 p2; have g2 := rg32 p3; have g3 := rg32 p4; have g4 := rg32 p5; have zm2 : ((-2) : Int32).toInt = (-2) := (by decide); have z0 : (0 : Int32).toInt = 0 := (by decide); exact (Or.inl (by omega)))), (show FrI σ σ from (fun _ _ => rfl)), trivial⟩, (show va_P D clz (WD8 cy g σ) tS.heap by rw [ht]; exact hP)⟩, hS.F ht⟩) hS.2.2 dX8_paste_16

