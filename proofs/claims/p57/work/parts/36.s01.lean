theorem q502 : Cond.code yX4_takeToken cX4_takeToken 2 none ∈ lw_g := lw_gm (List.mem_of_getElem? (i := 502) (by decide +kernel)) rfl
theorem q164 : Cond.fieldLink RX4 30 "LipsAndSlides$Reader" "next" "I" ∈ lw_g := lw_gm (List.mem_of_getElem? (i := 164) (by decide +kernel)) rfl
theorem q165 : Cond.fieldLink RX4 172 "LipsAndSlides$Reader" "place" "I" ∈ lw_g := lw_gm (List.mem_of_getElem? (i := 165) (by decide +kernel)) rfl
theorem q503 : Cond.methodLink RX4 180 yX4_byteAt ∈ lw_g := lw_gm (List.mem_of_getElem? (i := 503) (by decide +kernel)) rfl
theorem q505 : Cond.instanceMethod yX4_byteAt ∈ lw_g := lw_gm (List.mem_of_getElem? (i := 505) (by decide +kernel)) rfl
theorem q1 : Cond.selects RX4 yX4_byteAt yX4_byteAt ∈ lw_g := lw_gm (List.mem_of_getElem? (i := 1) (by decide +kernel)) rfl
theorem q507 : Cond.methodLink RX4 187 yX4_kindOf ∈ lw_g := lw_gm (List.mem_of_getElem? (i := 507) (by decide +kernel)) rfl
theorem q508 : Cond.static yX4_kindOf ∈ lw_g := lw_gm (List.mem_of_getElem? (i := 508) (by decide +kernel)) rfl
theorem q166 : Cond.fieldLink RX4 36 "LipsAndSlides$Reader" "token" "I" ∈ lw_g := lw_gm (List.mem_of_getElem? (i := 166) (by decide +kernel)) rfl
theorem q167 : Cond.fieldLink RX4 169 "LipsAndSlides$Reader" "value" "I" ∈ lw_g := lw_gm (List.mem_of_getElem? (i := 167) (by decide +kernel)) rfl
theorem q510 : Cond.constant RX4 190 (1000000) ∈ lw_g := lw_gm (List.mem_of_getElem? (i := 510) (by decide +kernel)) rfl
theorem q511 : Cond.methodLink RX4 191 Lib.Math.min.name ∈ lw_g := lw_gm (List.mem_of_getElem? (i := 511) (by decide +kernel)) rfl
theorem q512 : Cond.static Lib.Math.min.name ∈ lw_g := lw_gm (List.mem_of_getElem? (i := 512) (by decide +kernel)) rfl
theorem q135 : Cond.initialized "java/lang/Math" ∈ lw_g := lw_gm (List.mem_of_getElem? (i := 135) (by decide +kernel)) rfl
theorem q513 : Cond.code Lib.Math.min.name Lib.Math.min.code 2 (some .int) ∈ lw_g := lw_gm (List.mem_of_getElem? (i := 513) (by decide +kernel)) rfl
theorem dX4_takeToken_0 : decode cX4_takeToken 0 = .ok (.iconst 0, 1) := by decide +kernel
theorem dX4_takeToken_1 : decode cX4_takeToken 1 = .ok (.istore_n 1, 1) := by decide +kernel
theorem dX4_takeToken_2 : decode cX4_takeToken 2 = .ok (.iload_n 1, 1) := by decide +kernel
theorem dX4_takeToken_3 : decode cX4_takeToken 3 = .ok (.sipush 2000, 3) := by decide +kernel
theorem dX4_takeToken_6 : decode cX4_takeToken 6 = .ok (.if_icmp .ge 34, 3) := by decide +kernel
theorem dX4_takeToken_9 : decode cX4_takeToken 9 = .ok (.aload_n 0, 1) := by decide +kernel
theorem dX4_takeToken_10 : decode cX4_takeToken 10 = .ok (.aload_n 0, 1) := by decide +kernel
theorem dX4_takeToken_11 : decode cX4_takeToken 11 = .ok (.getfield 30, 3) := by decide +kernel
theorem dX4_takeToken_14 : decode cX4_takeToken 14 = .ok (.invokevirtual 180, 3) := by decide +kernel
theorem dX4_takeToken_17 : decode cX4_takeToken 17 = .ok (.invokestatic 187, 3) := by decide +kernel
theorem dX4_takeToken_20 : decode cX4_takeToken 20 = .ok (.iconst 5, 1) := by decide +kernel
theorem dX4_takeToken_21 : decode cX4_takeToken 21 = .ok (.if_icmp .ne 19, 3) := by decide +kernel
theorem dX4_takeToken_24 : decode cX4_takeToken 24 = .ok (.aload_n 0, 1) := by decide +kernel
theorem dX4_takeToken_25 : decode cX4_takeToken 25 = .ok (.dup, 1) := by decide +kernel
theorem dX4_takeToken_26 : decode cX4_takeToken 26 = .ok (.getfield 30, 3) := by decide +kernel
theorem dX4_takeToken_29 : decode cX4_takeToken 29 = .ok (.iconst 1, 1) := by decide +kernel
theorem dX4_takeToken_30 : decode cX4_takeToken 30 = .ok (.iadd, 1) := by decide +kernel
theorem dX4_takeToken_31 : decode cX4_takeToken 31 = .ok (.putfield 30, 3) := by decide +kernel
theorem dX4_takeToken_34 : decode cX4_takeToken 34 = .ok (.iinc 1 1, 3) := by decide +kernel
theorem dX4_takeToken_37 : decode cX4_takeToken 37 = .ok (.goto (-35), 3) := by decide +kernel
theorem dX4_takeToken_40 : decode cX4_takeToken 40 = .ok (.aload_n 0, 1) := by decide +kernel
theorem dX4_takeToken_41 : decode cX4_takeToken 41 = .ok (.aload_n 0, 1) := by decide +kernel
theorem dX4_takeToken_42 : decode cX4_takeToken 42 = .ok (.getfield 30, 3) := by decide +kernel
theorem dX4_takeToken_45 : decode cX4_takeToken 45 = .ok (.putfield 172, 3) := by decide +kernel
theorem dX4_takeToken_48 : decode cX4_takeToken 48 = .ok (.aload_n 0, 1) := by decide +kernel
theorem dX4_takeToken_49 : decode cX4_takeToken 49 = .ok (.aload_n 0, 1) := by decide +kernel
theorem dX4_takeToken_50 : decode cX4_takeToken 50 = .ok (.aload_n 0, 1) := by decide +kernel
theorem dX4_takeToken_51 : decode cX4_takeToken 51 = .ok (.getfield 30, 3) := by decide +kernel
theorem dX4_takeToken_54 : decode cX4_takeToken 54 = .ok (.invokevirtual 180, 3) := by decide +kernel
theorem dX4_takeToken_57 : decode cX4_takeToken 57 = .ok (.invokestatic 187, 3) := by decide +kernel
theorem dX4_takeToken_60 : decode cX4_takeToken 60 = .ok (.putfield 36, 3) := by decide +kernel
theorem dX4_takeToken_63 : decode cX4_takeToken 63 = .ok (.aload_n 0, 1) := by decide +kernel
theorem dX4_takeToken_64 : decode cX4_takeToken 64 = .ok (.iconst 0, 1) := by decide +kernel
theorem dX4_takeToken_65 : decode cX4_takeToken 65 = .ok (.putfield 169, 3) := by decide +kernel
theorem dX4_takeToken_68 : decode cX4_takeToken 68 = .ok (.iconst 0, 1) := by decide +kernel
theorem dX4_takeToken_69 : decode cX4_takeToken 69 = .ok (.istore_n 1, 1) := by decide +kernel
theorem dX4_takeToken_70 : decode cX4_takeToken 70 = .ok (.iload_n 1, 1) := by decide +kernel
theorem dX4_takeToken_71 : decode cX4_takeToken 71 = .ok (.sipush 2000, 3) := by decide +kernel
theorem dX4_takeToken_74 : decode cX4_takeToken 74 = .ok (.if_icmp .ge 99, 3) := by decide +kernel
theorem dX4_takeToken_77 : decode cX4_takeToken 77 = .ok (.aload_n 0, 1) := by decide +kernel
theorem dX4_takeToken_78 : decode cX4_takeToken 78 = .ok (.getfield 36, 3) := by decide +kernel
theorem dX4_takeToken_81 : decode cX4_takeToken 81 = .ok (.ifCond .eq 92, 3) := by decide +kernel
theorem dX4_takeToken_84 : decode cX4_takeToken 84 = .ok (.aload_n 0, 1) := by decide +kernel
theorem dX4_takeToken_85 : decode cX4_takeToken 85 = .ok (.aload_n 0, 1) := by decide +kernel
theorem dX4_takeToken_86 : decode cX4_takeToken 86 = .ok (.getfield 30, 3) := by decide +kernel
theorem dX4_takeToken_89 : decode cX4_takeToken 89 = .ok (.invokevirtual 180, 3) := by decide +kernel
theorem dX4_takeToken_92 : decode cX4_takeToken 92 = .ok (.invokestatic 187, 3) := by decide +kernel
theorem dX4_takeToken_95 : decode cX4_takeToken 95 = .ok (.aload_n 0, 1) := by decide +kernel
theorem dX4_takeToken_96 : decode cX4_takeToken 96 = .ok (.getfield 36, 3) := by decide +kernel
theorem dX4_takeToken_99 : decode cX4_takeToken 99 = .ok (.if_icmp .ne 74, 3) := by decide +kernel
theorem dX4_takeToken_102 : decode cX4_takeToken 102 = .ok (.aload_n 0, 1) := by decide +kernel
theorem dX4_takeToken_103 : decode cX4_takeToken 103 = .ok (.getfield 36, 3) := by decide +kernel
theorem dX4_takeToken_106 : decode cX4_takeToken 106 = .ok (.iconst 2, 1) := by decide +kernel
theorem dX4_takeToken_107 : decode cX4_takeToken 107 = .ok (.if_icmp .ne 31, 3) := by decide +kernel
theorem dX4_takeToken_110 : decode cX4_takeToken 110 = .ok (.aload_n 0, 1) := by decide +kernel
theorem dX4_takeToken_111 : decode cX4_takeToken 111 = .ok (.ldc 190, 2) := by decide +kernel
theorem dX4_takeToken_113 : decode cX4_takeToken 113 = .ok (.aload_n 0, 1) := by decide +kernel
theorem dX4_takeToken_114 : decode cX4_takeToken 114 = .ok (.getfield 169, 3) := by decide +kernel
theorem dX4_takeToken_117 : decode cX4_takeToken 117 = .ok (.bipush 10, 2) := by decide +kernel
theorem dX4_takeToken_119 : decode cX4_takeToken 119 = .ok (.imul, 1) := by decide +kernel
theorem dX4_takeToken_120 : decode cX4_takeToken 120 = .ok (.aload_n 0, 1) := by decide +kernel
theorem dX4_takeToken_121 : decode cX4_takeToken 121 = .ok (.aload_n 0, 1) := by decide +kernel
theorem dX4_takeToken_122 : decode cX4_takeToken 122 = .ok (.getfield 30, 3) := by decide +kernel
theorem dX4_takeToken_125 : decode cX4_takeToken 125 = .ok (.invokevirtual 180, 3) := by decide +kernel
theorem dX4_takeToken_128 : decode cX4_takeToken 128 = .ok (.iadd, 1) := by decide +kernel
theorem dX4_takeToken_129 : decode cX4_takeToken 129 = .ok (.bipush 48, 2) := by decide +kernel
theorem dX4_takeToken_131 : decode cX4_takeToken 131 = .ok (.isub, 1) := by decide +kernel
theorem dX4_takeToken_132 : decode cX4_takeToken 132 = .ok (.invokestatic 191, 3) := by decide +kernel
theorem dX4_takeToken_135 : decode cX4_takeToken 135 = .ok (.putfield 169, 3) := by decide +kernel
theorem dX4_takeToken_138 : decode cX4_takeToken 138 = .ok (.aload_n 0, 1) := by decide +kernel
theorem dX4_takeToken_139 : decode cX4_takeToken 139 = .ok (.dup, 1) := by decide +kernel
theorem dX4_takeToken_140 : decode cX4_takeToken 140 = .ok (.getfield 30, 3) := by decide +kernel
theorem dX4_takeToken_143 : decode cX4_takeToken 143 = .ok (.iconst 1, 1) := by decide +kernel
theorem dX4_takeToken_144 : decode cX4_takeToken 144 = .ok (.iadd, 1) := by decide +kernel
theorem dX4_takeToken_145 : decode cX4_takeToken 145 = .ok (.putfield 30, 3) := by decide +kernel
theorem dX4_takeToken_148 : decode cX4_takeToken 148 = .ok (.aload_n 0, 1) := by decide +kernel
theorem dX4_takeToken_149 : decode cX4_takeToken 149 = .ok (.getfield 36, 3) := by decide +kernel
theorem dX4_takeToken_152 : decode cX4_takeToken 152 = .ok (.iconst 3, 1) := by decide +kernel
theorem dX4_takeToken_153 : decode cX4_takeToken 153 = .ok (.if_icmp .eq 20, 3) := by decide +kernel
theorem dX4_takeToken_156 : decode cX4_takeToken 156 = .ok (.aload_n 0, 1) := by decide +kernel
theorem dX4_takeToken_157 : decode cX4_takeToken 157 = .ok (.getfield 36, 3) := by decide +kernel
theorem dX4_takeToken_160 : decode cX4_takeToken 160 = .ok (.iconst 4, 1) := by decide +kernel
theorem dX4_takeToken_161 : decode cX4_takeToken 161 = .ok (.if_icmp .ne 6, 3) := by decide +kernel
theorem dX4_takeToken_164 : decode cX4_takeToken 164 = .ok (.goto 9, 3) := by decide +kernel
theorem dX4_takeToken_167 : decode cX4_takeToken 167 = .ok (.iinc 1 1, 3) := by decide +kernel
theorem dX4_takeToken_170 : decode cX4_takeToken 170 = .ok (.goto (-100), 3) := by decide +kernel
theorem dX4_takeToken_173 : decode cX4_takeToken 173 = .ok (.return_, 1) := by decide +kernel
set_option maxHeartbeats 4000000 in
set_option maxRecDepth 100000 in
theorem m_X4_takeToken (l : Launch) (D : va_G) (cy : Nat → ClassId) (g : Nat → Nat) (σ : ST)  (sz : Nat) (hJ : J8 σ)  : Met l yX4_takeToken (ww yX4_takeToken cX4_takeToken 2 none) ({ frames := 2, cells := 0, slots := 0, locals := 128 }) (va_Pc [.ref (gO g 12)] (pr8 D cy g σ sz)) (qv8 D cy g sz (fun τ => Fr (fO [12]) σ τ ∧ J8 τ ∧ True)) 0 0 (A8 cy g sz) := by
  refine Met.ofW (cc := cX4_takeToken) (maxL := 2) (ret := none) (by decide) rfl ?_
  intro p e s m args below meth c s₁ B hml hv
  obtain ⟨rfl, hsz, hP, hK, hD0, hC⟩ := hv
  have hx := B.exec
  have hb := B.bytes
  have hr := B.returns
  have hts := hts_g (atoms_spec (ws := ww yX4_takeToken cX4_takeToken 2 none) B.pre)
  have hown : s.vm.findClass RX4 = some m.cls := findClass_of_methodNamed B.named
  have hlocks := B.notSynchronized
  clear B
  subst hsz
  have hD := fun τ => A8_D (sz := s.heap.size) hD0 τ
  clear hD0
  have hS : va_S (A8 cy g s.heap.size) s.heap s.heap [] := va_S.rf
  have hl := lv_entry ([.ref (gO g 12)]) (n := 2) (Nat.le_of_ble_eq_true rfl)
  rw [lg_entry_eq]
  generalize (lg_sl ([.ref (gO g 12)]) ++ List.replicate (2 - (lg_sl ([.ref (gO g 12)])).length) Slot.unset).toArray = ls at hl ⊢
  have hl : lv_has ls 2 [(0, .ref (gO g 12))] := hl
  refine lv_iconst (v := 0) hx hb dX4_takeToken_0 (by decide) ?_
  refine lv_istore_n (lv' := [(1, .int 0), (0, .ref (gO g 12))]) hx hb dX4_takeToken_1 rfl hl (by decide) rfl (fun ls hl => ?_)
  refine loop8 2 2 (fun x : LZ => [(1, .int (x.2.1 0)), (0, .ref (gO g 12))]) (fun x : LZ => (Fr (fO [12]) σ x.1) ∧ (J8 x.1) ∧ ((0 : Int) ≤ (x.2.1 0).toInt ∧ (x.2.1 0).toInt ≤ 2000) ∧ True) (fun x : LZ => ((2001 : Int) - (x.2.1 0).toInt).toNat) ?_ (σ, lf [0], lg []) ⟨Fr.rf, hJ, (show (0 : Int) ≤ (0 : Int32).toInt ∧ (0 : Int32).toInt ≤ 2000 from (by have z0 : (0 : Int32).toInt = 0 := (by decide); omega)), trivial⟩ _ _ _ hP hS (lv_sub hl [0, 1] rfl)
  intro y3 hI2 nl1 H locs ls hP hS hl
  obtain ⟨σ4, eσ4⟩ : ∃ z, z = y3.1 := ⟨_, rfl⟩
  rw [← eσ4] at hP hI2
  have hF5 : Fr (fO [12]) σ σ4 := hI2.1
  have hJ6 : J8 σ4 := hI2.2.1
  have b7 : (0 : Int) ≤ (y3.2.1 0).toInt ∧ (y3.2.1 0).toInt ≤ 2000 := hI2.2.2.1
  have hl : lv_has ls 2 [(1, .int (y3.2.1 0)), (0, .ref (gO g 12))] := hl
  refine lv_iload_n hx hb dX4_takeToken_2 rfl (lv_at hl 0 rfl) ?_
  refine lv_sipush (v := 2000) hx hb dX4_takeToken_3 (by decide) ?_
  refine cut8 (D := D) (cy := cy) (g := g) (A := A8 cy g s.heap.size) (H0 := s.heap) 2 40 (fun x : LZ => [(1, .int (y3.2.1 0)), (0, .ref (gO g 12))]) (fun x : LZ => []) (fun x : LZ => (x.1 = σ4) ∧ True) ?_ ?_
  ·
    intro y10 hI9 H locs ls hP hS hl
    rw [show y10.1 = σ4 from hI9.1] at hP
    have hl : lv_has ls 2 [(1, .int (y3.2.1 0)), (0, .ref (gO g 12))] := hl
    refine lv_aload_n hx hb dX4_takeToken_40 rfl (lv_at hl 1 rfl) ?_
    refine lv_aload_n hx hb dX4_takeToken_41 rfl (lv_at hl 1 rfl) ?_
    refine g8_4_4 (x := ((σ4 12).1 4)) hx hb hts hown hK hP (rfl) (hts _ q164) dX4_takeToken_42 ?_
    refine p8_4_5 hx hb hts hown hK hP hD hS (hts _ q165) dX4_takeToken_45 (fun H locs σ11 eσ11 hP hS => ?_)
    have hJ12 : J8 σ11 := hJ6.I eσ11 rfl (show JI8 4 5 ((σ4 12).1 4) from trivial)
    refine lv_aload_n hx hb dX4_takeToken_48 rfl (lv_at hl 1 rfl) ?_
    refine lv_aload_n hx hb dX4_takeToken_49 rfl (lv_at hl 1 rfl) ?_
    refine lv_aload_n hx hb dX4_takeToken_50 rfl (lv_at hl 1 rfl) ?_
    refine g8_4_4 (x := ((σ4 12).1 4)) hx hb hts hown hK hP (((sI_f eσ11) 12 4 (fN_k rfl)).1) (hts _ q164) dX4_takeToken_51 ?_
    refine va_calli (va_runV (As := [.int ((σ4 12).1 4)]) (rest := [.ref (gO g 12)]) ⟨hx, hb, hml, hown, hts⟩ (m_X4_byteAt l D cy g σ11  ((σ4 12).1 4) _ hJ12 ) (cwV 1 hts (gd_V q503 q505 q1 q126 q506) rfl rfl rfl (by decide +kernel) ⟨(Nat.le_of_ble_eq_true rfl), (Nat.le_of_ble_eq_true rfl)⟩) (pv8 hP hK hD hC hS (rv8_4 hK hP)) rfl rfl hl.1 rfl (lv_room (Nat.le_of_ble_eq_true rfl)) dX4_takeToken_54 ⟨Nat.le_of_ble_eq_true rfl, Nat.le_of_ble_eq_true rfl⟩) hS (fun q _ h => up8 hS q h) (up8 hS) (fun r13 σ14 tS H1 locs ht hvm hw15 hB hz1 hk1 hS => ?_)
    have hP : va_P D clz (WD8 cy g σ14) H1 := by rw [← ht]; exact hB
    clear hB hz1 hk1 hvm ht
    generalize H1 = H at hP hS ⊢
    have hw15E : σ11 = σ14 := (hw15.1).symm
    subst hw15E
    have b16 : (0 : Int) ≤ r13.toInt ∧ r13.toInt ≤ 256 := hw15.2.1
    refine va_calli (va_runS (As := [.int r13]) (rest := [.ref (gO g 12)]) ⟨hx, hb, hml, hown, hts⟩ (m_X4_kindOf l D cy g σ11  r13 _ hJ12 (show (0 : Int) ≤ r13.toInt ∧ r13.toInt ≤ 256 from (by have f0 := b16; have g0 := rg32 r13; omega))) (va_cwS 1 hts (gd_S q507 q508 q126 q509) rfl rfl rfl (by decide +kernel) ⟨(Nat.le_of_ble_eq_true rfl), (Nat.le_of_ble_eq_true rfl)⟩) (ps8 hP hK hD hC hS) rfl rfl hl.1 rfl (lv_room (Nat.le_of_ble_eq_true rfl)) dX4_takeToken_57 ⟨Nat.le_of_ble_eq_true rfl, Nat.le_of_ble_eq_true rfl⟩) hS (fun q _ h => up8 hS q h) (up8 hS) (fun r17 σ18 tS H1 locs ht hvm hw19 hB hz1 hk1 hS => ?_)
    have hP : va_P D clz (WD8 cy g σ18) H1 := by rw [← ht]; exact hB
    clear hB hz1 hk1 hvm ht
    generalize H1 = H at hP hS ⊢
    have hw19E : σ11 = σ18 := (hw19.1).symm
    subst hw19E
    have b20 : (0 : Int) ≤ r17.toInt ∧ r17.toInt ≤ 5 := hw19.2.1
    refine p8_4_6 hx hb hts hown hK hP hD hS (hts _ q166) dX4_takeToken_60 (fun H locs σ21 eσ21 hP hS => ?_)
    have hJ22 : J8 σ21 := hJ12.I eσ21 rfl (show JI8 4 6 r17 from (by have f0 := b20; have g0 := rg32 r17; exact ⟨by omega, by omega⟩))
    refine lv_aload_n hx hb dX4_takeToken_63 rfl (lv_at hl 1 rfl) ?_
    refine lv_iconst (v := 0) hx hb dX4_takeToken_64 (by decide) ?_
    refine p8_4_7 hx hb hts hown hK hP hD hS (hts _ q167) dX4_takeToken_65 (fun H locs σ23 eσ23 hP hS => ?_)
    have hJ24 : J8 σ23 := hJ22.I eσ23 rfl (show JI8 4 7 (0 : Int32) from (by constructor <;> decide))
    refine lv_iconst (v := 0) hx hb dX4_takeToken_68 (by decide) ?_
    refine lv_istore_n (lv' := [(1, .int 0), (0, .ref (gO g 12))]) hx hb dX4_takeToken_69 rfl hl (by decide) rfl (fun ls hl => ?_)
    refine loop8 2 70 (fun x : LZ => [(1, .int (x.2.1 0)), (0, .ref (gO g 12))]) (fun x : LZ => (Fr (fO [12]) σ23 x.1) ∧ (J8 x.1) ∧ ((0 : Int) ≤ (x.2.1 0).toInt ∧ (x.2.1 0).toInt ≤ 2000) ∧ True) (fun x : LZ => ((2001 : Int) - (x.2.1 0).toInt).toNat) ?_ (σ23, lf [0], lg []) ⟨Fr.rf, hJ24, (show (0 : Int) ≤ (0 : Int32).toInt ∧ (0 : Int32).toInt ≤ 2000 from (by have z0 : (0 : Int32).toInt = 0 := (by decide); omega)), trivial⟩ _ _ _ hP hS (lv_sub hl [0, 1] rfl)
    intro y27 hI26 nl25 H locs ls hP hS hl
    obtain ⟨σ28, eσ28⟩ : ∃ z, z = y27.1 := ⟨_, rfl⟩
    rw [← eσ28] at hP hI26
    have hF29 : Fr (fO [12]) σ23 σ28 := hI26.1
    have hJ30 : J8 σ28 := hI26.2.1
    have b31 : (0 : Int) ≤ (y27.2.1 0).toInt ∧ (y27.2.1 0).toInt ≤ 2000 := hI26.2.2.1
    have hl : lv_has ls 2 [(1, .int (y27.2.1 0)), (0, .ref (gO g 12))] := hl
    refine lv_iload_n hx hb dX4_takeToken_70 rfl (lv_at hl 0 rfl) ?_
    refine lv_sipush (v := 2000) hx hb dX4_takeToken_71 (by decide) ?_
    refine lv_icmp_ge (tgt := 173) hx hb dX4_takeToken_74 (by decide) (fun c32 => ?_) (fun c32 => ?_)
    ·
      have k33 := ple32 c32
      exact W.vret hx hb hr (fun tS ht hW => ⟨⟨σ28, rfl, ⟨Fr.tr (Fr.tr (Fr.tr (Fr.tr (Fr.tr (Fr.rf) hF5 (fO_sub (fun _ q => q))) (sI_f eσ11) (fN_O mem0)) (sI_f eσ21) (fN_O mem0)) (sI_f eσ23) (fN_O mem0)) hF29 (fO_sub (fun _ q => q)), hJ30, trivial⟩, (show va_P D clz (WD8 cy g σ28) tS.heap by rw [ht]; exact hP)⟩, hS.F ht⟩) hS.2.2 dX4_takeToken_173
    ·
      have k34 := nle32 c32
      refine lv_aload_n hx hb dX4_takeToken_77 rfl (lv_at hl 1 rfl) ?_
      refine g8_4_6 (x := ((σ28 12).1 6)) hx hb hts hown hK hP (rfl) (hts _ q166) dX4_takeToken_78 ?_
      refine lv_if_eq (tgt := 173) hx hb dX4_takeToken_81 (by decide) (fun c35 => ?_) (fun c35 => ?_)
      ·
        have k36 := peq32 c35
        exact W.vret hx hb hr (fun tS ht hW => ⟨⟨σ28, rfl, ⟨Fr.tr (Fr.tr (Fr.tr (Fr.tr (Fr.tr (Fr.rf) hF5 (fO_sub (fun _ q => q))) (sI_f eσ11) (fN_O mem0)) (sI_f eσ21) (fN_O mem0)) (sI_f eσ23) (fN_O mem0)) hF29 (fO_sub (fun _ q => q)), hJ30, trivial⟩, (show va_P D clz (WD8 cy g σ28) tS.heap by rw [ht]; exact hP)⟩, hS.F ht⟩) hS.2.2 dX4_takeToken_173
      ·
        have k37 := neq32 c35
        refine lv_aload_n hx hb dX4_takeToken_84 rfl (lv_at hl 1 rfl) ?_
        refine lv_aload_n hx hb dX4_takeToken_85 rfl (lv_at hl 1 rfl) ?_
        refine g8_4_4 (x := ((σ28 12).1 4)) hx hb hts hown hK hP (rfl) (hts _ q164) dX4_takeToken_86 ?_
        refine va_calli (va_runV (As := [.int ((σ28 12).1 4)]) (rest := []) ⟨hx, hb, hml, hown, hts⟩ (m_X4_byteAt l D cy g σ28  ((σ28 12).1 4) _ hJ30 ) (cwV 1 hts (gd_V q503 q505 q1 q126 q506) rfl rfl rfl (by decide +kernel) ⟨(Nat.le_of_ble_eq_true rfl), (Nat.le_of_ble_eq_true rfl)⟩) (pv8 hP hK hD hC hS (rv8_4 hK hP)) rfl rfl hl.1 rfl (lv_room (Nat.le_of_ble_eq_true rfl)) dX4_takeToken_89 ⟨Nat.le_of_ble_eq_true rfl, Nat.le_of_ble_eq_true rfl⟩) hS (fun q _ h => up8 hS q h) (up8 hS) (fun r38 σ39 tS H1 locs ht hvm hw40 hB hz1 hk1 hS => ?_)
        have hP : va_P D clz (WD8 cy g σ39) H1 := by rw [← ht]; exact hB
        clear hB hz1 hk1 hvm ht
        generalize H1 = H at hP hS ⊢
        have hw40E : σ28 = σ39 := (hw40.1).symm
        subst hw40E
        have b41 : (0 : Int) ≤ r38.toInt ∧ r38.toInt ≤ 256 := hw40.2.1
        refine va_calli (va_runS (As := [.int r38]) (rest := []) ⟨hx, hb, hml, hown, hts⟩ (m_X4_kindOf l D cy g σ28  r38 _ hJ30 (show (0 : Int) ≤ r38.toInt ∧ r38.toInt ≤ 256 from (by have f0 := b41; have g0 := rg32 r38; omega))) (va_cwS 1 hts (gd_S q507 q508 q126 q509) rfl rfl rfl (by decide +kernel) ⟨(Nat.le_of_ble_eq_true rfl), (Nat.le_of_ble_eq_true rfl)⟩) (ps8 hP hK hD hC hS) rfl rfl hl.1 rfl (lv_room (Nat.le_of_ble_eq_true rfl)) dX4_takeToken_92 ⟨Nat.le_of_ble_eq_true rfl, Nat.le_of_ble_eq_true rfl⟩) hS (fun q _ h => up8 hS q h) (up8 hS) (fun r42 σ43 tS H1 locs ht hvm hw44 hB hz1 hk1 hS => ?_)
        have hP : va_P D clz (WD8 cy g σ43) H1 := by rw [← ht]; exact hB
        clear hB hz1 hk1 hvm ht
        generalize H1 = H at hP hS ⊢
        have hw44E : σ28 = σ43 := (hw44.1).symm
        subst hw44E
        have b45 : (0 : Int) ≤ r42.toInt ∧ r42.toInt ≤ 5 := hw44.2.1
        refine lv_aload_n hx hb dX4_takeToken_95 rfl (lv_at hl 1 rfl) ?_
        refine g8_4_6 (x := ((σ28 12).1 6)) hx hb hts hown hK hP (rfl) (hts _ q166) dX4_takeToken_96 ?_
        refine lv_icmp_ne (tgt := 173) hx hb dX4_takeToken_99 (by decide) (fun c46 => ?_) (fun c46 => ?_)
        ·
          have k47 := neq32 c46
          exact W.vret hx hb hr (fun tS ht hW => ⟨⟨σ28, rfl, ⟨Fr.tr (Fr.tr (Fr.tr (Fr.tr (Fr.tr (Fr.rf) hF5 (fO_sub (fun _ q => q))) (sI_f eσ11) (fN_O mem0)) (sI_f eσ21) (fN_O mem0)) (sI_f eσ23) (fN_O mem0)) hF29 (fO_sub (fun _ q => q)), hJ30, trivial⟩, (show va_P D clz (WD8 cy g σ28) tS.heap by rw [ht]; exact hP)⟩, hS.F ht⟩) hS.2.2 dX4_takeToken_173
        ·
          have k48 := peq32 c46
          refine lv_aload_n hx hb dX4_takeToken_102 rfl (lv_at hl 1 rfl) ?_
          refine g8_4_6 (x := ((σ28 12).1 6)) hx hb hts hown hK hP (rfl) (hts _ q166) dX4_takeToken_103 ?_
          refine lv_iconst (v := 2) hx hb dX4_takeToken_106 (by decide) ?_
          refine cut8 (D := D) (cy := cy) (g := g) (A := A8 cy g s.heap.size) (H0 := s.heap) 2 138 (fun x : LZ => [(1, .int (y27.2.1 0)), (0, .ref (gO g 12))]) (fun x : LZ => []) (fun x : LZ => (Fr (fO [12]) σ28 x.1) ∧ (J8 x.1) ∧ True) ?_ ?_
          ·
            intro y51 hI50 H locs ls hP hS hl
            obtain ⟨σ52, eσ52⟩ : ∃ z, z = y51.1 := ⟨_, rfl⟩
            rw [← eσ52] at hP hI50
            have hF53 : Fr (fO [12]) σ28 σ52 := hI50.1
            have hJ54 : J8 σ52 := hI50.2.1
            have hl : lv_has ls 2 [(1, .int (y27.2.1 0)), (0, .ref (gO g 12))] := hl
            refine lv_aload_n hx hb dX4_takeToken_138 rfl (lv_at hl 1 rfl) ?_
            refine lv_dup hx hb dX4_takeToken_139 rfl ?_
            refine g8_4_4 (x := ((σ52 12).1 4)) hx hb hts hown hK hP (rfl) (hts _ q164) dX4_takeToken_140 ?_
            refine lv_iconst (v := 1) hx hb dX4_takeToken_143 (by decide) ?_
            refine lv_iadd hx hb dX4_takeToken_144 ?_
            refine lv_topi (fun x55 ex55 => ?_)
            refine p8_4_4 hx hb hts hown hK hP hD hS (hts _ q164) dX4_takeToken_145 (fun H locs σ56 eσ56 hP hS => ?_)
            have hJ57 : J8 σ56 := hJ54.I eσ56 rfl (show JI8 4 4 x55 from trivial)
            refine lv_aload_n hx hb dX4_takeToken_148 rfl (lv_at hl 1 rfl) ?_
            refine g8_4_6 (x := ((σ52 12).1 6)) hx hb hts hown hK hP (((sI_f eσ56) 12 6 (fN_k rfl)).1) (hts _ q166) dX4_takeToken_149 ?_
            refine lv_iconst (v := 3) hx hb dX4_takeToken_152 (by decide) ?_
            refine lv_icmp_eq (tgt := 173) hx hb dX4_takeToken_153 (by decide) (fun c58 => ?_) (fun c58 => ?_)
            ·
              have k59 := peq32 c58
              exact W.vret hx hb hr (fun tS ht hW => ⟨⟨σ56, rfl, ⟨Fr.tr (Fr.tr (Fr.tr (Fr.tr (Fr.tr (Fr.tr (Fr.tr (Fr.rf) hF5 (fO_sub (fun _ q => q))) (sI_f eσ11) (fN_O mem0)) (sI_f eσ21) (fN_O mem0)) (sI_f eσ23) (fN_O mem0)) hF29 (fO_sub (fun _ q => q))) hF53 (fO_sub (fun _ q => q))) (sI_f eσ56) (fN_O mem0), hJ57, trivial⟩, (show va_P D clz (WD8 cy g σ56) tS.heap by rw [ht]; exact hP)⟩, hS.F ht⟩) hS.2.2 dX4_takeToken_173
            ·
              have k60 := neq32 c58
              refine lv_aload_n hx hb dX4_takeToken_156 rfl (lv_at hl 1 rfl) ?_
              refine g8_4_6 (x := ((σ52 12).1 6)) hx hb hts hown hK hP (((sI_f eσ56) 12 6 (fN_k rfl)).1) (hts _ q166) dX4_takeToken_157 ?_
              refine lv_iconst (v := 4) hx hb dX4_takeToken_160 (by decide) ?_
              refine lv_icmp_ne (tgt := 167) hx hb dX4_takeToken_161 (by decide) (fun c61 => ?_) (fun c61 => ?_)
              ·
                have k62 := neq32 c61
                obtain ⟨x63, ex63⟩ : ∃ y : Int32, y = (y27.2.1 0) + 1 := ⟨_, rfl⟩
                have t64 := addO ex63 (by have f0 := b31; have f1 := k34; have g0 := rg32 (y27.2.1 0); have z1 : (1 : Int32).toInt = 1 := (by decide); have z2000 : (2000 : Int32).toInt = 2000 := (by decide); omega)
                refine lv_iinc (v := x63) (lv' := [(1, .int x63), (0, .ref (gO g 12))]) hx hb dX4_takeToken_167 hl (k := 0) rfl (by rw [ex63]; rfl) (by decide) rfl (fun ls hl => ?_)
                refine lv_goto (tgt := 70) hx hb dX4_takeToken_170 (by decide) ?_
                have t65 : ((2001 : Int) - x63.toInt).toNat < ((2001 : Int) - (y27.2.1 0).toInt).toNat := (by have f0 := b31; have f1 := k34; have f2 := t64; have g0 := rg32 (y27.2.1 0); have g1 := rg32 x63; have z1 : (1 : Int32).toInt = 1 := (by decide); have z2000 : (2000 : Int32).toInt = 2000 := (by decide); omega)
                exact nl25 (σ56, lf [x63], lg []) ⟨Fr.tr (Fr.tr (Fr.tr (Fr.rf) hF29 (fO_sub (fun _ q => q))) hF53 (fO_sub (fun _ q => q))) (sI_f eσ56) (fN_O mem0), hJ57, (show (0 : Int) ≤ (x63 : Int32).toInt ∧ (x63 : Int32).toInt ≤ 2000 from (by have f0 := t64; have f1 := b31; have f2 := k34; have g0 := rg32 x63; have z1 : (1 : Int32).toInt = 1 := (by decide); have z2000 : (2000 : Int32).toInt = 2000 := (by decide); omega)), trivial⟩ (show ((2001 : Int) - x63.toInt).toNat < _ from by first | exact t65 | (rw [← eσ28]; exact t65)) _ _ _ hP hS (lv_sub hl [0, 1] rfl)
              ·
                have k66 := peq32 c61
                refine lv_goto (tgt := 173) hx hb dX4_takeToken_164 (by decide) ?_
                exact W.vret hx hb hr (fun tS ht hW => ⟨⟨σ56, rfl, ⟨Fr.tr (Fr.tr (Fr.tr (Fr.tr (Fr.tr (Fr.tr (Fr.tr (Fr.rf) hF5 (fO_sub (fun _ q => q))) (sI_f eσ11) (fN_O mem0)) (sI_f eσ21) (fN_O mem0)) (sI_f eσ23) (fN_O mem0)) hF29 (fO_sub (fun _ q => q))) hF53 (fO_sub (fun _ q => q))) (sI_f eσ56) (fN_O mem0), hJ57, trivial⟩, (show va_P D clz (WD8 cy g σ56) tS.heap by rw [ht]; exact hP)⟩, hS.F ht⟩) hS.2.2 dX4_takeToken_173
          ·
            intro nj49
            refine lv_icmp_ne (tgt := 138) hx hb dX4_takeToken_107 (by decide) (fun c67 => ?_) (fun c67 => ?_)
            ·
              have k68 := neq32 c67
              exact nj49 (σ28, lf [], lg []) ⟨Fr.rf, hJ30, trivial⟩ _ _ _ hP hS (lv_sub hl [0, 1] rfl)
            ·
              have k69 := peq32 c67
              refine lv_aload_n hx hb dX4_takeToken_110 rfl (lv_at hl 1 rfl) ?_
              refine lv_ldc (v := 1000000) hx hb hown (hts _ q510) dX4_takeToken_111 ?_
              refine lv_aload_n hx hb dX4_takeToken_113 rfl (lv_at hl 1 rfl) ?_
              refine g8_4_7 (x := ((σ28 12).1 7)) hx hb hts hown hK hP (rfl) (hts _ q167) dX4_takeToken_114 ?_
              refine lv_bipush (v := 10) hx hb dX4_takeToken_117 (by decide) ?_
              refine lv_imul hx hb dX4_takeToken_119 ?_
              refine lv_topi (fun x70 ex70 => ?_)
              refine lv_aload_n hx hb dX4_takeToken_120 rfl (lv_at hl 1 rfl) ?_
              refine lv_aload_n hx hb dX4_takeToken_121 rfl (lv_at hl 1 rfl) ?_
              refine g8_4_4 (x := ((σ28 12).1 4)) hx hb hts hown hK hP (rfl) (hts _ q164) dX4_takeToken_122 ?_
              refine va_calli (va_runV (As := [.int ((σ28 12).1 4)]) (rest := [.int x70, .int 1000000, .ref (gO g 12)]) ⟨hx, hb, hml, hown, hts⟩ (m_X4_byteAt l D cy g σ28  ((σ28 12).1 4) _ hJ30 ) (cwV 1 hts (gd_V q503 q505 q1 q126 q506) rfl rfl rfl (by decide +kernel) ⟨(Nat.le_of_ble_eq_true rfl), (Nat.le_of_ble_eq_true rfl)⟩) (pv8 hP hK hD hC hS (rv8_4 hK hP)) rfl rfl hl.1 rfl (lv_room (Nat.le_of_ble_eq_true rfl)) dX4_takeToken_125 ⟨Nat.le_of_ble_eq_true rfl, Nat.le_of_ble_eq_true rfl⟩) hS (fun q _ h => up8 hS q h) (up8 hS) (fun r71 σ72 tS H1 locs ht hvm hw73 hB hz1 hk1 hS => ?_)
              have hP : va_P D clz (WD8 cy g σ72) H1 := by rw [← ht]; exact hB
              clear hB hz1 hk1 hvm ht
              generalize H1 = H at hP hS ⊢
              have hw73E : σ28 = σ72 := (hw73.1).symm
              subst hw73E
              have b74 : (0 : Int) ≤ r71.toInt ∧ r71.toInt ≤ 256 := hw73.2.1
              refine lv_iadd hx hb dX4_takeToken_128 ?_
              refine lv_topi (fun x75 ex75 => ?_)
              refine lv_bipush (v := 48) hx hb dX4_takeToken_129 (by decide) ?_
              refine lv_isub hx hb dX4_takeToken_131 ?_
              refine lv_topi (fun x76 ex76 => ?_)
              refine va_mmin hx hb (hml.trans hl.1.symm) hown (hts _ q511) (hts _ q512) (hts _ q135) (hts _ q513) (Nat.le_of_ble_eq_true rfl) (Nat.le_of_ble_eq_true rfl) (Nat.le_refl _) (Nat.le_refl _) dX4_takeToken_132 ?_
              refine lv_topi (fun x77 ex77 => ?_)
              have t78 := minO ex77
              refine p8_4_7 hx hb hts hown hK hP hD hS (hts _ q167) dX4_takeToken_135 (fun H locs σ79 eσ79 hP hS => ?_)
              have hJ80 : J8 σ79 := hJ30.I eσ79 rfl (show JI8 4 7 x77 from (by have f0 := t78; have g0 := rg32 x76; have g1 := rg32 x77; have z1000000 : (1000000 : Int32).toInt = 1000000 := (by decide); exact ⟨by omega, by omega⟩))
              exact nj49 (σ79, lf [], lg []) ⟨Fr.tr (Fr.rf) (sI_f eσ79) (fN_O mem0), hJ80, trivial⟩ _ _ _ hP hS (lv_sub hl [0, 1] rfl)
  ·
    intro nj8
    refine lv_icmp_ge (tgt := 40) hx hb dX4_takeToken_6 (by decide) (fun c81 => ?_) (fun c81 => ?_)
    ·
      have k82 := ple32 c81
      exact nj8 (σ4, lf [], lg []) ⟨rfl, trivial⟩ _ _ _ hP hS (lv_sub hl [0, 1] rfl)
    ·
      have k83 := nle32 c81
      refine lv_aload_n hx hb dX4_takeToken_9 rfl (lv_at hl 1 rfl) ?_
      refine lv_aload_n hx hb dX4_takeToken_10 rfl (lv_at hl 1 rfl) ?_
      refine g8_4_4 (x := ((σ4 12).1 4)) hx hb hts hown hK hP (rfl) (hts _ q164) dX4_takeToken_11 ?_
      refine va_calli (va_runV (As := [.int ((σ4 12).1 4)]) (rest := []) ⟨hx, hb, hml, hown, hts⟩ (m_X4_byteAt l D cy g σ4  ((σ4 12).1 4) _ hJ6 ) (cwV 1 hts (gd_V q503 q505 q1 q126 q506) rfl rfl rfl (by decide +kernel) ⟨(Nat.le_of_ble_eq_true rfl), (Nat.le_of_ble_eq_true rfl)⟩) (pv8 hP hK hD hC hS (rv8_4 hK hP)) rfl rfl hl.1 rfl (lv_room (Nat.le_of_ble_eq_true rfl)) dX4_takeToken_14 ⟨Nat.le_of_ble_eq_true rfl, Nat.le_of_ble_eq_true rfl⟩) hS (fun q _ h => up8 hS q h) (up8 hS) (fun r84 σ85 tS H1 locs ht hvm hw86 hB hz1 hk1 hS => ?_)
      have hP : va_P D clz (WD8 cy g σ85) H1 := by rw [← ht]; exact hB
      clear hB hz1 hk1 hvm ht
      generalize H1 = H at hP hS ⊢
      have hw86E : σ4 = σ85 := (hw86.1).symm
      subst hw86E
      have b87 : (0 : Int) ≤ r84.toInt ∧ r84.toInt ≤ 256 := hw86.2.1
      refine va_calli (va_runS (As := [.int r84]) (rest := []) ⟨hx, hb, hml, hown, hts⟩ (m_X4_kindOf l D cy g σ4  r84 _ hJ6 (show (0 : Int) ≤ r84.toInt ∧ r84.toInt ≤ 256 from (by have f0 := b87; have g0 := rg32 r84; omega))) (va_cwS 1 hts (gd_S q507 q508 q126 q509) rfl rfl rfl (by decide +kernel) ⟨(Nat.le_of_ble_eq_true rfl), (Nat.le_of_ble_eq_true rfl)⟩) (ps8 hP hK hD hC hS) rfl rfl hl.1 rfl (lv_room (Nat.le_of_ble_eq_true rfl)) dX4_takeToken_17 ⟨Nat.le_of_ble_eq_true rfl, Nat.le_of_ble_eq_true rfl⟩) hS (fun q _ h => up8 hS q h) (up8 hS) (fun r88 σ89 tS H1 locs ht hvm hw90 hB hz1 hk1 hS => ?_)
      have hP : va_P D clz (WD8 cy g σ89) H1 := by rw [← ht]; exact hB
      clear hB hz1 hk1 hvm ht
      generalize H1 = H at hP hS ⊢
      have hw90E : σ4 = σ89 := (hw90.1).symm
      subst hw90E
      have b91 : (0 : Int) ≤ r88.toInt ∧ r88.toInt ≤ 5 := hw90.2.1
      refine lv_iconst (v := 5) hx hb dX4_takeToken_20 (by decide) ?_
      refine lv_icmp_ne (tgt := 40) hx hb dX4_takeToken_21 (by decide) (fun c92 => ?_) (fun c92 => ?_)
      ·
        have k93 := neq32 c92
        exact nj8 (σ4, lf [], lg []) ⟨rfl, trivial⟩ _ _ _ hP hS (lv_sub hl [0, 1] rfl)
      ·
        have k94 := peq32 c92
        refine lv_aload_n hx hb dX4_takeToken_24 rfl (lv_at hl 1 rfl) ?_
        refine lv_dup hx hb dX4_takeToken_25 rfl ?_
        refine g8_4_4 (x := ((σ4 12).1 4)) hx hb hts hown hK hP (rfl) (hts _ q164) dX4_takeToken_26 ?_
        refine lv_iconst (v := 1) hx hb dX4_takeToken_29 (by decide) ?_
        refine lv_iadd hx hb dX4_takeToken_30 ?_
        refine lv_topi (fun x95 ex95 => ?_)
        refine p8_4_4 hx hb hts hown hK hP hD hS (hts _ q164) dX4_takeToken_31 (fun H locs σ96 eσ96 hP hS => ?_)
        have hJ97 : J8 σ96 := hJ6.I eσ96 rfl (show JI8 4 4 x95 from trivial)
        obtain ⟨x98, ex98⟩ : ∃ y : Int32, y = (y3.2.1 0) + 1 := ⟨_, rfl⟩
        have t99 := addO ex98 (by have f0 := b7; have f1 := k83; have g0 := rg32 (y3.2.1 0); have z1 : (1 : Int32).toInt = 1 := (by decide); have z2000 : (2000 : Int32).toInt = 2000 := (by decide); omega)
        refine lv_iinc (v := x98) (lv' := [(1, .int x98), (0, .ref (gO g 12))]) hx hb dX4_takeToken_34 hl (k := 0) rfl (by rw [ex98]; rfl) (by decide) rfl (fun ls hl => ?_)
        refine lv_goto (tgt := 2) hx hb dX4_takeToken_37 (by decide) ?_
        have t100 : ((2001 : Int) - x98.toInt).toNat < ((2001 : Int) - (y3.2.1 0).toInt).toNat := (by have f0 := b7; have f1 := k83; have f2 := t99; have g0 := rg32 (y3.2.1 0); have g1 := rg32 x98; have z1 : (1 : Int32).toInt = 1 := (by decide); have z2000 : (2000 : Int32).toInt = 2000 := (by decide); omega)
        exact nl1 (σ96, lf [x98], lg []) ⟨Fr.tr (Fr.tr (Fr.rf) hF5 (fO_sub (fun _ q => q))) (sI_f eσ96) (fN_O mem0), hJ97, (show (0 : Int) ≤ (x98 : Int32).toInt ∧ (x98 : Int32).toInt ≤ 2000 from (by have f0 := t99; have f1 := b7; have f2 := k83; have g0 := rg32 x98; have z1 : (1 : Int32).toInt = 1 := (by decide); have z2000 : (2000 : Int32).toInt = 2000 := (by decide); omega)), trivial⟩ (show ((2001 : Int) - x98.toInt).toNat < _ from by first | exact t100 | (rw [← eσ4]; exact t100)) _ _ _ hP hS (lv_sub hl [0, 1] rfl)

theorem q522 : Cond.code yX4_isWord cX4_isWord 3 (some .boolean) ∈ lw_g := lw_gm (List.mem_of_getElem? (i := 522) (by decide +kernel)) rfl
theorem q523 : Cond.methodLink RX4 175 yJ0_length_8abf5 ∈ lw_g := lw_gm (List.mem_of_getElem? (i := 523) (by decide +kernel)) rfl
theorem q524 : Cond.instanceMethod yJ0_length_8abf5 ∈ lw_g := lw_gm (List.mem_of_getElem? (i := 524) (by decide +kernel)) rfl
theorem q525 : Cond.selects "java/lang/String" yJ0_length_8abf5 yJ0_length_8abf5 ∈ lw_g := lw_gm (List.mem_of_getElem? (i := 525) (by decide +kernel)) rfl
theorem q533 : Cond.methodLink RX4 183 yJ0_charAt_5068e ∈ lw_g := lw_gm (List.mem_of_getElem? (i := 533) (by decide +kernel)) rfl
theorem q534 : Cond.instanceMethod yJ0_charAt_5068e ∈ lw_g := lw_gm (List.mem_of_getElem? (i := 534) (by decide +kernel)) rfl
theorem q535 : Cond.selects "java/lang/String" yJ0_charAt_5068e yJ0_charAt_5068e ∈ lw_g := lw_gm (List.mem_of_getElem? (i := 535) (by decide +kernel)) rfl
theorem dX4_isWord_0 : decode cX4_isWord 0 = .ok (.aload_n 0, 1) := by decide +kernel
theorem dX4_isWord_1 : decode cX4_isWord 1 = .ok (.getfield 36, 3) := by decide +kernel
theorem dX4_isWord_4 : decode cX4_isWord 4 = .ok (.iconst 1, 1) := by decide +kernel
theorem dX4_isWord_5 : decode cX4_isWord 5 = .ok (.if_icmp .ne 19, 3) := by decide +kernel
theorem dX4_isWord_8 : decode cX4_isWord 8 = .ok (.aload_n 0, 1) := by decide +kernel
theorem dX4_isWord_9 : decode cX4_isWord 9 = .ok (.getfield 30, 3) := by decide +kernel
theorem dX4_isWord_12 : decode cX4_isWord 12 = .ok (.aload_n 0, 1) := by decide +kernel
theorem dX4_isWord_13 : decode cX4_isWord 13 = .ok (.getfield 172, 3) := by decide +kernel
theorem dX4_isWord_16 : decode cX4_isWord 16 = .ok (.isub, 1) := by decide +kernel
theorem dX4_isWord_17 : decode cX4_isWord 17 = .ok (.aload_n 1, 1) := by decide +kernel
theorem dX4_isWord_18 : decode cX4_isWord 18 = .ok (.invokevirtual 175, 3) := by decide +kernel
theorem dX4_isWord_21 : decode cX4_isWord 21 = .ok (.if_icmp .eq 5, 3) := by decide +kernel
theorem dX4_isWord_24 : decode cX4_isWord 24 = .ok (.iconst 0, 1) := by decide +kernel
theorem dX4_isWord_25 : decode cX4_isWord 25 = .ok (.ireturn, 1) := by decide +kernel
theorem dX4_isWord_26 : decode cX4_isWord 26 = .ok (.iconst 0, 1) := by decide +kernel
theorem dX4_isWord_27 : decode cX4_isWord 27 = .ok (.istore_n 2, 1) := by decide +kernel
theorem dX4_isWord_28 : decode cX4_isWord 28 = .ok (.iload_n 2, 1) := by decide +kernel
theorem dX4_isWord_29 : decode cX4_isWord 29 = .ok (.aload_n 1, 1) := by decide +kernel
theorem dX4_isWord_30 : decode cX4_isWord 30 = .ok (.invokevirtual 175, 3) := by decide +kernel
theorem dX4_isWord_33 : decode cX4_isWord 33 = .ok (.if_icmp .ge 29, 3) := by decide +kernel
theorem dX4_isWord_36 : decode cX4_isWord 36 = .ok (.aload_n 0, 1) := by decide +kernel
theorem dX4_isWord_37 : decode cX4_isWord 37 = .ok (.aload_n 0, 1) := by decide +kernel
theorem dX4_isWord_38 : decode cX4_isWord 38 = .ok (.getfield 172, 3) := by decide +kernel
theorem dX4_isWord_41 : decode cX4_isWord 41 = .ok (.iload_n 2, 1) := by decide +kernel
theorem dX4_isWord_42 : decode cX4_isWord 42 = .ok (.iadd, 1) := by decide +kernel
theorem dX4_isWord_43 : decode cX4_isWord 43 = .ok (.invokevirtual 180, 3) := by decide +kernel
theorem dX4_isWord_46 : decode cX4_isWord 46 = .ok (.aload_n 1, 1) := by decide +kernel
theorem dX4_isWord_47 : decode cX4_isWord 47 = .ok (.iload_n 2, 1) := by decide +kernel
theorem dX4_isWord_48 : decode cX4_isWord 48 = .ok (.invokevirtual 183, 3) := by decide +kernel
theorem dX4_isWord_51 : decode cX4_isWord 51 = .ok (.if_icmp .eq 5, 3) := by decide +kernel
theorem dX4_isWord_54 : decode cX4_isWord 54 = .ok (.iconst 0, 1) := by decide +kernel
theorem dX4_isWord_55 : decode cX4_isWord 55 = .ok (.ireturn, 1) := by decide +kernel
theorem dX4_isWord_56 : decode cX4_isWord 56 = .ok (.iinc 2 1, 3) := by decide +kernel
theorem dX4_isWord_59 : decode cX4_isWord 59 = .ok (.goto (-31), 3) := by decide +kernel
theorem dX4_isWord_62 : decode cX4_isWord 62 = .ok (.iconst 1, 1) := by decide +kernel
theorem dX4_isWord_63 : decode cX4_isWord 63 = .ok (.ireturn, 1) := by decide +kernel
set_option maxHeartbeats 4000000 in
set_option maxRecDepth 100000 in
theorem m_X4_isWord (l : Launch) (D : va_G) (cy : Nat → ClassId) (g : Nat → Nat) (σ : ST) (i1 : Nat) (sz : Nat) (hJ : J8 σ) (hi1 : i1 < 21) : Met l yX4_isWord (ww yX4_isWord cX4_isWord 3 (some .boolean)) ({ frames := 5, cells := 0, slots := 0, locals := 320 }) (va_Pc [.ref (gO g 12), .ref (gS g i1)] (pr8 D cy g σ sz)) (qi8 D cy g sz (fun r τ => τ = σ ∧ ((0 : Int) ≤ r.toInt ∧ r.toInt ≤ 1) ∧ True)) 0 0 (A8 cy g sz) := by
  refine Met.ofW (cc := cX4_isWord) (maxL := 3) (ret := (some .boolean)) (by decide) rfl ?_
  intro p e s m args below meth c s₁ B hml hv
  obtain ⟨rfl, hsz, hP, hK, hD0, hC⟩ := hv
  have hx := B.exec
  have hb := B.bytes
  have hr := B.returns
  have hts := hts_g (atoms_spec (ws := ww yX4_isWord cX4_isWord 3 (some .boolean)) B.pre)
  have hown : s.vm.findClass RX4 = some m.cls := findClass_of_methodNamed B.named
  have hlocks := B.notSynchronized
  clear B
  subst hsz
  have hD := fun τ => A8_D (sz := s.heap.size) hD0 τ
  clear hD0
  have hS : va_S (A8 cy g s.heap.size) s.heap s.heap [] := va_S.rf
  have hl := lv_entry ([.ref (gO g 12), .ref (gS g i1)]) (n := 3) (Nat.le_of_ble_eq_true rfl)
  rw [lg_entry_eq]
  generalize (lg_sl ([.ref (gO g 12), .ref (gS g i1)]) ++ List.replicate (3 - (lg_sl ([.ref (gO g 12), .ref (gS g i1)])).length) Slot.unset).toArray = ls at hl ⊢
  have hl : lv_has ls 3 [(0, .ref (gO g 12)), (1, .ref (gS g i1))] := hl
  refine lv_aload_n hx hb dX4_isWord_0 rfl (lv_at hl 0 rfl) ?_
  refine g8_4_6 (x := ((σ 12).1 6)) hx hb hts hown hK hP (rfl) (hts _ q166) dX4_isWord_1 ?_
  refine lv_iconst (v := 1) hx hb dX4_isWord_4 (by decide) ?_
  refine lv_icmp_ne (tgt := 24) hx hb dX4_isWord_5 (by decide) (fun c1 => ?_) (fun c1 => ?_)
  ·
    have k2 := neq32 c1
    refine lv_iconst (v := 0) hx hb dX4_isWord_24 (by decide) ?_
    exact W.zret (v := 0) hx hb hr rfl (fun tS ht hW => ⟨⟨0, σ, rfl, ⟨rfl, (show (0 : Int) ≤ (0 : Int32).toInt ∧ (0 : Int32).toInt ≤ 1 from (by have z0 : (0 : Int32).toInt = 0 := (by decide); omega)), trivial⟩, (show va_P D clz (WD8 cy g σ) tS.heap by rw [ht]; exact hP)⟩, hS.F ht⟩) hS.2.2 dX4_isWord_25
  ·
    have k3 := peq32 c1
    refine lv_aload_n hx hb dX4_isWord_8 rfl (lv_at hl 0 rfl) ?_
    refine g8_4_4 (x := ((σ 12).1 4)) hx hb hts hown hK hP (rfl) (hts _ q164) dX4_isWord_9 ?_
    refine lv_aload_n hx hb dX4_isWord_12 rfl (lv_at hl 0 rfl) ?_
    refine g8_4_5 (x := ((σ 12).1 5)) hx hb hts hown hK hP (rfl) (hts _ q165) dX4_isWord_13 ?_
    refine lv_isub hx hb dX4_isWord_16 ?_
    refine lv_topi (fun x4 ex4 => ?_)
    refine lv_aload_n hx hb dX4_isWord_17 rfl (lv_at hl 1 rfl) ?_
    refine va_calli (va_runV (As := []) (rest := [.int x4]) ⟨hx, hb, hml, hown, hts⟩ (m_J0_length_8abf5 l D cy g σ  i1 _ hJ hi1) (cwV 0 hts (gd_V q523 q524 q525 q136 q526) rfl rfl rfl (by decide +kernel) ⟨(Nat.le_of_ble_eq_true rfl), (Nat.le_of_ble_eq_true rfl)⟩) (pv8 hP hK hD hC hS (vk_recv hC.2.1 hi1 hS)) rfl rfl hl.1 rfl (lv_room (Nat.le_of_ble_eq_true rfl)) dX4_isWord_18 ⟨Nat.le_of_ble_eq_true rfl, Nat.le_of_ble_eq_true rfl⟩) hS (fun q _ h => up8 hS q h) (up8 hS) (fun r5 σ6 tS H1 locs ht hvm hw7 hB hz1 hk1 hS => ?_)
    have hP : va_P D clz (WD8 cy g σ6) H1 := by rw [← ht]; exact hB
    clear hB hz1 hk1 hvm ht
    generalize H1 = H at hP hS ⊢
    have hw7E : σ = σ6 := (hw7.1).symm
    subst hw7E
    have b8 : r5.toInt = (sLn i1).toInt := hw7.2.1
    refine lv_icmp_eq (tgt := 26) hx hb dX4_isWord_21 (by decide) (fun c9 => ?_) (fun c9 => ?_)
    ·
      have k10 := peq32 c9
      refine lv_iconst (v := 0) hx hb dX4_isWord_26 (by decide) ?_
      refine lv_istore_n (lv' := [(2, .int 0), (0, .ref (gO g 12)), (1, .ref (gS g i1))]) hx hb dX4_isWord_27 rfl hl (by decide) rfl (fun ls hl => ?_)
      refine loop8 3 28 (fun x : LZ => [(2, .int (x.2.1 0)), (0, .ref (gO g 12)), (1, .ref (gS g i1))]) (fun x : LZ => (x.1 = σ) ∧ ((0 : Int) ≤ (x.2.1 0).toInt ∧ (x.2.1 0).toInt ≤ 11) ∧ True) (fun x : LZ => ((12 : Int) - (x.2.1 0).toInt).toNat) ?_ (σ, lf [0], lg []) ⟨rfl, (show (0 : Int) ≤ (0 : Int32).toInt ∧ (0 : Int32).toInt ≤ 11 from (by have z0 : (0 : Int32).toInt = 0 := (by decide); omega)), trivial⟩ _ _ _ hP hS (lv_sub hl [0, 1, 2] rfl)
      intro y13 hI12 nl11 H locs ls hP hS hl
      rw [show y13.1 = σ from hI12.1] at hP
      have b14 : (0 : Int) ≤ (y13.2.1 0).toInt ∧ (y13.2.1 0).toInt ≤ 11 := hI12.2.1
      have hl : lv_has ls 3 [(2, .int (y13.2.1 0)), (0, .ref (gO g 12)), (1, .ref (gS g i1))] := hl
      refine lv_iload_n hx hb dX4_isWord_28 rfl (lv_at hl 0 rfl) ?_
      refine lv_aload_n hx hb dX4_isWord_29 rfl (lv_at hl 2 rfl) ?_
      refine va_calli (va_runV (As := []) (rest := [.int (y13.2.1 0)]) ⟨hx, hb, hml, hown, hts⟩ (m_J0_length_8abf5 l D cy g σ  i1 _ hJ hi1) (cwV 0 hts (gd_V q523 q524 q525 q136 q526) rfl rfl rfl (by decide +kernel) ⟨(Nat.le_of_ble_eq_true rfl), (Nat.le_of_ble_eq_true rfl)⟩) (pv8 hP hK hD hC hS (vk_recv hC.2.1 hi1 hS)) rfl rfl hl.1 rfl (lv_room (Nat.le_of_ble_eq_true rfl)) dX4_isWord_30 ⟨Nat.le_of_ble_eq_true rfl, Nat.le_of_ble_eq_true rfl⟩) hS (fun q _ h => up8 hS q h) (up8 hS) (fun r15 σ16 tS H1 locs ht hvm hw17 hB hz1 hk1 hS => ?_)
      have hP : va_P D clz (WD8 cy g σ16) H1 := by rw [← ht]; exact hB
      clear hB hz1 hk1 hvm ht
      generalize H1 = H at hP hS ⊢
      have hw17E : σ = σ16 := (hw17.1).symm
      subst hw17E
      have b18 : r15.toInt = (sLn i1).toInt := hw17.2.1
      refine lv_icmp_ge (tgt := 62) hx hb dX4_isWord_33 (by decide) (fun c19 => ?_) (fun c19 => ?_)
      ·
        have k20 := ple32 c19
        refine lv_iconst (v := 1) hx hb dX4_isWord_62 (by decide) ?_
        exact W.zret (v := 1) hx hb hr rfl (fun tS ht hW => ⟨⟨1, σ, rfl, ⟨rfl, (show (0 : Int) ≤ (1 : Int32).toInt ∧ (1 : Int32).toInt ≤ 1 from (by have z1 : (1 : Int32).toInt = 1 := (by decide); omega)), trivial⟩, (show va_P D clz (WD8 cy g σ) tS.heap by rw [ht]; exact hP)⟩, hS.F ht⟩) hS.2.2 dX4_isWord_63
      ·
        have k21 := nle32 c19
        refine lv_aload_n hx hb dX4_isWord_36 rfl (lv_at hl 1 rfl) ?_
        refine lv_aload_n hx hb dX4_isWord_37 rfl (lv_at hl 1 rfl) ?_
        refine g8_4_5 (x := ((σ 12).1 5)) hx hb hts hown hK hP (rfl) (hts _ q165) dX4_isWord_38 ?_
        refine lv_iload_n hx hb dX4_isWord_41 rfl (lv_at hl 0 rfl) ?_
        refine lv_iadd hx hb dX4_isWord_42 ?_
        refine lv_topi (fun x22 ex22 => ?_)
        refine va_calli (va_runV (As := [.int x22]) (rest := []) ⟨hx, hb, hml, hown, hts⟩ (m_X4_byteAt l D cy g σ  x22 _ hJ ) (cwV 1 hts (gd_V q503 q505 q1 q126 q506) rfl rfl rfl (by decide +kernel) ⟨(Nat.le_of_ble_eq_true rfl), (Nat.le_of_ble_eq_true rfl)⟩) (pv8 hP hK hD hC hS (rv8_4 hK hP)) rfl rfl hl.1 rfl (lv_room (Nat.le_of_ble_eq_true rfl)) dX4_isWord_43 ⟨Nat.le_of_ble_eq_true rfl, Nat.le_of_ble_eq_true rfl⟩) hS (fun q _ h => up8 hS q h) (up8 hS) (fun r23 σ24 tS H1 locs ht hvm hw25 hB hz1 hk1 hS => ?_)
        have hP : va_P D clz (WD8 cy g σ24) H1 := by rw [← ht]; exact hB
        clear hB hz1 hk1 hvm ht
        generalize H1 = H at hP hS ⊢
        have hw25E : σ = σ24 := (hw25.1).symm
        subst hw25E
        have b26 : (0 : Int) ≤ r23.toInt ∧ r23.toInt ≤ 256 := hw25.2.1
        refine lv_aload_n hx hb dX4_isWord_46 rfl (lv_at hl 2 rfl) ?_
        refine lv_iload_n hx hb dX4_isWord_47 rfl (lv_at hl 0 rfl) ?_
        refine va_calli (va_runV (As := [.int (y13.2.1 0)]) (rest := [.int r23]) ⟨hx, hb, hml, hown, hts⟩ (m_J0_charAt_5068e l D cy g σ  i1 (y13.2.1 0) _ hJ hi1 (show (0 : Int) ≤ (y13.2.1 0).toInt ∧ (y13.2.1 0).toInt ≤ 6 from (by have f0 := b14; have f1 := k21; have f2 := b18; have f3 := sLn_b hi1; have f4 := b8; have f5 := k10; have g1 := rg32 (y13.2.1 0); have g2 := rg32 r15; have g3 := rg32 r5; have g4 := rg32 x4; omega)) (show (y13.2.1 0).toInt < (sLn i1).toInt from (by have f0 := sLn_b hi1; have f1 := b8; have f2 := b14; have f3 := b18; have f4 := k21; have f5 := k10; have g1 := rg32 (y13.2.1 0); have g2 := rg32 r15; have g3 := rg32 r5; have g4 := rg32 x4; omega))) (cwV 1 hts (gd_V q533 q534 q535 q136 q536) rfl rfl rfl (by decide +kernel) ⟨(Nat.le_of_ble_eq_true rfl), (Nat.le_of_ble_eq_true rfl)⟩) (pv8 hP hK hD hC hS (vk_recv hC.2.1 hi1 hS)) rfl rfl hl.1 rfl (lv_room (Nat.le_of_ble_eq_true rfl)) dX4_isWord_48 ⟨Nat.le_of_ble_eq_true rfl, Nat.le_of_ble_eq_true rfl⟩) hS (fun q _ h => up8 hS q h) (up8 hS) (fun r27 σ28 tS H1 locs ht hvm hw29 hB hz1 hk1 hS => ?_)
        have hP : va_P D clz (WD8 cy g σ28) H1 := by rw [← ht]; exact hB
        clear hB hz1 hk1 hvm ht
        generalize H1 = H at hP hS ⊢
        have hw29E : σ = σ28 := (hw29.1).symm
        subst hw29E
        refine lv_icmp_eq (tgt := 56) hx hb dX4_isWord_51 (by decide) (fun c30 => ?_) (fun c30 => ?_)
        ·
          have k31 := peq32 c30
          obtain ⟨x32, ex32⟩ : ∃ y : Int32, y = (y13.2.1 0) + 1 := ⟨_, rfl⟩
          have t33 := addO ex32 (by have f0 := b14; have f1 := k21; have f2 := b18; have f3 := sLn_b hi1; have f4 := b8; have f5 := k10; have g1 := rg32 (y13.2.1 0); have g2 := rg32 r15; have g3 := rg32 r5; have g4 := rg32 x4; have z1 : (1 : Int32).toInt = 1 := (by decide); omega)
          refine lv_iinc (v := x32) (lv' := [(2, .int x32), (0, .ref (gO g 12)), (1, .ref (gS g i1))]) hx hb dX4_isWord_56 hl (k := 0) rfl (by rw [ex32]; rfl) (by decide) rfl (fun ls hl => ?_)
          refine lv_goto (tgt := 28) hx hb dX4_isWord_59 (by decide) ?_
          have t34 : ((12 : Int) - x32.toInt).toNat < ((12 : Int) - (y13.2.1 0).toInt).toNat := (by have f0 := b14; have f1 := k21; have f2 := t33; have f3 := b18; have f4 := sLn_b hi1; have f5 := b8; have f6 := k10; have g1 := rg32 (y13.2.1 0); have g2 := rg32 r15; have g3 := rg32 r5; have g4 := rg32 x32; have g5 := rg32 x4; have z1 : (1 : Int32).toInt = 1 := (by decide); omega)
          exact nl11 (σ, lf [x32], lg []) ⟨rfl, (show (0 : Int) ≤ (x32 : Int32).toInt ∧ (x32 : Int32).toInt ≤ 11 from (by have f0 := t33; have f1 := b14; have f2 := k21; have f3 := b18; have f4 := sLn_b hi1; have f5 := b8; have g1 := rg32 r15; have g2 := rg32 r5; have g3 := rg32 x32; have z1 : (1 : Int32).toInt = 1 := (by decide); omega)), trivial⟩ (show ((12 : Int) - x32.toInt).toNat < _ from t34) _ _ _ hP hS (lv_sub hl [0, 1, 2] rfl)
        ·
          have k35 := neq32 c30
          refine lv_iconst (v := 0) hx hb dX4_isWord_54 (by decide) ?_
          exact W.zret (v := 0) hx hb hr rfl (fun tS ht hW => ⟨⟨0, σ, rfl, ⟨rfl, (show (0 : Int) ≤ (0 : Int32).toInt ∧ (0 : Int32).toInt ≤ 1 from (by have z0 : (0 : Int32).toInt = 0 := (by decide); omega)), trivial⟩, (show va_P D clz (WD8 cy g σ) tS.heap by rw [ht]; exact hP)⟩, hS.F ht⟩) hS.2.2 dX4_isWord_55
    ·
      have k36 := neq32 c9
      refine lv_iconst (v := 0) hx hb dX4_isWord_24 (by decide) ?_
      exact W.zret (v := 0) hx hb hr rfl (fun tS ht hW => ⟨⟨0, σ, rfl, ⟨rfl, (show (0 : Int) ≤ (0 : Int32).toInt ∧ (0 : Int32).toInt ≤ 1 from (by have z0 : (0 : Int32).toInt = 0 := (by decide); omega)), trivial⟩, (show va_P D clz (WD8 cy g σ) tS.heap by rw [ht]; exact hP)⟩, hS.F ht⟩) hS.2.2 dX4_isWord_25

theorem q574 : Cond.code yX4_refuse cX4_refuse 2 none ∈ lw_g := lw_gm (List.mem_of_getElem? (i := 574) (by decide +kernel)) rfl
theorem q160 : Cond.fieldLink RX4 27 "LipsAndSlides$Reader" "faultKind" "I" ∈ lw_g := lw_gm (List.mem_of_getElem? (i := 160) (by decide +kernel)) rfl
theorem q162 : Cond.fieldLink RX4 15 "LipsAndSlides$Reader" "faultPlace" "I" ∈ lw_g := lw_gm (List.mem_of_getElem? (i := 162) (by decide +kernel)) rfl
theorem dX4_refuse_0 : decode cX4_refuse 0 = .ok (.aload_n 0, 1) := by decide +kernel
theorem dX4_refuse_1 : decode cX4_refuse 1 = .ok (.getfield 27, 3) := by decide +kernel
theorem dX4_refuse_4 : decode cX4_refuse 4 = .ok (.ifCond .ne 16, 3) := by decide +kernel
theorem dX4_refuse_7 : decode cX4_refuse 7 = .ok (.aload_n 0, 1) := by decide +kernel
theorem dX4_refuse_8 : decode cX4_refuse 8 = .ok (.iload_n 1, 1) := by decide +kernel
theorem dX4_refuse_9 : decode cX4_refuse 9 = .ok (.putfield 27, 3) := by decide +kernel
theorem dX4_refuse_12 : decode cX4_refuse 12 = .ok (.aload_n 0, 1) := by decide +kernel
theorem dX4_refuse_13 : decode cX4_refuse 13 = .ok (.aload_n 0, 1) := by decide +kernel
theorem dX4_refuse_14 : decode cX4_refuse 14 = .ok (.getfield 172, 3) := by decide +kernel
theorem dX4_refuse_17 : decode cX4_refuse 17 = .ok (.putfield 15, 3) := by decide +kernel
theorem dX4_refuse_20 : decode cX4_refuse 20 = .ok (.return_, 1) := by decide +kernel
set_option maxHeartbeats 4000000 in
set_option maxRecDepth 100000 in
theorem m_X4_refuse (l : Launch) (D : va_G) (cy : Nat → ClassId) (g : Nat → Nat) (σ : ST) (p1 : Int32) (sz : Nat) (hJ : J8 σ) (h0 : (1 : Int) ≤ p1.toInt ∧ p1.toInt ≤ 3) : Met l yX4_refuse (ww yX4_refuse cX4_refuse 2 none) ({ frames := 1, cells := 0, slots := 0, locals := 64 }) (va_Pc [.ref (gO g 12), .int p1] (pr8 D cy g σ sz)) (qv8 D cy g sz (fun τ => Fr (fO [12]) σ τ ∧ J8 τ ∧ True)) 0 0 (A8 cy g sz) := by
  refine Met.ofW (cc := cX4_refuse) (maxL := 2) (ret := none) (by decide) rfl ?_
  intro p e s m args below meth c s₁ B hml hv
  obtain ⟨rfl, hsz, hP, hK, hD0, hC⟩ := hv
  have hx := B.exec
  have hb := B.bytes
  have hr := B.returns
  have hts := hts_g (atoms_spec (ws := ww yX4_refuse cX4_refuse 2 none) B.pre)
  have hown : s.vm.findClass RX4 = some m.cls := findClass_of_methodNamed B.named
  have hlocks := B.notSynchronized
  clear B
  subst hsz
  have hD := fun τ => A8_D (sz := s.heap.size) hD0 τ
  clear hD0
  have hS : va_S (A8 cy g s.heap.size) s.heap s.heap [] := va_S.rf
  have hl := lv_entry ([.ref (gO g 12), .int p1]) (n := 2) (Nat.le_of_ble_eq_true rfl)
  rw [lg_entry_eq]
  generalize (lg_sl ([.ref (gO g 12), .int p1]) ++ List.replicate (2 - (lg_sl ([.ref (gO g 12), .int p1])).length) Slot.unset).toArray = ls at hl ⊢
  have hl : lv_has ls 2 [(0, .ref (gO g 12)), (1, .int p1)] := hl
  refine lv_aload_n hx hb dX4_refuse_0 rfl (lv_at hl 0 rfl) ?_
  refine g8_4_2 (x := ((σ 12).1 2)) hx hb hts hown hK hP (rfl) (hts _ q160) dX4_refuse_1 ?_
  refine lv_if_ne (tgt := 20) hx hb dX4_refuse_4 (by decide) (fun c1 => ?_) (fun c1 => ?_)
  ·
    have k2 := neq32 c1
    exact W.vret hx hb hr (fun tS ht hW => ⟨⟨σ, rfl, ⟨Fr.rf, hJ, trivial⟩, (show va_P D clz (WD8 cy g σ) tS.heap by rw [ht]; exact hP)⟩, hS.F ht⟩) hS.2.2 dX4_refuse_20
  ·
    have k3 := peq32 c1
    refine lv_aload_n hx hb dX4_refuse_7 rfl (lv_at hl 0 rfl) ?_
    refine lv_iload_n hx hb dX4_refuse_8 rfl (lv_at hl 1 rfl) ?_
    refine p8_4_2 hx hb hts hown hK hP hD hS (hts _ q160) dX4_refuse_9 (fun H locs σ4 eσ4 hP hS => ?_)
    have hJ5 : J8 σ4 := hJ.I eσ4 rfl (show JI8 4 2 p1 from (by have f0 := h0; have g0 := rg32 p1; exact ⟨by omega, by omega⟩))
    refine lv_aload_n hx hb dX4_refuse_12 rfl (lv_at hl 0 rfl) ?_
    refine lv_aload_n hx hb dX4_refuse_13 rfl (lv_at hl 0 rfl) ?_
    refine g8_4_5 (x := ((σ 12).1 5)) hx hb hts hown hK hP (((sI_f eσ4) 12 5 (fN_k rfl)).1) (hts _ q165) dX4_refuse_14 ?_
    refine p8_4_3 hx hb hts hown hK hP hD hS (hts _ q162) dX4_refuse_17 (fun H locs σ6 eσ6 hP hS => ?_)
    have hJ7 : J8 σ6 := hJ5.I eσ6 rfl (show JI8 4 3 ((σ 12).1 5) from trivial)
    exact W.vret hx hb hr (fun tS ht hW => ⟨⟨σ6, rfl, ⟨Fr.tr (Fr.tr (Fr.rf) (sI_f eσ4) (fN_O mem0)) (sI_f eσ6) (fN_O mem0), hJ7, trivial⟩, (show va_P D clz (WD8 cy g σ6) tS.heap by rw [ht]; exact hP)⟩, hS.F ht⟩) hS.2.2 dX4_refuse_20

theorem q583 : Cond.code yX4_numberWithin cX4_numberWithin 4 (some .int) ∈ lw_g := lw_gm (List.mem_of_getElem? (i := 583) (by decide +kernel)) rfl
theorem q571 : Cond.methodLink RX4 52 yX4_refuse ∈ lw_g := lw_gm (List.mem_of_getElem? (i := 571) (by decide +kernel)) rfl
theorem q573 : Cond.instanceMethod yX4_refuse ∈ lw_g := lw_gm (List.mem_of_getElem? (i := 573) (by decide +kernel)) rfl
theorem q4 : Cond.selects RX4 yX4_refuse yX4_refuse ∈ lw_g := lw_gm (List.mem_of_getElem? (i := 4) (by decide +kernel)) rfl
theorem q499 : Cond.methodLink RX4 33 yX4_takeToken ∈ lw_g := lw_gm (List.mem_of_getElem? (i := 499) (by decide +kernel)) rfl
theorem q501 : Cond.instanceMethod yX4_takeToken ∈ lw_g := lw_gm (List.mem_of_getElem? (i := 501) (by decide +kernel)) rfl
theorem q0 : Cond.selects RX4 yX4_takeToken yX4_takeToken ∈ lw_g := lw_gm (List.mem_of_getElem? (i := 0) (by decide +kernel)) rfl
theorem dX4_numberWithin_0 : decode cX4_numberWithin 0 = .ok (.aload_n 0, 1) := by decide +kernel
theorem dX4_numberWithin_1 : decode cX4_numberWithin 1 = .ok (.getfield 169, 3) := by decide +kernel
theorem dX4_numberWithin_4 : decode cX4_numberWithin 4 = .ok (.istore_n 3, 1) := by decide +kernel
theorem dX4_numberWithin_5 : decode cX4_numberWithin 5 = .ok (.aload_n 0, 1) := by decide +kernel
theorem dX4_numberWithin_6 : decode cX4_numberWithin 6 = .ok (.getfield 36, 3) := by decide +kernel
theorem dX4_numberWithin_9 : decode cX4_numberWithin 9 = .ok (.iconst 2, 1) := by decide +kernel
theorem dX4_numberWithin_10 : decode cX4_numberWithin 10 = .ok (.if_icmp .eq 11, 3) := by decide +kernel
theorem dX4_numberWithin_13 : decode cX4_numberWithin 13 = .ok (.aload_n 0, 1) := by decide +kernel
theorem dX4_numberWithin_14 : decode cX4_numberWithin 14 = .ok (.iconst 1, 1) := by decide +kernel
theorem dX4_numberWithin_15 : decode cX4_numberWithin 15 = .ok (.invokevirtual 52, 3) := by decide +kernel
theorem dX4_numberWithin_18 : decode cX4_numberWithin 18 = .ok (.goto 18, 3) := by decide +kernel
theorem dX4_numberWithin_21 : decode cX4_numberWithin 21 = .ok (.iload_n 3, 1) := by decide +kernel
theorem dX4_numberWithin_22 : decode cX4_numberWithin 22 = .ok (.iload_n 1, 1) := by decide +kernel
theorem dX4_numberWithin_23 : decode cX4_numberWithin 23 = .ok (.if_icmp .lt 8, 3) := by decide +kernel
theorem dX4_numberWithin_26 : decode cX4_numberWithin 26 = .ok (.iload_n 3, 1) := by decide +kernel
theorem dX4_numberWithin_27 : decode cX4_numberWithin 27 = .ok (.iload_n 2, 1) := by decide +kernel
theorem dX4_numberWithin_28 : decode cX4_numberWithin 28 = .ok (.if_icmp .le 8, 3) := by decide +kernel
theorem dX4_numberWithin_31 : decode cX4_numberWithin 31 = .ok (.aload_n 0, 1) := by decide +kernel
theorem dX4_numberWithin_32 : decode cX4_numberWithin 32 = .ok (.iconst 2, 1) := by decide +kernel
theorem dX4_numberWithin_33 : decode cX4_numberWithin 33 = .ok (.invokevirtual 52, 3) := by decide +kernel
theorem dX4_numberWithin_36 : decode cX4_numberWithin 36 = .ok (.aload_n 0, 1) := by decide +kernel
theorem dX4_numberWithin_37 : decode cX4_numberWithin 37 = .ok (.invokevirtual 33, 3) := by decide +kernel
theorem dX4_numberWithin_40 : decode cX4_numberWithin 40 = .ok (.iload_n 3, 1) := by decide +kernel
theorem dX4_numberWithin_41 : decode cX4_numberWithin 41 = .ok (.ireturn, 1) := by decide +kernel
set_option maxHeartbeats 4000000 in
set_option maxRecDepth 100000 in
theorem m_X4_numberWithin (l : Launch) (D : va_G) (cy : Nat → ClassId) (g : Nat → Nat) (σ : ST) (p1 : Int32) (p2 : Int32) (sz : Nat) (hJ : J8 σ) (h0 : (0 : Int) ≤ p1.toInt ∧ p1.toInt ≤ 100) (h1 : (-1 : Int) ≤ p2.toInt ∧ p2.toInt ≤ 999) : Met l yX4_numberWithin (ww yX4_numberWithin cX4_numberWithin 4 (some .int)) ({ frames := 3, cells := 0, slots := 0, locals := 192 }) (va_Pc [.ref (gO g 12), .int p1, .int p2] (pr8 D cy g σ sz)) (qi8 D cy g sz (fun r τ => Fr (fO [12]) σ τ ∧ J8 τ ∧ ((-2147483648 : Int) ≤ r.toInt ∧ r.toInt ≤ 1000000) ∧ True)) 0 0 (A8 cy g sz) := by
  refine Met.ofW (cc := cX4_numberWithin) (maxL := 4) (ret := (some .int)) (by decide) rfl ?_
  intro p e s m args below meth c s₁ B hml hv
  obtain ⟨rfl, hsz, hP, hK, hD0, hC⟩ := hv
  have hx := B.exec
  have hb := B.bytes
  have hr := B.returns
  have hts := hts_g (atoms_spec (ws := ww yX4_numberWithin cX4_numberWithin 4 (some .int)) B.pre)
  have hown : s.vm.findClass RX4 = some m.cls := findClass_of_methodNamed B.named
  have hlocks := B.notSynchronized
  clear B
  subst hsz
  have hD := fun τ => A8_D (sz := s.heap.size) hD0 τ
  clear hD0
  have hS : va_S (A8 cy g s.heap.size) s.heap s.heap [] := va_S.rf
  have hl := lv_entry ([.ref (gO g 12), .int p1, .int p2]) (n := 4) (Nat.le_of_ble_eq_true rfl)
  rw [lg_entry_eq]
  generalize (lg_sl ([.ref (gO g 12), .int p1, .int p2]) ++ List.replicate (4 - (lg_sl ([.ref (gO g 12), .int p1, .int p2])).length) Slot.unset).toArray = ls at hl ⊢
  have hl : lv_has ls 4 [(0, .ref (gO g 12)), (1, .int p1), (2, .int p2)] := hl
  refine lv_aload_n hx hb dX4_numberWithin_0 rfl (lv_at hl 0 rfl) ?_
  refine g8_4_7 (x := ((σ 12).1 7)) hx hb hts hown hK hP (rfl) (hts _ q167) dX4_numberWithin_1 ?_
  refine lv_istore_n (lv' := [(3, .int ((σ 12).1 7)), (0, .ref (gO g 12)), (1, .int p1), (2, .int p2)]) hx hb dX4_numberWithin_4 rfl hl (by decide) rfl (fun ls hl => ?_)
  refine lv_aload_n hx hb dX4_numberWithin_5 rfl (lv_at hl 1 rfl) ?_
  refine g8_4_6 (x := ((σ 12).1 6)) hx hb hts hown hK hP (rfl) (hts _ q166) dX4_numberWithin_6 ?_
  refine lv_iconst (v := 2) hx hb dX4_numberWithin_9 (by decide) ?_
  refine lv_icmp_eq (tgt := 21) hx hb dX4_numberWithin_10 (by decide) (fun c1 => ?_) (fun c1 => ?_)
  ·
    have k2 := peq32 c1
    refine lv_iload_n hx hb dX4_numberWithin_21 rfl (lv_at hl 0 rfl) ?_
    refine lv_iload_n hx hb dX4_numberWithin_22 rfl (lv_at hl 2 rfl) ?_
    refine cut8 (D := D) (cy := cy) (g := g) (A := A8 cy g s.heap.size) (H0 := s.heap) 4 31 (fun x : LZ => [(3, .int ((σ 12).1 7)), (0, .ref (gO g 12)), (1, .int p1), (2, .int p2)]) (fun x : LZ => []) (fun x : LZ => (x.1 = σ) ∧ True) ?_ ?_
    ·
      intro y5 hI4 H locs ls hP hS hl
      rw [show y5.1 = σ from hI4.1] at hP
      have hl : lv_has ls 4 [(3, .int ((σ 12).1 7)), (0, .ref (gO g 12)), (1, .int p1), (2, .int p2)] := hl
      refine lv_aload_n hx hb dX4_numberWithin_31 rfl (lv_at hl 1 rfl) ?_
      refine lv_iconst (v := 2) hx hb dX4_numberWithin_32 (by decide) ?_
      refine va_callv (va_runV (As := [.int 2]) (rest := []) ⟨hx, hb, hml, hown, hts⟩ (m_X4_refuse l D cy g σ  (2) _ hJ (show (1 : Int) ≤ (2 : Int32).toInt ∧ (2 : Int32).toInt ≤ 3 from (by have z2 : (2 : Int32).toInt = 2 := (by decide); omega))) (cwV 1 hts (gd_V q571 q573 q4 q126 q574) rfl rfl rfl (by decide +kernel) ⟨(Nat.le_of_ble_eq_true rfl), (Nat.le_of_ble_eq_true rfl)⟩) (pv8 hP hK hD hC hS (rv8_4 hK hP)) rfl rfl hl.1 rfl (lv_room (Nat.le_of_ble_eq_true rfl)) dX4_numberWithin_33 ⟨Nat.le_of_ble_eq_true rfl, Nat.le_of_ble_eq_true rfl⟩) hS (fun q _ h => up8 hS q h) (up8 hS) (fun σ7 tS H1 locs ht hvm hw8 hB hz1 hk1 hS => ?_)
      have hP : va_P D clz (WD8 cy g σ7) H1 := by rw [← ht]; exact hB
      clear hB hz1 hk1 hvm ht
      generalize H1 = H at hP hS ⊢
      have hF9 : Fr (fO [12]) σ σ7 := hw8.1
      have hJ10 : J8 σ7 := hw8.2.1
      refine lv_aload_n hx hb dX4_numberWithin_36 rfl (lv_at hl 1 rfl) ?_
      refine va_callv (va_runV (As := []) (rest := []) ⟨hx, hb, hml, hown, hts⟩ (m_X4_takeToken l D cy g σ7   _ hJ10 ) (cwV 0 hts (gd_V q499 q501 q0 q126 q502) rfl rfl rfl (by decide +kernel) ⟨(Nat.le_of_ble_eq_true rfl), (Nat.le_of_ble_eq_true rfl)⟩) (pv8 hP hK hD hC hS (rv8_4 hK hP)) rfl rfl hl.1 rfl (lv_room (Nat.le_of_ble_eq_true rfl)) dX4_numberWithin_37 ⟨Nat.le_of_ble_eq_true rfl, Nat.le_of_ble_eq_true rfl⟩) hS (fun q _ h => up8 hS q h) (up8 hS) (fun σ12 tS H1 locs ht hvm hw13 hB hz1 hk1 hS => ?_)
      have hP : va_P D clz (WD8 cy g σ12) H1 := by rw [← ht]; exact hB
      clear hB hz1 hk1 hvm ht
      generalize H1 = H at hP hS ⊢
      have hF14 : Fr (fO [12]) σ7 σ12 := hw13.1
      have hJ15 : J8 σ12 := hw13.2.1
      refine lv_iload_n hx hb dX4_numberWithin_40 rfl (lv_at hl 0 rfl) ?_
      exact W.iret (v := ((σ 12).1 7)) hx hb hr (fun tS ht hW => ⟨⟨((σ 12).1 7), σ12, rfl, ⟨Fr.tr (Fr.tr (Fr.rf) hF9 (fO_sub (fun _ q => q))) hF14 (fO_sub (fun _ q => q)), hJ15, (show (-2147483648 : Int) ≤ ((σ 12).1 7).toInt ∧ ((σ 12).1 7).toInt ≤ 1000000 from (by have f0 := j8_4_7 hJ rfl; omega)), trivial⟩, (show va_P D clz (WD8 cy g σ12) tS.heap by rw [ht]; exact hP)⟩, hS.F ht⟩) hS.2.2 dX4_numberWithin_41
    ·
      intro nj3
      refine lv_icmp_lt (tgt := 31) hx hb dX4_numberWithin_23 (by decide) (fun c16 => ?_) (fun c16 => ?_)
      ·
        have k17 := plt32 c16
        exact nj3 (σ, lf [], lg []) ⟨rfl, trivial⟩ _ _ _ hP hS (lv_sub hl [0, 1, 2, 3] rfl)
      ·
        have k18 := nlt32 c16
        refine lv_iload_n hx hb dX4_numberWithin_26 rfl (lv_at hl 0 rfl) ?_
        refine lv_iload_n hx hb dX4_numberWithin_27 rfl (lv_at hl 3 rfl) ?_
        refine lv_icmp_le (tgt := 36) hx hb dX4_numberWithin_28 (by decide) (fun c19 => ?_) (fun c19 => ?_)
        ·
          have k20 := ple32 c19
          refine lv_aload_n hx hb dX4_numberWithin_36 rfl (lv_at hl 1 rfl) ?_
          refine va_callv (va_runV (As := []) (rest := []) ⟨hx, hb, hml, hown, hts⟩ (m_X4_takeToken l D cy g σ   _ hJ ) (cwV 0 hts (gd_V q499 q501 q0 q126 q502) rfl rfl rfl (by decide +kernel) ⟨(Nat.le_of_ble_eq_true rfl), (Nat.le_of_ble_eq_true rfl)⟩) (pv8 hP hK hD hC hS (rv8_4 hK hP)) rfl rfl hl.1 rfl (lv_room (Nat.le_of_ble_eq_true rfl)) dX4_numberWithin_37 ⟨Nat.le_of_ble_eq_true rfl, Nat.le_of_ble_eq_true rfl⟩) hS (fun q _ h => up8 hS q h) (up8 hS) (fun σ22 tS H1 locs ht hvm hw23 hB hz1 hk1 hS => ?_)
          have hP : va_P D clz (WD8 cy g σ22) H1 := by rw [← ht]; exact hB
          clear hB hz1 hk1 hvm ht
          generalize H1 = H at hP hS ⊢
          have hF24 : Fr (fO [12]) σ σ22 := hw23.1
          have hJ25 : J8 σ22 := hw23.2.1
          refine lv_iload_n hx hb dX4_numberWithin_40 rfl (lv_at hl 0 rfl) ?_
          exact W.iret (v := ((σ 12).1 7)) hx hb hr (fun tS ht hW => ⟨⟨((σ 12).1 7), σ22, rfl, ⟨Fr.tr (Fr.rf) hF24 (fO_sub (fun _ q => q)), hJ25, (show (-2147483648 : Int) ≤ ((σ 12).1 7).toInt ∧ ((σ 12).1 7).toInt ≤ 1000000 from (by have f0 := j8_4_7 hJ rfl; have f1 := k18; have f2 := k20; have f3 := h0; have f4 := h1; omega)), trivial⟩, (show va_P D clz (WD8 cy g σ22) tS.heap by rw [ht]; exact hP)⟩, hS.F ht⟩) hS.2.2 dX4_numberWithin_41
        ·
          have k26 := nle32 c19
          exact nj3 (σ, lf [], lg []) ⟨rfl, trivial⟩ _ _ _ hP hS (lv_sub hl [0, 1, 2, 3] rfl)
  ·
    have k27 := neq32 c1
    refine lv_aload_n hx hb dX4_numberWithin_13 rfl (lv_at hl 1 rfl) ?_
    refine lv_iconst (v := 1) hx hb dX4_numberWithin_14 (by decide) ?_
    refine va_callv (va_runV (As := [.int 1]) (rest := []) ⟨hx, hb, hml, hown, hts⟩ (m_X4_refuse l D cy g σ  (1) _ hJ (show (1 : Int) ≤ (1 : Int32).toInt ∧ (1 : Int32).toInt ≤ 3 from (by have z1 : (1 : Int32).toInt = 1 := (by decide); omega))) (cwV 1 hts (gd_V q571 q573 q4 q126 q574) rfl rfl rfl (by decide +kernel) ⟨(Nat.le_of_ble_eq_true rfl), (Nat.le_of_ble_eq_true rfl)⟩) (pv8 hP hK hD hC hS (rv8_4 hK hP)) rfl rfl hl.1 rfl (lv_room (Nat.le_of_ble_eq_true rfl)) dX4_numberWithin_15 ⟨Nat.le_of_ble_eq_true rfl, Nat.le_of_ble_eq_true rfl⟩) hS (fun q _ h => up8 hS q h) (up8 hS) (fun σ29 tS H1 locs ht hvm hw30 hB hz1 hk1 hS => ?_)
    have hP : va_P D clz (WD8 cy g σ29) H1 := by rw [← ht]; exact hB
    clear hB hz1 hk1 hvm ht
    generalize H1 = H at hP hS ⊢
    have hF31 : Fr (fO [12]) σ σ29 := hw30.1
    have hJ32 : J8 σ29 := hw30.2.1
    refine lv_goto (tgt := 36) hx hb dX4_numberWithin_18 (by decide) ?_
    refine lv_aload_n hx hb dX4_numberWithin_36 rfl (lv_at hl 1 rfl) ?_
    refine va_callv (va_runV (As := []) (rest := []) ⟨hx, hb, hml, hown, hts⟩ (m_X4_takeToken l D cy g σ29   _ hJ32 ) (cwV 0 hts (gd_V q499 q501 q0 q126 q502) rfl rfl rfl (by decide +kernel) ⟨(Nat.le_of_ble_eq_true rfl), (Nat.le_of_ble_eq_true rfl)⟩) (pv8 hP hK hD hC hS (rv8_4 hK hP)) rfl rfl hl.1 rfl (lv_room (Nat.le_of_ble_eq_true rfl)) dX4_numberWithin_37 ⟨Nat.le_of_ble_eq_true rfl, Nat.le_of_ble_eq_true rfl⟩) hS (fun q _ h => up8 hS q h) (up8 hS) (fun σ34 tS H1 locs ht hvm hw35 hB hz1 hk1 hS => ?_)
    have hP : va_P D clz (WD8 cy g σ34) H1 := by rw [← ht]; exact hB
    clear hB hz1 hk1 hvm ht
    generalize H1 = H at hP hS ⊢
    have hF36 : Fr (fO [12]) σ29 σ34 := hw35.1
    have hJ37 : J8 σ34 := hw35.2.1
    refine lv_iload_n hx hb dX4_numberWithin_40 rfl (lv_at hl 0 rfl) ?_
    exact W.iret (v := ((σ 12).1 7)) hx hb hr (fun tS ht hW => ⟨⟨((σ 12).1 7), σ34, rfl, ⟨Fr.tr (Fr.tr (Fr.rf) hF31 (fO_sub (fun _ q => q))) hF36 (fO_sub (fun _ q => q)), hJ37, (show (-2147483648 : Int) ≤ ((σ 12).1 7).toInt ∧ ((σ 12).1 7).toInt ≤ 1000000 from (by have f0 := j8_4_7 hJ rfl; omega)), trivial⟩, (show va_P D clz (WD8 cy g σ34) tS.heap by rw [ht]; exact hP)⟩, hS.F ht⟩) hS.2.2 dX4_numberWithin_41

theorem q579 : Cond.code yX4_numberBehind cX4_numberBehind 4 (some .int) ∈ lw_g := lw_gm (List.mem_of_getElem? (i := 579) (by decide +kernel)) rfl
theorem q519 : Cond.methodLink RX4 48 yX4_isWord ∈ lw_g := lw_gm (List.mem_of_getElem? (i := 519) (by decide +kernel)) rfl
theorem q521 : Cond.instanceMethod yX4_isWord ∈ lw_g := lw_gm (List.mem_of_getElem? (i := 521) (by decide +kernel)) rfl
theorem q3 : Cond.selects RX4 yX4_isWord yX4_isWord ∈ lw_g := lw_gm (List.mem_of_getElem? (i := 3) (by decide +kernel)) rfl
theorem q580 : Cond.methodLink RX4 112 yX4_numberWithin ∈ lw_g := lw_gm (List.mem_of_getElem? (i := 580) (by decide +kernel)) rfl
theorem q582 : Cond.instanceMethod yX4_numberWithin ∈ lw_g := lw_gm (List.mem_of_getElem? (i := 582) (by decide +kernel)) rfl
theorem q6 : Cond.selects RX4 yX4_numberWithin yX4_numberWithin ∈ lw_g := lw_gm (List.mem_of_getElem? (i := 6) (by decide +kernel)) rfl
theorem dX4_numberBehind_0 : decode cX4_numberBehind 0 = .ok (.aload_n 0, 1) := by decide +kernel
theorem dX4_numberBehind_1 : decode cX4_numberBehind 1 = .ok (.aload_n 1, 1) := by decide +kernel
theorem dX4_numberBehind_2 : decode cX4_numberBehind 2 = .ok (.invokevirtual 48, 3) := by decide +kernel
theorem dX4_numberBehind_5 : decode cX4_numberBehind 5 = .ok (.ifCond .eq 10, 3) := by decide +kernel
theorem dX4_numberBehind_8 : decode cX4_numberBehind 8 = .ok (.aload_n 0, 1) := by decide +kernel
theorem dX4_numberBehind_9 : decode cX4_numberBehind 9 = .ok (.invokevirtual 33, 3) := by decide +kernel
theorem dX4_numberBehind_12 : decode cX4_numberBehind 12 = .ok (.goto 8, 3) := by decide +kernel
theorem dX4_numberBehind_15 : decode cX4_numberBehind 15 = .ok (.aload_n 0, 1) := by decide +kernel
theorem dX4_numberBehind_16 : decode cX4_numberBehind 16 = .ok (.iconst 1, 1) := by decide +kernel
theorem dX4_numberBehind_17 : decode cX4_numberBehind 17 = .ok (.invokevirtual 52, 3) := by decide +kernel
theorem dX4_numberBehind_20 : decode cX4_numberBehind 20 = .ok (.aload_n 0, 1) := by decide +kernel
theorem dX4_numberBehind_21 : decode cX4_numberBehind 21 = .ok (.iload_n 2, 1) := by decide +kernel
theorem dX4_numberBehind_22 : decode cX4_numberBehind 22 = .ok (.iload_n 3, 1) := by decide +kernel
theorem dX4_numberBehind_23 : decode cX4_numberBehind 23 = .ok (.invokevirtual 112, 3) := by decide +kernel
theorem dX4_numberBehind_26 : decode cX4_numberBehind 26 = .ok (.ireturn, 1) := by decide +kernel
set_option maxHeartbeats 4000000 in
set_option maxRecDepth 100000 in
theorem m_X4_numberBehind (l : Launch) (D : va_G) (cy : Nat → ClassId) (g : Nat → Nat) (σ : ST) (i1 : Nat) (p2 : Int32) (p3 : Int32) (sz : Nat) (hJ : J8 σ) (hi1 : i1 < 21) (h0 : (0 : Int) ≤ p2.toInt ∧ p2.toInt ≤ 100) (h1 : (9 : Int) ≤ p3.toInt ∧ p3.toInt ≤ 999) : Met l yX4_numberBehind (ww yX4_numberBehind cX4_numberBehind 4 (some .int)) ({ frames := 6, cells := 0, slots := 0, locals := 384 }) (va_Pc [.ref (gO g 12), .ref (gS g i1), .int p2, .int p3] (pr8 D cy g σ sz)) (qi8 D cy g sz (fun r τ => Fr (fO [12]) σ τ ∧ J8 τ ∧ ((-2147483648 : Int) ≤ r.toInt ∧ r.toInt ≤ 1000000) ∧ True)) 0 0 (A8 cy g sz) := by
  refine Met.ofW (cc := cX4_numberBehind) (maxL := 4) (ret := (some .int)) (by decide) rfl ?_
  intro p e s m args below meth c s₁ B hml hv
  obtain ⟨rfl, hsz, hP, hK, hD0, hC⟩ := hv
  have hx := B.exec
  have hb := B.bytes
  have hr := B.returns
  have hts := hts_g (atoms_spec (ws := ww yX4_numberBehind cX4_numberBehind 4 (some .int)) B.pre)
  have hown : s.vm.findClass RX4 = some m.cls := findClass_of_methodNamed B.named
  have hlocks := B.notSynchronized
  clear B
  subst hsz
  have hD := fun τ => A8_D (sz := s.heap.size) hD0 τ
  clear hD0
  have hS : va_S (A8 cy g s.heap.size) s.heap s.heap [] := va_S.rf
  have hl := lv_entry ([.ref (gO g 12), .ref (gS g i1), .int p2, .int p3]) (n := 4) (Nat.le_of_ble_eq_true rfl)
  rw [lg_entry_eq]
  generalize (lg_sl ([.ref (gO g 12), .ref (gS g i1), .int p2, .int p3]) ++ List.replicate (4 - (lg_sl ([.ref (gO g 12), .ref (gS g i1), .int p2, .int p3])).length) Slot.unset).toArray = ls at hl ⊢
  have hl : lv_has ls 4 [(0, .ref (gO g 12)), (1, .ref (gS g i1)), (2, .int p2), (3, .int p3)] := hl
  refine lv_aload_n hx hb dX4_numberBehind_0 rfl (lv_at hl 0 rfl) ?_
  refine lv_aload_n hx hb dX4_numberBehind_1 rfl (lv_at hl 1 rfl) ?_
  refine va_calli (va_runV (As := [.ref (gS g i1)]) (rest := []) ⟨hx, hb, hml, hown, hts⟩ (m_X4_isWord l D cy g σ  i1 _ hJ hi1) (cwV 1 hts (gd_V q519 q521 q3 q126 q522) rfl rfl rfl (by decide +kernel) ⟨(Nat.le_of_ble_eq_true rfl), (Nat.le_of_ble_eq_true rfl)⟩) (pv8 hP hK hD hC hS (rv8_4 hK hP)) rfl rfl hl.1 rfl (lv_room (Nat.le_of_ble_eq_true rfl)) dX4_numberBehind_2 ⟨Nat.le_of_ble_eq_true rfl, Nat.le_of_ble_eq_true rfl⟩) hS (fun q _ h => up8 hS q h) (up8 hS) (fun r1 σ2 tS H1 locs ht hvm hw3 hB hz1 hk1 hS => ?_)
  have hP : va_P D clz (WD8 cy g σ2) H1 := by rw [← ht]; exact hB
  clear hB hz1 hk1 hvm ht
  generalize H1 = H at hP hS ⊢
  have hw3E : σ = σ2 := (hw3.1).symm
  subst hw3E
  have b4 : (0 : Int) ≤ r1.toInt ∧ r1.toInt ≤ 1 := hw3.2.1
  refine cut8 (D := D) (cy := cy) (g := g) (A := A8 cy g s.heap.size) (H0 := s.heap) 4 20 (fun x : LZ => [(0, .ref (gO g 12)), (1, .ref (gS g i1)), (2, .int p2), (3, .int p3)]) (fun x : LZ => []) (fun x : LZ => (Fr (fO [12]) σ x.1) ∧ (J8 x.1) ∧ True) ?_ ?_
  ·
    intro y7 hI6 H locs ls hP hS hl
    obtain ⟨σ8, eσ8⟩ : ∃ z, z = y7.1 := ⟨_, rfl⟩
    rw [← eσ8] at hP hI6
    have hF9 : Fr (fO [12]) σ σ8 := hI6.1
    have hJ10 : J8 σ8 := hI6.2.1
    have hl : lv_has ls 4 [(0, .ref (gO g 12)), (1, .ref (gS g i1)), (2, .int p2), (3, .int p3)] := hl
    refine lv_aload_n hx hb dX4_numberBehind_20 rfl (lv_at hl 0 rfl) ?_
    refine lv_iload_n hx hb dX4_numberBehind_21 rfl (lv_at hl 2 rfl) ?_
    refine lv_iload_n hx hb dX4_numberBehind_22 rfl (lv_at hl 3 rfl) ?_
    refine va_calli (va_runV (As := [.int p2, .int p3]) (rest := []) ⟨hx, hb, hml, hown, hts⟩ (m_X4_numberWithin l D cy g σ8  p2 p3 _ hJ10 (show (0 : Int) ≤ p2.toInt ∧ p2.toInt ≤ 100 from (by have f0 := h0; have g0 := rg32 p2; omega)) (show (-1 : Int) ≤ p3.toInt ∧ p3.toInt ≤ 999 from (by have f0 := h0; have f1 := h1; have g0 := rg32 p2; have g1 := rg32 p3; omega))) (cwV 2 hts (gd_V q580 q582 q6 q126 q583) rfl rfl rfl (by decide +kernel) ⟨(Nat.le_of_ble_eq_true rfl), (Nat.le_of_ble_eq_true rfl)⟩) (pv8 hP hK hD hC hS (rv8_4 hK hP)) rfl rfl hl.1 rfl (lv_room (Nat.le_of_ble_eq_true rfl)) dX4_numberBehind_23 ⟨Nat.le_of_ble_eq_true rfl, Nat.le_of_ble_eq_true rfl⟩) hS (fun q _ h => up8 hS q h) (up8 hS) (fun r11 σ12 tS H1 locs ht hvm hw13 hB hz1 hk1 hS => ?_)
    have hP : va_P D clz (WD8 cy g σ12) H1 := by rw [← ht]; exact hB
    clear hB hz1 hk1 hvm ht
    generalize H1 = H at hP hS ⊢
    have hF14 : Fr (fO [12]) σ8 σ12 := hw13.1
    have hJ15 : J8 σ12 := hw13.2.1
    have b16 : (-2147483648 : Int) ≤ r11.toInt ∧ r11.toInt ≤ 1000000 := hw13.2.2.1
    exact W.iret (v := r11) hx hb hr (fun tS ht hW => ⟨⟨r11, σ12, rfl, ⟨Fr.tr (Fr.tr (Fr.rf) hF9 (fO_sub (fun _ q => q))) hF14 (fO_sub (fun _ q => q)), hJ15, (show (-2147483648 : Int) ≤ r11.toInt ∧ r11.toInt ≤ 1000000 from (by have f0 := b16; have g0 := rg32 r11; omega)), trivial⟩, (show va_P D clz (WD8 cy g σ12) tS.heap by rw [ht]; exact hP)⟩, hS.F ht⟩) hS.2.2 dX4_numberBehind_26
  ·
    intro nj5
    refine lv_if_eq (tgt := 15) hx hb dX4_numberBehind_5 (by decide) (fun c17 => ?_) (fun c17 => ?_)
    ·
      have k18 := peq32 c17
      refine lv_aload_n hx hb dX4_numberBehind_15 rfl (lv_at hl 0 rfl) ?_
      refine lv_iconst (v := 1) hx hb dX4_numberBehind_16 (by decide) ?_
      refine va_callv (va_runV (As := [.int 1]) (rest := []) ⟨hx, hb, hml, hown, hts⟩ (m_X4_refuse l D cy g σ  (1) _ hJ (show (1 : Int) ≤ (1 : Int32).toInt ∧ (1 : Int32).toInt ≤ 3 from (by have z1 : (1 : Int32).toInt = 1 := (by decide); omega))) (cwV 1 hts (gd_V q571 q573 q4 q126 q574) rfl rfl rfl (by decide +kernel) ⟨(Nat.le_of_ble_eq_true rfl), (Nat.le_of_ble_eq_true rfl)⟩) (pv8 hP hK hD hC hS (rv8_4 hK hP)) rfl rfl hl.1 rfl (lv_room (Nat.le_of_ble_eq_true rfl)) dX4_numberBehind_17 ⟨Nat.le_of_ble_eq_true rfl, Nat.le_of_ble_eq_true rfl⟩) hS (fun q _ h => up8 hS q h) (up8 hS) (fun σ20 tS H1 locs ht hvm hw21 hB hz1 hk1 hS => ?_)
      have hP : va_P D clz (WD8 cy g σ20) H1 := by rw [← ht]; exact hB
      clear hB hz1 hk1 hvm ht
      generalize H1 = H at hP hS ⊢
      have hF22 : Fr (fO [12]) σ σ20 := hw21.1
      have hJ23 : J8 σ20 := hw21.2.1
      exact nj5 (σ20, lf [], lg []) ⟨Fr.tr (Fr.rf) hF22 (fO_sub (fun _ q => q)), hJ23, trivial⟩ _ _ _ hP hS (lv_sub hl [0, 1, 2, 3] rfl)
    ·
      have k24 := neq32 c17
      refine lv_aload_n hx hb dX4_numberBehind_8 rfl (lv_at hl 0 rfl) ?_
      refine va_callv (va_runV (As := []) (rest := []) ⟨hx, hb, hml, hown, hts⟩ (m_X4_takeToken l D cy g σ   _ hJ ) (cwV 0 hts (gd_V q499 q501 q0 q126 q502) rfl rfl rfl (by decide +kernel) ⟨(Nat.le_of_ble_eq_true rfl), (Nat.le_of_ble_eq_true rfl)⟩) (pv8 hP hK hD hC hS (rv8_4 hK hP)) rfl rfl hl.1 rfl (lv_room (Nat.le_of_ble_eq_true rfl)) dX4_numberBehind_9 ⟨Nat.le_of_ble_eq_true rfl, Nat.le_of_ble_eq_true rfl⟩) hS (fun q _ h => up8 hS q h) (up8 hS) (fun σ26 tS H1 locs ht hvm hw27 hB hz1 hk1 hS => ?_)
      have hP : va_P D clz (WD8 cy g σ26) H1 := by rw [← ht]; exact hB
      clear hB hz1 hk1 hvm ht
      generalize H1 = H at hP hS ⊢
      have hF28 : Fr (fO [12]) σ σ26 := hw27.1
      have hJ29 : J8 σ26 := hw27.2.1
      refine lv_goto (tgt := 20) hx hb dX4_numberBehind_12 (by decide) ?_
      exact nj5 (σ26, lf [], lg []) ⟨Fr.tr (Fr.rf) hF28 (fO_sub (fun _ q => q)), hJ29, trivial⟩ _ _ _ hP hS (lv_sub hl [0, 1, 2, 3] rfl)

theorem q601 : Cond.code yX0_hasBrass cX0_hasBrass 2 (some .boolean) ∈ lw_g := lw_gm (List.mem_of_getElem? (i := 601) (by decide +kernel)) rfl
theorem dX0_hasBrass_0 : decode cX0_hasBrass 0 = .ok (.iload_n 1, 1) := by decide +kernel
theorem dX0_hasBrass_1 : decode cX0_hasBrass 1 = .ok (.ifCond .lt 15, 3) := by decide +kernel
theorem dX0_hasBrass_4 : decode cX0_hasBrass 4 = .ok (.iload_n 1, 1) := by decide +kernel
theorem dX0_hasBrass_5 : decode cX0_hasBrass 5 = .ok (.aload_n 0, 1) := by decide +kernel
theorem dX0_hasBrass_6 : decode cX0_hasBrass 6 = .ok (.getfield 34, 3) := by decide +kernel
theorem dX0_hasBrass_9 : decode cX0_hasBrass 9 = .ok (.if_icmp .ge 7, 3) := by decide +kernel
theorem dX0_hasBrass_12 : decode cX0_hasBrass 12 = .ok (.iconst 1, 1) := by decide +kernel
theorem dX0_hasBrass_13 : decode cX0_hasBrass 13 = .ok (.goto 4, 3) := by decide +kernel
theorem dX0_hasBrass_16 : decode cX0_hasBrass 16 = .ok (.iconst 0, 1) := by decide +kernel
theorem dX0_hasBrass_17 : decode cX0_hasBrass 17 = .ok (.ireturn, 1) := by decide +kernel
set_option maxHeartbeats 4000000 in
set_option maxRecDepth 100000 in
theorem m_X0_hasBrass (l : Launch) (D : va_G) (cy : Nat → ClassId) (g : Nat → Nat) (σ : ST) (d0 : Nat) (p1 : Int32) (sz : Nat) (hJ : J8 σ) (hd0 : 0 ≤ d0 ∧ d0 < 5) : Met l yX0_hasBrass (ww yX0_hasBrass cX0_hasBrass 2 (some .boolean)) ({ frames := 1, cells := 0, slots := 0, locals := 64 }) (va_Pc [.ref (gO g d0), .int p1] (pr8 D cy g σ sz)) (qi8 D cy g sz (fun r τ => τ = σ ∧ ((0 : Int) ≤ r.toInt ∧ r.toInt ≤ 1) ∧ ((r.toInt = 0) ∨ ((0 : Int) ≤ p1.toInt ∧ p1.toInt ≤ 3)) ∧ True)) 0 0 (A8 cy g sz) := by
  refine Met.ofW (cc := cX0_hasBrass) (maxL := 2) (ret := (some .boolean)) (by decide) rfl ?_
  intro p e s m args below meth c s₁ B hml hv
  obtain ⟨rfl, hsz, hP, hK, hD0, hC⟩ := hv
  have hx := B.exec
  have hb := B.bytes
  have hr := B.returns
  have hts := hts_g (atoms_spec (ws := ww yX0_hasBrass cX0_hasBrass 2 (some .boolean)) B.pre)
  have hown : s.vm.findClass RX0 = some m.cls := findClass_of_methodNamed B.named
  have hlocks := B.notSynchronized
  clear B
  subst hsz
  have hD := fun τ => A8_D (sz := s.heap.size) hD0 τ
  clear hD0
  have hS : va_S (A8 cy g s.heap.size) s.heap s.heap [] := va_S.rf
  have hl := lv_entry ([.ref (gO g d0), .int p1]) (n := 2) (Nat.le_of_ble_eq_true rfl)
  rw [lg_entry_eq]
  generalize (lg_sl ([.ref (gO g d0), .int p1]) ++ List.replicate (2 - (lg_sl ([.ref (gO g d0), .int p1])).length) Slot.unset).toArray = ls at hl ⊢
  have hl : lv_has ls 2 [(0, .ref (gO g d0)), (1, .int p1)] := hl
  refine lv_iload_n hx hb dX0_hasBrass_0 rfl (lv_at hl 1 rfl) ?_
  refine lv_if_lt (tgt := 16) hx hb dX0_hasBrass_1 (by decide) (fun c1 => ?_) (fun c1 => ?_)
  ·
    have k2 := plt32 c1
    refine lv_iconst (v := 0) hx hb dX0_hasBrass_16 (by decide) ?_
    exact W.zret (v := 0) hx hb hr rfl (fun tS ht hW => ⟨⟨0, σ, rfl, ⟨rfl, (show (0 : Int) ≤ (0 : Int32).toInt ∧ (0 : Int32).toInt ≤ 1 from (by have z0 : (0 : Int32).toInt = 0 := (by decide); omega)), (show ((0 : Int32).toInt = 0) ∨ ((0 : Int) ≤ p1.toInt ∧ p1.toInt ≤ 3) from (by have f0 := k2; have g0 := rg32 p1; have z0 : (0 : Int32).toInt = 0 := (by decide); omega)), trivial⟩, (show va_P D clz (WD8 cy g σ) tS.heap by rw [ht]; exact hP)⟩, hS.F ht⟩) hS.2.2 dX0_hasBrass_17
  ·
    have k3 := nlt32 c1
    refine lv_iload_n hx hb dX0_hasBrass_4 rfl (lv_at hl 1 rfl) ?_
    refine lv_aload_n hx hb dX0_hasBrass_5 rfl (lv_at hl 0 rfl) ?_
    refine g8_0_3 (x := ((σ d0).1 3)) hx hb hts hown hK hP hd0 (rfl) (hts _ q202) dX0_hasBrass_6 ?_
    refine lv_icmp_ge (tgt := 16) hx hb dX0_hasBrass_9 (by decide) (fun c4 => ?_) (fun c4 => ?_)
    ·
      have k5 := ple32 c4
      refine lv_iconst (v := 0) hx hb dX0_hasBrass_16 (by decide) ?_
      exact W.zret (v := 0) hx hb hr rfl (fun tS ht hW => ⟨⟨0, σ, rfl, ⟨rfl, (show (0 : Int) ≤ (0 : Int32).toInt ∧ (0 : Int32).toInt ≤ 1 from (by have z0 : (0 : Int32).toInt = 0 := (by decide); omega)), (show ((0 : Int32).toInt = 0) ∨ ((0 : Int) ≤ p1.toInt ∧ p1.toInt ≤ 3) from (by have f0 := k3; have f1 := k5; have f2 := j8_0_3 hJ hd0 rfl; have g0 := rg32 p1; have z0 : (0 : Int32).toInt = 0 := (by decide); omega)), trivial⟩, (show va_P D clz (WD8 cy g σ) tS.heap by rw [ht]; exact hP)⟩, hS.F ht⟩) hS.2.2 dX0_hasBrass_17
    ·
      have k6 := nle32 c4
      refine lv_iconst (v := 1) hx hb dX0_hasBrass_12 (by decide) ?_
      refine lv_goto (tgt := 17) hx hb dX0_hasBrass_13 (by decide) ?_
      exact W.zret (v := 1) hx hb hr rfl (fun tS ht hW => ⟨⟨1, σ, rfl, ⟨rfl, (show (0 : Int) ≤ (1 : Int32).toInt ∧ (1 : Int32).toInt ≤ 1 from (by have z1 : (1 : Int32).toInt = 1 := (by decide); omega)), (show ((1 : Int32).toInt = 0) ∨ ((0 : Int) ≤ p1.toInt ∧ p1.toInt ≤ 3) from (by have f0 := k3; have f1 := k6; have f2 := j8_0_3 hJ hd0 rfl; have g0 := rg32 p1; have z0 : (0 : Int32).toInt = 0 := (by decide); have z1 : (1 : Int32).toInt = 1 := (by decide); omega)), trivial⟩, (show va_P D clz (WD8 cy g σ) tS.heap by rw [ht]; exact hP)⟩, hS.F ht⟩) hS.2.2 dX0_hasBrass_17

theorem q597 : Cond.code yX0_setBrass cX0_setBrass 4 none ∈ lw_g := lw_gm (List.mem_of_getElem? (i := 597) (by decide +kernel)) rfl
theorem q598 : Cond.methodLink RX0 64 yX0_hasBrass ∈ lw_g := lw_gm (List.mem_of_getElem? (i := 598) (by decide +kernel)) rfl
theorem q599 : Cond.instanceMethod yX0_hasBrass ∈ lw_g := lw_gm (List.mem_of_getElem? (i := 599) (by decide +kernel)) rfl
theorem q600 : Cond.selects RX0 yX0_hasBrass yX0_hasBrass ∈ lw_g := lw_gm (List.mem_of_getElem? (i := 600) (by decide +kernel)) rfl
theorem q127 : Cond.initialized RX0 ∈ lw_g := lw_gm (List.mem_of_getElem? (i := 127) (by decide +kernel)) rfl
theorem q212 : Cond.fieldLink RX0 9 "LipsAndSlides$Desk" "brassRows" "[I" ∈ lw_g := lw_gm (List.mem_of_getElem? (i := 212) (by decide +kernel)) rfl
theorem dX0_setBrass_0 : decode cX0_setBrass 0 = .ok (.aload_n 0, 1) := by decide +kernel
theorem dX0_setBrass_1 : decode cX0_setBrass 1 = .ok (.iload_n 1, 1) := by decide +kernel
theorem dX0_setBrass_2 : decode cX0_setBrass 2 = .ok (.invokevirtual 64, 3) := by decide +kernel
theorem dX0_setBrass_5 : decode cX0_setBrass 5 = .ok (.ifCond .eq 25, 3) := by decide +kernel
theorem dX0_setBrass_8 : decode cX0_setBrass 8 = .ok (.iload_n 2, 1) := by decide +kernel
theorem dX0_setBrass_9 : decode cX0_setBrass 9 = .ok (.ifCond .lt 21, 3) := by decide +kernel
theorem dX0_setBrass_12 : decode cX0_setBrass 12 = .ok (.iload_n 2, 1) := by decide +kernel
theorem dX0_setBrass_13 : decode cX0_setBrass 13 = .ok (.bipush 7, 2) := by decide +kernel
theorem dX0_setBrass_15 : decode cX0_setBrass 15 = .ok (.if_icmp .ge 15, 3) := by decide +kernel
theorem dX0_setBrass_18 : decode cX0_setBrass 18 = .ok (.aload_n 0, 1) := by decide +kernel
theorem dX0_setBrass_19 : decode cX0_setBrass 19 = .ok (.getfield 9, 3) := by decide +kernel
theorem dX0_setBrass_22 : decode cX0_setBrass 22 = .ok (.iload_n 1, 1) := by decide +kernel
theorem dX0_setBrass_23 : decode cX0_setBrass 23 = .ok (.bipush 7, 2) := by decide +kernel
theorem dX0_setBrass_25 : decode cX0_setBrass 25 = .ok (.imul, 1) := by decide +kernel
theorem dX0_setBrass_26 : decode cX0_setBrass 26 = .ok (.iload_n 2, 1) := by decide +kernel
theorem dX0_setBrass_27 : decode cX0_setBrass 27 = .ok (.iadd, 1) := by decide +kernel
theorem dX0_setBrass_28 : decode cX0_setBrass 28 = .ok (.iload_n 3, 1) := by decide +kernel
theorem dX0_setBrass_29 : decode cX0_setBrass 29 = .ok (.iastore, 1) := by decide +kernel
theorem dX0_setBrass_30 : decode cX0_setBrass 30 = .ok (.return_, 1) := by decide +kernel
set_option maxHeartbeats 4000000 in
set_option maxRecDepth 100000 in
theorem m_X0_setBrass (l : Launch) (D : va_G) (cy : Nat → ClassId) (g : Nat → Nat) (σ : ST) (d0 : Nat) (p1 : Int32) (p2 : Int32) (p3 : Int32) (sz : Nat) (hJ : J8 σ) (hd0 : 0 ≤ d0 ∧ d0 < 5) (h0 : (-1 : Int) ≤ p1.toInt ∧ p1.toInt ≤ 3) (h1 : (0 : Int) ≤ p2.toInt ∧ p2.toInt ≤ 6) (h2 : (-2147483648 : Int) ≤ p3.toInt ∧ p3.toInt ≤ 1000000) : Met l yX0_setBrass (ww yX0_setBrass cX0_setBrass 4 none) ({ frames := 2, cells := 0, slots := 0, locals := 128 }) (va_Pc [.ref (gO g d0), .int p1, .int p2, .int p3] (pr8 D cy g σ sz)) (qv8 D cy g sz (fun τ => Fr (fO [d0]) σ τ ∧ J8 τ ∧ True)) 0 0 (A8 cy g sz) := by
  refine Met.ofW (cc := cX0_setBrass) (maxL := 4) (ret := none) (by decide) rfl ?_
  intro p e s m args below meth c s₁ B hml hv
  obtain ⟨rfl, hsz, hP, hK, hD0, hC⟩ := hv
  have hx := B.exec
  have hb := B.bytes
  have hr := B.returns
  have hts := hts_g (atoms_spec (ws := ww yX0_setBrass cX0_setBrass 4 none) B.pre)
  have hown : s.vm.findClass RX0 = some m.cls := findClass_of_methodNamed B.named
  have hlocks := B.notSynchronized
  clear B
  subst hsz
  have hD := fun τ => A8_D (sz := s.heap.size) hD0 τ
  clear hD0
  have hS : va_S (A8 cy g s.heap.size) s.heap s.heap [] := va_S.rf
  have hl := lv_entry ([.ref (gO g d0), .int p1, .int p2, .int p3]) (n := 4) (Nat.le_of_ble_eq_true rfl)
  rw [lg_entry_eq]
  generalize (lg_sl ([.ref (gO g d0), .int p1, .int p2, .int p3]) ++ List.replicate (4 - (lg_sl ([.ref (gO g d0), .int p1, .int p2, .int p3])).length) Slot.unset).toArray = ls at hl ⊢
  have hl : lv_has ls 4 [(0, .ref (gO g d0)), (1, .int p1), (2, .int p2), (3, .int p3)] := hl
  refine lv_aload_n hx hb dX0_setBrass_0 rfl (lv_at hl 0 rfl) ?_
  refine lv_iload_n hx hb dX0_setBrass_1 rfl (lv_at hl 1 rfl) ?_
  refine va_calli (va_runV (As := [.int p1]) (rest := []) ⟨hx, hb, hml, hown, hts⟩ (m_X0_hasBrass l D cy g σ  d0 p1 _ hJ (show 0 ≤ d0 ∧ d0 < 5 from hd0)) (cwV 1 hts (gd_V q598 q599 q600 q127 q601) rfl rfl rfl (by decide +kernel) ⟨(Nat.le_of_ble_eq_true rfl), (Nat.le_of_ble_eq_true rfl)⟩) (pv8 hP hK hD hC hS (rv8_0 hK hP hd0)) rfl rfl hl.1 rfl (lv_room (Nat.le_of_ble_eq_true rfl)) dX0_setBrass_2 ⟨Nat.le_of_ble_eq_true rfl, Nat.le_of_ble_eq_true rfl⟩) hS (fun q _ h => up8 hS q h) (up8 hS) (fun r1 σ2 tS H1 locs ht hvm hw3 hB hz1 hk1 hS => ?_)
  have hP : va_P D clz (WD8 cy g σ2) H1 := by rw [← ht]; exact hB
  clear hB hz1 hk1 hvm ht
  generalize H1 = H at hP hS ⊢
  have hw3E : σ = σ2 := (hw3.1).symm
  subst hw3E
  have b4 : (0 : Int) ≤ r1.toInt ∧ r1.toInt ≤ 1 := hw3.2.1
  have b5 : (r1.toInt = 0) ∨ ((0 : Int) ≤ p1.toInt ∧ p1.toInt ≤ 3) := hw3.2.2.1
  refine lv_if_eq (tgt := 30) hx hb dX0_setBrass_5 (by decide) (fun c6 => ?_) (fun c6 => ?_)
  ·
    have k7 := peq32 c6
    exact W.vret hx hb hr (fun tS ht hW => ⟨⟨σ, rfl, ⟨Fr.rf, hJ, trivial⟩, (show va_P D clz (WD8 cy g σ) tS.heap by rw [ht]; exact hP)⟩, hS.F ht⟩) hS.2.2 dX0_setBrass_30
  ·
    have k8 := neq32 c6
    refine lv_iload_n hx hb dX0_setBrass_8 rfl (lv_at hl 2 rfl) ?_
    refine lv_if_lt (tgt := 30) hx hb dX0_setBrass_9 (by decide) (fun c9 => ?_) (fun c9 => ?_)
    ·
      have k10 := plt32 c9
      exact False.elim (by have f0 := h1; have f1 := k10; have g0 := rg32 p2; have z0 : (0 : Int32).toInt = 0 := (by decide); omega)
    ·
      have k11 := nlt32 c9
      refine lv_iload_n hx hb dX0_setBrass_12 rfl (lv_at hl 2 rfl) ?_
      refine lv_bipush (v := 7) hx hb dX0_setBrass_13 (by decide) ?_
      refine lv_icmp_ge (tgt := 30) hx hb dX0_setBrass_15 (by decide) (fun c12 => ?_) (fun c12 => ?_)
      ·
        have k13 := ple32 c12
        exact False.elim (by have f0 := h1; have f1 := k11; have f2 := k13; have g0 := rg32 p2; have z0 : (0 : Int32).toInt = 0 := (by decide); have z7 : (7 : Int32).toInt = 7 := (by decide); omega)
      ·
        have k14 := nle32 c12
        refine lv_aload_n hx hb dX0_setBrass_18 rfl (lv_at hl 0 rfl) ?_
        refine g8_0_6 hx hb hts hown hK hP hd0 (hts _ q212) dX0_setBrass_19 ?_
        refine lv_iload_n hx hb dX0_setBrass_22 rfl (lv_at hl 1 rfl) ?_
        refine lv_bipush (v := 7) hx hb dX0_setBrass_23 (by decide) ?_
        refine lv_imul hx hb dX0_setBrass_25 ?_
        refine lv_topi (fun x15 ex15 => ?_)
        have t16 := mulC (n := 7) ex15 (by decide) (by have f0 := h0; have f1 := b5; have f2 := b4; have f3 := k8; have g0 := rg32 p1; have z0 : (0 : Int32).toInt = 0 := (by decide); omega)
        refine lv_iload_n hx hb dX0_setBrass_26 rfl (lv_at hl 2 rfl) ?_
        refine lv_iadd hx hb dX0_setBrass_27 ?_
        refine lv_topi (fun x17 ex17 => ?_)
        have t18 := addO ex17 (by have f0 := h1; have f1 := k11; have f2 := k14; have f3 := t16; have f4 := h0; have f5 := b5; have f6 := b4; have f7 := k8; have g0 := rg32 p2; have g1 := rg32 x15; have z0 : (0 : Int32).toInt = 0 := (by decide); have z7 : (7 : Int32).toInt = 7 := (by decide); omega)
        refine lv_iload_n hx hb dX0_setBrass_28 rfl (lv_at hl 3 rfl) ?_
        refine t8_0_6 hx hb hK hP hd0 hD hS (vpo (by have f0 := t18; have f1 := h1; have f2 := k11; have f3 := k14; have f4 := t16; have f5 := h0; have f6 := b5; have f7 := b4; have f8 := k8; have g0 := rg32 x17; have z0 : (0 : Int32).toInt = 0 := (by decide); have z7 : (7 : Int32).toInt = 7 := (by decide); omega)) dX0_setBrass_29 (fun H locs σ19 eσ19 hP hS => ?_)
        have hJ20 : J8 σ19 := hJ.A eσ19 (clO_0 hd0) (show PA8 0 6 p3 from (by have f0 := h2; have g0 := rg32 p3; exact ⟨by omega, by omega⟩))
        exact W.vret hx hb hr (fun tS ht hW => ⟨⟨σ19, rfl, ⟨Fr.tr (Fr.rf) (sA_f eσ19) (fN_O mem0), hJ20, trivial⟩, (show va_P D clz (WD8 cy g σ19) tS.heap by rw [ht]; exact hP)⟩, hS.F ht⟩) hS.2.2 dX0_setBrass_30

theorem q593 : Cond.code yX0_addBrass cX0_addBrass 3 (some .boolean) ∈ lw_g := lw_gm (List.mem_of_getElem? (i := 593) (by decide +kernel)) rfl
theorem q594 : Cond.methodLink RX0 70 yX0_setBrass ∈ lw_g := lw_gm (List.mem_of_getElem? (i := 594) (by decide +kernel)) rfl
theorem q595 : Cond.instanceMethod yX0_setBrass ∈ lw_g := lw_gm (List.mem_of_getElem? (i := 595) (by decide +kernel)) rfl
theorem q596 : Cond.selects RX0 yX0_setBrass yX0_setBrass ∈ lw_g := lw_gm (List.mem_of_getElem? (i := 596) (by decide +kernel)) rfl
theorem dX0_addBrass_0 : decode cX0_addBrass 0 = .ok (.aload_n 0, 1) := by decide +kernel
theorem dX0_addBrass_1 : decode cX0_addBrass 1 = .ok (.getfield 34, 3) := by decide +kernel
theorem dX0_addBrass_4 : decode cX0_addBrass 4 = .ok (.iconst 4, 1) := by decide +kernel
theorem dX0_addBrass_5 : decode cX0_addBrass 5 = .ok (.if_icmp .lt 5, 3) := by decide +kernel
theorem dX0_addBrass_8 : decode cX0_addBrass 8 = .ok (.iconst 0, 1) := by decide +kernel
theorem dX0_addBrass_9 : decode cX0_addBrass 9 = .ok (.ireturn, 1) := by decide +kernel
theorem dX0_addBrass_10 : decode cX0_addBrass 10 = .ok (.aload_n 0, 1) := by decide +kernel
theorem dX0_addBrass_11 : decode cX0_addBrass 11 = .ok (.dup, 1) := by decide +kernel
theorem dX0_addBrass_12 : decode cX0_addBrass 12 = .ok (.getfield 34, 3) := by decide +kernel
theorem dX0_addBrass_15 : decode cX0_addBrass 15 = .ok (.iconst 1, 1) := by decide +kernel
theorem dX0_addBrass_16 : decode cX0_addBrass 16 = .ok (.iadd, 1) := by decide +kernel
theorem dX0_addBrass_17 : decode cX0_addBrass 17 = .ok (.putfield 34, 3) := by decide +kernel
theorem dX0_addBrass_20 : decode cX0_addBrass 20 = .ok (.iconst 0, 1) := by decide +kernel
theorem dX0_addBrass_21 : decode cX0_addBrass 21 = .ok (.istore_n 2, 1) := by decide +kernel
theorem dX0_addBrass_22 : decode cX0_addBrass 22 = .ok (.iload_n 2, 1) := by decide +kernel
theorem dX0_addBrass_23 : decode cX0_addBrass 23 = .ok (.bipush 7, 2) := by decide +kernel
theorem dX0_addBrass_25 : decode cX0_addBrass 25 = .ok (.if_icmp .ge 21, 3) := by decide +kernel
theorem dX0_addBrass_28 : decode cX0_addBrass 28 = .ok (.aload_n 0, 1) := by decide +kernel
theorem dX0_addBrass_29 : decode cX0_addBrass 29 = .ok (.aload_n 0, 1) := by decide +kernel
theorem dX0_addBrass_30 : decode cX0_addBrass 30 = .ok (.getfield 34, 3) := by decide +kernel
theorem dX0_addBrass_33 : decode cX0_addBrass 33 = .ok (.iconst 1, 1) := by decide +kernel
theorem dX0_addBrass_34 : decode cX0_addBrass 34 = .ok (.isub, 1) := by decide +kernel
theorem dX0_addBrass_35 : decode cX0_addBrass 35 = .ok (.iload_n 2, 1) := by decide +kernel
theorem dX0_addBrass_36 : decode cX0_addBrass 36 = .ok (.iconst 0, 1) := by decide +kernel
theorem dX0_addBrass_37 : decode cX0_addBrass 37 = .ok (.invokevirtual 70, 3) := by decide +kernel
theorem dX0_addBrass_40 : decode cX0_addBrass 40 = .ok (.iinc 2 1, 3) := by decide +kernel
theorem dX0_addBrass_43 : decode cX0_addBrass 43 = .ok (.goto (-21), 3) := by decide +kernel
theorem dX0_addBrass_46 : decode cX0_addBrass 46 = .ok (.aload_n 0, 1) := by decide +kernel
theorem dX0_addBrass_47 : decode cX0_addBrass 47 = .ok (.aload_n 0, 1) := by decide +kernel
theorem dX0_addBrass_48 : decode cX0_addBrass 48 = .ok (.getfield 34, 3) := by decide +kernel
theorem dX0_addBrass_51 : decode cX0_addBrass 51 = .ok (.iconst 1, 1) := by decide +kernel
theorem dX0_addBrass_52 : decode cX0_addBrass 52 = .ok (.isub, 1) := by decide +kernel
theorem dX0_addBrass_53 : decode cX0_addBrass 53 = .ok (.iconst 0, 1) := by decide +kernel
theorem dX0_addBrass_54 : decode cX0_addBrass 54 = .ok (.iload_n 1, 1) := by decide +kernel
theorem dX0_addBrass_55 : decode cX0_addBrass 55 = .ok (.invokevirtual 70, 3) := by decide +kernel
theorem dX0_addBrass_58 : decode cX0_addBrass 58 = .ok (.iconst 1, 1) := by decide +kernel
theorem dX0_addBrass_59 : decode cX0_addBrass 59 = .ok (.ireturn, 1) := by decide +kernel
set_option maxHeartbeats 4000000 in
set_option maxRecDepth 100000 in
theorem m_X0_addBrass (l : Launch) (D : va_G) (cy : Nat → ClassId) (g : Nat → Nat) (σ : ST) (d0 : Nat) (p1 : Int32) (sz : Nat) (hJ : J8 σ) (hd0 : 0 ≤ d0 ∧ d0 < 5) (h0 : (0 : Int) ≤ p1.toInt ∧ p1.toInt ≤ 2) : Met l yX0_addBrass (ww yX0_addBrass cX0_addBrass 3 (some .boolean)) ({ frames := 3, cells := 0, slots := 0, locals := 192 }) (va_Pc [.ref (gO g d0), .int p1] (pr8 D cy g σ sz)) (qi8 D cy g sz (fun r τ => Fr (fO [d0]) σ τ ∧ J8 τ ∧ ((0 : Int) ≤ r.toInt ∧ r.toInt ≤ 1) ∧ True)) 0 0 (A8 cy g sz) := by
  refine Met.ofW (cc := cX0_addBrass) (maxL := 3) (ret := (some .boolean)) (by decide) rfl ?_
  intro p e s m args below meth c s₁ B hml hv
  obtain ⟨rfl, hsz, hP, hK, hD0, hC⟩ := hv
  have hx := B.exec
  have hb := B.bytes
  have hr := B.returns
  have hts := hts_g (atoms_spec (ws := ww yX0_addBrass cX0_addBrass 3 (some .boolean)) B.pre)
  have hown : s.vm.findClass RX0 = some m.cls := findClass_of_methodNamed B.named
  have hlocks := B.notSynchronized
  clear B
  subst hsz
  have hD := fun τ => A8_D (sz := s.heap.size) hD0 τ
  clear hD0
  have hS : va_S (A8 cy g s.heap.size) s.heap s.heap [] := va_S.rf
  have hl := lv_entry ([.ref (gO g d0), .int p1]) (n := 3) (Nat.le_of_ble_eq_true rfl)
  rw [lg_entry_eq]
  generalize (lg_sl ([.ref (gO g d0), .int p1]) ++ List.replicate (3 - (lg_sl ([.ref (gO g d0), .int p1])).length) Slot.unset).toArray = ls at hl ⊢
  have hl : lv_has ls 3 [(0, .ref (gO g d0)), (1, .int p1)] := hl
  refine lv_aload_n hx hb dX0_addBrass_0 rfl (lv_at hl 0 rfl) ?_
  refine g8_0_3 (x := ((σ d0).1 3)) hx hb hts hown hK hP hd0 (rfl) (hts _ q202) dX0_addBrass_1 ?_
  refine lv_iconst (v := 4) hx hb dX0_addBrass_4 (by decide) ?_
  refine lv_icmp_lt (tgt := 10) hx hb dX0_addBrass_5 (by decide) (fun c1 => ?_) (fun c1 => ?_)
  ·
    have k2 := plt32 c1
    refine lv_aload_n hx hb dX0_addBrass_10 rfl (lv_at hl 0 rfl) ?_
    refine lv_dup hx hb dX0_addBrass_11 rfl ?_
    refine g8_0_3 (x := ((σ d0).1 3)) hx hb hts hown hK hP hd0 (rfl) (hts _ q202) dX0_addBrass_12 ?_
    refine lv_iconst (v := 1) hx hb dX0_addBrass_15 (by decide) ?_
    refine lv_iadd hx hb dX0_addBrass_16 ?_
    refine lv_topi (fun x3 ex3 => ?_)
    have t4 := addO ex3 (by have f0 := j8_0_3 hJ hd0 rfl; have f1 := k2; have z1 : (1 : Int32).toInt = 1 := (by decide); have z4 : (4 : Int32).toInt = 4 := (by decide); omega)
    refine p8_0_3 hx hb hts hown hK hP hd0 hD hS (hts _ q202) dX0_addBrass_17 (fun H locs σ5 eσ5 hP hS => ?_)
    have hJ6 : J8 σ5 := hJ.I eσ5 (clO_0 hd0) (show JI8 0 3 x3 from (by have f0 := t4; have f1 := j8_0_3 hJ hd0 rfl; have f2 := k2; have g0 := rg32 x3; have z1 : (1 : Int32).toInt = 1 := (by decide); have z4 : (4 : Int32).toInt = 4 := (by decide); exact ⟨by omega, by omega⟩))
    refine lv_iconst (v := 0) hx hb dX0_addBrass_20 (by decide) ?_
    refine lv_istore_n (lv' := [(2, .int 0), (0, .ref (gO g d0)), (1, .int p1)]) hx hb dX0_addBrass_21 rfl hl (by decide) rfl (fun ls hl => ?_)
    refine loop8 3 22 (fun x : LZ => [(2, .int (x.2.1 0)), (0, .ref (gO g d0)), (1, .int p1)]) (fun x : LZ => (Fr (fO [d0]) σ5 x.1) ∧ (J8 x.1) ∧ ((0 : Int) ≤ (x.2.1 0).toInt ∧ (x.2.1 0).toInt ≤ 7) ∧ True) (fun x : LZ => ((8 : Int) - (x.2.1 0).toInt).toNat) ?_ (σ5, lf [0], lg []) ⟨Fr.rf, hJ6, (show (0 : Int) ≤ (0 : Int32).toInt ∧ (0 : Int32).toInt ≤ 7 from (by have z0 : (0 : Int32).toInt = 0 := (by decide); omega)), trivial⟩ _ _ _ hP hS (lv_sub hl [0, 1, 2] rfl)
    intro y9 hI8 nl7 H locs ls hP hS hl
    obtain ⟨σ10, eσ10⟩ : ∃ z, z = y9.1 := ⟨_, rfl⟩
    rw [← eσ10] at hP hI8
    have hF11 : Fr (fO [d0]) σ5 σ10 := hI8.1
    have hJ12 : J8 σ10 := hI8.2.1
    have b13 : (0 : Int) ≤ (y9.2.1 0).toInt ∧ (y9.2.1 0).toInt ≤ 7 := hI8.2.2.1
    have hl : lv_has ls 3 [(2, .int (y9.2.1 0)), (0, .ref (gO g d0)), (1, .int p1)] := hl
    refine lv_iload_n hx hb dX0_addBrass_22 rfl (lv_at hl 0 rfl) ?_
    refine lv_bipush (v := 7) hx hb dX0_addBrass_23 (by decide) ?_
    refine lv_icmp_ge (tgt := 46) hx hb dX0_addBrass_25 (by decide) (fun c14 => ?_) (fun c14 => ?_)
    ·
      have k15 := ple32 c14
      refine lv_aload_n hx hb dX0_addBrass_46 rfl (lv_at hl 1 rfl) ?_
      refine lv_aload_n hx hb dX0_addBrass_47 rfl (lv_at hl 1 rfl) ?_
      refine g8_0_3 (x := ((σ10 d0).1 3)) hx hb hts hown hK hP hd0 (rfl) (hts _ q202) dX0_addBrass_48 ?_
      refine lv_iconst (v := 1) hx hb dX0_addBrass_51 (by decide) ?_
      refine lv_isub hx hb dX0_addBrass_52 ?_
      refine lv_topi (fun x16 ex16 => ?_)
      have t17 := subO ex16 (by have f0 := j8_0_3 hJ12 hd0 rfl; have z1 : (1 : Int32).toInt = 1 := (by decide); omega)
      refine lv_iconst (v := 0) hx hb dX0_addBrass_53 (by decide) ?_
      refine lv_iload_n hx hb dX0_addBrass_54 rfl (lv_at hl 2 rfl) ?_
      refine va_callv (va_runV (As := [.int x16, .int 0, .int p1]) (rest := []) ⟨hx, hb, hml, hown, hts⟩ (m_X0_setBrass l D cy g σ10  d0 x16 (0) p1 _ hJ12 (show 0 ≤ d0 ∧ d0 < 5 from hd0) (show (-1 : Int) ≤ x16.toInt ∧ x16.toInt ≤ 3 from (by have f0 := t17; have f1 := j8_0_3 hJ12 hd0 rfl; have g1 := rg32 x16; have z1 : (1 : Int32).toInt = 1 := (by decide); omega)) (show (0 : Int) ≤ (0 : Int32).toInt ∧ (0 : Int32).toInt ≤ 6 from (by have f0 := t17; have f1 := j8_0_3 hJ12 hd0 rfl; have g1 := rg32 x16; have z0 : (0 : Int32).toInt = 0 := (by decide); have z1 : (1 : Int32).toInt = 1 := (by decide); omega)) (show (-2147483648 : Int) ≤ p1.toInt ∧ p1.toInt ≤ 1000000 from (by have f0 := h0; have f1 := t17; have f2 := j8_0_3 hJ12 hd0 rfl; have g1 := rg32 p1; have g2 := rg32 x16; have z0 : (0 : Int32).toInt = 0 := (by decide); have z1 : (1 : Int32).toInt = 1 := (by decide); omega))) (cwV 3 hts (gd_V q594 q595 q596 q127 q597) rfl rfl rfl (by decide +kernel) ⟨(Nat.le_of_ble_eq_true rfl), (Nat.le_of_ble_eq_true rfl)⟩) (pv8 hP hK hD hC hS (rv8_0 hK hP hd0)) rfl rfl hl.1 rfl (lv_room (Nat.le_of_ble_eq_true rfl)) dX0_addBrass_55 ⟨Nat.le_of_ble_eq_true rfl, Nat.le_of_ble_eq_true rfl⟩) hS (fun q _ h => up8 hS q h) (up8 hS) (fun σ19 tS H1 locs ht hvm hw20 hB hz1 hk1 hS => ?_)
      have hP : va_P D clz (WD8 cy g σ19) H1 := by rw [← ht]; exact hB
      clear hB hz1 hk1 hvm ht
      generalize H1 = H at hP hS ⊢
      have hF21 : Fr (fO [d0]) σ10 σ19 := hw20.1
      have hJ22 : J8 σ19 := hw20.2.1
      refine lv_iconst (v := 1) hx hb dX0_addBrass_58 (by decide) ?_
      exact W.zret (v := 1) hx hb hr rfl (fun tS ht hW => ⟨⟨1, σ19, rfl, ⟨Fr.tr (Fr.tr (Fr.tr (Fr.rf) (sI_f eσ5) (fN_O mem0)) hF11 (fO_sub (fun _ q => q))) hF21 (fO_sub (fun _ q => q)), hJ22, (show (0 : Int) ≤ (1 : Int32).toInt ∧ (1 : Int32).toInt ≤ 1 from (by have z1 : (1 : Int32).toInt = 1 := (by decide); omega)), trivial⟩, (show va_P D clz (WD8 cy g σ19) tS.heap by rw [ht]; exact hP)⟩, hS.F ht⟩) hS.2.2 dX0_addBrass_59
    ·
      have k23 := nle32 c14
      refine lv_aload_n hx hb dX0_addBrass_28 rfl (lv_at hl 1 rfl) ?_
      refine lv_aload_n hx hb dX0_addBrass_29 rfl (lv_at hl 1 rfl) ?_
      refine g8_0_3 (x := ((σ10 d0).1 3)) hx hb hts hown hK hP hd0 (rfl) (hts _ q202) dX0_addBrass_30 ?_
      refine lv_iconst (v := 1) hx hb dX0_addBrass_33 (by decide) ?_
      refine lv_isub hx hb dX0_addBrass_34 ?_
      refine lv_topi (fun x24 ex24 => ?_)
      have t25 := subO ex24 (by have f0 := j8_0_3 hJ12 hd0 rfl; have z1 : (1 : Int32).toInt = 1 := (by decide); omega)
      refine lv_iload_n hx hb dX0_addBrass_35 rfl (lv_at hl 0 rfl) ?_
      refine lv_iconst (v := 0) hx hb dX0_addBrass_36 (by decide) ?_
      refine va_callv (va_runV (As := [.int x24, .int (y9.2.1 0), .int 0]) (rest := []) ⟨hx, hb, hml, hown, hts⟩ (m_X0_setBrass l D cy g σ10  d0 x24 (y9.2.1 0) (0) _ hJ12 (show 0 ≤ d0 ∧ d0 < 5 from hd0) (show (-1 : Int) ≤ x24.toInt ∧ x24.toInt ≤ 3 from (by have f0 := t25; have f1 := j8_0_3 hJ12 hd0 rfl; have g1 := rg32 x24; have z1 : (1 : Int32).toInt = 1 := (by decide); omega)) (show (0 : Int) ≤ (y9.2.1 0).toInt ∧ (y9.2.1 0).toInt ≤ 6 from (by have f0 := b13; have f1 := k23; have f2 := t25; have f3 := j8_0_3 hJ12 hd0 rfl; have g1 := rg32 (y9.2.1 0); have g2 := rg32 x24; have z1 : (1 : Int32).toInt = 1 := (by decide); have z7 : (7 : Int32).toInt = 7 := (by decide); omega)) (show (-2147483648 : Int) ≤ (0 : Int32).toInt ∧ (0 : Int32).toInt ≤ 1000000 from (by have f0 := b13; have f1 := k23; have f2 := t25; have f3 := j8_0_3 hJ12 hd0 rfl; have g1 := rg32 (y9.2.1 0); have g2 := rg32 x24; have z0 : (0 : Int32).toInt = 0 := (by decide); have z1 : (1 : Int32).toInt = 1 := (by decide); have z7 : (7 : Int32).toInt = 7 := (by decide); omega))) (cwV 3 hts (gd_V q594 q595 q596 q127 q597) rfl rfl rfl (by decide +kernel) ⟨(Nat.le_of_ble_eq_true rfl), (Nat.le_of_ble_eq_true rfl)⟩) (pv8 hP hK hD hC hS (rv8_0 hK hP hd0)) rfl rfl hl.1 rfl (lv_room (Nat.le_of_ble_eq_true rfl)) dX0_addBrass_37 ⟨Nat.le_of_ble_eq_true rfl, Nat.le_of_ble_eq_true rfl⟩) hS (fun q _ h => up8 hS q h) (up8 hS) (fun σ27 tS H1 locs ht hvm hw28 hB hz1 hk1 hS => ?_)
      have hP : va_P D clz (WD8 cy g σ27) H1 := by rw [← ht]; exact hB
      clear hB hz1 hk1 hvm ht
      generalize H1 = H at hP hS ⊢
      have hF29 : Fr (fO [d0]) σ10 σ27 := hw28.1
      have hJ30 : J8 σ27 := hw28.2.1
      obtain ⟨x31, ex31⟩ : ∃ y : Int32, y = (y9.2.1 0) + 1 := ⟨_, rfl⟩
      have t32 := addO ex31 (by have f0 := b13; have f1 := k23; have g0 := rg32 (y9.2.1 0); have z1 : (1 : Int32).toInt = 1 := (by decide); have z7 : (7 : Int32).toInt = 7 := (by decide); omega)
      refine lv_iinc (v := x31) (lv' := [(2, .int x31), (0, .ref (gO g d0)), (1, .int p1)]) hx hb dX0_addBrass_40 hl (k := 0) rfl (by rw [ex31]; rfl) (by decide) rfl (fun ls hl => ?_)
      refine lv_goto (tgt := 22) hx hb dX0_addBrass_43 (by decide) ?_
      have t33 : ((8 : Int) - x31.toInt).toNat < ((8 : Int) - (y9.2.1 0).toInt).toNat := (by have f0 := b13; have f1 := k23; have f2 := t32; have g0 := rg32 (y9.2.1 0); have g1 := rg32 x31; have z1 : (1 : Int32).toInt = 1 := (by decide); have z7 : (7 : Int32).toInt = 7 := (by decide); omega)
      exact nl7 (σ27, lf [x31], lg []) ⟨Fr.tr (Fr.tr (Fr.rf) hF11 (fO_sub (fun _ q => q))) hF29 (fO_sub (fun _ q => q)), hJ30, (show (0 : Int) ≤ (x31 : Int32).toInt ∧ (x31 : Int32).toInt ≤ 7 from (by have f0 := t32; have f1 := b13; have f2 := k23; have g0 := rg32 x31; have z1 : (1 : Int32).toInt = 1 := (by decide); have z7 : (7 : Int32).toInt = 7 := (by decide); omega)), trivial⟩ (show ((8 : Int) - x31.toInt).toNat < _ from by first | exact t33 | (rw [← eσ10]; exact t33)) _ _ _ hP hS (lv_sub hl [0, 1, 2] rfl)
  ·
    have k34 := nlt32 c1
    refine lv_iconst (v := 0) hx hb dX0_addBrass_8 (by decide) ?_
    exact W.zret (v := 0) hx hb hr rfl (fun tS ht hW => ⟨⟨0, σ, rfl, ⟨Fr.rf, hJ, (show (0 : Int) ≤ (0 : Int32).toInt ∧ (0 : Int32).toInt ≤ 1 from (by have z0 : (0 : Int32).toInt = 0 := (by decide); omega)), trivial⟩, (show va_P D clz (WD8 cy g σ) tS.heap by rw [ht]; exact hP)⟩, hS.F ht⟩) hS.2.2 dX0_addBrass_9

theorem q605 : Cond.code yX4_takeCounted cX4_takeCounted 2 none ∈ lw_g := lw_gm (List.mem_of_getElem? (i := 605) (by decide +kernel)) rfl
theorem dX4_takeCounted_0 : decode cX4_takeCounted 0 = .ok (.iload_n 1, 1) := by decide +kernel
theorem dX4_takeCounted_1 : decode cX4_takeCounted 1 = .ok (.ifCond .eq 10, 3) := by decide +kernel
theorem dX4_takeCounted_4 : decode cX4_takeCounted 4 = .ok (.aload_n 0, 1) := by decide +kernel
theorem dX4_takeCounted_5 : decode cX4_takeCounted 5 = .ok (.invokevirtual 33, 3) := by decide +kernel
theorem dX4_takeCounted_8 : decode cX4_takeCounted 8 = .ok (.goto 8, 3) := by decide +kernel
theorem dX4_takeCounted_11 : decode cX4_takeCounted 11 = .ok (.aload_n 0, 1) := by decide +kernel
theorem dX4_takeCounted_12 : decode cX4_takeCounted 12 = .ok (.iconst 3, 1) := by decide +kernel
theorem dX4_takeCounted_13 : decode cX4_takeCounted 13 = .ok (.invokevirtual 52, 3) := by decide +kernel
theorem dX4_takeCounted_16 : decode cX4_takeCounted 16 = .ok (.return_, 1) := by decide +kernel
set_option maxHeartbeats 4000000 in
set_option maxRecDepth 100000 in
theorem m_X4_takeCounted (l : Launch) (D : va_G) (cy : Nat → ClassId) (g : Nat → Nat) (σ : ST) (p1 : Int32) (sz : Nat) (hJ : J8 σ) (h0 : (0 : Int) ≤ p1.toInt ∧ p1.toInt ≤ 1) : Met l yX4_takeCounted (ww yX4_takeCounted cX4_takeCounted 2 none) ({ frames := 3, cells := 0, slots := 0, locals := 192 }) (va_Pc [.ref (gO g 12), .int p1] (pr8 D cy g σ sz)) (qv8 D cy g sz (fun τ => Fr (fO [12]) σ τ ∧ J8 τ ∧ True)) 0 0 (A8 cy g sz) := by
  refine Met.ofW (cc := cX4_takeCounted) (maxL := 2) (ret := none) (by decide) rfl ?_
  intro p e s m args below meth c s₁ B hml hv
  obtain ⟨rfl, hsz, hP, hK, hD0, hC⟩ := hv
  have hx := B.exec
  have hb := B.bytes
  have hr := B.returns
  have hts := hts_g (atoms_spec (ws := ww yX4_takeCounted cX4_takeCounted 2 none) B.pre)
  have hown : s.vm.findClass RX4 = some m.cls := findClass_of_methodNamed B.named
  have hlocks := B.notSynchronized
  clear B
  subst hsz
  have hD := fun τ => A8_D (sz := s.heap.size) hD0 τ
  clear hD0
  have hS : va_S (A8 cy g s.heap.size) s.heap s.heap [] := va_S.rf
  have hl := lv_entry ([.ref (gO g 12), .int p1]) (n := 2) (Nat.le_of_ble_eq_true rfl)
  rw [lg_entry_eq]
  generalize (lg_sl ([.ref (gO g 12), .int p1]) ++ List.replicate (2 - (lg_sl ([.ref (gO g 12), .int p1])).length) Slot.unset).toArray = ls at hl ⊢
  have hl : lv_has ls 2 [(0, .ref (gO g 12)), (1, .int p1)] := hl
  refine lv_iload_n hx hb dX4_takeCounted_0 rfl (lv_at hl 1 rfl) ?_
  refine lv_if_eq (tgt := 11) hx hb dX4_takeCounted_1 (by decide) (fun c1 => ?_) (fun c1 => ?_)
  ·
    have k2 := peq32 c1
    refine lv_aload_n hx hb dX4_takeCounted_11 rfl (lv_at hl 0 rfl) ?_
    refine lv_iconst (v := 3) hx hb dX4_takeCounted_12 (by decide) ?_
    refine va_callv (va_runV (As := [.int 3]) (rest := []) ⟨hx, hb, hml, hown, hts⟩ (m_X4_refuse l D cy g σ  (3) _ hJ (show (1 : Int) ≤ (3 : Int32).toInt ∧ (3 : Int32).toInt ≤ 3 from (by have z3 : (3 : Int32).toInt = 3 := (by decide); omega))) (cwV 1 hts (gd_V q571 q573 q4 q126 q574) rfl rfl rfl (by decide +kernel) ⟨(Nat.le_of_ble_eq_true rfl), (Nat.le_of_ble_eq_true rfl)⟩) (pv8 hP hK hD hC hS (rv8_4 hK hP)) rfl rfl hl.1 rfl (lv_room (Nat.le_of_ble_eq_true rfl)) dX4_takeCounted_13 ⟨Nat.le_of_ble_eq_true rfl, Nat.le_of_ble_eq_true rfl⟩) hS (fun q _ h => up8 hS q h) (up8 hS) (fun σ4 tS H1 locs ht hvm hw5 hB hz1 hk1 hS => ?_)
    have hP : va_P D clz (WD8 cy g σ4) H1 := by rw [← ht]; exact hB
    clear hB hz1 hk1 hvm ht
    generalize H1 = H at hP hS ⊢
    have hF6 : Fr (fO [12]) σ σ4 := hw5.1
    have hJ7 : J8 σ4 := hw5.2.1
    exact W.vret hx hb hr (fun tS ht hW => ⟨⟨σ4, rfl, ⟨Fr.tr (Fr.rf) hF6 (fO_sub (fun _ q => q)), hJ7, trivial⟩, (show va_P D clz (WD8 cy g σ4) tS.heap by rw [ht]; exact hP)⟩, hS.F ht⟩) hS.2.2 dX4_takeCounted_16
  ·
    have k8 := neq32 c1
    refine lv_aload_n hx hb dX4_takeCounted_4 rfl (lv_at hl 0 rfl) ?_
    refine va_callv (va_runV (As := []) (rest := []) ⟨hx, hb, hml, hown, hts⟩ (m_X4_takeToken l D cy g σ   _ hJ ) (cwV 0 hts (gd_V q499 q501 q0 q126 q502) rfl rfl rfl (by decide +kernel) ⟨(Nat.le_of_ble_eq_true rfl), (Nat.le_of_ble_eq_true rfl)⟩) (pv8 hP hK hD hC hS (rv8_4 hK hP)) rfl rfl hl.1 rfl (lv_room (Nat.le_of_ble_eq_true rfl)) dX4_takeCounted_5 ⟨Nat.le_of_ble_eq_true rfl, Nat.le_of_ble_eq_true rfl⟩) hS (fun q _ h => up8 hS q h) (up8 hS) (fun σ10 tS H1 locs ht hvm hw11 hB hz1 hk1 hS => ?_)
    have hP : va_P D clz (WD8 cy g σ10) H1 := by rw [← ht]; exact hB
    clear hB hz1 hk1 hvm ht
    generalize H1 = H at hP hS ⊢
    have hF12 : Fr (fO [12]) σ σ10 := hw11.1
    have hJ13 : J8 σ10 := hw11.2.1
    refine lv_goto (tgt := 16) hx hb dX4_takeCounted_8 (by decide) ?_
    exact W.vret hx hb hr (fun tS ht hW => ⟨⟨σ10, rfl, ⟨Fr.tr (Fr.rf) hF12 (fO_sub (fun _ q => q)), hJ13, trivial⟩, (show va_P D clz (WD8 cy g σ10) tS.heap by rw [ht]; exact hP)⟩, hS.F ht⟩) hS.2.2 dX4_takeCounted_16

theorem q589 : Cond.code yX4_readBrass cX4_readBrass 4 none ∈ lw_g := lw_gm (List.mem_of_getElem? (i := 589) (by decide +kernel)) rfl
theorem q590 : Cond.methodLink RX4 123 yX0_addBrass ∈ lw_g := lw_gm (List.mem_of_getElem? (i := 590) (by decide +kernel)) rfl
theorem q591 : Cond.instanceMethod yX0_addBrass ∈ lw_g := lw_gm (List.mem_of_getElem? (i := 591) (by decide +kernel)) rfl
theorem q592 : Cond.selects RX0 yX0_addBrass yX0_addBrass ∈ lw_g := lw_gm (List.mem_of_getElem? (i := 592) (by decide +kernel)) rfl
theorem q602 : Cond.methodLink RX4 91 yX4_takeCounted ∈ lw_g := lw_gm (List.mem_of_getElem? (i := 602) (by decide +kernel)) rfl
theorem q604 : Cond.instanceMethod yX4_takeCounted ∈ lw_g := lw_gm (List.mem_of_getElem? (i := 604) (by decide +kernel)) rfl
theorem q8 : Cond.selects RX4 yX4_takeCounted yX4_takeCounted ∈ lw_g := lw_gm (List.mem_of_getElem? (i := 8) (by decide +kernel)) rfl
theorem q203 : Cond.fieldLink RX4 127 "LipsAndSlides$Desk" "brasses" "I" ∈ lw_g := lw_gm (List.mem_of_getElem? (i := 203) (by decide +kernel)) rfl
theorem q576 : Cond.methodLink RX4 58 yX4_numberBehind ∈ lw_g := lw_gm (List.mem_of_getElem? (i := 576) (by decide +kernel)) rfl
theorem q578 : Cond.instanceMethod yX4_numberBehind ∈ lw_g := lw_gm (List.mem_of_getElem? (i := 578) (by decide +kernel)) rfl
theorem q5 : Cond.selects RX4 yX4_numberBehind yX4_numberBehind ∈ lw_g := lw_gm (List.mem_of_getElem? (i := 5) (by decide +kernel)) rfl
theorem q607 : Cond.methodLink RX4 132 yX0_setBrass ∈ lw_g := lw_gm (List.mem_of_getElem? (i := 607) (by decide +kernel)) rfl
theorem dX4_readBrass_0 : decode cX4_readBrass 0 = .ok (.aload_n 0, 1) := by decide +kernel
theorem dX4_readBrass_1 : decode cX4_readBrass 1 = .ok (.aload_n 1, 1) := by decide +kernel
theorem dX4_readBrass_2 : decode cX4_readBrass 2 = .ok (.iload_n 2, 1) := by decide +kernel
theorem dX4_readBrass_3 : decode cX4_readBrass 3 = .ok (.invokevirtual 123, 3) := by decide +kernel
theorem dX4_readBrass_6 : decode cX4_readBrass 6 = .ok (.invokevirtual 91, 3) := by decide +kernel
theorem dX4_readBrass_9 : decode cX4_readBrass 9 = .ok (.aload_n 1, 1) := by decide +kernel
theorem dX4_readBrass_10 : decode cX4_readBrass 10 = .ok (.getfield 127, 3) := by decide +kernel
theorem dX4_readBrass_13 : decode cX4_readBrass 13 = .ok (.iconst 1, 1) := by decide +kernel
theorem dX4_readBrass_14 : decode cX4_readBrass 14 = .ok (.isub, 1) := by decide +kernel
theorem dX4_readBrass_15 : decode cX4_readBrass 15 = .ok (.istore_n 3, 1) := by decide +kernel
theorem dX4_readBrass_16 : decode cX4_readBrass 16 = .ok (.aload_n 1, 1) := by decide +kernel
theorem dX4_readBrass_17 : decode cX4_readBrass 17 = .ok (.iload_n 3, 1) := by decide +kernel
theorem dX4_readBrass_18 : decode cX4_readBrass 18 = .ok (.iconst 1, 1) := by decide +kernel
theorem dX4_readBrass_19 : decode cX4_readBrass 19 = .ok (.aload_n 0, 1) := by decide +kernel
theorem dX4_readBrass_20 : decode cX4_readBrass 20 = .ok (.ldc 130, 2) := by decide +kernel
theorem dX4_readBrass_22 : decode cX4_readBrass 22 = .ok (.iconst 0, 1) := by decide +kernel
theorem dX4_readBrass_23 : decode cX4_readBrass 23 = .ok (.bipush 40, 2) := by decide +kernel
theorem dX4_readBrass_25 : decode cX4_readBrass 25 = .ok (.invokevirtual 58, 3) := by decide +kernel
theorem dX4_readBrass_28 : decode cX4_readBrass 28 = .ok (.invokevirtual 132, 3) := by decide +kernel
theorem dX4_readBrass_31 : decode cX4_readBrass 31 = .ok (.aload_n 1, 1) := by decide +kernel
theorem dX4_readBrass_32 : decode cX4_readBrass 32 = .ok (.iload_n 3, 1) := by decide +kernel
theorem dX4_readBrass_33 : decode cX4_readBrass 33 = .ok (.iconst 2, 1) := by decide +kernel
theorem dX4_readBrass_34 : decode cX4_readBrass 34 = .ok (.aload_n 0, 1) := by decide +kernel
theorem dX4_readBrass_35 : decode cX4_readBrass 35 = .ok (.ldc 136, 2) := by decide +kernel
theorem dX4_readBrass_37 : decode cX4_readBrass 37 = .ok (.bipush 100, 2) := by decide +kernel
theorem dX4_readBrass_39 : decode cX4_readBrass 39 = .ok (.sipush 999, 3) := by decide +kernel
theorem dX4_readBrass_42 : decode cX4_readBrass 42 = .ok (.invokevirtual 58, 3) := by decide +kernel
theorem dX4_readBrass_45 : decode cX4_readBrass 45 = .ok (.invokevirtual 132, 3) := by decide +kernel
theorem dX4_readBrass_48 : decode cX4_readBrass 48 = .ok (.iload_n 2, 1) := by decide +kernel
theorem dX4_readBrass_49 : decode cX4_readBrass 49 = .ok (.iconst 1, 1) := by decide +kernel
theorem dX4_readBrass_50 : decode cX4_readBrass 50 = .ok (.if_icmp .ne 66, 3) := by decide +kernel
theorem dX4_readBrass_53 : decode cX4_readBrass 53 = .ok (.aload_n 1, 1) := by decide +kernel
theorem dX4_readBrass_54 : decode cX4_readBrass 54 = .ok (.iload_n 3, 1) := by decide +kernel
theorem dX4_readBrass_55 : decode cX4_readBrass 55 = .ok (.iconst 3, 1) := by decide +kernel
theorem dX4_readBrass_56 : decode cX4_readBrass 56 = .ok (.aload_n 0, 1) := by decide +kernel
theorem dX4_readBrass_57 : decode cX4_readBrass 57 = .ok (.ldc 138, 2) := by decide +kernel
theorem dX4_readBrass_59 : decode cX4_readBrass 59 = .ok (.iconst 0, 1) := by decide +kernel
theorem dX4_readBrass_60 : decode cX4_readBrass 60 = .ok (.sipush 400, 3) := by decide +kernel
theorem dX4_readBrass_63 : decode cX4_readBrass 63 = .ok (.invokevirtual 58, 3) := by decide +kernel
theorem dX4_readBrass_66 : decode cX4_readBrass 66 = .ok (.invokevirtual 132, 3) := by decide +kernel
theorem dX4_readBrass_69 : decode cX4_readBrass 69 = .ok (.aload_n 1, 1) := by decide +kernel
theorem dX4_readBrass_70 : decode cX4_readBrass 70 = .ok (.iload_n 3, 1) := by decide +kernel
theorem dX4_readBrass_71 : decode cX4_readBrass 71 = .ok (.iconst 4, 1) := by decide +kernel
theorem dX4_readBrass_72 : decode cX4_readBrass 72 = .ok (.aload_n 0, 1) := by decide +kernel
theorem dX4_readBrass_73 : decode cX4_readBrass 73 = .ok (.iconst 0, 1) := by decide +kernel
theorem dX4_readBrass_74 : decode cX4_readBrass 74 = .ok (.sipush 400, 3) := by decide +kernel
theorem dX4_readBrass_77 : decode cX4_readBrass 77 = .ok (.invokevirtual 112, 3) := by decide +kernel
theorem dX4_readBrass_80 : decode cX4_readBrass 80 = .ok (.invokevirtual 132, 3) := by decide +kernel
theorem dX4_readBrass_83 : decode cX4_readBrass 83 = .ok (.aload_n 1, 1) := by decide +kernel
theorem dX4_readBrass_84 : decode cX4_readBrass 84 = .ok (.iload_n 3, 1) := by decide +kernel
theorem dX4_readBrass_85 : decode cX4_readBrass 85 = .ok (.iconst 5, 1) := by decide +kernel
theorem dX4_readBrass_86 : decode cX4_readBrass 86 = .ok (.aload_n 0, 1) := by decide +kernel
theorem dX4_readBrass_87 : decode cX4_readBrass 87 = .ok (.iconst 0, 1) := by decide +kernel
theorem dX4_readBrass_88 : decode cX4_readBrass 88 = .ok (.sipush 400, 3) := by decide +kernel
theorem dX4_readBrass_91 : decode cX4_readBrass 91 = .ok (.invokevirtual 112, 3) := by decide +kernel
theorem dX4_readBrass_94 : decode cX4_readBrass 94 = .ok (.invokevirtual 132, 3) := by decide +kernel
theorem dX4_readBrass_97 : decode cX4_readBrass 97 = .ok (.aload_n 1, 1) := by decide +kernel
theorem dX4_readBrass_98 : decode cX4_readBrass 98 = .ok (.iload_n 3, 1) := by decide +kernel
theorem dX4_readBrass_99 : decode cX4_readBrass 99 = .ok (.bipush 6, 2) := by decide +kernel
theorem dX4_readBrass_101 : decode cX4_readBrass 101 = .ok (.aload_n 0, 1) := by decide +kernel
theorem dX4_readBrass_102 : decode cX4_readBrass 102 = .ok (.ldc 140, 2) := by decide +kernel
theorem dX4_readBrass_104 : decode cX4_readBrass 104 = .ok (.iconst 0, 1) := by decide +kernel
theorem dX4_readBrass_105 : decode cX4_readBrass 105 = .ok (.bipush 60, 2) := by decide +kernel
theorem dX4_readBrass_107 : decode cX4_readBrass 107 = .ok (.invokevirtual 58, 3) := by decide +kernel
theorem dX4_readBrass_110 : decode cX4_readBrass 110 = .ok (.invokevirtual 132, 3) := by decide +kernel
theorem dX4_readBrass_113 : decode cX4_readBrass 113 = .ok (.goto 23, 3) := by decide +kernel
theorem dX4_readBrass_116 : decode cX4_readBrass 116 = .ok (.iload_n 2, 1) := by decide +kernel
theorem dX4_readBrass_117 : decode cX4_readBrass 117 = .ok (.iconst 2, 1) := by decide +kernel
theorem dX4_readBrass_118 : decode cX4_readBrass 118 = .ok (.if_icmp .ne 18, 3) := by decide +kernel
theorem dX4_readBrass_121 : decode cX4_readBrass 121 = .ok (.aload_n 1, 1) := by decide +kernel
theorem dX4_readBrass_122 : decode cX4_readBrass 122 = .ok (.iload_n 3, 1) := by decide +kernel
theorem dX4_readBrass_123 : decode cX4_readBrass 123 = .ok (.iconst 3, 1) := by decide +kernel
theorem dX4_readBrass_124 : decode cX4_readBrass 124 = .ok (.aload_n 0, 1) := by decide +kernel
theorem dX4_readBrass_125 : decode cX4_readBrass 125 = .ok (.ldc 142, 2) := by decide +kernel
theorem dX4_readBrass_127 : decode cX4_readBrass 127 = .ok (.iconst 0, 1) := by decide +kernel
theorem dX4_readBrass_128 : decode cX4_readBrass 128 = .ok (.bipush 100, 2) := by decide +kernel
theorem dX4_readBrass_130 : decode cX4_readBrass 130 = .ok (.invokevirtual 58, 3) := by decide +kernel
theorem dX4_readBrass_133 : decode cX4_readBrass 133 = .ok (.invokevirtual 132, 3) := by decide +kernel
theorem dX4_readBrass_136 : decode cX4_readBrass 136 = .ok (.return_, 1) := by decide +kernel
set_option maxHeartbeats 4000000 in
set_option maxRecDepth 100000 in
theorem m_X4_readBrass (l : Launch) (D : va_G) (cy : Nat → ClassId) (g : Nat → Nat) (σ : ST) (d1 : Nat) (p2 : Int32) (sz : Nat) (hJ : J8 σ) (hd1 : 0 ≤ d1 ∧ d1 < 5) (h0 : (0 : Int) ≤ p2.toInt ∧ p2.toInt ≤ 2) : Met l yX4_readBrass (ww yX4_readBrass cX4_readBrass 4 none) ({ frames := 7, cells := 0, slots := 0, locals := 448 }) (va_Pc [.ref (gO g 12), .ref (gO g d1), .int p2] (pr8 D cy g σ sz)) (qv8 D cy g sz (fun τ => Fr (fO [12, d1]) σ τ ∧ J8 τ ∧ True)) 0 0 (A8 cy g sz) := by
  refine Met.ofW (cc := cX4_readBrass) (maxL := 4) (ret := none) (by decide) rfl ?_
  intro p e s m args below meth c s₁ B hml hv
  obtain ⟨rfl, hsz, hP, hK, hD0, hC⟩ := hv
  have hx := B.exec
  have hb := B.bytes
  have hr := B.returns
  have hts := hts_g (atoms_spec (ws := ww yX4_readBrass cX4_readBrass 4 none) B.pre)
  have hown : s.vm.findClass RX4 = some m.cls := findClass_of_methodNamed B.named
  have hlocks := B.notSynchronized
  clear B
  subst hsz
  have hD := fun τ => A8_D (sz := s.heap.size) hD0 τ
  clear hD0
  have hS : va_S (A8 cy g s.heap.size) s.heap s.heap [] := va_S.rf
  have hl := lv_entry ([.ref (gO g 12), .ref (gO g d1), .int p2]) (n := 4) (Nat.le_of_ble_eq_true rfl)
  rw [lg_entry_eq]
  generalize (lg_sl ([.ref (gO g 12), .ref (gO g d1), .int p2]) ++ List.replicate (4 - (lg_sl ([.ref (gO g 12), .ref (gO g d1), .int p2])).length) Slot.unset).toArray = ls at hl ⊢
  have hl : lv_has ls 4 [(0, .ref (gO g 12)), (1, .ref (gO g d1)), (2, .int p2)] := hl
  refine lv_aload_n hx hb dX4_readBrass_0 rfl (lv_at hl 0 rfl) ?_
  refine lv_aload_n hx hb dX4_readBrass_1 rfl (lv_at hl 1 rfl) ?_
  refine lv_iload_n hx hb dX4_readBrass_2 rfl (lv_at hl 2 rfl) ?_
  refine va_calli (va_runV (As := [.int p2]) (rest := [.ref (gO g 12)]) ⟨hx, hb, hml, hown, hts⟩ (m_X0_addBrass l D cy g σ  d1 p2 _ hJ (show 0 ≤ d1 ∧ d1 < 5 from hd1) (show (0 : Int) ≤ p2.toInt ∧ p2.toInt ≤ 2 from (by have f0 := h0; have g0 := rg32 p2; omega))) (cwV 1 hts (gd_V q590 q591 q592 q127 q593) rfl rfl rfl (by decide +kernel) ⟨(Nat.le_of_ble_eq_true rfl), (Nat.le_of_ble_eq_true rfl)⟩) (pv8 hP hK hD hC hS (rv8_0 hK hP hd1)) rfl rfl hl.1 rfl (lv_room (Nat.le_of_ble_eq_true rfl)) dX4_readBrass_3 ⟨Nat.le_of_ble_eq_true rfl, Nat.le_of_ble_eq_true rfl⟩) hS (fun q _ h => up8 hS q h) (up8 hS) (fun r1 σ2 tS H1 locs ht hvm hw3 hB hz1 hk1 hS => ?_)
  have hP : va_P D clz (WD8 cy g σ2) H1 := by rw [← ht]; exact hB
  clear hB hz1 hk1 hvm ht
  generalize H1 = H at hP hS ⊢
  have hF4 : Fr (fO [d1]) σ σ2 := hw3.1
  have hJ5 : J8 σ2 := hw3.2.1
  have b6 : (0 : Int) ≤ r1.toInt ∧ r1.toInt ≤ 1 := hw3.2.2.1
  refine va_callv (va_runV (As := [.int r1]) (rest := []) ⟨hx, hb, hml, hown, hts⟩ (m_X4_takeCounted l D cy g σ2  r1 _ hJ5 (show (0 : Int) ≤ r1.toInt ∧ r1.toInt ≤ 1 from (by have f0 := b6; have g0 := rg32 r1; omega))) (cwV 1 hts (gd_V q602 q604 q8 q126 q605) rfl rfl rfl (by decide +kernel) ⟨(Nat.le_of_ble_eq_true rfl), (Nat.le_of_ble_eq_true rfl)⟩) (pv8 hP hK hD hC hS (rv8_4 hK hP)) rfl rfl hl.1 rfl (lv_room (Nat.le_of_ble_eq_true rfl)) dX4_readBrass_6 ⟨Nat.le_of_ble_eq_true rfl, Nat.le_of_ble_eq_true rfl⟩) hS (fun q _ h => up8 hS q h) (up8 hS) (fun σ8 tS H1 locs ht hvm hw9 hB hz1 hk1 hS => ?_)
  have hP : va_P D clz (WD8 cy g σ8) H1 := by rw [← ht]; exact hB
  clear hB hz1 hk1 hvm ht
  generalize H1 = H at hP hS ⊢
  have hF10 : Fr (fO [12]) σ2 σ8 := hw9.1
  have hJ11 : J8 σ8 := hw9.2.1
  refine lv_aload_n hx hb dX4_readBrass_9 rfl (lv_at hl 1 rfl) ?_
  refine g8_0_3 (x := ((σ2 d1).1 3)) hx hb hts hown hK hP hd1 ((hF10 d1 3 (fO_n (nmc (nel hd1 (by decide)) nm0))).1) (hts _ q203) dX4_readBrass_10 ?_
  refine lv_iconst (v := 1) hx hb dX4_readBrass_13 (by decide) ?_
  refine lv_isub hx hb dX4_readBrass_14 ?_
  refine lv_topi (fun x12 ex12 => ?_)
  have t13 := subO ex12 (by have f0 := j8_0_3 hJ5 hd1 rfl; have z1 : (1 : Int32).toInt = 1 := (by decide); omega)
  refine lv_istore_n (lv' := [(3, .int x12), (0, .ref (gO g 12)), (1, .ref (gO g d1)), (2, .int p2)]) hx hb dX4_readBrass_15 rfl hl (by decide) rfl (fun ls hl => ?_)
  refine lv_aload_n hx hb dX4_readBrass_16 rfl (lv_at hl 2 rfl) ?_
  refine lv_iload_n hx hb dX4_readBrass_17 rfl (lv_at hl 0 rfl) ?_
  refine lv_iconst (v := 1) hx hb dX4_readBrass_18 (by decide) ?_
  refine lv_aload_n hx hb dX4_readBrass_19 rfl (lv_at hl 1 rfl) ?_
  refine va_ldcS (q := gS g 10) (tx := "base") hx hb hown (show vk_R RX4 130 "base" (gS g 10) s from hC.2.2.1 10 (by decide)) dX4_readBrass_20 ?_
  refine lv_iconst (v := 0) hx hb dX4_readBrass_22 (by decide) ?_
  refine lv_bipush (v := 40) hx hb dX4_readBrass_23 (by decide) ?_
  refine va_calli (va_runV (As := [.ref (gS g 10), .int 0, .int 40]) (rest := [.int 1, .int x12, .ref (gO g d1)]) ⟨hx, hb, hml, hown, hts⟩ (m_X4_numberBehind l D cy g σ8  10 (0) (40) _ hJ11 (by decide : 10 < 21) (show (0 : Int) ≤ (0 : Int32).toInt ∧ (0 : Int32).toInt ≤ 100 from (by have z0 : (0 : Int32).toInt = 0 := (by decide); omega)) (show (9 : Int) ≤ (40 : Int32).toInt ∧ (40 : Int32).toInt ≤ 999 from (by have z0 : (0 : Int32).toInt = 0 := (by decide); have z40 : (40 : Int32).toInt = 40 := (by decide); omega))) (cwV 3 hts (gd_V q576 q578 q5 q126 q579) rfl rfl rfl (by decide +kernel) ⟨(Nat.le_of_ble_eq_true rfl), (Nat.le_of_ble_eq_true rfl)⟩) (pv8 hP hK hD hC hS (rv8_4 hK hP)) rfl rfl hl.1 rfl (lv_room (Nat.le_of_ble_eq_true rfl)) dX4_readBrass_25 ⟨Nat.le_of_ble_eq_true rfl, Nat.le_of_ble_eq_true rfl⟩) hS (fun q _ h => up8 hS q h) (up8 hS) (fun r14 σ15 tS H1 locs ht hvm hw16 hB hz1 hk1 hS => ?_)
  have hP : va_P D clz (WD8 cy g σ15) H1 := by rw [← ht]; exact hB
  clear hB hz1 hk1 hvm ht
  generalize H1 = H at hP hS ⊢
  have hF17 : Fr (fO [12]) σ8 σ15 := hw16.1
  have hJ18 : J8 σ15 := hw16.2.1
  have b19 : (-2147483648 : Int) ≤ r14.toInt ∧ r14.toInt ≤ 1000000 := hw16.2.2.1
  refine va_callv (va_runV (As := [.int x12, .int 1, .int r14]) (rest := []) ⟨hx, hb, hml, hown, hts⟩ (m_X0_setBrass l D cy g σ15  d1 x12 (1) r14 _ hJ18 (show 0 ≤ d1 ∧ d1 < 5 from hd1) (show (-1 : Int) ≤ x12.toInt ∧ x12.toInt ≤ 3 from (by have f0 := t13; have f1 := j8_0_3 hJ5 hd1 rfl; have g1 := rg32 x12; have z1 : (1 : Int32).toInt = 1 := (by decide); omega)) (show (0 : Int) ≤ (1 : Int32).toInt ∧ (1 : Int32).toInt ≤ 6 from (by have f0 := t13; have f1 := j8_0_3 hJ5 hd1 rfl; have g1 := rg32 x12; have z1 : (1 : Int32).toInt = 1 := (by decide); omega)) (show (-2147483648 : Int) ≤ r14.toInt ∧ r14.toInt ≤ 1000000 from (by have f0 := t13; have f1 := b19; have f2 := j8_0_3 hJ5 hd1 rfl; have g1 := rg32 r14; have g2 := rg32 x12; have z1 : (1 : Int32).toInt = 1 := (by decide); omega))) (cwV 3 hts (gd_V q607 q595 q596 q127 q597) rfl rfl rfl (by decide +kernel) ⟨(Nat.le_of_ble_eq_true rfl), (Nat.le_of_ble_eq_true rfl)⟩) (pv8 hP hK hD hC hS (rv8_0 hK hP hd1)) rfl rfl hl.1 rfl (lv_room (Nat.le_of_ble_eq_true rfl)) dX4_readBrass_28 ⟨Nat.le_of_ble_eq_true rfl, Nat.le_of_ble_eq_true rfl⟩) hS (fun q _ h => up8 hS q h) (up8 hS) (fun σ21 tS H1 locs ht hvm hw22 hB hz1 hk1 hS => ?_)
  have hP : va_P D clz (WD8 cy g σ21) H1 := by rw [← ht]; exact hB
  clear hB hz1 hk1 hvm ht
  generalize H1 = H at hP hS ⊢
  have hF23 : Fr (fO [d1]) σ15 σ21 := hw22.1
  have hJ24 : J8 σ21 := hw22.2.1
  refine lv_aload_n hx hb dX4_readBrass_31 rfl (lv_at hl 2 rfl) ?_
  refine lv_iload_n hx hb dX4_readBrass_32 rfl (lv_at hl 0 rfl) ?_
  refine lv_iconst (v := 2) hx hb dX4_readBrass_33 (by decide) ?_
  refine lv_aload_n hx hb dX4_readBrass_34 rfl (lv_at hl 1 rfl) ?_
  refine va_ldcS (q := gS g 11) (tx := "long") hx hb hown (show vk_R RX4 136 "long" (gS g 11) s from hC.2.2.1 11 (by decide)) dX4_readBrass_35 ?_
  refine lv_bipush (v := 100) hx hb dX4_readBrass_37 (by decide) ?_
  refine lv_sipush (v := 999) hx hb dX4_readBrass_39 (by decide) ?_
  refine va_calli (va_runV (As := [.ref (gS g 11), .int 100, .int 999]) (rest := [.int 2, .int x12, .ref (gO g d1)]) ⟨hx, hb, hml, hown, hts⟩ (m_X4_numberBehind l D cy g σ21  11 (100) (999) _ hJ24 (by decide : 11 < 21) (show (0 : Int) ≤ (100 : Int32).toInt ∧ (100 : Int32).toInt ≤ 100 from (by have z100 : (100 : Int32).toInt = 100 := (by decide); omega)) (show (9 : Int) ≤ (999 : Int32).toInt ∧ (999 : Int32).toInt ≤ 999 from (by have z100 : (100 : Int32).toInt = 100 := (by decide); have z999 : (999 : Int32).toInt = 999 := (by decide); omega))) (cwV 3 hts (gd_V q576 q578 q5 q126 q579) rfl rfl rfl (by decide +kernel) ⟨(Nat.le_of_ble_eq_true rfl), (Nat.le_of_ble_eq_true rfl)⟩) (pv8 hP hK hD hC hS (rv8_4 hK hP)) rfl rfl hl.1 rfl (lv_room (Nat.le_of_ble_eq_true rfl)) dX4_readBrass_42 ⟨Nat.le_of_ble_eq_true rfl, Nat.le_of_ble_eq_true rfl⟩) hS (fun q _ h => up8 hS q h) (up8 hS) (fun r25 σ26 tS H1 locs ht hvm hw27 hB hz1 hk1 hS => ?_)
  have hP : va_P D clz (WD8 cy g σ26) H1 := by rw [← ht]; exact hB
  clear hB hz1 hk1 hvm ht
  generalize H1 = H at hP hS ⊢
  have hF28 : Fr (fO [12]) σ21 σ26 := hw27.1
  have hJ29 : J8 σ26 := hw27.2.1
  have b30 : (-2147483648 : Int) ≤ r25.toInt ∧ r25.toInt ≤ 1000000 := hw27.2.2.1
  refine va_callv (va_runV (As := [.int x12, .int 2, .int r25]) (rest := []) ⟨hx, hb, hml, hown, hts⟩ (m_X0_setBrass l D cy g σ26  d1 x12 (2) r25 _ hJ29 (show 0 ≤ d1 ∧ d1 < 5 from hd1) (show (-1 : Int) ≤ x12.toInt ∧ x12.toInt ≤ 3 from (by have f0 := t13; have f1 := j8_0_3 hJ5 hd1 rfl; have g1 := rg32 x12; have z1 : (1 : Int32).toInt = 1 := (by decide); omega)) (show (0 : Int) ≤ (2 : Int32).toInt ∧ (2 : Int32).toInt ≤ 6 from (by have f0 := t13; have f1 := j8_0_3 hJ5 hd1 rfl; have g1 := rg32 x12; have z1 : (1 : Int32).toInt = 1 := (by decide); have z2 : (2 : Int32).toInt = 2 := (by decide); omega)) (show (-2147483648 : Int) ≤ r25.toInt ∧ r25.toInt ≤ 1000000 from (by have f0 := t13; have f1 := b30; have f2 := j8_0_3 hJ5 hd1 rfl; have g1 := rg32 r25; have g2 := rg32 x12; have z1 : (1 : Int32).toInt = 1 := (by decide); have z2 : (2 : Int32).toInt = 2 := (by decide); omega))) (cwV 3 hts (gd_V q607 q595 q596 q127 q597) rfl rfl rfl (by decide +kernel) ⟨(Nat.le_of_ble_eq_true rfl), (Nat.le_of_ble_eq_true rfl)⟩) (pv8 hP hK hD hC hS (rv8_0 hK hP hd1)) rfl rfl hl.1 rfl (lv_room (Nat.le_of_ble_eq_true rfl)) dX4_readBrass_45 ⟨Nat.le_of_ble_eq_true rfl, Nat.le_of_ble_eq_true rfl⟩) hS (fun q _ h => up8 hS q h) (up8 hS) (fun σ32 tS H1 locs ht hvm hw33 hB hz1 hk1 hS => ?_)
  have hP : va_P D clz (WD8 cy g σ32) H1 := by rw [← ht]; exact hB
  clear hB hz1 hk1 hvm ht
  generalize H1 = H at hP hS ⊢
  have hF34 : Fr (fO [d1]) σ26 σ32 := hw33.1
  have hJ35 : J8 σ32 := hw33.2.1
  refine lv_iload_n hx hb dX4_readBrass_48 rfl (lv_at hl 3 rfl) ?_
  refine lv_iconst (v := 1) hx hb dX4_readBrass_49 (by decide) ?_
  refine lv_icmp_ne (tgt := 116) hx hb dX4_readBrass_50 (by decide) (fun c36 => ?_) (fun c36 => ?_)
  ·
    have k37 := neq32 c36
    refine lv_iload_n hx hb dX4_readBrass_116 rfl (lv_at hl 3 rfl) ?_
    refine lv_iconst (v := 2) hx hb dX4_readBrass_117 (by decide) ?_
    refine lv_icmp_ne (tgt := 136) hx hb dX4_readBrass_118 (by decide) (fun c38 => ?_) (fun c38 => ?_)
    ·
      have k39 := neq32 c38
      exact W.vret hx hb hr (fun tS ht hW => ⟨⟨σ32, rfl, ⟨Fr.tr (Fr.tr (Fr.tr (Fr.tr (Fr.tr (Fr.tr (Fr.rf) hF4 (fO_sub (by simp))) hF10 (fO_sub (by simp))) hF17 (fO_sub (by simp))) hF23 (fO_sub (by simp))) hF28 (fO_sub (by simp))) hF34 (fO_sub (by simp)), hJ35, trivial⟩, (show va_P D clz (WD8 cy g σ32) tS.heap by rw [ht]; exact hP)⟩, hS.F ht⟩) hS.2.2 dX4_readBrass_136
    ·
      have k40 := peq32 c38
      refine lv_aload_n hx hb dX4_readBrass_121 rfl (lv_at hl 2 rfl) ?_
      refine lv_iload_n hx hb dX4_readBrass_122 rfl (lv_at hl 0 rfl) ?_
      refine lv_iconst (v := 3) hx hb dX4_readBrass_123 (by decide) ?_
      refine lv_aload_n hx hb dX4_readBrass_124 rfl (lv_at hl 1 rfl) ?_
      refine va_ldcS (q := gS g 14) (tx := "step") hx hb hown (show vk_R RX4 142 "step" (gS g 14) s from hC.2.2.1 14 (by decide)) dX4_readBrass_125 ?_
      refine lv_iconst (v := 0) hx hb dX4_readBrass_127 (by decide) ?_
      refine lv_bipush (v := 100) hx hb dX4_readBrass_128 (by decide) ?_
      refine va_calli (va_runV (As := [.ref (gS g 14), .int 0, .int 100]) (rest := [.int 3, .int x12, .ref (gO g d1)]) ⟨hx, hb, hml, hown, hts⟩ (m_X4_numberBehind l D cy g σ32  14 (0) (100) _ hJ35 (by decide : 14 < 21) (show (0 : Int) ≤ (0 : Int32).toInt ∧ (0 : Int32).toInt ≤ 100 from (by have z0 : (0 : Int32).toInt = 0 := (by decide); omega)) (show (9 : Int) ≤ (100 : Int32).toInt ∧ (100 : Int32).toInt ≤ 999 from (by have z0 : (0 : Int32).toInt = 0 := (by decide); have z100 : (100 : Int32).toInt = 100 := (by decide); omega))) (cwV 3 hts (gd_V q576 q578 q5 q126 q579) rfl rfl rfl (by decide +kernel) ⟨(Nat.le_of_ble_eq_true rfl), (Nat.le_of_ble_eq_true rfl)⟩) (pv8 hP hK hD hC hS (rv8_4 hK hP)) rfl rfl hl.1 rfl (lv_room (Nat.le_of_ble_eq_true rfl)) dX4_readBrass_130 ⟨Nat.le_of_ble_eq_true rfl, Nat.le_of_ble_eq_true rfl⟩) hS (fun q _ h => up8 hS q h) (up8 hS) (fun r41 σ42 tS H1 locs ht hvm hw43 hB hz1 hk1 hS => ?_)
      have hP : va_P D clz (WD8 cy g σ42) H1 := by rw [← ht]; exact hB
      clear hB hz1 hk1 hvm ht
      generalize H1 = H at hP hS ⊢
      have hF44 : Fr (fO [12]) σ32 σ42 := hw43.1
      have hJ45 : J8 σ42 := hw43.2.1
      have b46 : (-2147483648 : Int) ≤ r41.toInt ∧ r41.toInt ≤ 1000000 := hw43.2.2.1
      refine va_callv (va_runV (As := [.int x12, .int 3, .int r41]) (rest := []) ⟨hx, hb, hml, hown, hts⟩ (m_X0_setBrass l D cy g σ42  d1 x12 (3) r41 _ hJ45 (show 0 ≤ d1 ∧ d1 < 5 from hd1) (show (-1 : Int) ≤ x12.toInt ∧ x12.toInt ≤ 3 from (by have f0 := t13; have f1 := j8_0_3 hJ5 hd1 rfl; have g1 := rg32 x12; have z1 : (1 : Int32).toInt = 1 := (by decide); omega)) (show (0 : Int) ≤ (3 : Int32).toInt ∧ (3 : Int32).toInt ≤ 6 from (by have f0 := t13; have f1 := j8_0_3 hJ5 hd1 rfl; have g1 := rg32 x12; have z1 : (1 : Int32).toInt = 1 := (by decide); have z3 : (3 : Int32).toInt = 3 := (by decide); omega)) (show (-2147483648 : Int) ≤ r41.toInt ∧ r41.toInt ≤ 1000000 from (by have f0 := t13; have f1 := b46; have f2 := j8_0_3 hJ5 hd1 rfl; have g1 := rg32 r41; have g2 := rg32 x12; have z1 : (1 : Int32).toInt = 1 := (by decide); have z3 : (3 : Int32).toInt = 3 := (by decide); omega))) (cwV 3 hts (gd_V q607 q595 q596 q127 q597) rfl rfl rfl (by decide +kernel) ⟨(Nat.le_of_ble_eq_true rfl), (Nat.le_of_ble_eq_true rfl)⟩) (pv8 hP hK hD hC hS (rv8_0 hK hP hd1)) rfl rfl hl.1 rfl (lv_room (Nat.le_of_ble_eq_true rfl)) dX4_readBrass_133 ⟨Nat.le_of_ble_eq_true rfl, Nat.le_of_ble_eq_true rfl⟩) hS (fun q _ h => up8 hS q h) (up8 hS) (fun σ48 tS H1 locs ht hvm hw49 hB hz1 hk1 hS => ?_)
      have hP : va_P D clz (WD8 cy g σ48) H1 := by rw [← ht]; exact hB
      clear hB hz1 hk1 hvm ht
      generalize H1 = H at hP hS ⊢
      have hF50 : Fr (fO [d1]) σ42 σ48 := hw49.1
      have hJ51 : J8 σ48 := hw49.2.1
      exact W.vret hx hb hr (fun tS ht hW => ⟨⟨σ48, rfl, ⟨Fr.tr (Fr.tr (Fr.tr (Fr.tr (Fr.tr (Fr.tr (Fr.tr (Fr.tr (Fr.rf) hF4 (fO_sub (by simp))) hF10 (fO_sub (by simp))) hF17 (fO_sub (by simp))) hF23 (fO_sub (by simp))) hF28 (fO_sub (by simp))) hF34 (fO_sub (by simp))) hF44 (fO_sub (by simp))) hF50 (fO_sub (by simp)), hJ51, trivial⟩, (show va_P D clz (WD8 cy g σ48) tS.heap by rw [ht]; exact hP)⟩, hS.F ht⟩) hS.2.2 dX4_readBrass_136
  ·
    have k52 := peq32 c36
    refine lv_aload_n hx hb dX4_readBrass_53 rfl (lv_at hl 2 rfl) ?_
    refine lv_iload_n hx hb dX4_readBrass_54 rfl (lv_at hl 0 rfl) ?_
    refine lv_iconst (v := 3) hx hb dX4_readBrass_55 (by decide) ?_
    refine lv_aload_n hx hb dX4_readBrass_56 rfl (lv_at hl 1 rfl) ?_
    refine va_ldcS (q := gS g 12) (tx := "valves") hx hb hown (show vk_R RX4 138 "valves" (gS g 12) s from hC.2.2.1 12 (by decide)) dX4_readBrass_57 ?_
    refine lv_iconst (v := 0) hx hb dX4_readBrass_59 (by decide) ?_
    refine lv_sipush (v := 400) hx hb dX4_readBrass_60 (by decide) ?_
    refine va_calli (va_runV (As := [.ref (gS g 12), .int 0, .int 400]) (rest := [.int 3, .int x12, .ref (gO g d1)]) ⟨hx, hb, hml, hown, hts⟩ (m_X4_numberBehind l D cy g σ32  12 (0) (400) _ hJ35 (by decide : 12 < 21) (show (0 : Int) ≤ (0 : Int32).toInt ∧ (0 : Int32).toInt ≤ 100 from (by have z0 : (0 : Int32).toInt = 0 := (by decide); omega)) (show (9 : Int) ≤ (400 : Int32).toInt ∧ (400 : Int32).toInt ≤ 999 from (by have z0 : (0 : Int32).toInt = 0 := (by decide); have z400 : (400 : Int32).toInt = 400 := (by decide); omega))) (cwV 3 hts (gd_V q576 q578 q5 q126 q579) rfl rfl rfl (by decide +kernel) ⟨(Nat.le_of_ble_eq_true rfl), (Nat.le_of_ble_eq_true rfl)⟩) (pv8 hP hK hD hC hS (rv8_4 hK hP)) rfl rfl hl.1 rfl (lv_room (Nat.le_of_ble_eq_true rfl)) dX4_readBrass_63 ⟨Nat.le_of_ble_eq_true rfl, Nat.le_of_ble_eq_true rfl⟩) hS (fun q _ h => up8 hS q h) (up8 hS) (fun r53 σ54 tS H1 locs ht hvm hw55 hB hz1 hk1 hS => ?_)
    have hP : va_P D clz (WD8 cy g σ54) H1 := by rw [← ht]; exact hB
    clear hB hz1 hk1 hvm ht
    generalize H1 = H at hP hS ⊢
    have hF56 : Fr (fO [12]) σ32 σ54 := hw55.1
    have hJ57 : J8 σ54 := hw55.2.1
    have b58 : (-2147483648 : Int) ≤ r53.toInt ∧ r53.toInt ≤ 1000000 := hw55.2.2.1
    refine va_callv (va_runV (As := [.int x12, .int 3, .int r53]) (rest := []) ⟨hx, hb, hml, hown, hts⟩ (m_X0_setBrass l D cy g σ54  d1 x12 (3) r53 _ hJ57 (show 0 ≤ d1 ∧ d1 < 5 from hd1) (show (-1 : Int) ≤ x12.toInt ∧ x12.toInt ≤ 3 from (by have f0 := t13; have f1 := j8_0_3 hJ5 hd1 rfl; have g1 := rg32 x12; have z1 : (1 : Int32).toInt = 1 := (by decide); omega)) (show (0 : Int) ≤ (3 : Int32).toInt ∧ (3 : Int32).toInt ≤ 6 from (by have f0 := t13; have f1 := j8_0_3 hJ5 hd1 rfl; have g1 := rg32 x12; have z1 : (1 : Int32).toInt = 1 := (by decide); have z3 : (3 : Int32).toInt = 3 := (by decide); omega)) (show (-2147483648 : Int) ≤ r53.toInt ∧ r53.toInt ≤ 1000000 from (by have f0 := t13; have f1 := b58; have f2 := j8_0_3 hJ5 hd1 rfl; have g1 := rg32 r53; have g2 := rg32 x12; have z1 : (1 : Int32).toInt = 1 := (by decide); have z3 : (3 : Int32).toInt = 3 := (by decide); omega))) (cwV 3 hts (gd_V q607 q595 q596 q127 q597) rfl rfl rfl (by decide +kernel) ⟨(Nat.le_of_ble_eq_true rfl), (Nat.le_of_ble_eq_true rfl)⟩) (pv8 hP hK hD hC hS (rv8_0 hK hP hd1)) rfl rfl hl.1 rfl (lv_room (Nat.le_of_ble_eq_true rfl)) dX4_readBrass_66 ⟨Nat.le_of_ble_eq_true rfl, Nat.le_of_ble_eq_true rfl⟩) hS (fun q _ h => up8 hS q h) (up8 hS) (fun σ60 tS H1 locs ht hvm hw61 hB hz1 hk1 hS => ?_)
    have hP : va_P D clz (WD8 cy g σ60) H1 := by rw [← ht]; exact hB
    clear hB hz1 hk1 hvm ht
    generalize H1 = H at hP hS ⊢
    have hF62 : Fr (fO [d1]) σ54 σ60 := hw61.1
    have hJ63 : J8 σ60 := hw61.2.1
    refine lv_aload_n hx hb dX4_readBrass_69 rfl (lv_at hl 2 rfl) ?_
    refine lv_iload_n hx hb dX4_readBrass_70 rfl (lv_at hl 0 rfl) ?_
    refine lv_iconst (v := 4) hx hb dX4_readBrass_71 (by decide) ?_
    refine lv_aload_n hx hb dX4_readBrass_72 rfl (lv_at hl 1 rfl) ?_
    refine lv_iconst (v := 0) hx hb dX4_readBrass_73 (by decide) ?_
    refine lv_sipush (v := 400) hx hb dX4_readBrass_74 (by decide) ?_
    refine va_calli (va_runV (As := [.int 0, .int 400]) (rest := [.int 4, .int x12, .ref (gO g d1)]) ⟨hx, hb, hml, hown, hts⟩ (m_X4_numberWithin l D cy g σ60  (0) (400) _ hJ63 (show (0 : Int) ≤ (0 : Int32).toInt ∧ (0 : Int32).toInt ≤ 100 from (by have z0 : (0 : Int32).toInt = 0 := (by decide); omega)) (show (-1 : Int) ≤ (400 : Int32).toInt ∧ (400 : Int32).toInt ≤ 999 from (by have z0 : (0 : Int32).toInt = 0 := (by decide); have z400 : (400 : Int32).toInt = 400 := (by decide); omega))) (cwV 2 hts (gd_V q580 q582 q6 q126 q583) rfl rfl rfl (by decide +kernel) ⟨(Nat.le_of_ble_eq_true rfl), (Nat.le_of_ble_eq_true rfl)⟩) (pv8 hP hK hD hC hS (rv8_4 hK hP)) rfl rfl hl.1 rfl (lv_room (Nat.le_of_ble_eq_true rfl)) dX4_readBrass_77 ⟨Nat.le_of_ble_eq_true rfl, Nat.le_of_ble_eq_true rfl⟩) hS (fun q _ h => up8 hS q h) (up8 hS) (fun r64 σ65 tS H1 locs ht hvm hw66 hB hz1 hk1 hS => ?_)
    have hP : va_P D clz (WD8 cy g σ65) H1 := by rw [← ht]; exact hB
    clear hB hz1 hk1 hvm ht
    generalize H1 = H at hP hS ⊢
    have hF67 : Fr (fO [12]) σ60 σ65 := hw66.1
    have hJ68 : J8 σ65 := hw66.2.1
    have b69 : (-2147483648 : Int) ≤ r64.toInt ∧ r64.toInt ≤ 1000000 := hw66.2.2.1
    refine va_callv (va_runV (As := [.int x12, .int 4, .int r64]) (rest := []) ⟨hx, hb, hml, hown, hts⟩ (m_X0_setBrass l D cy g σ65  d1 x12 (4) r64 _ hJ68 (show 0 ≤ d1 ∧ d1 < 5 from hd1) (show (-1 : Int) ≤ x12.toInt ∧ x12.toInt ≤ 3 from (by have f0 := t13; have f1 := j8_0_3 hJ5 hd1 rfl; have g1 := rg32 x12; have z1 : (1 : Int32).toInt = 1 := (by decide); omega)) (show (0 : Int) ≤ (4 : Int32).toInt ∧ (4 : Int32).toInt ≤ 6 from (by have f0 := t13; have f1 := j8_0_3 hJ5 hd1 rfl; have g1 := rg32 x12; have z1 : (1 : Int32).toInt = 1 := (by decide); have z4 : (4 : Int32).toInt = 4 := (by decide); omega)) (show (-2147483648 : Int) ≤ r64.toInt ∧ r64.toInt ≤ 1000000 from (by have f0 := t13; have f1 := b69; have f2 := j8_0_3 hJ5 hd1 rfl; have g1 := rg32 r64; have g2 := rg32 x12; have z1 : (1 : Int32).toInt = 1 := (by decide); have z4 : (4 : Int32).toInt = 4 := (by decide); omega))) (cwV 3 hts (gd_V q607 q595 q596 q127 q597) rfl rfl rfl (by decide +kernel) ⟨(Nat.le_of_ble_eq_true rfl), (Nat.le_of_ble_eq_true rfl)⟩) (pv8 hP hK hD hC hS (rv8_0 hK hP hd1)) rfl rfl hl.1 rfl (lv_room (Nat.le_of_ble_eq_true rfl)) dX4_readBrass_80 ⟨Nat.le_of_ble_eq_true rfl, Nat.le_of_ble_eq_true rfl⟩) hS (fun q _ h => up8 hS q h) (up8 hS) (fun σ71 tS H1 locs ht hvm hw72 hB hz1 hk1 hS => ?_)
    have hP : va_P D clz (WD8 cy g σ71) H1 := by rw [← ht]; exact hB
    clear hB hz1 hk1 hvm ht
    generalize H1 = H at hP hS ⊢
    have hF73 : Fr (fO [d1]) σ65 σ71 := hw72.1
    have hJ74 : J8 σ71 := hw72.2.1
    refine lv_aload_n hx hb dX4_readBrass_83 rfl (lv_at hl 2 rfl) ?_
    refine lv_iload_n hx hb dX4_readBrass_84 rfl (lv_at hl 0 rfl) ?_
    refine lv_iconst (v := 5) hx hb dX4_readBrass_85 (by decide) ?_
    refine lv_aload_n hx hb dX4_readBrass_86 rfl (lv_at hl 1 rfl) ?_
    refine lv_iconst (v := 0) hx hb dX4_readBrass_87 (by decide) ?_
    refine lv_sipush (v := 400) hx hb dX4_readBrass_88 (by decide) ?_
    refine va_calli (va_runV (As := [.int 0, .int 400]) (rest := [.int 5, .int x12, .ref (gO g d1)]) ⟨hx, hb, hml, hown, hts⟩ (m_X4_numberWithin l D cy g σ71  (0) (400) _ hJ74 (show (0 : Int) ≤ (0 : Int32).toInt ∧ (0 : Int32).toInt ≤ 100 from (by have z0 : (0 : Int32).toInt = 0 := (by decide); omega)) (show (-1 : Int) ≤ (400 : Int32).toInt ∧ (400 : Int32).toInt ≤ 999 from (by have z0 : (0 : Int32).toInt = 0 := (by decide); have z400 : (400 : Int32).toInt = 400 := (by decide); omega))) (cwV 2 hts (gd_V q580 q582 q6 q126 q583) rfl rfl rfl (by decide +kernel) ⟨(Nat.le_of_ble_eq_true rfl), (Nat.le_of_ble_eq_true rfl)⟩) (pv8 hP hK hD hC hS (rv8_4 hK hP)) rfl rfl hl.1 rfl (lv_room (Nat.le_of_ble_eq_true rfl)) dX4_readBrass_91 ⟨Nat.le_of_ble_eq_true rfl, Nat.le_of_ble_eq_true rfl⟩) hS (fun q _ h => up8 hS q h) (up8 hS) (fun r75 σ76 tS H1 locs ht hvm hw77 hB hz1 hk1 hS => ?_)
    have hP : va_P D clz (WD8 cy g σ76) H1 := by rw [← ht]; exact hB
    clear hB hz1 hk1 hvm ht
    generalize H1 = H at hP hS ⊢
    have hF78 : Fr (fO [12]) σ71 σ76 := hw77.1
    have hJ79 : J8 σ76 := hw77.2.1
    have b80 : (-2147483648 : Int) ≤ r75.toInt ∧ r75.toInt ≤ 1000000 := hw77.2.2.1
    refine va_callv (va_runV (As := [.int x12, .int 5, .int r75]) (rest := []) ⟨hx, hb, hml, hown, hts⟩ (m_X0_setBrass l D cy g σ76  d1 x12 (5) r75 _ hJ79 (show 0 ≤ d1 ∧ d1 < 5 from hd1) (show (-1 : Int) ≤ x12.toInt ∧ x12.toInt ≤ 3 from (by have f0 := t13; have f1 := j8_0_3 hJ5 hd1 rfl; have g1 := rg32 x12; have z1 : (1 : Int32).toInt = 1 := (by decide); omega)) (show (0 : Int) ≤ (5 : Int32).toInt ∧ (5 : Int32).toInt ≤ 6 from (by have f0 := t13; have f1 := j8_0_3 hJ5 hd1 rfl; have g1 := rg32 x12; have z1 : (1 : Int32).toInt = 1 := (by decide); have z5 : (5 : Int32).toInt = 5 := (by decide); omega)) (show (-2147483648 : Int) ≤ r75.toInt ∧ r75.toInt ≤ 1000000 from (by have f0 := t13; have f1 := b80; have f2 := j8_0_3 hJ5 hd1 rfl; have g1 := rg32 r75; have g2 := rg32 x12; have z1 : (1 : Int32).toInt = 1 := (by decide); have z5 : (5 : Int32).toInt = 5 := (by decide); omega))) (cwV 3 hts (gd_V q607 q595 q596 q127 q597) rfl rfl rfl (by decide +kernel) ⟨(Nat.le_of_ble_eq_true rfl), (Nat.le_of_ble_eq_true rfl)⟩) (pv8 hP hK hD hC hS (rv8_0 hK hP hd1)) rfl rfl hl.1 rfl (lv_room (Nat.le_of_ble_eq_true rfl)) dX4_readBrass_94 ⟨Nat.le_of_ble_eq_true rfl, Nat.le_of_ble_eq_true rfl⟩) hS (fun q _ h => up8 hS q h) (up8 hS) (fun σ82 tS H1 locs ht hvm hw83 hB hz1 hk1 hS => ?_)
    have hP : va_P D clz (WD8 cy g σ82) H1 := by rw [← ht]; exact hB
    clear hB hz1 hk1 hvm ht
    generalize H1 = H at hP hS ⊢
    have hF84 : Fr (fO [d1]) σ76 σ82 := hw83.1
    have hJ85 : J8 σ82 := hw83.2.1
    refine lv_aload_n hx hb dX4_readBrass_97 rfl (lv_at hl 2 rfl) ?_
    refine lv_iload_n hx hb dX4_readBrass_98 rfl (lv_at hl 0 rfl) ?_
    refine lv_bipush (v := 6) hx hb dX4_readBrass_99 (by decide) ?_
    refine lv_aload_n hx hb dX4_readBrass_101 rfl (lv_at hl 1 rfl) ?_
    refine va_ldcS (q := gS g 13) (tx := "draws") hx hb hown (show vk_R RX4 140 "draws" (gS g 13) s from hC.2.2.1 13 (by decide)) dX4_readBrass_102 ?_
    refine lv_iconst (v := 0) hx hb dX4_readBrass_104 (by decide) ?_
    refine lv_bipush (v := 60) hx hb dX4_readBrass_105 (by decide) ?_
    refine va_calli (va_runV (As := [.ref (gS g 13), .int 0, .int 60]) (rest := [.int 6, .int x12, .ref (gO g d1)]) ⟨hx, hb, hml, hown, hts⟩ (m_X4_numberBehind l D cy g σ82  13 (0) (60) _ hJ85 (by decide : 13 < 21) (show (0 : Int) ≤ (0 : Int32).toInt ∧ (0 : Int32).toInt ≤ 100 from (by have z0 : (0 : Int32).toInt = 0 := (by decide); omega)) (show (9 : Int) ≤ (60 : Int32).toInt ∧ (60 : Int32).toInt ≤ 999 from (by have z0 : (0 : Int32).toInt = 0 := (by decide); have z60 : (60 : Int32).toInt = 60 := (by decide); omega))) (cwV 3 hts (gd_V q576 q578 q5 q126 q579) rfl rfl rfl (by decide +kernel) ⟨(Nat.le_of_ble_eq_true rfl), (Nat.le_of_ble_eq_true rfl)⟩) (pv8 hP hK hD hC hS (rv8_4 hK hP)) rfl rfl hl.1 rfl (lv_room (Nat.le_of_ble_eq_true rfl)) dX4_readBrass_107 ⟨Nat.le_of_ble_eq_true rfl, Nat.le_of_ble_eq_true rfl⟩) hS (fun q _ h => up8 hS q h) (up8 hS) (fun r86 σ87 tS H1 locs ht hvm hw88 hB hz1 hk1 hS => ?_)
    have hP : va_P D clz (WD8 cy g σ87) H1 := by rw [← ht]; exact hB
    clear hB hz1 hk1 hvm ht
    generalize H1 = H at hP hS ⊢
    have hF89 : Fr (fO [12]) σ82 σ87 := hw88.1
    have hJ90 : J8 σ87 := hw88.2.1
    have b91 : (-2147483648 : Int) ≤ r86.toInt ∧ r86.toInt ≤ 1000000 := hw88.2.2.1
    refine va_callv (va_runV (As := [.int x12, .int 6, .int r86]) (rest := []) ⟨hx, hb, hml, hown, hts⟩ (m_X0_setBrass l D cy g σ87  d1 x12 (6) r86 _ hJ90 (show 0 ≤ d1 ∧ d1 < 5 from hd1) (show (-1 : Int) ≤ x12.toInt ∧ x12.toInt ≤ 3 from (by have f0 := t13; have f1 := j8_0_3 hJ5 hd1 rfl; have g1 := rg32 x12; have z1 : (1 : Int32).toInt = 1 := (by decide); omega)) (show (0 : Int) ≤ (6 : Int32).toInt ∧ (6 : Int32).toInt ≤ 6 from (by have f0 := t13; have f1 := j8_0_3 hJ5 hd1 rfl; have g1 := rg32 x12; have z1 : (1 : Int32).toInt = 1 := (by decide); have z6 : (6 : Int32).toInt = 6 := (by decide); omega)) (show (-2147483648 : Int) ≤ r86.toInt ∧ r86.toInt ≤ 1000000 from (by have f0 := t13; have f1 := b91; have f2 := j8_0_3 hJ5 hd1 rfl; have g1 := rg32 r86; have g2 := rg32 x12; have z1 : (1 : Int32).toInt = 1 := (by decide); have z6 : (6 : Int32).toInt = 6 := (by decide); omega))) (cwV 3 hts (gd_V q607 q595 q596 q127 q597) rfl rfl rfl (by decide +kernel) ⟨(Nat.le_of_ble_eq_true rfl), (Nat.le_of_ble_eq_true rfl)⟩) (pv8 hP hK hD hC hS (rv8_0 hK hP hd1)) rfl rfl hl.1 rfl (lv_room (Nat.le_of_ble_eq_true rfl)) dX4_readBrass_110 ⟨Nat.le_of_ble_eq_true rfl, Nat.le_of_ble_eq_true rfl⟩) hS (fun q _ h => up8 hS q h) (up8 hS) (fun σ93 tS H1 locs ht hvm hw94 hB hz1 hk1 hS => ?_)
    have hP : va_P D clz (WD8 cy g σ93) H1 := by rw [← ht]; exact hB
    clear hB hz1 hk1 hvm ht
    generalize H1 = H at hP hS ⊢
    have hF95 : Fr (fO [d1]) σ87 σ93 := hw94.1
    have hJ96 : J8 σ93 := hw94.2.1
    refine lv_goto (tgt := 136) hx hb dX4_readBrass_113 (by decide) ?_
    exact W.vret hx hb hr (fun tS ht hW => ⟨⟨σ93, rfl, ⟨Fr.tr (Fr.tr (Fr.tr (Fr.tr (Fr.tr (Fr.tr (Fr.tr (Fr.tr (Fr.tr (Fr.tr (Fr.tr (Fr.tr (Fr.tr (Fr.tr (Fr.rf) hF4 (fO_sub (by simp))) hF10 (fO_sub (by simp))) hF17 (fO_sub (by simp))) hF23 (fO_sub (by simp))) hF28 (fO_sub (by simp))) hF34 (fO_sub (by simp))) hF56 (fO_sub (by simp))) hF62 (fO_sub (by simp))) hF67 (fO_sub (by simp))) hF73 (fO_sub (by simp))) hF78 (fO_sub (by simp))) hF84 (fO_sub (by simp))) hF89 (fO_sub (by simp))) hF95 (fO_sub (by simp)), hJ96, trivial⟩, (show va_P D clz (WD8 cy g σ93) tS.heap by rw [ht]; exact hP)⟩, hS.F ht⟩) hS.2.2 dX4_readBrass_136

