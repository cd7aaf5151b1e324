theorem q1184 : Cond.code yX1_fewestFrom cX1_fewestFrom 8 (some .int) ∈ lw_g := lw_gm (List.mem_of_getElem? (i := 1184) (by decide +kernel)) rfl
def FFt (n : Nat) : Prop := ∀ (l : Launch) (D : va_G) (cy : Nat → ClassId) (g : Nat → Nat) (σ : ST) (p1 : Int32) (p2 : Int32) (p3 : Int32) (p4 : Int32) (sz : Nat) (hJ : J8 σ) (h0 : (0 : Int) ≤ p1.toInt ∧ p1.toInt ≤ 16) (h1 : (0 : Int) ≤ p2.toInt ∧ p2.toInt ≤ 16) (h2 : (0 : Int) ≤ p3.toInt ∧ p3.toInt ≤ 16) (h3 : (0 : Int) ≤ p4.toInt ∧ p4.toInt ≤ 16) (h4 : (16 : Int) ≤ p1.toInt + ((n : Nat) : Int)), Met l yX1_fewestFrom (ww yX1_fewestFrom cX1_fewestFrom 8 (some .int)) ({ frames := 2 * n + 2, cells := 0, slots := 0, locals := 64 * (2 * n + 2) }) (va_Pc [.ref (gO g 15), .int p1, .int p2, .int p3, .int p4] (pr8 D cy g σ sz)) (qi8 D cy g sz (fun r τ => Fr (fO [15]) σ τ ∧ J8 τ ∧ True)) 0 0 (A8 cy g sz)
theorem q1195 : Cond.code yX1_fewestWith cX1_fewestWith 10 (some .int) ∈ lw_g := lw_gm (List.mem_of_getElem? (i := 1195) (by decide +kernel)) rfl
theorem q1181 : Cond.methodLink RX1 61 yX1_fewestFrom ∈ lw_g := lw_gm (List.mem_of_getElem? (i := 1181) (by decide +kernel)) rfl
theorem q1183 : Cond.instanceMethod yX1_fewestFrom ∈ lw_g := lw_gm (List.mem_of_getElem? (i := 1183) (by decide +kernel)) rfl
theorem q39 : Cond.selects RX1 yX1_fewestFrom yX1_fewestFrom ∈ lw_g := lw_gm (List.mem_of_getElem? (i := 39) (by decide +kernel)) rfl
theorem q131 : Cond.initialized RX1 ∈ lw_g := lw_gm (List.mem_of_getElem? (i := 131) (by decide +kernel)) rfl
theorem q1196 : Cond.methodLink RX1 84 yX1_airDoes ∈ lw_g := lw_gm (List.mem_of_getElem? (i := 1196) (by decide +kernel)) rfl
theorem q1198 : Cond.instanceMethod yX1_airDoes ∈ lw_g := lw_gm (List.mem_of_getElem? (i := 1198) (by decide +kernel)) rfl
theorem q42 : Cond.selects RX1 yX1_airDoes yX1_airDoes ∈ lw_g := lw_gm (List.mem_of_getElem? (i := 42) (by decide +kernel)) rfl
theorem dX1_fewestWith_0 : decode cX1_fewestWith 0 = .ok (.iload 5, 2) := by decide +kernel
theorem dX1_fewestWith_2 : decode cX1_fewestWith 2 = .ok (.ifCond .eq 13, 3) := by decide +kernel
theorem dX1_fewestWith_5 : decode cX1_fewestWith 5 = .ok (.aload_n 0, 1) := by decide +kernel
theorem dX1_fewestWith_6 : decode cX1_fewestWith 6 = .ok (.iconst 0, 1) := by decide +kernel
theorem dX1_fewestWith_7 : decode cX1_fewestWith 7 = .ok (.iload_n 2, 1) := by decide +kernel
theorem dX1_fewestWith_8 : decode cX1_fewestWith 8 = .ok (.iload_n 1, 1) := by decide +kernel
theorem dX1_fewestWith_9 : decode cX1_fewestWith 9 = .ok (.invokevirtual 84, 3) := by decide +kernel
theorem dX1_fewestWith_12 : decode cX1_fewestWith 12 = .ok (.ifCond .eq 7, 3) := by decide +kernel
theorem dX1_fewestWith_15 : decode cX1_fewestWith 15 = .ok (.iconst 1, 1) := by decide +kernel
theorem dX1_fewestWith_16 : decode cX1_fewestWith 16 = .ok (.goto 4, 3) := by decide +kernel
theorem dX1_fewestWith_19 : decode cX1_fewestWith 19 = .ok (.iconst 0, 1) := by decide +kernel
theorem dX1_fewestWith_20 : decode cX1_fewestWith 20 = .ok (.istore 6, 2) := by decide +kernel
theorem dX1_fewestWith_22 : decode cX1_fewestWith 22 = .ok (.iload 5, 2) := by decide +kernel
theorem dX1_fewestWith_24 : decode cX1_fewestWith 24 = .ok (.iconst 1, 1) := by decide +kernel
theorem dX1_fewestWith_25 : decode cX1_fewestWith 25 = .ok (.if_icmp .eq 13, 3) := by decide +kernel
theorem dX1_fewestWith_28 : decode cX1_fewestWith 28 = .ok (.aload_n 0, 1) := by decide +kernel
theorem dX1_fewestWith_29 : decode cX1_fewestWith 29 = .ok (.iconst 1, 1) := by decide +kernel
theorem dX1_fewestWith_30 : decode cX1_fewestWith 30 = .ok (.iload_n 3, 1) := by decide +kernel
theorem dX1_fewestWith_31 : decode cX1_fewestWith 31 = .ok (.iload_n 1, 1) := by decide +kernel
theorem dX1_fewestWith_32 : decode cX1_fewestWith 32 = .ok (.invokevirtual 84, 3) := by decide +kernel
theorem dX1_fewestWith_35 : decode cX1_fewestWith 35 = .ok (.ifCond .eq 7, 3) := by decide +kernel
theorem dX1_fewestWith_38 : decode cX1_fewestWith 38 = .ok (.iconst 1, 1) := by decide +kernel
theorem dX1_fewestWith_39 : decode cX1_fewestWith 39 = .ok (.goto 4, 3) := by decide +kernel
theorem dX1_fewestWith_42 : decode cX1_fewestWith 42 = .ok (.iconst 0, 1) := by decide +kernel
theorem dX1_fewestWith_43 : decode cX1_fewestWith 43 = .ok (.istore 7, 2) := by decide +kernel
theorem dX1_fewestWith_45 : decode cX1_fewestWith 45 = .ok (.iload 5, 2) := by decide +kernel
theorem dX1_fewestWith_47 : decode cX1_fewestWith 47 = .ok (.iconst 2, 1) := by decide +kernel
theorem dX1_fewestWith_48 : decode cX1_fewestWith 48 = .ok (.if_icmp .eq 14, 3) := by decide +kernel
theorem dX1_fewestWith_51 : decode cX1_fewestWith 51 = .ok (.aload_n 0, 1) := by decide +kernel
theorem dX1_fewestWith_52 : decode cX1_fewestWith 52 = .ok (.iconst 2, 1) := by decide +kernel
theorem dX1_fewestWith_53 : decode cX1_fewestWith 53 = .ok (.iload 4, 2) := by decide +kernel
theorem dX1_fewestWith_55 : decode cX1_fewestWith 55 = .ok (.iload_n 1, 1) := by decide +kernel
theorem dX1_fewestWith_56 : decode cX1_fewestWith 56 = .ok (.invokevirtual 84, 3) := by decide +kernel
theorem dX1_fewestWith_59 : decode cX1_fewestWith 59 = .ok (.ifCond .eq 7, 3) := by decide +kernel
theorem dX1_fewestWith_62 : decode cX1_fewestWith 62 = .ok (.iconst 1, 1) := by decide +kernel
theorem dX1_fewestWith_63 : decode cX1_fewestWith 63 = .ok (.goto 4, 3) := by decide +kernel
theorem dX1_fewestWith_66 : decode cX1_fewestWith 66 = .ok (.iconst 0, 1) := by decide +kernel
theorem dX1_fewestWith_67 : decode cX1_fewestWith 67 = .ok (.istore 8, 2) := by decide +kernel
theorem dX1_fewestWith_69 : decode cX1_fewestWith 69 = .ok (.iload 6, 2) := by decide +kernel
theorem dX1_fewestWith_71 : decode cX1_fewestWith 71 = .ok (.ifCond .eq 13, 3) := by decide +kernel
theorem dX1_fewestWith_74 : decode cX1_fewestWith 74 = .ok (.iload 7, 2) := by decide +kernel
theorem dX1_fewestWith_76 : decode cX1_fewestWith 76 = .ok (.ifCond .eq 8, 3) := by decide +kernel
theorem dX1_fewestWith_79 : decode cX1_fewestWith 79 = .ok (.iload 8, 2) := by decide +kernel
theorem dX1_fewestWith_81 : decode cX1_fewestWith 81 = .ok (.ifCond .ne 6, 3) := by decide +kernel
theorem dX1_fewestWith_84 : decode cX1_fewestWith 84 = .ok (.bipush 63, 2) := by decide +kernel
theorem dX1_fewestWith_86 : decode cX1_fewestWith 86 = .ok (.ireturn, 1) := by decide +kernel
theorem dX1_fewestWith_87 : decode cX1_fewestWith 87 = .ok (.aload_n 0, 1) := by decide +kernel
theorem dX1_fewestWith_88 : decode cX1_fewestWith 88 = .ok (.iload_n 1, 1) := by decide +kernel
theorem dX1_fewestWith_89 : decode cX1_fewestWith 89 = .ok (.iconst 1, 1) := by decide +kernel
theorem dX1_fewestWith_90 : decode cX1_fewestWith 90 = .ok (.iadd, 1) := by decide +kernel
theorem dX1_fewestWith_91 : decode cX1_fewestWith 91 = .ok (.iload 5, 2) := by decide +kernel
theorem dX1_fewestWith_93 : decode cX1_fewestWith 93 = .ok (.ifCond .ne 9, 3) := by decide +kernel
theorem dX1_fewestWith_96 : decode cX1_fewestWith 96 = .ok (.iload_n 1, 1) := by decide +kernel
theorem dX1_fewestWith_97 : decode cX1_fewestWith 97 = .ok (.iconst 1, 1) := by decide +kernel
theorem dX1_fewestWith_98 : decode cX1_fewestWith 98 = .ok (.iadd, 1) := by decide +kernel
theorem dX1_fewestWith_99 : decode cX1_fewestWith 99 = .ok (.goto 4, 3) := by decide +kernel
theorem dX1_fewestWith_102 : decode cX1_fewestWith 102 = .ok (.iload_n 2, 1) := by decide +kernel
theorem dX1_fewestWith_103 : decode cX1_fewestWith 103 = .ok (.iload 5, 2) := by decide +kernel
theorem dX1_fewestWith_105 : decode cX1_fewestWith 105 = .ok (.iconst 1, 1) := by decide +kernel
theorem dX1_fewestWith_106 : decode cX1_fewestWith 106 = .ok (.if_icmp .ne 9, 3) := by decide +kernel
theorem dX1_fewestWith_109 : decode cX1_fewestWith 109 = .ok (.iload_n 1, 1) := by decide +kernel
theorem dX1_fewestWith_110 : decode cX1_fewestWith 110 = .ok (.iconst 1, 1) := by decide +kernel
theorem dX1_fewestWith_111 : decode cX1_fewestWith 111 = .ok (.iadd, 1) := by decide +kernel
theorem dX1_fewestWith_112 : decode cX1_fewestWith 112 = .ok (.goto 4, 3) := by decide +kernel
theorem dX1_fewestWith_115 : decode cX1_fewestWith 115 = .ok (.iload_n 3, 1) := by decide +kernel
theorem dX1_fewestWith_116 : decode cX1_fewestWith 116 = .ok (.iload 5, 2) := by decide +kernel
theorem dX1_fewestWith_118 : decode cX1_fewestWith 118 = .ok (.iconst 2, 1) := by decide +kernel
theorem dX1_fewestWith_119 : decode cX1_fewestWith 119 = .ok (.if_icmp .ne 9, 3) := by decide +kernel
theorem dX1_fewestWith_122 : decode cX1_fewestWith 122 = .ok (.iload_n 1, 1) := by decide +kernel
theorem dX1_fewestWith_123 : decode cX1_fewestWith 123 = .ok (.iconst 1, 1) := by decide +kernel
theorem dX1_fewestWith_124 : decode cX1_fewestWith 124 = .ok (.iadd, 1) := by decide +kernel
theorem dX1_fewestWith_125 : decode cX1_fewestWith 125 = .ok (.goto 5, 3) := by decide +kernel
theorem dX1_fewestWith_128 : decode cX1_fewestWith 128 = .ok (.iload 4, 2) := by decide +kernel
theorem dX1_fewestWith_130 : decode cX1_fewestWith 130 = .ok (.invokevirtual 61, 3) := by decide +kernel
theorem dX1_fewestWith_133 : decode cX1_fewestWith 133 = .ok (.istore 9, 2) := by decide +kernel
theorem dX1_fewestWith_135 : decode cX1_fewestWith 135 = .ok (.iload 9, 2) := by decide +kernel
theorem dX1_fewestWith_137 : decode cX1_fewestWith 137 = .ok (.bipush 63, 2) := by decide +kernel
theorem dX1_fewestWith_139 : decode cX1_fewestWith 139 = .ok (.if_icmp .lt 6, 3) := by decide +kernel
theorem dX1_fewestWith_142 : decode cX1_fewestWith 142 = .ok (.bipush 63, 2) := by decide +kernel
theorem dX1_fewestWith_144 : decode cX1_fewestWith 144 = .ok (.ireturn, 1) := by decide +kernel
theorem dX1_fewestWith_145 : decode cX1_fewestWith 145 = .ok (.iload 5, 2) := by decide +kernel
theorem dX1_fewestWith_147 : decode cX1_fewestWith 147 = .ok (.iconst (-1), 1) := by decide +kernel
theorem dX1_fewestWith_148 : decode cX1_fewestWith 148 = .ok (.if_icmp .ne 8, 3) := by decide +kernel
theorem dX1_fewestWith_151 : decode cX1_fewestWith 151 = .ok (.iload 9, 2) := by decide +kernel
theorem dX1_fewestWith_153 : decode cX1_fewestWith 153 = .ok (.goto 7, 3) := by decide +kernel
theorem dX1_fewestWith_156 : decode cX1_fewestWith 156 = .ok (.iload 9, 2) := by decide +kernel
theorem dX1_fewestWith_158 : decode cX1_fewestWith 158 = .ok (.iconst 1, 1) := by decide +kernel
theorem dX1_fewestWith_159 : decode cX1_fewestWith 159 = .ok (.iadd, 1) := by decide +kernel
theorem dX1_fewestWith_160 : decode cX1_fewestWith 160 = .ok (.ireturn, 1) := by decide +kernel
set_option maxHeartbeats 4000000 in
set_option maxRecDepth 100000 in
theorem m_X1_fewestWith (k : Nat) (IHk : FFt k) (l : Launch) (D : va_G) (cy : Nat → ClassId) (g : Nat → Nat) (σ : ST) (p1 : Int32) (p2 : Int32) (p3 : Int32) (p4 : Int32) (p5 : Int32) (sz : Nat) (hJ : J8 σ) (h0 : (0 : Int) ≤ p1.toInt ∧ p1.toInt ≤ 15) (h1 : (0 : Int) ≤ p2.toInt ∧ p2.toInt ≤ 16) (h2 : (0 : Int) ≤ p3.toInt ∧ p3.toInt ≤ 16) (h3 : (0 : Int) ≤ p4.toInt ∧ p4.toInt ≤ 16) (h4 : (-1 : Int) ≤ p5.toInt ∧ p5.toInt ≤ 2) (h5 : (15 : Int) ≤ p1.toInt + ((k : Nat) : Int)) : Met l yX1_fewestWith (ww yX1_fewestWith cX1_fewestWith 10 (some .int)) ({ frames := 2 * k + 3, cells := 0, slots := 0, locals := 64 * (2 * k + 3) }) (va_Pc [.ref (gO g 15), .int p1, .int p2, .int p3, .int p4, .int p5] (pr8 D cy g σ sz)) (qi8 D cy g sz (fun r τ => Fr (fO [15]) σ τ ∧ J8 τ ∧ ((-2147483648 : Int) ≤ r.toInt ∧ r.toInt ≤ 63) ∧ True)) 0 0 (A8 cy g sz) := by
  refine Met.ofW (cc := cX1_fewestWith) (maxL := 10) (ret := (some .int)) (by decide) rfl ?_
  intro p e s m args below meth c s₁ B hml hv
  obtain ⟨rfl, hsz, hP, hK, hD0, hC⟩ := hv
  have hx := B.exec
  have hb := B.bytes
  have hr := B.returns
  have hts := hts_g (atoms_spec (ws := ww yX1_fewestWith cX1_fewestWith 10 (some .int)) B.pre)
  have hown : s.vm.findClass RX1 = some m.cls := findClass_of_methodNamed B.named
  have hlocks := B.notSynchronized
  clear B
  subst hsz
  have hD := fun τ => A8_D (sz := s.heap.size) hD0 τ
  clear hD0
  have hS : va_S (A8 cy g s.heap.size) s.heap s.heap [] := va_S.rf
  have hl := lv_entry ([.ref (gO g 15), .int p1, .int p2, .int p3, .int p4, .int p5]) (n := 10) (Nat.le_of_ble_eq_true rfl)
  rw [lg_entry_eq]
  generalize (lg_sl ([.ref (gO g 15), .int p1, .int p2, .int p3, .int p4, .int p5]) ++ List.replicate (10 - (lg_sl ([.ref (gO g 15), .int p1, .int p2, .int p3, .int p4, .int p5])).length) Slot.unset).toArray = ls at hl ⊢
  have hl : lv_has ls 10 [(0, .ref (gO g 15)), (1, .int p1), (2, .int p2), (3, .int p3), (4, .int p4), (5, .int p5)] := hl
  refine lv_iload hx hb dX1_fewestWith_0 (lv_at hl 5 rfl) ?_
  refine cut8 (D := D) (cy := cy) (g := g) (A := A8 cy g s.heap.size) (H0 := s.heap) 10 20 (fun x : LZ => [(0, .ref (gO g 15)), (1, .int p1), (2, .int p2), (3, .int p3), (4, .int p4), (5, .int p5)]) (fun x : LZ => [.int (x.2.1 0)]) (fun x : LZ => (x.1 = σ) ∧ ((0 : Int) ≤ (x.2.1 0).toInt ∧ (x.2.1 0).toInt ≤ 1) ∧ True) ?_ ?_
  ·
    intro y3 hI2 H locs ls hP hS hl
    rw [show y3.1 = σ from hI2.1] at hP
    have b4 : (0 : Int) ≤ (y3.2.1 0).toInt ∧ (y3.2.1 0).toInt ≤ 1 := hI2.2.1
    have hl : lv_has ls 10 [(0, .ref (gO g 15)), (1, .int p1), (2, .int p2), (3, .int p3), (4, .int p4), (5, .int p5)] := hl
    refine W.eq (g2 := F0 m 20 ls [.int (y3.2.1 0)]) rfl ?_
    refine lv_istore (lv' := [(6, .int (y3.2.1 0)), (0, .ref (gO g 15)), (1, .int p1), (2, .int p2), (3, .int p3), (4, .int p4), (5, .int p5)]) hx hb dX1_fewestWith_20 hl (by decide) rfl (fun ls hl => ?_)
    refine lv_iload hx hb dX1_fewestWith_22 (lv_at hl 6 rfl) ?_
    refine lv_iconst (v := 1) hx hb dX1_fewestWith_24 (by decide) ?_
    refine cut8 (D := D) (cy := cy) (g := g) (A := A8 cy g s.heap.size) (H0 := s.heap) 10 43 (fun x : LZ => [(6, .int (y3.2.1 0)), (0, .ref (gO g 15)), (1, .int p1), (2, .int p2), (3, .int p3), (4, .int p4), (5, .int p5)]) (fun x : LZ => [.int (x.2.1 0)]) (fun x : LZ => (x.1 = σ) ∧ ((0 : Int) ≤ (x.2.1 0).toInt ∧ (x.2.1 0).toInt ≤ 1) ∧ True) ?_ ?_
    ·
      intro y7 hI6 H locs ls hP hS hl
      rw [show y7.1 = σ from hI6.1] at hP
      have b8 : (0 : Int) ≤ (y7.2.1 0).toInt ∧ (y7.2.1 0).toInt ≤ 1 := hI6.2.1
      have hl : lv_has ls 10 [(6, .int (y3.2.1 0)), (0, .ref (gO g 15)), (1, .int p1), (2, .int p2), (3, .int p3), (4, .int p4), (5, .int p5)] := hl
      refine W.eq (g2 := F0 m 43 ls [.int (y7.2.1 0)]) rfl ?_
      refine lv_istore (lv' := [(7, .int (y7.2.1 0)), (6, .int (y3.2.1 0)), (0, .ref (gO g 15)), (1, .int p1), (2, .int p2), (3, .int p3), (4, .int p4), (5, .int p5)]) hx hb dX1_fewestWith_43 hl (by decide) rfl (fun ls hl => ?_)
      refine lv_iload hx hb dX1_fewestWith_45 (lv_at hl 7 rfl) ?_
      refine lv_iconst (v := 2) hx hb dX1_fewestWith_47 (by decide) ?_
      refine cut8 (D := D) (cy := cy) (g := g) (A := A8 cy g s.heap.size) (H0 := s.heap) 10 67 (fun x : LZ => [(7, .int (y7.2.1 0)), (6, .int (y3.2.1 0)), (0, .ref (gO g 15)), (1, .int p1), (2, .int p2), (3, .int p3), (4, .int p4), (5, .int p5)]) (fun x : LZ => [.int (x.2.1 0)]) (fun x : LZ => (x.1 = σ) ∧ ((0 : Int) ≤ (x.2.1 0).toInt ∧ (x.2.1 0).toInt ≤ 1) ∧ True) ?_ ?_
      ·
        intro y11 hI10 H locs ls hP hS hl
        rw [show y11.1 = σ from hI10.1] at hP
        have b12 : (0 : Int) ≤ (y11.2.1 0).toInt ∧ (y11.2.1 0).toInt ≤ 1 := hI10.2.1
        have hl : lv_has ls 10 [(7, .int (y7.2.1 0)), (6, .int (y3.2.1 0)), (0, .ref (gO g 15)), (1, .int p1), (2, .int p2), (3, .int p3), (4, .int p4), (5, .int p5)] := hl
        refine W.eq (g2 := F0 m 67 ls [.int (y11.2.1 0)]) rfl ?_
        refine lv_istore (lv' := [(8, .int (y11.2.1 0)), (7, .int (y7.2.1 0)), (6, .int (y3.2.1 0)), (0, .ref (gO g 15)), (1, .int p1), (2, .int p2), (3, .int p3), (4, .int p4), (5, .int p5)]) hx hb dX1_fewestWith_67 hl (by decide) rfl (fun ls hl => ?_)
        refine lv_iload hx hb dX1_fewestWith_69 (lv_at hl 2 rfl) ?_
        refine lv_if_eq (tgt := 84) hx hb dX1_fewestWith_71 (by decide) (fun c13 => ?_) (fun c13 => ?_)
        ·
          have k14 := peq32 c13
          refine lv_bipush (v := 63) hx hb dX1_fewestWith_84 (by decide) ?_
          exact W.iret (v := 63) hx hb hr (fun tS ht hW => ⟨⟨63, σ, rfl, ⟨Fr.rf, hJ, (show (-2147483648 : Int) ≤ (63 : Int32).toInt ∧ (63 : Int32).toInt ≤ 63 from (by have z63 : (63 : Int32).toInt = 63 := (by decide); omega)), trivial⟩, (show va_P D clz (WD8 cy g σ) tS.heap by rw [ht]; exact hP)⟩, hS.F ht⟩) hS.2.2 dX1_fewestWith_86
        ·
          have k15 := neq32 c13
          refine lv_iload hx hb dX1_fewestWith_74 (lv_at hl 1 rfl) ?_
          refine lv_if_eq (tgt := 84) hx hb dX1_fewestWith_76 (by decide) (fun c16 => ?_) (fun c16 => ?_)
          ·
            have k17 := peq32 c16
            refine lv_bipush (v := 63) hx hb dX1_fewestWith_84 (by decide) ?_
            exact W.iret (v := 63) hx hb hr (fun tS ht hW => ⟨⟨63, σ, rfl, ⟨Fr.rf, hJ, (show (-2147483648 : Int) ≤ (63 : Int32).toInt ∧ (63 : Int32).toInt ≤ 63 from (by have z63 : (63 : Int32).toInt = 63 := (by decide); omega)), trivial⟩, (show va_P D clz (WD8 cy g σ) tS.heap by rw [ht]; exact hP)⟩, hS.F ht⟩) hS.2.2 dX1_fewestWith_86
          ·
            have k18 := neq32 c16
            refine lv_iload hx hb dX1_fewestWith_79 (lv_at hl 0 rfl) ?_
            refine lv_if_ne (tgt := 87) hx hb dX1_fewestWith_81 (by decide) (fun c19 => ?_) (fun c19 => ?_)
            ·
              have k20 := neq32 c19
              refine lv_aload_n hx hb dX1_fewestWith_87 rfl (lv_at hl 3 rfl) ?_
              refine lv_iload_n hx hb dX1_fewestWith_88 rfl (lv_at hl 4 rfl) ?_
              refine lv_iconst (v := 1) hx hb dX1_fewestWith_89 (by decide) ?_
              refine lv_iadd hx hb dX1_fewestWith_90 ?_
              refine lv_topi (fun x21 ex21 => ?_)
              have t22 := addO ex21 (by have f0 := h0; have f1 := h5; have g0 := rg32 p1; have z1 : (1 : Int32).toInt = 1 := (by decide); omega)
              refine lv_iload hx hb dX1_fewestWith_91 (lv_at hl 8 rfl) ?_
              refine cut8 (D := D) (cy := cy) (g := g) (A := A8 cy g s.heap.size) (H0 := s.heap) 10 103 (fun x : LZ => [(8, .int (y11.2.1 0)), (7, .int (y7.2.1 0)), (6, .int (y3.2.1 0)), (0, .ref (gO g 15)), (1, .int p1), (2, .int p2), (3, .int p3), (4, .int p4), (5, .int p5)]) (fun x : LZ => [.int (x.2.1 0), .int x21, .ref (gO g 15)]) (fun x : LZ => (x.1 = σ) ∧ ((0 : Int) ≤ (x.2.1 0).toInt ∧ (x.2.1 0).toInt ≤ 16) ∧ True) ?_ ?_
              ·
                intro y25 hI24 H locs ls hP hS hl
                rw [show y25.1 = σ from hI24.1] at hP
                have b26 : (0 : Int) ≤ (y25.2.1 0).toInt ∧ (y25.2.1 0).toInt ≤ 16 := hI24.2.1
                have hl : lv_has ls 10 [(8, .int (y11.2.1 0)), (7, .int (y7.2.1 0)), (6, .int (y3.2.1 0)), (0, .ref (gO g 15)), (1, .int p1), (2, .int p2), (3, .int p3), (4, .int p4), (5, .int p5)] := hl
                refine W.eq (g2 := F0 m 103 ls [.int (y25.2.1 0), .int x21, .ref (gO g 15)]) rfl ?_
                refine lv_iload hx hb dX1_fewestWith_103 (lv_at hl 8 rfl) ?_
                refine lv_iconst (v := 1) hx hb dX1_fewestWith_105 (by decide) ?_
                refine cut8 (D := D) (cy := cy) (g := g) (A := A8 cy g s.heap.size) (H0 := s.heap) 10 116 (fun x : LZ => [(8, .int (y11.2.1 0)), (7, .int (y7.2.1 0)), (6, .int (y3.2.1 0)), (0, .ref (gO g 15)), (1, .int p1), (2, .int p2), (3, .int p3), (4, .int p4), (5, .int p5)]) (fun x : LZ => [.int (x.2.1 0), .int (y25.2.1 0), .int x21, .ref (gO g 15)]) (fun x : LZ => (x.1 = σ) ∧ ((0 : Int) ≤ (x.2.1 0).toInt ∧ (x.2.1 0).toInt ≤ 16) ∧ True) ?_ ?_
                ·
                  intro y29 hI28 H locs ls hP hS hl
                  rw [show y29.1 = σ from hI28.1] at hP
                  have b30 : (0 : Int) ≤ (y29.2.1 0).toInt ∧ (y29.2.1 0).toInt ≤ 16 := hI28.2.1
                  have hl : lv_has ls 10 [(8, .int (y11.2.1 0)), (7, .int (y7.2.1 0)), (6, .int (y3.2.1 0)), (0, .ref (gO g 15)), (1, .int p1), (2, .int p2), (3, .int p3), (4, .int p4), (5, .int p5)] := hl
                  refine W.eq (g2 := F0 m 116 ls [.int (y29.2.1 0), .int (y25.2.1 0), .int x21, .ref (gO g 15)]) rfl ?_
                  refine lv_iload hx hb dX1_fewestWith_116 (lv_at hl 8 rfl) ?_
                  refine lv_iconst (v := 2) hx hb dX1_fewestWith_118 (by decide) ?_
                  refine cut8 (D := D) (cy := cy) (g := g) (A := A8 cy g s.heap.size) (H0 := s.heap) 10 130 (fun x : LZ => [(8, .int (y11.2.1 0)), (7, .int (y7.2.1 0)), (6, .int (y3.2.1 0)), (0, .ref (gO g 15)), (1, .int p1), (2, .int p2), (3, .int p3), (4, .int p4), (5, .int p5)]) (fun x : LZ => [.int (x.2.1 0), .int (y29.2.1 0), .int (y25.2.1 0), .int x21, .ref (gO g 15)]) (fun x : LZ => (x.1 = σ) ∧ ((0 : Int) ≤ (x.2.1 0).toInt ∧ (x.2.1 0).toInt ≤ 16) ∧ True) ?_ ?_
                  ·
                    intro y33 hI32 H locs ls hP hS hl
                    rw [show y33.1 = σ from hI32.1] at hP
                    have b34 : (0 : Int) ≤ (y33.2.1 0).toInt ∧ (y33.2.1 0).toInt ≤ 16 := hI32.2.1
                    have hl : lv_has ls 10 [(8, .int (y11.2.1 0)), (7, .int (y7.2.1 0)), (6, .int (y3.2.1 0)), (0, .ref (gO g 15)), (1, .int p1), (2, .int p2), (3, .int p3), (4, .int p4), (5, .int p5)] := hl
                    refine W.eq (g2 := F0 m 130 ls [.int (y33.2.1 0), .int (y29.2.1 0), .int (y25.2.1 0), .int x21, .ref (gO g 15)]) rfl ?_
                    refine va_calli (va_runV (As := [.int x21, .int (y25.2.1 0), .int (y29.2.1 0), .int (y33.2.1 0)]) (rest := []) ⟨hx, hb, hml, hown, hts⟩ (IHk l D cy g σ  x21 (y25.2.1 0) (y29.2.1 0) (y33.2.1 0) _ hJ (show (0 : Int) ≤ x21.toInt ∧ x21.toInt ≤ 16 from (by have f0 := t22; have f1 := h0; have f2 := h5; have g0 := rg32 x21; have z1 : (1 : Int32).toInt = 1 := (by decide); omega)) (show (0 : Int) ≤ (y25.2.1 0).toInt ∧ (y25.2.1 0).toInt ≤ 16 from (by have f0 := t22; have f1 := b26; have f2 := h0; have f3 := h5; have g0 := rg32 (y25.2.1 0); have g1 := rg32 x21; have z1 : (1 : Int32).toInt = 1 := (by decide); omega)) (show (0 : Int) ≤ (y29.2.1 0).toInt ∧ (y29.2.1 0).toInt ≤ 16 from (by have f0 := t22; have f1 := b26; have f2 := b30; have f3 := h0; have f4 := h5; have g0 := rg32 (y25.2.1 0); have g1 := rg32 (y29.2.1 0); have g2 := rg32 x21; have z1 : (1 : Int32).toInt = 1 := (by decide); omega)) (show (0 : Int) ≤ (y33.2.1 0).toInt ∧ (y33.2.1 0).toInt ≤ 16 from (by have f0 := t22; have f1 := b26; have f2 := b30; have f3 := b34; have f4 := h0; have f5 := h5; have g0 := rg32 (y25.2.1 0); have g1 := rg32 (y29.2.1 0); have g2 := rg32 (y33.2.1 0); have g3 := rg32 x21; have z1 : (1 : Int32).toInt = 1 := (by decide); omega)) (show (16 : Int) ≤ x21.toInt + ((k : Nat) : Int) from (by have f0 := t22; have f1 := b26; have f2 := b30; have f3 := b34; have f4 := h0; have f5 := h5; have g0 := rg32 (y25.2.1 0); have g1 := rg32 (y29.2.1 0); have g2 := rg32 (y33.2.1 0); have g3 := rg32 x21; have z1 : (1 : Int32).toInt = 1 := (by decide); omega))) (cwV 4 hts (gd_V q1181 q1183 q39 q131 q1184) rfl rfl rfl (by decide +kernel) ⟨(by dsimp only [headSpec]; omega), (by dsimp only [headSpec]; omega)⟩) (pv8 hP hK hD hC hS (rv8_1 hK hP)) rfl rfl hl.1 rfl (lv_room (Nat.le_of_ble_eq_true rfl)) dX1_fewestWith_130 ⟨Nat.le_of_ble_eq_true rfl, Nat.le_of_ble_eq_true rfl⟩) hS (fun q _ h => up8 hS q h) (up8 hS) (fun r35 σ36 tS H1 locs ht hvm hw37 hB hz1 hk1 hS => ?_)
                    have hP : va_P D clz (WD8 cy g σ36) H1 := by rw [← ht]; exact hB
                    clear hB hz1 hk1 hvm ht
                    generalize H1 = H at hP hS ⊢
                    have hF38 : Fr (fO [15]) σ σ36 := hw37.1
                    have hJ39 : J8 σ36 := hw37.2.1
                    refine lv_istore (lv' := [(9, .int r35), (8, .int (y11.2.1 0)), (7, .int (y7.2.1 0)), (6, .int (y3.2.1 0)), (0, .ref (gO g 15)), (1, .int p1), (2, .int p2), (3, .int p3), (4, .int p4), (5, .int p5)]) hx hb dX1_fewestWith_133 hl (by decide) rfl (fun ls hl => ?_)
                    refine lv_iload hx hb dX1_fewestWith_135 (lv_at hl 0 rfl) ?_
                    refine lv_bipush (v := 63) hx hb dX1_fewestWith_137 (by decide) ?_
                    refine lv_icmp_lt (tgt := 145) hx hb dX1_fewestWith_139 (by decide) (fun c40 => ?_) (fun c40 => ?_)
                    ·
                      have k41 := plt32 c40
                      refine lv_iload hx hb dX1_fewestWith_145 (lv_at hl 9 rfl) ?_
                      refine lv_iconst (v := (-1)) hx hb dX1_fewestWith_147 (by decide) ?_
                      refine lv_icmp_ne (tgt := 156) hx hb dX1_fewestWith_148 (by decide) (fun c42 => ?_) (fun c42 => ?_)
                      ·
                        have k43 := neq32 c42
                        refine lv_iload hx hb dX1_fewestWith_156 (lv_at hl 0 rfl) ?_
                        refine lv_iconst (v := 1) hx hb dX1_fewestWith_158 (by decide) ?_
                        refine lv_iadd hx hb dX1_fewestWith_159 ?_
                        refine lv_topi (fun x44 ex44 => ?_)
                        have t45 := addO ex44 (by have f0 := k41; have g0 := rg32 r35; have z1 : (1 : Int32).toInt = 1 := (by decide); have z63 : (63 : Int32).toInt = 63 := (by decide); omega)
                        exact W.iret (v := x44) hx hb hr (fun tS ht hW => ⟨⟨x44, σ36, rfl, ⟨Fr.tr (Fr.rf) hF38 (fO_sub (fun _ q => q)), hJ39, (show (-2147483648 : Int) ≤ x44.toInt ∧ x44.toInt ≤ 63 from (by have f0 := t45; have f1 := k41; have g0 := rg32 r35; have g1 := rg32 x44; have z1 : (1 : Int32).toInt = 1 := (by decide); have z63 : (63 : Int32).toInt = 63 := (by decide); omega)), trivial⟩, (show va_P D clz (WD8 cy g σ36) tS.heap by rw [ht]; exact hP)⟩, hS.F ht⟩) hS.2.2 dX1_fewestWith_160
                      ·
                        have k46 := peq32 c42
                        refine lv_iload hx hb dX1_fewestWith_151 (lv_at hl 0 rfl) ?_
                        refine lv_goto (tgt := 160) hx hb dX1_fewestWith_153 (by decide) ?_
                        exact W.iret (v := r35) hx hb hr (fun tS ht hW => ⟨⟨r35, σ36, rfl, ⟨Fr.tr (Fr.rf) hF38 (fO_sub (fun _ q => q)), hJ39, (show (-2147483648 : Int) ≤ r35.toInt ∧ r35.toInt ≤ 63 from (by have f0 := k41; have g0 := rg32 r35; have z63 : (63 : Int32).toInt = 63 := (by decide); omega)), trivial⟩, (show va_P D clz (WD8 cy g σ36) tS.heap by rw [ht]; exact hP)⟩, hS.F ht⟩) hS.2.2 dX1_fewestWith_160
                    ·
                      have k47 := nlt32 c40
                      refine lv_bipush (v := 63) hx hb dX1_fewestWith_142 (by decide) ?_
                      exact W.iret (v := 63) hx hb hr (fun tS ht hW => ⟨⟨63, σ36, rfl, ⟨Fr.tr (Fr.rf) hF38 (fO_sub (fun _ q => q)), hJ39, (show (-2147483648 : Int) ≤ (63 : Int32).toInt ∧ (63 : Int32).toInt ≤ 63 from (by have z63 : (63 : Int32).toInt = 63 := (by decide); omega)), trivial⟩, (show va_P D clz (WD8 cy g σ36) tS.heap by rw [ht]; exact hP)⟩, hS.F ht⟩) hS.2.2 dX1_fewestWith_144
                  ·
                    intro nj31
                    refine lv_icmp_ne (tgt := 128) hx hb dX1_fewestWith_119 (by decide) (fun c48 => ?_) (fun c48 => ?_)
                    ·
                      have k49 := neq32 c48
                      refine lv_iload hx hb dX1_fewestWith_128 (lv_at hl 7 rfl) ?_
                      exact nj31 (σ, lf [p4], lg []) ⟨rfl, (show (0 : Int) ≤ (p4 : Int32).toInt ∧ (p4 : Int32).toInt ≤ 16 from (by have f0 := h3; have g0 := rg32 p4; omega)), trivial⟩ _ _ _ hP hS (lv_sub hl [0, 1, 2, 3, 4, 5, 6, 7, 8] rfl)
                    ·
                      have k50 := peq32 c48
                      refine lv_iload_n hx hb dX1_fewestWith_122 rfl (lv_at hl 4 rfl) ?_
                      refine lv_iconst (v := 1) hx hb dX1_fewestWith_123 (by decide) ?_
                      refine lv_iadd hx hb dX1_fewestWith_124 ?_
                      refine lv_topi (fun x51 ex51 => ?_)
                      have t52 := addO ex51 (by have f0 := h0; have f1 := h5; have f2 := t22; have g0 := rg32 p1; have z1 : (1 : Int32).toInt = 1 := (by decide); omega)
                      refine lv_goto (tgt := 130) hx hb dX1_fewestWith_125 (by decide) ?_
                      exact nj31 (σ, lf [x51], lg []) ⟨rfl, (show (0 : Int) ≤ (x51 : Int32).toInt ∧ (x51 : Int32).toInt ≤ 16 from (by have f0 := t52; have f1 := h0; have f2 := h5; have f3 := t22; have g0 := rg32 x51; have z1 : (1 : Int32).toInt = 1 := (by decide); omega)), trivial⟩ _ _ _ hP hS (lv_sub hl [0, 1, 2, 3, 4, 5, 6, 7, 8] rfl)
                ·
                  intro nj27
                  refine lv_icmp_ne (tgt := 115) hx hb dX1_fewestWith_106 (by decide) (fun c53 => ?_) (fun c53 => ?_)
                  ·
                    have k54 := neq32 c53
                    refine lv_iload_n hx hb dX1_fewestWith_115 rfl (lv_at hl 6 rfl) ?_
                    exact nj27 (σ, lf [p3], lg []) ⟨rfl, (show (0 : Int) ≤ (p3 : Int32).toInt ∧ (p3 : Int32).toInt ≤ 16 from (by have f0 := h2; have g0 := rg32 p3; omega)), trivial⟩ _ _ _ hP hS (lv_sub hl [0, 1, 2, 3, 4, 5, 6, 7, 8] rfl)
                  ·
                    have k55 := peq32 c53
                    refine lv_iload_n hx hb dX1_fewestWith_109 rfl (lv_at hl 4 rfl) ?_
                    refine lv_iconst (v := 1) hx hb dX1_fewestWith_110 (by decide) ?_
                    refine lv_iadd hx hb dX1_fewestWith_111 ?_
                    refine lv_topi (fun x56 ex56 => ?_)
                    have t57 := addO ex56 (by have f0 := h0; have f1 := h5; have f2 := t22; have g0 := rg32 p1; have z1 : (1 : Int32).toInt = 1 := (by decide); omega)
                    refine lv_goto (tgt := 116) hx hb dX1_fewestWith_112 (by decide) ?_
                    exact nj27 (σ, lf [x56], lg []) ⟨rfl, (show (0 : Int) ≤ (x56 : Int32).toInt ∧ (x56 : Int32).toInt ≤ 16 from (by have f0 := t57; have f1 := h0; have f2 := h5; have f3 := t22; have g0 := rg32 x56; have z1 : (1 : Int32).toInt = 1 := (by decide); omega)), trivial⟩ _ _ _ hP hS (lv_sub hl [0, 1, 2, 3, 4, 5, 6, 7, 8] rfl)
              ·
                intro nj23
                refine lv_if_ne (tgt := 102) hx hb dX1_fewestWith_93 (by decide) (fun c58 => ?_) (fun c58 => ?_)
                ·
                  have k59 := neq32 c58
                  refine lv_iload_n hx hb dX1_fewestWith_102 rfl (lv_at hl 5 rfl) ?_
                  exact nj23 (σ, lf [p2], lg []) ⟨rfl, (show (0 : Int) ≤ (p2 : Int32).toInt ∧ (p2 : Int32).toInt ≤ 16 from (by have f0 := h1; have g0 := rg32 p2; omega)), trivial⟩ _ _ _ hP hS (lv_sub hl [0, 1, 2, 3, 4, 5, 6, 7, 8] rfl)
                ·
                  have k60 := peq32 c58
                  refine lv_iload_n hx hb dX1_fewestWith_96 rfl (lv_at hl 4 rfl) ?_
                  refine lv_iconst (v := 1) hx hb dX1_fewestWith_97 (by decide) ?_
                  refine lv_iadd hx hb dX1_fewestWith_98 ?_
                  refine lv_topi (fun x61 ex61 => ?_)
                  have t62 := addO ex61 (by have f0 := h0; have f1 := h5; have f2 := t22; have g0 := rg32 p1; have z1 : (1 : Int32).toInt = 1 := (by decide); omega)
                  refine lv_goto (tgt := 103) hx hb dX1_fewestWith_99 (by decide) ?_
                  exact nj23 (σ, lf [x61], lg []) ⟨rfl, (show (0 : Int) ≤ (x61 : Int32).toInt ∧ (x61 : Int32).toInt ≤ 16 from (by have f0 := t62; have f1 := h0; have f2 := h5; have f3 := t22; have g0 := rg32 x61; have z1 : (1 : Int32).toInt = 1 := (by decide); omega)), trivial⟩ _ _ _ hP hS (lv_sub hl [0, 1, 2, 3, 4, 5, 6, 7, 8] rfl)
            ·
              have k63 := peq32 c19
              refine lv_bipush (v := 63) hx hb dX1_fewestWith_84 (by decide) ?_
              exact W.iret (v := 63) hx hb hr (fun tS ht hW => ⟨⟨63, σ, rfl, ⟨Fr.rf, hJ, (show (-2147483648 : Int) ≤ (63 : Int32).toInt ∧ (63 : Int32).toInt ≤ 63 from (by have z63 : (63 : Int32).toInt = 63 := (by decide); omega)), trivial⟩, (show va_P D clz (WD8 cy g σ) tS.heap by rw [ht]; exact hP)⟩, hS.F ht⟩) hS.2.2 dX1_fewestWith_86
      ·
        intro nj9
        refine cut8 (D := D) (cy := cy) (g := g) (A := A8 cy g s.heap.size) (H0 := s.heap) 10 62 (fun x : LZ => [(7, .int (y7.2.1 0)), (6, .int (y3.2.1 0)), (0, .ref (gO g 15)), (1, .int p1), (2, .int p2), (3, .int p3), (4, .int p4), (5, .int p5)]) (fun x : LZ => []) (fun x : LZ => (x.1 = σ) ∧ True) ?_ ?_
        ·
          intro y66 hI65 H locs ls hP hS hl
          rw [show y66.1 = σ from hI65.1] at hP
          have hl : lv_has ls 10 [(7, .int (y7.2.1 0)), (6, .int (y3.2.1 0)), (0, .ref (gO g 15)), (1, .int p1), (2, .int p2), (3, .int p3), (4, .int p4), (5, .int p5)] := hl
          refine lv_iconst (v := 1) hx hb dX1_fewestWith_62 (by decide) ?_
          refine lv_goto (tgt := 67) hx hb dX1_fewestWith_63 (by decide) ?_
          exact nj9 (σ, lf [1], lg []) ⟨rfl, (show (0 : Int) ≤ (1 : Int32).toInt ∧ (1 : Int32).toInt ≤ 1 from (by have z1 : (1 : Int32).toInt = 1 := (by decide); omega)), trivial⟩ _ _ _ hP hS (lv_sub hl [0, 1, 2, 3, 4, 5, 6, 7] rfl)
        ·
          intro nj64
          refine lv_icmp_eq (tgt := 62) hx hb dX1_fewestWith_48 (by decide) (fun c67 => ?_) (fun c67 => ?_)
          ·
            have k68 := peq32 c67
            exact nj64 (σ, lf [], lg []) ⟨rfl, trivial⟩ _ _ _ hP hS (lv_sub hl [0, 1, 2, 3, 4, 5, 6, 7] rfl)
          ·
            have k69 := neq32 c67
            refine lv_aload_n hx hb dX1_fewestWith_51 rfl (lv_at hl 2 rfl) ?_
            refine lv_iconst (v := 2) hx hb dX1_fewestWith_52 (by decide) ?_
            refine lv_iload hx hb dX1_fewestWith_53 (lv_at hl 6 rfl) ?_
            refine lv_iload_n hx hb dX1_fewestWith_55 rfl (lv_at hl 3 rfl) ?_
            refine va_calli (va_runV (As := [.int 2, .int p4, .int p1]) (rest := []) ⟨hx, hb, hml, hown, hts⟩ (m_X1_airDoes l D cy g σ  (2) p4 p1 _ hJ (show (0 : Int) ≤ (2 : Int32).toInt ∧ (2 : Int32).toInt ≤ 2 from (by have z2 : (2 : Int32).toInt = 2 := (by decide); omega)) (show (0 : Int) ≤ p4.toInt ∧ p4.toInt ≤ 16 from (by have f0 := h3; have g0 := rg32 p4; have z2 : (2 : Int32).toInt = 2 := (by decide); omega)) (show (0 : Int) ≤ p1.toInt ∧ p1.toInt ≤ 15 from (by have f0 := h0; have f1 := h3; have f2 := h5; have g0 := rg32 p1; have g1 := rg32 p4; have z2 : (2 : Int32).toInt = 2 := (by decide); omega))) (cwV 3 hts (gd_V q1196 q1198 q42 q131 q1199) rfl rfl rfl (by decide +kernel) ⟨(by dsimp only [headSpec]; omega), (by dsimp only [headSpec]; omega)⟩) (pv8 hP hK hD hC hS (rv8_1 hK hP)) rfl rfl hl.1 rfl (lv_room (Nat.le_of_ble_eq_true rfl)) dX1_fewestWith_56 ⟨Nat.le_of_ble_eq_true rfl, Nat.le_of_ble_eq_true rfl⟩) hS (fun q _ h => up8 hS q h) (up8 hS) (fun r70 σ71 tS H1 locs ht hvm hw72 hB hz1 hk1 hS => ?_)
            have hP : va_P D clz (WD8 cy g σ71) H1 := by rw [← ht]; exact hB
            clear hB hz1 hk1 hvm ht
            generalize H1 = H at hP hS ⊢
            have hw72E : σ = σ71 := (hw72.1).symm
            subst hw72E
            have b73 : (0 : Int) ≤ r70.toInt ∧ r70.toInt ≤ 1 := hw72.2.1
            refine lv_if_eq (tgt := 66) hx hb dX1_fewestWith_59 (by decide) (fun c74 => ?_) (fun c74 => ?_)
            ·
              have k75 := peq32 c74
              refine lv_iconst (v := 0) hx hb dX1_fewestWith_66 (by decide) ?_
              exact nj9 (σ, lf [0], lg []) ⟨rfl, (show (0 : Int) ≤ (0 : Int32).toInt ∧ (0 : Int32).toInt ≤ 1 from (by have z0 : (0 : Int32).toInt = 0 := (by decide); omega)), trivial⟩ _ _ _ hP hS (lv_sub hl [0, 1, 2, 3, 4, 5, 6, 7] rfl)
            ·
              have k76 := neq32 c74
              exact nj64 (σ, lf [], lg []) ⟨rfl, trivial⟩ _ _ _ hP hS (lv_sub hl [0, 1, 2, 3, 4, 5, 6, 7] rfl)
    ·
      intro nj5
      refine cut8 (D := D) (cy := cy) (g := g) (A := A8 cy g s.heap.size) (H0 := s.heap) 10 38 (fun x : LZ => [(6, .int (y3.2.1 0)), (0, .ref (gO g 15)), (1, .int p1), (2, .int p2), (3, .int p3), (4, .int p4), (5, .int p5)]) (fun x : LZ => []) (fun x : LZ => (x.1 = σ) ∧ True) ?_ ?_
      ·
        intro y79 hI78 H locs ls hP hS hl
        rw [show y79.1 = σ from hI78.1] at hP
        have hl : lv_has ls 10 [(6, .int (y3.2.1 0)), (0, .ref (gO g 15)), (1, .int p1), (2, .int p2), (3, .int p3), (4, .int p4), (5, .int p5)] := hl
        refine lv_iconst (v := 1) hx hb dX1_fewestWith_38 (by decide) ?_
        refine lv_goto (tgt := 43) hx hb dX1_fewestWith_39 (by decide) ?_
        exact nj5 (σ, lf [1], lg []) ⟨rfl, (show (0 : Int) ≤ (1 : Int32).toInt ∧ (1 : Int32).toInt ≤ 1 from (by have z1 : (1 : Int32).toInt = 1 := (by decide); omega)), trivial⟩ _ _ _ hP hS (lv_sub hl [0, 1, 2, 3, 4, 5, 6] rfl)
      ·
        intro nj77
        refine lv_icmp_eq (tgt := 38) hx hb dX1_fewestWith_25 (by decide) (fun c80 => ?_) (fun c80 => ?_)
        ·
          have k81 := peq32 c80
          exact nj77 (σ, lf [], lg []) ⟨rfl, trivial⟩ _ _ _ hP hS (lv_sub hl [0, 1, 2, 3, 4, 5, 6] rfl)
        ·
          have k82 := neq32 c80
          refine lv_aload_n hx hb dX1_fewestWith_28 rfl (lv_at hl 1 rfl) ?_
          refine lv_iconst (v := 1) hx hb dX1_fewestWith_29 (by decide) ?_
          refine lv_iload_n hx hb dX1_fewestWith_30 rfl (lv_at hl 4 rfl) ?_
          refine lv_iload_n hx hb dX1_fewestWith_31 rfl (lv_at hl 2 rfl) ?_
          refine va_calli (va_runV (As := [.int 1, .int p3, .int p1]) (rest := []) ⟨hx, hb, hml, hown, hts⟩ (m_X1_airDoes l D cy g σ  (1) p3 p1 _ hJ (show (0 : Int) ≤ (1 : Int32).toInt ∧ (1 : Int32).toInt ≤ 2 from (by have z1 : (1 : Int32).toInt = 1 := (by decide); omega)) (show (0 : Int) ≤ p3.toInt ∧ p3.toInt ≤ 16 from (by have f0 := h2; have g0 := rg32 p3; have z1 : (1 : Int32).toInt = 1 := (by decide); omega)) (show (0 : Int) ≤ p1.toInt ∧ p1.toInt ≤ 15 from (by have f0 := h0; have f1 := h2; have f2 := h5; have g0 := rg32 p1; have g1 := rg32 p3; have z1 : (1 : Int32).toInt = 1 := (by decide); omega))) (cwV 3 hts (gd_V q1196 q1198 q42 q131 q1199) rfl rfl rfl (by decide +kernel) ⟨(by dsimp only [headSpec]; omega), (by dsimp only [headSpec]; omega)⟩) (pv8 hP hK hD hC hS (rv8_1 hK hP)) rfl rfl hl.1 rfl (lv_room (Nat.le_of_ble_eq_true rfl)) dX1_fewestWith_32 ⟨Nat.le_of_ble_eq_true rfl, Nat.le_of_ble_eq_true rfl⟩) hS (fun q _ h => up8 hS q h) (up8 hS) (fun r83 σ84 tS H1 locs ht hvm hw85 hB hz1 hk1 hS => ?_)
          have hP : va_P D clz (WD8 cy g σ84) H1 := by rw [← ht]; exact hB
          clear hB hz1 hk1 hvm ht
          generalize H1 = H at hP hS ⊢
          have hw85E : σ = σ84 := (hw85.1).symm
          subst hw85E
          have b86 : (0 : Int) ≤ r83.toInt ∧ r83.toInt ≤ 1 := hw85.2.1
          refine lv_if_eq (tgt := 42) hx hb dX1_fewestWith_35 (by decide) (fun c87 => ?_) (fun c87 => ?_)
          ·
            have k88 := peq32 c87
            refine lv_iconst (v := 0) hx hb dX1_fewestWith_42 (by decide) ?_
            exact nj5 (σ, lf [0], lg []) ⟨rfl, (show (0 : Int) ≤ (0 : Int32).toInt ∧ (0 : Int32).toInt ≤ 1 from (by have z0 : (0 : Int32).toInt = 0 := (by decide); omega)), trivial⟩ _ _ _ hP hS (lv_sub hl [0, 1, 2, 3, 4, 5, 6] rfl)
          ·
            have k89 := neq32 c87
            exact nj77 (σ, lf [], lg []) ⟨rfl, trivial⟩ _ _ _ hP hS (lv_sub hl [0, 1, 2, 3, 4, 5, 6] rfl)
  ·
    intro nj1
    refine cut8 (D := D) (cy := cy) (g := g) (A := A8 cy g s.heap.size) (H0 := s.heap) 10 15 (fun x : LZ => [(0, .ref (gO g 15)), (1, .int p1), (2, .int p2), (3, .int p3), (4, .int p4), (5, .int p5)]) (fun x : LZ => []) (fun x : LZ => (x.1 = σ) ∧ True) ?_ ?_
    ·
      intro y92 hI91 H locs ls hP hS hl
      rw [show y92.1 = σ from hI91.1] at hP
      have hl : lv_has ls 10 [(0, .ref (gO g 15)), (1, .int p1), (2, .int p2), (3, .int p3), (4, .int p4), (5, .int p5)] := hl
      refine lv_iconst (v := 1) hx hb dX1_fewestWith_15 (by decide) ?_
      refine lv_goto (tgt := 20) hx hb dX1_fewestWith_16 (by decide) ?_
      exact nj1 (σ, lf [1], lg []) ⟨rfl, (show (0 : Int) ≤ (1 : Int32).toInt ∧ (1 : Int32).toInt ≤ 1 from (by have z1 : (1 : Int32).toInt = 1 := (by decide); omega)), trivial⟩ _ _ _ hP hS (lv_sub hl [0, 1, 2, 3, 4, 5] rfl)
    ·
      intro nj90
      refine lv_if_eq (tgt := 15) hx hb dX1_fewestWith_2 (by decide) (fun c93 => ?_) (fun c93 => ?_)
      ·
        have k94 := peq32 c93
        exact nj90 (σ, lf [], lg []) ⟨rfl, trivial⟩ _ _ _ hP hS (lv_sub hl [0, 1, 2, 3, 4, 5] rfl)
      ·
        have k95 := neq32 c93
        refine lv_aload_n hx hb dX1_fewestWith_5 rfl (lv_at hl 0 rfl) ?_
        refine lv_iconst (v := 0) hx hb dX1_fewestWith_6 (by decide) ?_
        refine lv_iload_n hx hb dX1_fewestWith_7 rfl (lv_at hl 2 rfl) ?_
        refine lv_iload_n hx hb dX1_fewestWith_8 rfl (lv_at hl 1 rfl) ?_
        refine va_calli (va_runV (As := [.int 0, .int p2, .int p1]) (rest := []) ⟨hx, hb, hml, hown, hts⟩ (m_X1_airDoes l D cy g σ  (0) p2 p1 _ hJ (show (0 : Int) ≤ (0 : Int32).toInt ∧ (0 : Int32).toInt ≤ 2 from (by have z0 : (0 : Int32).toInt = 0 := (by decide); omega)) (show (0 : Int) ≤ p2.toInt ∧ p2.toInt ≤ 16 from (by have f0 := h1; have g0 := rg32 p2; have z0 : (0 : Int32).toInt = 0 := (by decide); omega)) (show (0 : Int) ≤ p1.toInt ∧ p1.toInt ≤ 15 from (by have f0 := h0; have f1 := h1; have f2 := h5; have g0 := rg32 p1; have g1 := rg32 p2; have z0 : (0 : Int32).toInt = 0 := (by decide); omega))) (cwV 3 hts (gd_V q1196 q1198 q42 q131 q1199) rfl rfl rfl (by decide +kernel) ⟨(by dsimp only [headSpec]; omega), (by dsimp only [headSpec]; omega)⟩) (pv8 hP hK hD hC hS (rv8_1 hK hP)) rfl rfl hl.1 rfl (lv_room (Nat.le_of_ble_eq_true rfl)) dX1_fewestWith_9 ⟨Nat.le_of_ble_eq_true rfl, Nat.le_of_ble_eq_true rfl⟩) hS (fun q _ h => up8 hS q h) (up8 hS) (fun r96 σ97 tS H1 locs ht hvm hw98 hB hz1 hk1 hS => ?_)
        have hP : va_P D clz (WD8 cy g σ97) H1 := by rw [← ht]; exact hB
        clear hB hz1 hk1 hvm ht
        generalize H1 = H at hP hS ⊢
        have hw98E : σ = σ97 := (hw98.1).symm
        subst hw98E
        have b99 : (0 : Int) ≤ r96.toInt ∧ r96.toInt ≤ 1 := hw98.2.1
        refine lv_if_eq (tgt := 19) hx hb dX1_fewestWith_12 (by decide) (fun c100 => ?_) (fun c100 => ?_)
        ·
          have k101 := peq32 c100
          refine lv_iconst (v := 0) hx hb dX1_fewestWith_19 (by decide) ?_
          exact nj1 (σ, lf [0], lg []) ⟨rfl, (show (0 : Int) ≤ (0 : Int32).toInt ∧ (0 : Int32).toInt ≤ 1 from (by have z0 : (0 : Int32).toInt = 0 := (by decide); omega)), trivial⟩ _ _ _ hP hS (lv_sub hl [0, 1, 2, 3, 4, 5] rfl)
        ·
          have k102 := neq32 c100
          exact nj90 (σ, lf [], lg []) ⟨rfl, trivial⟩ _ _ _ hP hS (lv_sub hl [0, 1, 2, 3, 4, 5] rfl)

theorem q1185 : Cond.methodLink RX1 76 yX1_cellOf ∈ lw_g := lw_gm (List.mem_of_getElem? (i := 1185) (by decide +kernel)) rfl
theorem q1186 : Cond.static yX1_cellOf ∈ lw_g := lw_gm (List.mem_of_getElem? (i := 1186) (by decide +kernel)) rfl
theorem q375 : Cond.fieldLink RX1 27 "LipsAndSlides$Doubles" "known" "[I" ∈ lw_g := lw_gm (List.mem_of_getElem? (i := 375) (by decide +kernel)) rfl
theorem q1188 : Cond.methodLink RX1 69 yX1_mostLeaving ∈ lw_g := lw_gm (List.mem_of_getElem? (i := 1188) (by decide +kernel)) rfl
theorem q1190 : Cond.instanceMethod yX1_mostLeaving ∈ lw_g := lw_gm (List.mem_of_getElem? (i := 1190) (by decide +kernel)) rfl
theorem q40 : Cond.selects RX1 yX1_mostLeaving yX1_mostLeaving ∈ lw_g := lw_gm (List.mem_of_getElem? (i := 40) (by decide +kernel)) rfl
theorem q1192 : Cond.methodLink RX1 73 yX1_fewestWith ∈ lw_g := lw_gm (List.mem_of_getElem? (i := 1192) (by decide +kernel)) rfl
theorem q1194 : Cond.instanceMethod yX1_fewestWith ∈ lw_g := lw_gm (List.mem_of_getElem? (i := 1194) (by decide +kernel)) rfl
theorem q41 : Cond.selects RX1 yX1_fewestWith yX1_fewestWith ∈ lw_g := lw_gm (List.mem_of_getElem? (i := 41) (by decide +kernel)) rfl
theorem q1200 : Cond.methodLink RX1 79 Lib.Math.min.name ∈ lw_g := lw_gm (List.mem_of_getElem? (i := 1200) (by decide +kernel)) rfl
theorem dX1_fewestFrom_0 : decode cX1_fewestFrom 0 = .ok (.iload_n 1, 1) := by decide +kernel
theorem dX1_fewestFrom_1 : decode cX1_fewestFrom 1 = .ok (.aload_n 0, 1) := by decide +kernel
theorem dX1_fewestFrom_2 : decode cX1_fewestFrom 2 = .ok (.getfield 47, 3) := by decide +kernel
theorem dX1_fewestFrom_5 : decode cX1_fewestFrom 5 = .ok (.if_icmp .ge 9, 3) := by decide +kernel
theorem dX1_fewestFrom_8 : decode cX1_fewestFrom 8 = .ok (.iload_n 1, 1) := by decide +kernel
theorem dX1_fewestFrom_9 : decode cX1_fewestFrom 9 = .ok (.bipush 16, 2) := by decide +kernel
theorem dX1_fewestFrom_11 : decode cX1_fewestFrom 11 = .ok (.if_icmp .lt 5, 3) := by decide +kernel
theorem dX1_fewestFrom_14 : decode cX1_fewestFrom 14 = .ok (.iconst 0, 1) := by decide +kernel
theorem dX1_fewestFrom_15 : decode cX1_fewestFrom 15 = .ok (.ireturn, 1) := by decide +kernel
theorem dX1_fewestFrom_16 : decode cX1_fewestFrom 16 = .ok (.iload_n 1, 1) := by decide +kernel
theorem dX1_fewestFrom_17 : decode cX1_fewestFrom 17 = .ok (.iload_n 2, 1) := by decide +kernel
theorem dX1_fewestFrom_18 : decode cX1_fewestFrom 18 = .ok (.iload_n 3, 1) := by decide +kernel
theorem dX1_fewestFrom_19 : decode cX1_fewestFrom 19 = .ok (.iload 4, 2) := by decide +kernel
theorem dX1_fewestFrom_21 : decode cX1_fewestFrom 21 = .ok (.invokestatic 76, 3) := by decide +kernel
theorem dX1_fewestFrom_24 : decode cX1_fewestFrom 24 = .ok (.istore 5, 2) := by decide +kernel
theorem dX1_fewestFrom_26 : decode cX1_fewestFrom 26 = .ok (.iload 5, 2) := by decide +kernel
theorem dX1_fewestFrom_28 : decode cX1_fewestFrom 28 = .ok (.ifCond .lt 11, 3) := by decide +kernel
theorem dX1_fewestFrom_31 : decode cX1_fewestFrom 31 = .ok (.iload 5, 2) := by decide +kernel
theorem dX1_fewestFrom_33 : decode cX1_fewestFrom 33 = .ok (.sipush 18496, 3) := by decide +kernel
theorem dX1_fewestFrom_36 : decode cX1_fewestFrom 36 = .ok (.if_icmp .lt 6, 3) := by decide +kernel
theorem dX1_fewestFrom_39 : decode cX1_fewestFrom 39 = .ok (.bipush 63, 2) := by decide +kernel
theorem dX1_fewestFrom_41 : decode cX1_fewestFrom 41 = .ok (.ireturn, 1) := by decide +kernel
theorem dX1_fewestFrom_42 : decode cX1_fewestFrom 42 = .ok (.aload_n 0, 1) := by decide +kernel
theorem dX1_fewestFrom_43 : decode cX1_fewestFrom 43 = .ok (.getfield 27, 3) := by decide +kernel
theorem dX1_fewestFrom_46 : decode cX1_fewestFrom 46 = .ok (.iload 5, 2) := by decide +kernel
theorem dX1_fewestFrom_48 : decode cX1_fewestFrom 48 = .ok (.iaload, 1) := by decide +kernel
theorem dX1_fewestFrom_49 : decode cX1_fewestFrom 49 = .ok (.bipush 64, 2) := by decide +kernel
theorem dX1_fewestFrom_51 : decode cX1_fewestFrom 51 = .ok (.idiv, 1) := by decide +kernel
theorem dX1_fewestFrom_52 : decode cX1_fewestFrom 52 = .ok (.aload_n 0, 1) := by decide +kernel
theorem dX1_fewestFrom_53 : decode cX1_fewestFrom 53 = .ok (.getfield 58, 3) := by decide +kernel
theorem dX1_fewestFrom_56 : decode cX1_fewestFrom 56 = .ok (.if_icmp .ne 14, 3) := by decide +kernel
theorem dX1_fewestFrom_59 : decode cX1_fewestFrom 59 = .ok (.aload_n 0, 1) := by decide +kernel
theorem dX1_fewestFrom_60 : decode cX1_fewestFrom 60 = .ok (.getfield 27, 3) := by decide +kernel
theorem dX1_fewestFrom_63 : decode cX1_fewestFrom 63 = .ok (.iload 5, 2) := by decide +kernel
theorem dX1_fewestFrom_65 : decode cX1_fewestFrom 65 = .ok (.iaload, 1) := by decide +kernel
theorem dX1_fewestFrom_66 : decode cX1_fewestFrom 66 = .ok (.bipush 64, 2) := by decide +kernel
theorem dX1_fewestFrom_68 : decode cX1_fewestFrom 68 = .ok (.irem, 1) := by decide +kernel
theorem dX1_fewestFrom_69 : decode cX1_fewestFrom 69 = .ok (.ireturn, 1) := by decide +kernel
theorem dX1_fewestFrom_70 : decode cX1_fewestFrom 70 = .ok (.bipush 63, 2) := by decide +kernel
theorem dX1_fewestFrom_72 : decode cX1_fewestFrom 72 = .ok (.istore 6, 2) := by decide +kernel
theorem dX1_fewestFrom_74 : decode cX1_fewestFrom 74 = .ok (.aload_n 0, 1) := by decide +kernel
theorem dX1_fewestFrom_75 : decode cX1_fewestFrom 75 = .ok (.getfield 21, 3) := by decide +kernel
theorem dX1_fewestFrom_78 : decode cX1_fewestFrom 78 = .ok (.iload_n 1, 1) := by decide +kernel
theorem dX1_fewestFrom_79 : decode cX1_fewestFrom 79 = .ok (.iaload, 1) := by decide +kernel
theorem dX1_fewestFrom_80 : decode cX1_fewestFrom 80 = .ok (.iconst 1, 1) := by decide +kernel
theorem dX1_fewestFrom_81 : decode cX1_fewestFrom 81 = .ok (.if_icmp .ne 24, 3) := by decide +kernel
theorem dX1_fewestFrom_84 : decode cX1_fewestFrom 84 = .ok (.aload_n 0, 1) := by decide +kernel
theorem dX1_fewestFrom_85 : decode cX1_fewestFrom 85 = .ok (.iload_n 1, 1) := by decide +kernel
theorem dX1_fewestFrom_86 : decode cX1_fewestFrom 86 = .ok (.iconst 1, 1) := by decide +kernel
theorem dX1_fewestFrom_87 : decode cX1_fewestFrom 87 = .ok (.iadd, 1) := by decide +kernel
theorem dX1_fewestFrom_88 : decode cX1_fewestFrom 88 = .ok (.iload_n 1, 1) := by decide +kernel
theorem dX1_fewestFrom_89 : decode cX1_fewestFrom 89 = .ok (.iconst 1, 1) := by decide +kernel
theorem dX1_fewestFrom_90 : decode cX1_fewestFrom 90 = .ok (.iadd, 1) := by decide +kernel
theorem dX1_fewestFrom_91 : decode cX1_fewestFrom 91 = .ok (.iload_n 1, 1) := by decide +kernel
theorem dX1_fewestFrom_92 : decode cX1_fewestFrom 92 = .ok (.iconst 1, 1) := by decide +kernel
theorem dX1_fewestFrom_93 : decode cX1_fewestFrom 93 = .ok (.iadd, 1) := by decide +kernel
theorem dX1_fewestFrom_94 : decode cX1_fewestFrom 94 = .ok (.iload_n 1, 1) := by decide +kernel
theorem dX1_fewestFrom_95 : decode cX1_fewestFrom 95 = .ok (.iconst 1, 1) := by decide +kernel
theorem dX1_fewestFrom_96 : decode cX1_fewestFrom 96 = .ok (.iadd, 1) := by decide +kernel
theorem dX1_fewestFrom_97 : decode cX1_fewestFrom 97 = .ok (.invokevirtual 61, 3) := by decide +kernel
theorem dX1_fewestFrom_100 : decode cX1_fewestFrom 100 = .ok (.istore 6, 2) := by decide +kernel
theorem dX1_fewestFrom_102 : decode cX1_fewestFrom 102 = .ok (.goto 44, 3) := by decide +kernel
theorem dX1_fewestFrom_105 : decode cX1_fewestFrom 105 = .ok (.iconst (-1), 1) := by decide +kernel
theorem dX1_fewestFrom_106 : decode cX1_fewestFrom 106 = .ok (.istore 7, 2) := by decide +kernel
theorem dX1_fewestFrom_108 : decode cX1_fewestFrom 108 = .ok (.iload 7, 2) := by decide +kernel
theorem dX1_fewestFrom_110 : decode cX1_fewestFrom 110 = .ok (.aload_n 0, 1) := by decide +kernel
theorem dX1_fewestFrom_111 : decode cX1_fewestFrom 111 = .ok (.invokevirtual 69, 3) := by decide +kernel
theorem dX1_fewestFrom_114 : decode cX1_fewestFrom 114 = .ok (.if_icmp .ge 32, 3) := by decide +kernel
theorem dX1_fewestFrom_117 : decode cX1_fewestFrom 117 = .ok (.iload 6, 2) := by decide +kernel
theorem dX1_fewestFrom_119 : decode cX1_fewestFrom 119 = .ok (.ifCond .le 27, 3) := by decide +kernel
theorem dX1_fewestFrom_122 : decode cX1_fewestFrom 122 = .ok (.iload 6, 2) := by decide +kernel
theorem dX1_fewestFrom_124 : decode cX1_fewestFrom 124 = .ok (.aload_n 0, 1) := by decide +kernel
theorem dX1_fewestFrom_125 : decode cX1_fewestFrom 125 = .ok (.iload_n 1, 1) := by decide +kernel
theorem dX1_fewestFrom_126 : decode cX1_fewestFrom 126 = .ok (.iload_n 2, 1) := by decide +kernel
theorem dX1_fewestFrom_127 : decode cX1_fewestFrom 127 = .ok (.iload_n 3, 1) := by decide +kernel
theorem dX1_fewestFrom_128 : decode cX1_fewestFrom 128 = .ok (.iload 4, 2) := by decide +kernel
theorem dX1_fewestFrom_130 : decode cX1_fewestFrom 130 = .ok (.iload 7, 2) := by decide +kernel
theorem dX1_fewestFrom_132 : decode cX1_fewestFrom 132 = .ok (.invokevirtual 73, 3) := by decide +kernel
theorem dX1_fewestFrom_135 : decode cX1_fewestFrom 135 = .ok (.invokestatic 79, 3) := by decide +kernel
theorem dX1_fewestFrom_138 : decode cX1_fewestFrom 138 = .ok (.istore 6, 2) := by decide +kernel
theorem dX1_fewestFrom_140 : decode cX1_fewestFrom 140 = .ok (.iinc 7 1, 3) := by decide +kernel
theorem dX1_fewestFrom_143 : decode cX1_fewestFrom 143 = .ok (.goto (-35), 3) := by decide +kernel
theorem dX1_fewestFrom_146 : decode cX1_fewestFrom 146 = .ok (.aload_n 0, 1) := by decide +kernel
theorem dX1_fewestFrom_147 : decode cX1_fewestFrom 147 = .ok (.getfield 27, 3) := by decide +kernel
theorem dX1_fewestFrom_150 : decode cX1_fewestFrom 150 = .ok (.iload 5, 2) := by decide +kernel
theorem dX1_fewestFrom_152 : decode cX1_fewestFrom 152 = .ok (.aload_n 0, 1) := by decide +kernel
theorem dX1_fewestFrom_153 : decode cX1_fewestFrom 153 = .ok (.getfield 58, 3) := by decide +kernel
theorem dX1_fewestFrom_156 : decode cX1_fewestFrom 156 = .ok (.bipush 64, 2) := by decide +kernel
theorem dX1_fewestFrom_158 : decode cX1_fewestFrom 158 = .ok (.imul, 1) := by decide +kernel
theorem dX1_fewestFrom_159 : decode cX1_fewestFrom 159 = .ok (.iload 6, 2) := by decide +kernel
theorem dX1_fewestFrom_161 : decode cX1_fewestFrom 161 = .ok (.iadd, 1) := by decide +kernel
theorem dX1_fewestFrom_162 : decode cX1_fewestFrom 162 = .ok (.iastore, 1) := by decide +kernel
theorem dX1_fewestFrom_163 : decode cX1_fewestFrom 163 = .ok (.iload 6, 2) := by decide +kernel
theorem dX1_fewestFrom_165 : decode cX1_fewestFrom 165 = .ok (.ireturn, 1) := by decide +kernel
set_option maxHeartbeats 4000000 in
set_option maxRecDepth 100000 in
theorem m_X1_fewestFrom0 (n : Nat) (IH : ∀ k : Nat, k < n → FFt k) (l : Launch) (D : va_G) (cy : Nat → ClassId) (g : Nat → Nat) (σ : ST) (p1 : Int32) (p2 : Int32) (p3 : Int32) (p4 : Int32) (sz : Nat) (hJ : J8 σ) (h0 : (0 : Int) ≤ p1.toInt ∧ p1.toInt ≤ 16) (h1 : (0 : Int) ≤ p2.toInt ∧ p2.toInt ≤ 16) (h2 : (0 : Int) ≤ p3.toInt ∧ p3.toInt ≤ 16) (h3 : (0 : Int) ≤ p4.toInt ∧ p4.toInt ≤ 16) (h4 : (16 : Int) ≤ p1.toInt + ((n : Nat) : Int)) : Met l yX1_fewestFrom (ww yX1_fewestFrom cX1_fewestFrom 8 (some .int)) ({ frames := 2 * n + 2, cells := 0, slots := 0, locals := 64 * (2 * n + 2) }) (va_Pc [.ref (gO g 15), .int p1, .int p2, .int p3, .int p4] (pr8 D cy g σ sz)) (qi8 D cy g sz (fun r τ => Fr (fO [15]) σ τ ∧ J8 τ ∧ True)) 0 0 (A8 cy g sz) := by
  refine Met.ofW (cc := cX1_fewestFrom) (maxL := 8) (ret := (some .int)) (by decide) rfl ?_
  intro p e s m args below meth c s₁ B hml hv
  obtain ⟨rfl, hsz, hP, hK, hD0, hC⟩ := hv
  have hx := B.exec
  have hb := B.bytes
  have hr := B.returns
  have hts := hts_g (atoms_spec (ws := ww yX1_fewestFrom cX1_fewestFrom 8 (some .int)) B.pre)
  have hown : s.vm.findClass RX1 = some m.cls := findClass_of_methodNamed B.named
  have hlocks := B.notSynchronized
  clear B
  subst hsz
  have hD := fun τ => A8_D (sz := s.heap.size) hD0 τ
  clear hD0
  have hS : va_S (A8 cy g s.heap.size) s.heap s.heap [] := va_S.rf
  have hl := lv_entry ([.ref (gO g 15), .int p1, .int p2, .int p3, .int p4]) (n := 8) (Nat.le_of_ble_eq_true rfl)
  rw [lg_entry_eq]
  generalize (lg_sl ([.ref (gO g 15), .int p1, .int p2, .int p3, .int p4]) ++ List.replicate (8 - (lg_sl ([.ref (gO g 15), .int p1, .int p2, .int p3, .int p4])).length) Slot.unset).toArray = ls at hl ⊢
  have hl : lv_has ls 8 [(0, .ref (gO g 15)), (1, .int p1), (2, .int p2), (3, .int p3), (4, .int p4)] := hl
  refine lv_iload_n hx hb dX1_fewestFrom_0 rfl (lv_at hl 1 rfl) ?_
  refine lv_aload_n hx hb dX1_fewestFrom_1 rfl (lv_at hl 0 rfl) ?_
  refine g8_1_1 (x := ((σ 15).1 1)) hx hb hts hown hK hP (rfl) (hts _ q368) dX1_fewestFrom_2 ?_
  refine lv_icmp_ge (tgt := 14) hx hb dX1_fewestFrom_5 (by decide) (fun c1 => ?_) (fun c1 => ?_)
  ·
    have k2 := ple32 c1
    refine lv_iconst (v := 0) hx hb dX1_fewestFrom_14 (by decide) ?_
    exact W.iret (v := 0) hx hb hr (fun tS ht hW => ⟨⟨0, σ, rfl, ⟨Fr.rf, hJ, trivial⟩, (show va_P D clz (WD8 cy g σ) tS.heap by rw [ht]; exact hP)⟩, hS.F ht⟩) hS.2.2 dX1_fewestFrom_15
  ·
    have k3 := nle32 c1
    refine lv_iload_n hx hb dX1_fewestFrom_8 rfl (lv_at hl 1 rfl) ?_
    refine lv_bipush (v := 16) hx hb dX1_fewestFrom_9 (by decide) ?_
    refine lv_icmp_lt (tgt := 16) hx hb dX1_fewestFrom_11 (by decide) (fun c4 => ?_) (fun c4 => ?_)
    ·
      have k5 := plt32 c4
      obtain ⟨k, rfl⟩ : ∃ k : Nat, n = k + 1 := ⟨n - 1, (by have f0 := h0; have f1 := h4; have f2 := k3; have f3 := k5; have f4 := j8_1_1 hJ rfl; have g0 := rg32 p1; have z16 : (16 : Int32).toInt = 16 := (by decide); omega)⟩
      have IHk := IH k (Nat.lt_succ_self k)
      refine lv_iload_n hx hb dX1_fewestFrom_16 rfl (lv_at hl 1 rfl) ?_
      refine lv_iload_n hx hb dX1_fewestFrom_17 rfl (lv_at hl 2 rfl) ?_
      refine lv_iload_n hx hb dX1_fewestFrom_18 rfl (lv_at hl 3 rfl) ?_
      refine lv_iload hx hb dX1_fewestFrom_19 (lv_at hl 4 rfl) ?_
      refine va_calli (va_runS (As := [.int p1, .int p2, .int p3, .int p4]) (rest := []) ⟨hx, hb, hml, hown, hts⟩ (m_X1_cellOf l D cy g σ  p1 p2 p3 p4 _ hJ (show (0 : Int) ≤ p1.toInt ∧ p1.toInt ≤ 15 from (by have f0 := h0; have f1 := h4; have f2 := k3; have f3 := k5; have f4 := j8_1_1 hJ rfl; have g0 := rg32 p1; have z16 : (16 : Int32).toInt = 16 := (by decide); omega)) (show (0 : Int) ≤ p2.toInt ∧ p2.toInt ≤ 16 from (by have f0 := h0; have f1 := h1; have f2 := h4; have f3 := k3; have f4 := k5; have f5 := j8_1_1 hJ rfl; have g0 := rg32 p1; have g1 := rg32 p2; have z16 : (16 : Int32).toInt = 16 := (by decide); omega)) (show (0 : Int) ≤ p3.toInt ∧ p3.toInt ≤ 16 from (by have f0 := h0; have f1 := h1; have f2 := h2; have f3 := h4; have f4 := k3; have f5 := k5; have f6 := j8_1_1 hJ rfl; have g0 := rg32 p1; have g1 := rg32 p2; have g2 := rg32 p3; have z16 : (16 : Int32).toInt = 16 := (by decide); omega)) (show (0 : Int) ≤ p4.toInt ∧ p4.toInt ≤ 16 from (by have f0 := h0; have f1 := h1; have f2 := h2; have f3 := h3; have f4 := h4; have f5 := k3; have f6 := k5; have f7 := j8_1_1 hJ rfl; have g0 := rg32 p1; have g1 := rg32 p2; have g2 := rg32 p3; have g3 := rg32 p4; have z16 : (16 : Int32).toInt = 16 := (by decide); omega))) (va_cwS 4 hts (gd_S q1185 q1186 q131 q1187) rfl rfl rfl (by decide +kernel) ⟨(by dsimp only [headSpec]; omega), (by dsimp only [headSpec]; omega)⟩) (ps8 hP hK hD hC hS) rfl rfl hl.1 rfl (lv_room (Nat.le_of_ble_eq_true rfl)) dX1_fewestFrom_21 ⟨Nat.le_of_ble_eq_true rfl, Nat.le_of_ble_eq_true rfl⟩) hS (fun q _ h => up8 hS q h) (up8 hS) (fun r6 σ7 tS H1 locs ht hvm hw8 hB hz1 hk1 hS => ?_)
      have hP : va_P D clz (WD8 cy g σ7) H1 := by rw [← ht]; exact hB
      clear hB hz1 hk1 hvm ht
      generalize H1 = H at hP hS ⊢
      have hw8E : σ = σ7 := (hw8.1).symm
      subst hw8E
      have b9 : (0 : Int) ≤ r6.toInt ∧ r6.toInt ≤ 61968 := hw8.2.1
      refine lv_istore (lv' := [(5, .int r6), (0, .ref (gO g 15)), (1, .int p1), (2, .int p2), (3, .int p3), (4, .int p4)]) hx hb dX1_fewestFrom_24 hl (by decide) rfl (fun ls hl => ?_)
      refine lv_iload hx hb dX1_fewestFrom_26 (lv_at hl 0 rfl) ?_
      refine lv_if_lt (tgt := 39) hx hb dX1_fewestFrom_28 (by decide) (fun c10 => ?_) (fun c10 => ?_)
      ·
        have k11 := plt32 c10
        exact False.elim (by have f0 := b9; have f1 := k11; have g0 := rg32 r6; have z0 : (0 : Int32).toInt = 0 := (by decide); omega)
      ·
        have k12 := nlt32 c10
        refine lv_iload hx hb dX1_fewestFrom_31 (lv_at hl 0 rfl) ?_
        refine lv_sipush (v := 18496) hx hb dX1_fewestFrom_33 (by decide) ?_
        refine lv_icmp_lt (tgt := 42) hx hb dX1_fewestFrom_36 (by decide) (fun c13 => ?_) (fun c13 => ?_)
        ·
          have k14 := plt32 c13
          refine lv_aload_n hx hb dX1_fewestFrom_42 rfl (lv_at hl 1 rfl) ?_
          refine g8_1_8 hx hb hts hown hK hP (hts _ q375) dX1_fewestFrom_43 ?_
          refine lv_iload hx hb dX1_fewestFrom_46 (lv_at hl 0 rfl) ?_
          obtain ⟨x15, ex15⟩ : ∃ z, (σ 15).2.2.1 8 r6.toInt.toNat = z := ⟨_, rfl⟩
          refine l8_1_8 (x := x15) hx hb hK hP (vpo (by have f0 := b9; have f1 := k12; have f2 := k14; have g0 := rg32 r6; have z0 : (0 : Int32).toInt = 0 := (by decide); have z18496 : (18496 : Int32).toInt = 18496 := (by decide); omega)) ex15 dX1_fewestFrom_48 ?_
          refine lv_bipush (v := 64) hx hb dX1_fewestFrom_49 (by decide) ?_
          refine lv_idiv hx hb dX1_fewestFrom_51 (by decide) ?_
          refine lv_topi (fun x16 ex16 => ?_)
          refine lv_aload_n hx hb dX1_fewestFrom_52 rfl (lv_at hl 1 rfl) ?_
          refine g8_1_2 (x := ((σ 15).1 2)) hx hb hts hown hK hP (rfl) (hts _ q369) dX1_fewestFrom_53 ?_
          refine lv_icmp_ne (tgt := 70) hx hb dX1_fewestFrom_56 (by decide) (fun c17 => ?_) (fun c17 => ?_)
          ·
            have k18 := neq32 c17
            refine lv_bipush (v := 63) hx hb dX1_fewestFrom_70 (by decide) ?_
            refine lv_istore (lv' := [(6, .int 63), (5, .int r6), (0, .ref (gO g 15)), (1, .int p1), (2, .int p2), (3, .int p3), (4, .int p4)]) hx hb dX1_fewestFrom_72 hl (by decide) rfl (fun ls hl => ?_)
            refine lv_aload_n hx hb dX1_fewestFrom_74 rfl (lv_at hl 2 rfl) ?_
            refine g8_1_6 hx hb hts hown hK hP (hts _ q373) dX1_fewestFrom_75 ?_
            refine lv_iload_n hx hb dX1_fewestFrom_78 rfl (lv_at hl 3 rfl) ?_
            obtain ⟨x19, ex19⟩ : ∃ z, (σ 15).2.2.1 6 p1.toInt.toNat = z := ⟨_, rfl⟩
            refine l8_1_6 (x := x19) hx hb hK hP (vpo (by have f0 := h0; have f1 := h4; have f2 := k3; have f3 := k5; have f4 := j8_1_1 hJ rfl; have g0 := rg32 p1; have z16 : (16 : Int32).toInt = 16 := (by decide); omega)) ex19 dX1_fewestFrom_79 ?_
            refine lv_iconst (v := 1) hx hb dX1_fewestFrom_80 (by decide) ?_
            refine cut8 (D := D) (cy := cy) (g := g) (A := A8 cy g s.heap.size) (H0 := s.heap) 8 146 (fun x : LZ => [(6, .int (x.2.1 0)), (5, .int r6), (0, .ref (gO g 15)), (1, .int p1), (2, .int p2), (3, .int p3), (4, .int p4)]) (fun x : LZ => []) (fun x : LZ => (Fr (fO [15]) σ x.1) ∧ (J8 x.1) ∧ True) ?_ ?_
            ·
              intro y22 hI21 H locs ls hP hS hl
              obtain ⟨σ23, eσ23⟩ : ∃ z, z = y22.1 := ⟨_, rfl⟩
              rw [← eσ23] at hP hI21
              have hF24 : Fr (fO [15]) σ σ23 := hI21.1
              have hJ25 : J8 σ23 := hI21.2.1
              have hl : lv_has ls 8 [(6, .int (y22.2.1 0)), (5, .int r6), (0, .ref (gO g 15)), (1, .int p1), (2, .int p2), (3, .int p3), (4, .int p4)] := hl
              refine lv_aload_n hx hb dX1_fewestFrom_146 rfl (lv_at hl 2 rfl) ?_
              refine g8_1_8 hx hb hts hown hK hP (hts _ q375) dX1_fewestFrom_147 ?_
              refine lv_iload hx hb dX1_fewestFrom_150 (lv_at hl 1 rfl) ?_
              refine lv_aload_n hx hb dX1_fewestFrom_152 rfl (lv_at hl 2 rfl) ?_
              refine g8_1_2 (x := ((σ23 15).1 2)) hx hb hts hown hK hP (rfl) (hts _ q369) dX1_fewestFrom_153 ?_
              refine lv_bipush (v := 64) hx hb dX1_fewestFrom_156 (by decide) ?_
              refine lv_imul hx hb dX1_fewestFrom_158 ?_
              refine lv_topi (fun x26 ex26 => ?_)
              refine lv_iload hx hb dX1_fewestFrom_159 (lv_at hl 0 rfl) ?_
              refine lv_iadd hx hb dX1_fewestFrom_161 ?_
              refine lv_topi (fun x27 ex27 => ?_)
              refine t8_1_8 hx hb hK hP hD hS (vpo (by have f0 := b9; have f1 := k12; have f2 := k14; have g0 := rg32 r6; have z0 : (0 : Int32).toInt = 0 := (by decide); have z18496 : (18496 : Int32).toInt = 18496 := (by decide); omega)) dX1_fewestFrom_162 (fun H locs σ28 eσ28 hP hS => ?_)
              have hJ29 : J8 σ28 := hJ25.A eσ28 rfl (show PA8 1 8 x27 from trivial)
              refine lv_iload hx hb dX1_fewestFrom_163 (lv_at hl 0 rfl) ?_
              exact W.iret (v := (y22.2.1 0)) hx hb hr (fun tS ht hW => ⟨⟨(y22.2.1 0), σ28, rfl, ⟨Fr.tr (Fr.tr (Fr.rf) hF24 (fO_sub (fun _ q => q))) (sA_f eσ28) (fN_O mem0), hJ29, trivial⟩, (show va_P D clz (WD8 cy g σ28) tS.heap by rw [ht]; exact hP)⟩, hS.F ht⟩) hS.2.2 dX1_fewestFrom_165
            ·
              intro nj20
              refine lv_icmp_ne (tgt := 105) hx hb dX1_fewestFrom_81 (by decide) (fun c30 => ?_) (fun c30 => ?_)
              ·
                have k31 := neq32 c30
                refine lv_iconst (v := (-1)) hx hb dX1_fewestFrom_105 (by decide) ?_
                refine lv_istore (lv' := [(7, .int (-1)), (6, .int 63), (5, .int r6), (0, .ref (gO g 15)), (1, .int p1), (2, .int p2), (3, .int p3), (4, .int p4)]) hx hb dX1_fewestFrom_106 hl (by decide) rfl (fun ls hl => ?_)
                refine loop8 8 108 (fun x : LZ => [(7, .int (x.2.1 0)), (6, .int (x.2.1 1)), (5, .int r6), (0, .ref (gO g 15)), (1, .int p1), (2, .int p2), (3, .int p3), (4, .int p4)]) (fun x : LZ => (Fr (fO [15]) σ x.1) ∧ (J8 x.1) ∧ ((-1 : Int) ≤ (x.2.1 0).toInt ∧ (x.2.1 0).toInt ≤ 3) ∧ ((-2147483648 : Int) ≤ (x.2.1 1).toInt ∧ (x.2.1 1).toInt ≤ 63) ∧ True) (fun x : LZ => ((4 : Int) - (x.2.1 0).toInt).toNat) ?_ (σ, lf [(-1), 63], lg []) ⟨Fr.rf, hJ, (show (-1 : Int) ≤ ((-1) : Int32).toInt ∧ ((-1) : Int32).toInt ≤ 3 from (by have zm1 : ((-1) : Int32).toInt = (-1) := (by decide); omega)), (show (-2147483648 : Int) ≤ (63 : Int32).toInt ∧ (63 : Int32).toInt ≤ 63 from (by have z63 : (63 : Int32).toInt = 63 := (by decide); omega)), trivial⟩ _ _ _ hP hS (lv_sub hl [0, 1, 2, 3, 4, 5, 6, 7] rfl)
                intro y34 hI33 nl32 H locs ls hP hS hl
                obtain ⟨σ35, eσ35⟩ : ∃ z, z = y34.1 := ⟨_, rfl⟩
                rw [← eσ35] at hP hI33
                have hF36 : Fr (fO [15]) σ σ35 := hI33.1
                have hJ37 : J8 σ35 := hI33.2.1
                have b38 : (-1 : Int) ≤ (y34.2.1 0).toInt ∧ (y34.2.1 0).toInt ≤ 3 := hI33.2.2.1
                have b39 : (-2147483648 : Int) ≤ (y34.2.1 1).toInt ∧ (y34.2.1 1).toInt ≤ 63 := hI33.2.2.2.1
                have hl : lv_has ls 8 [(7, .int (y34.2.1 0)), (6, .int (y34.2.1 1)), (5, .int r6), (0, .ref (gO g 15)), (1, .int p1), (2, .int p2), (3, .int p3), (4, .int p4)] := hl
                refine lv_iload hx hb dX1_fewestFrom_108 (lv_at hl 0 rfl) ?_
                refine lv_aload_n hx hb dX1_fewestFrom_110 rfl (lv_at hl 3 rfl) ?_
                refine va_calli (va_runV (As := []) (rest := [.int (y34.2.1 0)]) ⟨hx, hb, hml, hown, hts⟩ (m_X1_mostLeaving l D cy g σ35   _ hJ37 ) (cwV 0 hts (gd_V q1188 q1190 q40 q131 q1191) rfl rfl rfl (by decide +kernel) ⟨(by dsimp only [headSpec]; omega), (by dsimp only [headSpec]; omega)⟩) (pv8 hP hK hD hC hS (rv8_1 hK hP)) rfl rfl hl.1 rfl (lv_room (Nat.le_of_ble_eq_true rfl)) dX1_fewestFrom_111 ⟨Nat.le_of_ble_eq_true rfl, Nat.le_of_ble_eq_true rfl⟩) hS (fun q _ h => up8 hS q h) (up8 hS) (fun r40 σ41 tS H1 locs ht hvm hw42 hB hz1 hk1 hS => ?_)
                have hP : va_P D clz (WD8 cy g σ41) H1 := by rw [← ht]; exact hB
                clear hB hz1 hk1 hvm ht
                generalize H1 = H at hP hS ⊢
                have hw42E : σ35 = σ41 := (hw42.1).symm
                subst hw42E
                have b43 : (0 : Int) ≤ r40.toInt ∧ r40.toInt ≤ 3 := hw42.2.1
                refine lv_icmp_ge (tgt := 146) hx hb dX1_fewestFrom_114 (by decide) (fun c44 => ?_) (fun c44 => ?_)
                ·
                  have k45 := ple32 c44
                  exact nj20 (σ35, lf [(y34.2.1 1)], lg []) ⟨Fr.tr (Fr.rf) hF36 (fO_sub (fun _ q => q)), hJ37, trivial⟩ _ _ _ hP hS (lv_sub hl [1, 2, 3, 4, 5, 6, 7] rfl)
                ·
                  have k46 := nle32 c44
                  refine lv_iload hx hb dX1_fewestFrom_117 (lv_at hl 1 rfl) ?_
                  refine lv_if_le (tgt := 146) hx hb dX1_fewestFrom_119 (by decide) (fun c47 => ?_) (fun c47 => ?_)
                  ·
                    have k48 := ple32 c47
                    exact nj20 (σ35, lf [(y34.2.1 1)], lg []) ⟨Fr.tr (Fr.rf) hF36 (fO_sub (fun _ q => q)), hJ37, trivial⟩ _ _ _ hP hS (lv_sub hl [1, 2, 3, 4, 5, 6, 7] rfl)
                  ·
                    have k49 := nle32 c47
                    refine lv_iload hx hb dX1_fewestFrom_122 (lv_at hl 1 rfl) ?_
                    refine lv_aload_n hx hb dX1_fewestFrom_124 rfl (lv_at hl 3 rfl) ?_
                    refine lv_iload_n hx hb dX1_fewestFrom_125 rfl (lv_at hl 4 rfl) ?_
                    refine lv_iload_n hx hb dX1_fewestFrom_126 rfl (lv_at hl 5 rfl) ?_
                    refine lv_iload_n hx hb dX1_fewestFrom_127 rfl (lv_at hl 6 rfl) ?_
                    refine lv_iload hx hb dX1_fewestFrom_128 (lv_at hl 7 rfl) ?_
                    refine lv_iload hx hb dX1_fewestFrom_130 (lv_at hl 0 rfl) ?_
                    refine va_calli (va_runV (As := [.int p1, .int p2, .int p3, .int p4, .int (y34.2.1 0)]) (rest := [.int (y34.2.1 1)]) ⟨hx, hb, hml, hown, hts⟩ (m_X1_fewestWith k IHk l D cy g σ35  p1 p2 p3 p4 (y34.2.1 0) _ hJ37 (show (0 : Int) ≤ p1.toInt ∧ p1.toInt ≤ 15 from (by have f0 := h0; have f1 := h4; have f2 := k3; have f3 := k5; have f4 := j8_1_1 hJ rfl; have g0 := rg32 p1; have z16 : (16 : Int32).toInt = 16 := (by decide); omega)) (show (0 : Int) ≤ p2.toInt ∧ p2.toInt ≤ 16 from (by have f0 := h0; have f1 := h1; have f2 := h4; have f3 := k3; have f4 := k5; have f5 := j8_1_1 hJ rfl; have g0 := rg32 p1; have g1 := rg32 p2; have z16 : (16 : Int32).toInt = 16 := (by decide); omega)) (show (0 : Int) ≤ p3.toInt ∧ p3.toInt ≤ 16 from (by have f0 := h0; have f1 := h1; have f2 := h2; have f3 := h4; have f4 := k3; have f5 := k5; have f6 := j8_1_1 hJ rfl; have g0 := rg32 p1; have g1 := rg32 p2; have g2 := rg32 p3; have z16 : (16 : Int32).toInt = 16 := (by decide); omega)) (show (0 : Int) ≤ p4.toInt ∧ p4.toInt ≤ 16 from (by have f0 := h0; have f1 := h1; have f2 := h2; have f3 := h3; have f4 := h4; have f5 := k3; have f6 := k5; have f7 := j8_1_1 hJ rfl; have g0 := rg32 p1; have g1 := rg32 p2; have g2 := rg32 p3; have g3 := rg32 p4; have z16 : (16 : Int32).toInt = 16 := (by decide); omega)) (show (-1 : Int) ≤ (y34.2.1 0).toInt ∧ (y34.2.1 0).toInt ≤ 2 from (by have f0 := h0; have f1 := h1; have f2 := h2; have f3 := h3; have f4 := h4; have f5 := k3; have f6 := k5; have f7 := b38; have f8 := k46; have f9 := j8_1_1 hJ rfl; have f10 := b43; have g0 := rg32 (y34.2.1 0); have g1 := rg32 p1; have g2 := rg32 p2; have g3 := rg32 p3; have g4 := rg32 p4; have z16 : (16 : Int32).toInt = 16 := (by decide); omega)) (show (15 : Int) ≤ p1.toInt + ((k : Nat) : Int) from (by have f0 := h0; have f1 := h1; have f2 := h2; have f3 := h3; have f4 := h4; have f5 := k3; have f6 := k5; have f7 := b38; have f8 := k46; have f9 := j8_1_1 hJ rfl; have f10 := b43; have g0 := rg32 (y34.2.1 0); have g1 := rg32 p1; have g2 := rg32 p2; have g3 := rg32 p3; have g4 := rg32 p4; have z16 : (16 : Int32).toInt = 16 := (by decide); omega))) (cwV 5 hts (gd_V q1192 q1194 q41 q131 q1195) rfl rfl rfl (by decide +kernel) ⟨(by dsimp only [headSpec]; omega), (by dsimp only [headSpec]; omega)⟩) (pv8 hP hK hD hC hS (rv8_1 hK hP)) rfl rfl hl.1 rfl (lv_room (Nat.le_of_ble_eq_true rfl)) dX1_fewestFrom_132 ⟨Nat.le_of_ble_eq_true rfl, Nat.le_of_ble_eq_true rfl⟩) hS (fun q _ h => up8 hS q h) (up8 hS) (fun r50 σ51 tS H1 locs ht hvm hw52 hB hz1 hk1 hS => ?_)
                    have hP : va_P D clz (WD8 cy g σ51) H1 := by rw [← ht]; exact hB
                    clear hB hz1 hk1 hvm ht
                    generalize H1 = H at hP hS ⊢
                    have hF53 : Fr (fO [15]) σ35 σ51 := hw52.1
                    have hJ54 : J8 σ51 := hw52.2.1
                    have b55 : (-2147483648 : Int) ≤ r50.toInt ∧ r50.toInt ≤ 63 := hw52.2.2.1
                    refine va_mmin hx hb (hml.trans hl.1.symm) hown (hts _ q1200) (hts _ q512) (hts _ q135) (hts _ q513) (by dsimp only [headSpec]; omega) (by simp [headSpec] <;> omega) (Nat.le_refl _) (Nat.le_refl _) dX1_fewestFrom_135 ?_
                    refine lv_topi (fun x56 ex56 => ?_)
                    have t57 := minO ex56
                    refine lv_istore (lv' := [(6, .int x56), (7, .int (y34.2.1 0)), (5, .int r6), (0, .ref (gO g 15)), (1, .int p1), (2, .int p2), (3, .int p3), (4, .int p4)]) hx hb dX1_fewestFrom_138 hl (by decide) rfl (fun ls hl => ?_)
                    obtain ⟨x58, ex58⟩ : ∃ y : Int32, y = (y34.2.1 0) + 1 := ⟨_, rfl⟩
                    have t59 := addO ex58 (by have f0 := b38; have f1 := k46; have f2 := b43; have g0 := rg32 (y34.2.1 0); have z1 : (1 : Int32).toInt = 1 := (by decide); omega)
                    refine lv_iinc (v := x58) (lv' := [(7, .int x58), (6, .int x56), (5, .int r6), (0, .ref (gO g 15)), (1, .int p1), (2, .int p2), (3, .int p3), (4, .int p4)]) hx hb dX1_fewestFrom_140 hl (k := 1) rfl (by rw [ex58]; rfl) (by decide) rfl (fun ls hl => ?_)
                    refine lv_goto (tgt := 108) hx hb dX1_fewestFrom_143 (by decide) ?_
                    have t60 : ((4 : Int) - x58.toInt).toNat < ((4 : Int) - (y34.2.1 0).toInt).toNat := (by have f0 := b38; have f1 := k46; have f2 := t59; have f3 := b43; have g0 := rg32 (y34.2.1 0); have g1 := rg32 x58; have z1 : (1 : Int32).toInt = 1 := (by decide); omega)
                    exact nl32 (σ51, lf [x58, x56], lg []) ⟨Fr.tr (Fr.tr (Fr.rf) hF36 (fO_sub (fun _ q => q))) hF53 (fO_sub (fun _ q => q)), hJ54, (show (-1 : Int) ≤ (x58 : Int32).toInt ∧ (x58 : Int32).toInt ≤ 3 from (by have f0 := t59; have f1 := b38; have f2 := k46; have f3 := b43; have g0 := rg32 x58; have z1 : (1 : Int32).toInt = 1 := (by decide); omega)), (show (-2147483648 : Int) ≤ (x56 : Int32).toInt ∧ (x56 : Int32).toInt ≤ 63 from (by have f0 := t57; have f1 := b39; have f2 := k49; have f3 := b55; have g0 := rg32 r50; have g1 := rg32 x56; have z0 : (0 : Int32).toInt = 0 := (by decide); omega)), trivial⟩ (show ((4 : Int) - x58.toInt).toNat < _ from by first | exact t60 | (rw [← eσ35]; exact t60)) _ _ _ hP hS (lv_sub hl [0, 1, 2, 3, 4, 5, 6, 7] rfl)
              ·
                have k61 := peq32 c30
                refine lv_aload_n hx hb dX1_fewestFrom_84 rfl (lv_at hl 2 rfl) ?_
                refine lv_iload_n hx hb dX1_fewestFrom_85 rfl (lv_at hl 3 rfl) ?_
                refine lv_iconst (v := 1) hx hb dX1_fewestFrom_86 (by decide) ?_
                refine lv_iadd hx hb dX1_fewestFrom_87 ?_
                refine lv_topi (fun x62 ex62 => ?_)
                have t63 := addO ex62 (by have f0 := h0; have f1 := h4; have f2 := k3; have f3 := k5; have f4 := j8_1_1 hJ rfl; have g0 := rg32 p1; have z1 : (1 : Int32).toInt = 1 := (by decide); have z16 : (16 : Int32).toInt = 16 := (by decide); omega)
                refine lv_iload_n hx hb dX1_fewestFrom_88 rfl (lv_at hl 3 rfl) ?_
                refine lv_iconst (v := 1) hx hb dX1_fewestFrom_89 (by decide) ?_
                refine lv_iadd hx hb dX1_fewestFrom_90 ?_
                refine lv_topi (fun x64 ex64 => ?_)
                have t65 := addO ex64 (by have f0 := h0; have f1 := h4; have f2 := k3; have f3 := k5; have f4 := t63; have f5 := j8_1_1 hJ rfl; have g0 := rg32 p1; have z1 : (1 : Int32).toInt = 1 := (by decide); have z16 : (16 : Int32).toInt = 16 := (by decide); omega)
                refine lv_iload_n hx hb dX1_fewestFrom_91 rfl (lv_at hl 3 rfl) ?_
                refine lv_iconst (v := 1) hx hb dX1_fewestFrom_92 (by decide) ?_
                refine lv_iadd hx hb dX1_fewestFrom_93 ?_
                refine lv_topi (fun x66 ex66 => ?_)
                have t67 := addO ex66 (by have f0 := h0; have f1 := h4; have f2 := k3; have f3 := k5; have f4 := t63; have f5 := t65; have f6 := j8_1_1 hJ rfl; have g0 := rg32 p1; have z1 : (1 : Int32).toInt = 1 := (by decide); have z16 : (16 : Int32).toInt = 16 := (by decide); omega)
                refine lv_iload_n hx hb dX1_fewestFrom_94 rfl (lv_at hl 3 rfl) ?_
                refine lv_iconst (v := 1) hx hb dX1_fewestFrom_95 (by decide) ?_
                refine lv_iadd hx hb dX1_fewestFrom_96 ?_
                refine lv_topi (fun x68 ex68 => ?_)
                have t69 := addO ex68 (by have f0 := h0; have f1 := h4; have f2 := k3; have f3 := k5; have f4 := t63; have f5 := t65; have f6 := t67; have f7 := j8_1_1 hJ rfl; have g0 := rg32 p1; have z1 : (1 : Int32).toInt = 1 := (by decide); have z16 : (16 : Int32).toInt = 16 := (by decide); omega)
                refine va_calli (va_runV (As := [.int x62, .int x64, .int x66, .int x68]) (rest := []) ⟨hx, hb, hml, hown, hts⟩ (IHk l D cy g σ  x62 x64 x66 x68 _ hJ (show (0 : Int) ≤ x62.toInt ∧ x62.toInt ≤ 16 from (by have f0 := t63; have f1 := h0; have f2 := h4; have f3 := k3; have f4 := k5; have f5 := t65; have f6 := t67; have f7 := t69; have f8 := j8_1_1 hJ rfl; have g0 := rg32 x62; have z1 : (1 : Int32).toInt = 1 := (by decide); have z16 : (16 : Int32).toInt = 16 := (by decide); omega)) (show (0 : Int) ≤ x64.toInt ∧ x64.toInt ≤ 16 from (by have f0 := t63; have f1 := t65; have f2 := h0; have f3 := h4; have f4 := k3; have f5 := k5; have f6 := t67; have f7 := t69; have f8 := j8_1_1 hJ rfl; have g0 := rg32 x62; have g1 := rg32 x64; have z1 : (1 : Int32).toInt = 1 := (by decide); have z16 : (16 : Int32).toInt = 16 := (by decide); omega)) (show (0 : Int) ≤ x66.toInt ∧ x66.toInt ≤ 16 from (by have f0 := t63; have f1 := t65; have f2 := t67; have f3 := h0; have f4 := h4; have f5 := k3; have f6 := k5; have f7 := t69; have f8 := j8_1_1 hJ rfl; have g0 := rg32 x62; have g1 := rg32 x64; have g2 := rg32 x66; have z1 : (1 : Int32).toInt = 1 := (by decide); have z16 : (16 : Int32).toInt = 16 := (by decide); omega)) (show (0 : Int) ≤ x68.toInt ∧ x68.toInt ≤ 16 from (by have f0 := t63; have f1 := t65; have f2 := t67; have f3 := t69; have f4 := h0; have f5 := h4; have f6 := k3; have f7 := k5; have f8 := j8_1_1 hJ rfl; have g0 := rg32 x62; have g1 := rg32 x64; have g2 := rg32 x66; have g3 := rg32 x68; have z1 : (1 : Int32).toInt = 1 := (by decide); have z16 : (16 : Int32).toInt = 16 := (by decide); omega)) (show (16 : Int) ≤ x62.toInt + ((k : Nat) : Int) from (by have f0 := t63; have f1 := t65; have f2 := t67; have f3 := t69; have f4 := h0; have f5 := h4; have f6 := k3; have f7 := k5; have f8 := j8_1_1 hJ rfl; have g0 := rg32 x62; have g1 := rg32 x64; have g2 := rg32 x66; have g3 := rg32 x68; have z1 : (1 : Int32).toInt = 1 := (by decide); have z16 : (16 : Int32).toInt = 16 := (by decide); omega))) (cwV 4 hts (gd_V q1181 q1183 q39 q131 q1184) rfl rfl rfl (by decide +kernel) ⟨(by dsimp only [headSpec]; omega), (by dsimp only [headSpec]; omega)⟩) (pv8 hP hK hD hC hS (rv8_1 hK hP)) rfl rfl hl.1 rfl (lv_room (Nat.le_of_ble_eq_true rfl)) dX1_fewestFrom_97 ⟨Nat.le_of_ble_eq_true rfl, Nat.le_of_ble_eq_true rfl⟩) hS (fun q _ h => up8 hS q h) (up8 hS) (fun r70 σ71 tS H1 locs ht hvm hw72 hB hz1 hk1 hS => ?_)
                have hP : va_P D clz (WD8 cy g σ71) H1 := by rw [← ht]; exact hB
                clear hB hz1 hk1 hvm ht
                generalize H1 = H at hP hS ⊢
                have hF73 : Fr (fO [15]) σ σ71 := hw72.1
                have hJ74 : J8 σ71 := hw72.2.1
                refine lv_istore (lv' := [(6, .int r70), (5, .int r6), (0, .ref (gO g 15)), (1, .int p1), (2, .int p2), (3, .int p3), (4, .int p4)]) hx hb dX1_fewestFrom_100 hl (by decide) rfl (fun ls hl => ?_)
                refine lv_goto (tgt := 146) hx hb dX1_fewestFrom_102 (by decide) ?_
                exact nj20 (σ71, lf [r70], lg []) ⟨Fr.tr (Fr.rf) hF73 (fO_sub (fun _ q => q)), hJ74, trivial⟩ _ _ _ hP hS (lv_sub hl [0, 1, 2, 3, 4, 5, 6] rfl)
          ·
            have k75 := peq32 c17
            refine lv_aload_n hx hb dX1_fewestFrom_59 rfl (lv_at hl 1 rfl) ?_
            refine g8_1_8 hx hb hts hown hK hP (hts _ q375) dX1_fewestFrom_60 ?_
            refine lv_iload hx hb dX1_fewestFrom_63 (lv_at hl 0 rfl) ?_
            refine l8_1_8 (x := x15) hx hb hK hP (vpo (by have f0 := b9; have f1 := k12; have f2 := k14; have g0 := rg32 r6; have z0 : (0 : Int32).toInt = 0 := (by decide); have z18496 : (18496 : Int32).toInt = 18496 := (by decide); omega)) ex15 dX1_fewestFrom_65 ?_
            refine lv_bipush (v := 64) hx hb dX1_fewestFrom_66 (by decide) ?_
            refine lv_irem hx hb dX1_fewestFrom_68 (by decide) ?_
            refine lv_topi (fun x76 ex76 => ?_)
            exact W.iret (v := x76) hx hb hr (fun tS ht hW => ⟨⟨x76, σ, rfl, ⟨Fr.rf, hJ, trivial⟩, (show va_P D clz (WD8 cy g σ) tS.heap by rw [ht]; exact hP)⟩, hS.F ht⟩) hS.2.2 dX1_fewestFrom_69
        ·
          have k77 := nlt32 c13
          refine lv_bipush (v := 63) hx hb dX1_fewestFrom_39 (by decide) ?_
          exact W.iret (v := 63) hx hb hr (fun tS ht hW => ⟨⟨63, σ, rfl, ⟨Fr.rf, hJ, trivial⟩, (show va_P D clz (WD8 cy g σ) tS.heap by rw [ht]; exact hP)⟩, hS.F ht⟩) hS.2.2 dX1_fewestFrom_41
    ·
      have k78 := nlt32 c4
      exact False.elim (by have f0 := h0; have f1 := h4; have f2 := k3; have f3 := k78; have f4 := j8_1_1 hJ rfl; have g0 := rg32 p1; have z16 : (16 : Int32).toInt = 16 := (by decide); omega)

theorem m_X1_fewestFrom (n : Nat) : FFt n := Nat.strongRecOn n (fun n IH => m_X1_fewestFrom0 n IH)

theorem q1180 : Cond.code yX1_fewestLeft cX1_fewestLeft 2 (some .int) ∈ lw_g := lw_gm (List.mem_of_getElem? (i := 1180) (by decide +kernel)) rfl
theorem dX1_fewestLeft_0 : decode cX1_fewestLeft 0 = .ok (.aload_n 0, 1) := by decide +kernel
theorem dX1_fewestLeft_1 : decode cX1_fewestLeft 1 = .ok (.iconst 0, 1) := by decide +kernel
theorem dX1_fewestLeft_2 : decode cX1_fewestLeft 2 = .ok (.iconst 0, 1) := by decide +kernel
theorem dX1_fewestLeft_3 : decode cX1_fewestLeft 3 = .ok (.iconst 0, 1) := by decide +kernel
theorem dX1_fewestLeft_4 : decode cX1_fewestLeft 4 = .ok (.iconst 0, 1) := by decide +kernel
theorem dX1_fewestLeft_5 : decode cX1_fewestLeft 5 = .ok (.invokevirtual 61, 3) := by decide +kernel
theorem dX1_fewestLeft_8 : decode cX1_fewestLeft 8 = .ok (.istore_n 1, 1) := by decide +kernel
theorem dX1_fewestLeft_9 : decode cX1_fewestLeft 9 = .ok (.iload_n 1, 1) := by decide +kernel
theorem dX1_fewestLeft_10 : decode cX1_fewestLeft 10 = .ok (.bipush 63, 2) := by decide +kernel
theorem dX1_fewestLeft_12 : decode cX1_fewestLeft 12 = .ok (.if_icmp .lt 7, 3) := by decide +kernel
theorem dX1_fewestLeft_15 : decode cX1_fewestLeft 15 = .ok (.iconst (-1), 1) := by decide +kernel
theorem dX1_fewestLeft_16 : decode cX1_fewestLeft 16 = .ok (.goto 4, 3) := by decide +kernel
theorem dX1_fewestLeft_19 : decode cX1_fewestLeft 19 = .ok (.iload_n 1, 1) := by decide +kernel
theorem dX1_fewestLeft_20 : decode cX1_fewestLeft 20 = .ok (.ireturn, 1) := by decide +kernel
set_option maxHeartbeats 4000000 in
set_option maxRecDepth 100000 in
theorem m_X1_fewestLeft (l : Launch) (D : va_G) (cy : Nat → ClassId) (g : Nat → Nat) (σ : ST)  (sz : Nat) (hJ : J8 σ)  : Met l yX1_fewestLeft (ww yX1_fewestLeft cX1_fewestLeft 2 (some .int)) ({ frames := 35, cells := 0, slots := 0, locals := 2240 }) (va_Pc [.ref (gO g 15)] (pr8 D cy g σ sz)) (qi8 D cy g sz (fun r τ => Fr (fO [15]) σ τ ∧ J8 τ ∧ ((-2147483648 : Int) ≤ r.toInt ∧ r.toInt ≤ 62) ∧ True)) 0 0 (A8 cy g sz) := by
  refine Met.ofW (cc := cX1_fewestLeft) (maxL := 2) (ret := (some .int)) (by decide) rfl ?_
  intro p e s m args below meth c s₁ B hml hv
  obtain ⟨rfl, hsz, hP, hK, hD0, hC⟩ := hv
  have hx := B.exec
  have hb := B.bytes
  have hr := B.returns
  have hts := hts_g (atoms_spec (ws := ww yX1_fewestLeft cX1_fewestLeft 2 (some .int)) B.pre)
  have hown : s.vm.findClass RX1 = some m.cls := findClass_of_methodNamed B.named
  have hlocks := B.notSynchronized
  clear B
  subst hsz
  have hD := fun τ => A8_D (sz := s.heap.size) hD0 τ
  clear hD0
  have hS : va_S (A8 cy g s.heap.size) s.heap s.heap [] := va_S.rf
  have hl := lv_entry ([.ref (gO g 15)]) (n := 2) (Nat.le_of_ble_eq_true rfl)
  rw [lg_entry_eq]
  generalize (lg_sl ([.ref (gO g 15)]) ++ List.replicate (2 - (lg_sl ([.ref (gO g 15)])).length) Slot.unset).toArray = ls at hl ⊢
  have hl : lv_has ls 2 [(0, .ref (gO g 15))] := hl
  refine lv_aload_n hx hb dX1_fewestLeft_0 rfl (lv_at hl 0 rfl) ?_
  refine lv_iconst (v := 0) hx hb dX1_fewestLeft_1 (by decide) ?_
  refine lv_iconst (v := 0) hx hb dX1_fewestLeft_2 (by decide) ?_
  refine lv_iconst (v := 0) hx hb dX1_fewestLeft_3 (by decide) ?_
  refine lv_iconst (v := 0) hx hb dX1_fewestLeft_4 (by decide) ?_
  refine va_calli (va_runV (As := [.int 0, .int 0, .int 0, .int 0]) (rest := []) ⟨hx, hb, hml, hown, hts⟩ (m_X1_fewestFrom 16 l D cy g σ  (0) (0) (0) (0) _ hJ (show (0 : Int) ≤ (0 : Int32).toInt ∧ (0 : Int32).toInt ≤ 16 from (by have z0 : (0 : Int32).toInt = 0 := (by decide); omega)) (show (0 : Int) ≤ (0 : Int32).toInt ∧ (0 : Int32).toInt ≤ 16 from (by have z0 : (0 : Int32).toInt = 0 := (by decide); omega)) (show (0 : Int) ≤ (0 : Int32).toInt ∧ (0 : Int32).toInt ≤ 16 from (by have z0 : (0 : Int32).toInt = 0 := (by decide); omega)) (show (0 : Int) ≤ (0 : Int32).toInt ∧ (0 : Int32).toInt ≤ 16 from (by have z0 : (0 : Int32).toInt = 0 := (by decide); omega)) (show (16 : Int) ≤ (0 : Int32).toInt + ((16 : Nat) : Int) from (by have z0 : (0 : Int32).toInt = 0 := (by decide); omega))) (cwV 4 hts (gd_V q1181 q1183 q39 q131 q1184) rfl rfl rfl (by decide +kernel) ⟨(Nat.le_of_ble_eq_true rfl), (Nat.le_of_ble_eq_true rfl)⟩) (pv8 hP hK hD hC hS (rv8_1 hK hP)) rfl rfl hl.1 rfl (lv_room (Nat.le_of_ble_eq_true rfl)) dX1_fewestLeft_5 ⟨Nat.le_of_ble_eq_true rfl, Nat.le_of_ble_eq_true rfl⟩) hS (fun q _ h => up8 hS q h) (up8 hS) (fun r1 σ2 tS H1 locs ht hvm hw3 hB hz1 hk1 hS => ?_)
  have hP : va_P D clz (WD8 cy g σ2) H1 := by rw [← ht]; exact hB
  clear hB hz1 hk1 hvm ht
  generalize H1 = H at hP hS ⊢
  have hF4 : Fr (fO [15]) σ σ2 := hw3.1
  have hJ5 : J8 σ2 := hw3.2.1
  refine lv_istore_n (lv' := [(1, .int r1), (0, .ref (gO g 15))]) hx hb dX1_fewestLeft_8 rfl hl (by decide) rfl (fun ls hl => ?_)
  refine lv_iload_n hx hb dX1_fewestLeft_9 rfl (lv_at hl 0 rfl) ?_
  refine lv_bipush (v := 63) hx hb dX1_fewestLeft_10 (by decide) ?_
  refine lv_icmp_lt (tgt := 19) hx hb dX1_fewestLeft_12 (by decide) (fun c6 => ?_) (fun c6 => ?_)
  ·
    have k7 := plt32 c6
    refine lv_iload_n hx hb dX1_fewestLeft_19 rfl (lv_at hl 0 rfl) ?_
    exact W.iret (v := r1) hx hb hr (fun tS ht hW => ⟨⟨r1, σ2, rfl, ⟨Fr.tr (Fr.rf) hF4 (fO_sub (fun _ q => q)), hJ5, (show (-2147483648 : Int) ≤ r1.toInt ∧ r1.toInt ≤ 62 from (by have f0 := k7; have g0 := rg32 r1; have z63 : (63 : Int32).toInt = 63 := (by decide); omega)), trivial⟩, (show va_P D clz (WD8 cy g σ2) tS.heap by rw [ht]; exact hP)⟩, hS.F ht⟩) hS.2.2 dX1_fewestLeft_20
  ·
    have k8 := nlt32 c6
    refine lv_iconst (v := (-1)) hx hb dX1_fewestLeft_15 (by decide) ?_
    refine lv_goto (tgt := 20) hx hb dX1_fewestLeft_16 (by decide) ?_
    exact W.iret (v := (-1)) hx hb hr (fun tS ht hW => ⟨⟨(-1), σ2, rfl, ⟨Fr.tr (Fr.rf) hF4 (fO_sub (fun _ q => q)), hJ5, (show (-2147483648 : Int) ≤ ((-1) : Int32).toInt ∧ ((-1) : Int32).toInt ≤ 62 from (by have zm1 : ((-1) : Int32).toInt = (-1) := (by decide); omega)), trivial⟩, (show va_P D clz (WD8 cy g σ2) tS.heap by rw [ht]; exact hP)⟩, hS.F ht⟩) hS.2.2 dX1_fewestLeft_20

theorem q1163 : Cond.code yX8_doubles cX8_doubles 3 (some .int) ∈ lw_g := lw_gm (List.mem_of_getElem? (i := 1163) (by decide +kernel)) rfl
theorem q1164 : Cond.methodLink RX8 332 yX8_isDouble ∈ lw_g := lw_gm (List.mem_of_getElem? (i := 1164) (by decide +kernel)) rfl
theorem q1166 : Cond.instanceMethod yX8_isDouble ∈ lw_g := lw_gm (List.mem_of_getElem? (i := 1166) (by decide +kernel)) rfl
theorem q38 : Cond.selects RX8 yX8_isDouble yX8_isDouble ∈ lw_g := lw_gm (List.mem_of_getElem? (i := 38) (by decide +kernel)) rfl
theorem q444 : Cond.fieldLink RX8 67 "LipsAndSlides" "turns" "LLipsAndSlides$Doubles;" ∈ lw_g := lw_gm (List.mem_of_getElem? (i := 444) (by decide +kernel)) rfl
theorem q1169 : Cond.methodLink RX8 335 yX1_aim ∈ lw_g := lw_gm (List.mem_of_getElem? (i := 1169) (by decide +kernel)) rfl
theorem q1170 : Cond.instanceMethod yX1_aim ∈ lw_g := lw_gm (List.mem_of_getElem? (i := 1170) (by decide +kernel)) rfl
theorem q1171 : Cond.selects RX1 yX1_aim yX1_aim ∈ lw_g := lw_gm (List.mem_of_getElem? (i := 1171) (by decide +kernel)) rfl
theorem q1177 : Cond.methodLink RX8 336 yX1_fewestLeft ∈ lw_g := lw_gm (List.mem_of_getElem? (i := 1177) (by decide +kernel)) rfl
theorem q1178 : Cond.instanceMethod yX1_fewestLeft ∈ lw_g := lw_gm (List.mem_of_getElem? (i := 1178) (by decide +kernel)) rfl
theorem q1179 : Cond.selects RX1 yX1_fewestLeft yX1_fewestLeft ∈ lw_g := lw_gm (List.mem_of_getElem? (i := 1179) (by decide +kernel)) rfl
theorem dX8_doubles_0 : decode cX8_doubles 0 = .ok (.aload_n 0, 1) := by decide +kernel
theorem dX8_doubles_1 : decode cX8_doubles 1 = .ok (.iload_n 1, 1) := by decide +kernel
theorem dX8_doubles_2 : decode cX8_doubles 2 = .ok (.invokevirtual 332, 3) := by decide +kernel
theorem dX8_doubles_5 : decode cX8_doubles 5 = .ok (.ifCond .eq 14, 3) := by decide +kernel
theorem dX8_doubles_8 : decode cX8_doubles 8 = .ok (.aload_n 0, 1) := by decide +kernel
theorem dX8_doubles_9 : decode cX8_doubles 9 = .ok (.getfield 19, 3) := by decide +kernel
theorem dX8_doubles_12 : decode cX8_doubles 12 = .ok (.iload_n 2, 1) := by decide +kernel
theorem dX8_doubles_13 : decode cX8_doubles 13 = .ok (.invokevirtual 142, 3) := by decide +kernel
theorem dX8_doubles_16 : decode cX8_doubles 16 = .ok (.ifCond .ne 6, 3) := by decide +kernel
theorem dX8_doubles_19 : decode cX8_doubles 19 = .ok (.bipush (-2), 2) := by decide +kernel
theorem dX8_doubles_21 : decode cX8_doubles 21 = .ok (.ireturn, 1) := by decide +kernel
theorem dX8_doubles_22 : decode cX8_doubles 22 = .ok (.aload_n 0, 1) := by decide +kernel
theorem dX8_doubles_23 : decode cX8_doubles 23 = .ok (.getfield 67, 3) := by decide +kernel
theorem dX8_doubles_26 : decode cX8_doubles 26 = .ok (.aload_n 0, 1) := by decide +kernel
theorem dX8_doubles_27 : decode cX8_doubles 27 = .ok (.getfield 19, 3) := by decide +kernel
theorem dX8_doubles_30 : decode cX8_doubles 30 = .ok (.iload_n 1, 1) := by decide +kernel
theorem dX8_doubles_31 : decode cX8_doubles 31 = .ok (.iload_n 2, 1) := by decide +kernel
theorem dX8_doubles_32 : decode cX8_doubles 32 = .ok (.invokevirtual 335, 3) := by decide +kernel
theorem dX8_doubles_35 : decode cX8_doubles 35 = .ok (.aload_n 0, 1) := by decide +kernel
theorem dX8_doubles_36 : decode cX8_doubles 36 = .ok (.getfield 67, 3) := by decide +kernel
theorem dX8_doubles_39 : decode cX8_doubles 39 = .ok (.invokevirtual 336, 3) := by decide +kernel
theorem dX8_doubles_42 : decode cX8_doubles 42 = .ok (.ireturn, 1) := by decide +kernel
set_option maxHeartbeats 4000000 in
set_option maxRecDepth 100000 in
theorem m_X8_doubles (l : Launch) (D : va_G) (cy : Nat → ClassId) (g : Nat → Nat) (σ : ST) (p1 : Int32) (p2 : Int32) (sz : Nat) (hJ : J8 σ)  : Met l yX8_doubles (ww yX8_doubles cX8_doubles 3 (some .int)) ({ frames := 36, cells := 0, slots := 0, locals := 2304 }) (va_Pc [.ref (gO g 17), .int p1, .int p2] (pr8 D cy g σ sz)) (qi8 D cy g sz (fun r τ => Fr (fO [15]) σ τ ∧ J8 τ ∧ ((-2147483648 : Int) ≤ r.toInt ∧ r.toInt ≤ 62) ∧ True)) 0 0 (A8 cy g sz) := by
  refine Met.ofW (cc := cX8_doubles) (maxL := 3) (ret := (some .int)) (by decide) rfl ?_
  intro p e s m args below meth c s₁ B hml hv
  obtain ⟨rfl, hsz, hP, hK, hD0, hC⟩ := hv
  have hx := B.exec
  have hb := B.bytes
  have hr := B.returns
  have hts := hts_g (atoms_spec (ws := ww yX8_doubles cX8_doubles 3 (some .int)) B.pre)
  have hown : s.vm.findClass RX8 = some m.cls := findClass_of_methodNamed B.named
  have hlocks := B.notSynchronized
  clear B
  subst hsz
  have hD := fun τ => A8_D (sz := s.heap.size) hD0 τ
  clear hD0
  have hS : va_S (A8 cy g s.heap.size) s.heap s.heap [] := va_S.rf
  have hl := lv_entry ([.ref (gO g 17), .int p1, .int p2]) (n := 3) (Nat.le_of_ble_eq_true rfl)
  rw [lg_entry_eq]
  generalize (lg_sl ([.ref (gO g 17), .int p1, .int p2]) ++ List.replicate (3 - (lg_sl ([.ref (gO g 17), .int p1, .int p2])).length) Slot.unset).toArray = ls at hl ⊢
  have hl : lv_has ls 3 [(0, .ref (gO g 17)), (1, .int p1), (2, .int p2)] := hl
  refine lv_aload_n hx hb dX8_doubles_0 rfl (lv_at hl 0 rfl) ?_
  refine lv_iload_n hx hb dX8_doubles_1 rfl (lv_at hl 1 rfl) ?_
  refine va_calli (va_runV (As := [.int p1]) (rest := []) ⟨hx, hb, hml, hown, hts⟩ (m_X8_isDouble l D cy g σ  p1 _ hJ ) (cwV 1 hts (gd_V q1164 q1166 q38 q125 q1167) rfl rfl rfl (by decide +kernel) ⟨(Nat.le_of_ble_eq_true rfl), (Nat.le_of_ble_eq_true rfl)⟩) (pv8 hP hK hD hC hS (rv8_8 hK hP)) rfl rfl hl.1 rfl (lv_room (Nat.le_of_ble_eq_true rfl)) dX8_doubles_2 ⟨Nat.le_of_ble_eq_true rfl, Nat.le_of_ble_eq_true rfl⟩) hS (fun q _ h => up8 hS q h) (up8 hS) (fun r1 σ2 tS H1 locs ht hvm hw3 hB hz1 hk1 hS => ?_)
  have hP : va_P D clz (WD8 cy g σ2) H1 := by rw [← ht]; exact hB
  clear hB hz1 hk1 hvm ht
  generalize H1 = H at hP hS ⊢
  have hw3E : σ = σ2 := (hw3.1).symm
  subst hw3E
  have b4 : (0 : Int) ≤ r1.toInt ∧ r1.toInt ≤ 1 := hw3.2.1
  refine lv_if_eq (tgt := 19) hx hb dX8_doubles_5 (by decide) (fun c5 => ?_) (fun c5 => ?_)
  ·
    have k6 := peq32 c5
    refine lv_bipush (v := (-2)) hx hb dX8_doubles_19 (by decide) ?_
    exact W.iret (v := (-2)) hx hb hr (fun tS ht hW => ⟨⟨(-2), σ, rfl, ⟨Fr.rf, hJ, (show (-2147483648 : Int) ≤ ((-2) : Int32).toInt ∧ ((-2) : Int32).toInt ≤ 62 from (by have zm2 : ((-2) : Int32).toInt = (-2) := (by decide); omega)), trivial⟩, (show va_P D clz (WD8 cy g σ) tS.heap by rw [ht]; exact hP)⟩, hS.F ht⟩) hS.2.2 dX8_doubles_21
  ·
    have k7 := neq32 c5
    refine lv_aload_n hx hb dX8_doubles_8 rfl (lv_at hl 0 rfl) ?_
    obtain ⟨dx8, edx8⟩ : ∃ z : Nat, ((σ 17).1 1).toInt.toNat = z := ⟨_, rfl⟩
    have hdx8 : 0 ≤ dx8 ∧ dx8 < 5 := mnow (by have f0 := j8_8_1 hJ rfl; omega) edx8
    refine g8_8_1 (o := dx8) hx hb hts hown hK hP edx8 (hts _ q435) dX8_doubles_9 ?_
    refine lv_iload_n hx hb dX8_doubles_12 rfl (lv_at hl 2 rfl) ?_
    refine va_calli (va_runV (As := [.int p2]) (rest := []) ⟨hx, hb, hml, hown, hts⟩ (m_X0_hasPart l D cy g σ  dx8 p2 _ hJ (show 0 ≤ dx8 ∧ dx8 < 5 from hdx8)) (cwV 1 hts (gd_V q738 q649 q650 q127 q651) rfl rfl rfl (by decide +kernel) ⟨(Nat.le_of_ble_eq_true rfl), (Nat.le_of_ble_eq_true rfl)⟩) (pv8 hP hK hD hC hS (rv8_0 hK hP hdx8)) rfl rfl hl.1 rfl (lv_room (Nat.le_of_ble_eq_true rfl)) dX8_doubles_13 ⟨Nat.le_of_ble_eq_true rfl, Nat.le_of_ble_eq_true rfl⟩) hS (fun q _ h => up8 hS q h) (up8 hS) (fun r9 σ10 tS H1 locs ht hvm hw11 hB hz1 hk1 hS => ?_)
    have hP : va_P D clz (WD8 cy g σ10) H1 := by rw [← ht]; exact hB
    clear hB hz1 hk1 hvm ht
    generalize H1 = H at hP hS ⊢
    have hw11E : σ = σ10 := (hw11.1).symm
    subst hw11E
    have b12 : (0 : Int) ≤ r9.toInt ∧ r9.toInt ≤ 1 := hw11.2.1
    have b13 : (r9.toInt = 0) ∨ ((0 : Int) ≤ p2.toInt ∧ p2.toInt ≤ 2) := hw11.2.2.1
    refine lv_if_ne (tgt := 22) hx hb dX8_doubles_16 (by decide) (fun c14 => ?_) (fun c14 => ?_)
    ·
      have k15 := neq32 c14
      refine lv_aload_n hx hb dX8_doubles_22 rfl (lv_at hl 0 rfl) ?_
      refine g8_8_10 hx hb hts hown hK hP (hts _ q444) dX8_doubles_23 ?_
      refine lv_aload_n hx hb dX8_doubles_26 rfl (lv_at hl 0 rfl) ?_
      refine g8_8_1 (o := dx8) hx hb hts hown hK hP edx8 (hts _ q435) dX8_doubles_27 ?_
      refine lv_iload_n hx hb dX8_doubles_30 rfl (lv_at hl 1 rfl) ?_
      refine lv_iload_n hx hb dX8_doubles_31 rfl (lv_at hl 2 rfl) ?_
      refine va_callv (va_runV (As := [.ref (gO g dx8), .int p1, .int p2]) (rest := []) ⟨hx, hb, hml, hown, hts⟩ (m_X1_aim l D cy g σ  dx8 p1 p2 _ hJ (show 0 ≤ dx8 ∧ dx8 < 5 from hdx8) (show (0 : Int) ≤ p2.toInt ∧ p2.toInt ≤ 2 from (by have f0 := b13; have f1 := b12; have f2 := k15; have g0 := rg32 p2; have z0 : (0 : Int32).toInt = 0 := (by decide); omega))) (cwV 3 hts (gd_V q1169 q1170 q1171 q131 q1172) rfl rfl rfl (by decide +kernel) ⟨(Nat.le_of_ble_eq_true rfl), (Nat.le_of_ble_eq_true rfl)⟩) (pv8 hP hK hD hC hS (rv8_1 hK hP)) rfl rfl hl.1 rfl (lv_room (Nat.le_of_ble_eq_true rfl)) dX8_doubles_32 ⟨Nat.le_of_ble_eq_true rfl, Nat.le_of_ble_eq_true rfl⟩) hS (fun q _ h => up8 hS q h) (up8 hS) (fun σ17 tS H1 locs ht hvm hw18 hB hz1 hk1 hS => ?_)
      have hP : va_P D clz (WD8 cy g σ17) H1 := by rw [← ht]; exact hB
      clear hB hz1 hk1 hvm ht
      generalize H1 = H at hP hS ⊢
      have hF19 : Fr (fO [15]) σ σ17 := hw18.1
      have hJ20 : J8 σ17 := hw18.2.1
      refine lv_aload_n hx hb dX8_doubles_35 rfl (lv_at hl 0 rfl) ?_
      refine g8_8_10 hx hb hts hown hK hP (hts _ q444) dX8_doubles_36 ?_
      refine va_calli (va_runV (As := []) (rest := []) ⟨hx, hb, hml, hown, hts⟩ (m_X1_fewestLeft l D cy g σ17   _ hJ20 ) (cwV 0 hts (gd_V q1177 q1178 q1179 q131 q1180) rfl rfl rfl (by decide +kernel) ⟨(Nat.le_of_ble_eq_true rfl), (Nat.le_of_ble_eq_true rfl)⟩) (pv8 hP hK hD hC hS (rv8_1 hK hP)) rfl rfl hl.1 rfl (lv_room (Nat.le_of_ble_eq_true rfl)) dX8_doubles_39 ⟨Nat.le_of_ble_eq_true rfl, Nat.le_of_ble_eq_true rfl⟩) hS (fun q _ h => up8 hS q h) (up8 hS) (fun r21 σ22 tS H1 locs ht hvm hw23 hB hz1 hk1 hS => ?_)
      have hP : va_P D clz (WD8 cy g σ22) H1 := by rw [← ht]; exact hB
      clear hB hz1 hk1 hvm ht
      generalize H1 = H at hP hS ⊢
      have hF24 : Fr (fO [15]) σ17 σ22 := hw23.1
      have hJ25 : J8 σ22 := hw23.2.1
      have b26 : (-2147483648 : Int) ≤ r21.toInt ∧ r21.toInt ≤ 62 := hw23.2.2.1
      exact W.iret (v := r21) hx hb hr (fun tS ht hW => ⟨⟨r21, σ22, rfl, ⟨Fr.tr (Fr.tr (Fr.rf) hF19 (fO_sub (fun _ q => q))) hF24 (fO_sub (fun _ q => q)), hJ25, (show (-2147483648 : Int) ≤ r21.toInt ∧ r21.toInt ≤ 62 from (by have f0 := b26; have g0 := rg32 r21; omega)), trivial⟩, (show va_P D clz (WD8 cy g σ22) tS.heap by rw [ht]; exact hP)⟩, hS.F ht⟩) hS.2.2 dX8_doubles_42
    ·
      have k27 := peq32 c14
      refine lv_bipush (v := (-2)) hx hb dX8_doubles_19 (by decide) ?_
      exact W.iret (v := (-2)) hx hb hr (fun tS ht hW => ⟨⟨(-2), σ, rfl, ⟨Fr.rf, hJ, (show (-2147483648 : Int) ≤ ((-2) : Int32).toInt ∧ ((-2) : Int32).toInt ≤ 62 from (by have zm2 : ((-2) : Int32).toInt = (-2) := (by decide); omega)), trivial⟩, (show va_P D clz (WD8 cy g σ) tS.heap by rw [ht]; exact hP)⟩, hS.F ht⟩) hS.2.2 dX8_doubles_21

theorem q1212 : Cond.code yX1_firstLeaver cX1_firstLeaver 7 (some .int) ∈ lw_g := lw_gm (List.mem_of_getElem? (i := 1212) (by decide +kernel)) rfl
theorem dX1_firstLeaver_0 : decode cX1_firstLeaver 0 = .ok (.aload_n 0, 1) := by decide +kernel
theorem dX1_firstLeaver_1 : decode cX1_firstLeaver 1 = .ok (.getfield 21, 3) := by decide +kernel
theorem dX1_firstLeaver_4 : decode cX1_firstLeaver 4 = .ok (.iload_n 1, 1) := by decide +kernel
theorem dX1_firstLeaver_5 : decode cX1_firstLeaver 5 = .ok (.iaload, 1) := by decide +kernel
theorem dX1_firstLeaver_6 : decode cX1_firstLeaver 6 = .ok (.iconst 1, 1) := by decide +kernel
theorem dX1_firstLeaver_7 : decode cX1_firstLeaver 7 = .ok (.if_icmp .ne 5, 3) := by decide +kernel
theorem dX1_firstLeaver_10 : decode cX1_firstLeaver 10 = .ok (.iconst (-1), 1) := by decide +kernel
theorem dX1_firstLeaver_11 : decode cX1_firstLeaver 11 = .ok (.ireturn, 1) := by decide +kernel
theorem dX1_firstLeaver_12 : decode cX1_firstLeaver 12 = .ok (.iconst (-1), 1) := by decide +kernel
theorem dX1_firstLeaver_13 : decode cX1_firstLeaver 13 = .ok (.istore 6, 2) := by decide +kernel
theorem dX1_firstLeaver_15 : decode cX1_firstLeaver 15 = .ok (.iload 6, 2) := by decide +kernel
theorem dX1_firstLeaver_17 : decode cX1_firstLeaver 17 = .ok (.aload_n 0, 1) := by decide +kernel
theorem dX1_firstLeaver_18 : decode cX1_firstLeaver 18 = .ok (.invokevirtual 69, 3) := by decide +kernel
theorem dX1_firstLeaver_21 : decode cX1_firstLeaver 21 = .ok (.if_icmp .ge 28, 3) := by decide +kernel
theorem dX1_firstLeaver_24 : decode cX1_firstLeaver 24 = .ok (.aload_n 0, 1) := by decide +kernel
theorem dX1_firstLeaver_25 : decode cX1_firstLeaver 25 = .ok (.iload_n 1, 1) := by decide +kernel
theorem dX1_firstLeaver_26 : decode cX1_firstLeaver 26 = .ok (.iload_n 2, 1) := by decide +kernel
theorem dX1_firstLeaver_27 : decode cX1_firstLeaver 27 = .ok (.iload_n 3, 1) := by decide +kernel
theorem dX1_firstLeaver_28 : decode cX1_firstLeaver 28 = .ok (.iload 4, 2) := by decide +kernel
theorem dX1_firstLeaver_30 : decode cX1_firstLeaver 30 = .ok (.iload 6, 2) := by decide +kernel
theorem dX1_firstLeaver_32 : decode cX1_firstLeaver 32 = .ok (.invokevirtual 73, 3) := by decide +kernel
theorem dX1_firstLeaver_35 : decode cX1_firstLeaver 35 = .ok (.iload 5, 2) := by decide +kernel
theorem dX1_firstLeaver_37 : decode cX1_firstLeaver 37 = .ok (.if_icmp .ne 6, 3) := by decide +kernel
theorem dX1_firstLeaver_40 : decode cX1_firstLeaver 40 = .ok (.iload 6, 2) := by decide +kernel
theorem dX1_firstLeaver_42 : decode cX1_firstLeaver 42 = .ok (.ireturn, 1) := by decide +kernel
theorem dX1_firstLeaver_43 : decode cX1_firstLeaver 43 = .ok (.iinc 6 1, 3) := by decide +kernel
theorem dX1_firstLeaver_46 : decode cX1_firstLeaver 46 = .ok (.goto (-31), 3) := by decide +kernel
theorem dX1_firstLeaver_49 : decode cX1_firstLeaver 49 = .ok (.iconst (-1), 1) := by decide +kernel
theorem dX1_firstLeaver_50 : decode cX1_firstLeaver 50 = .ok (.ireturn, 1) := by decide +kernel
set_option maxHeartbeats 4000000 in
set_option maxRecDepth 100000 in
theorem m_X1_firstLeaver (l : Launch) (D : va_G) (cy : Nat → ClassId) (g : Nat → Nat) (σ : ST) (p1 : Int32) (p2 : Int32) (p3 : Int32) (p4 : Int32) (p5 : Int32) (sz : Nat) (hJ : J8 σ) (h0 : (0 : Int) ≤ p1.toInt ∧ p1.toInt ≤ 15) (h1 : (0 : Int) ≤ p2.toInt ∧ p2.toInt ≤ 16) (h2 : (0 : Int) ≤ p3.toInt ∧ p3.toInt ≤ 16) (h3 : (0 : Int) ≤ p4.toInt ∧ p4.toInt ≤ 16) : Met l yX1_firstLeaver (ww yX1_firstLeaver cX1_firstLeaver 7 (some .int)) ({ frames := 36, cells := 0, slots := 0, locals := 2304 }) (va_Pc [.ref (gO g 15), .int p1, .int p2, .int p3, .int p4, .int p5] (pr8 D cy g σ sz)) (qi8 D cy g sz (fun r τ => Fr (fO [15]) σ τ ∧ J8 τ ∧ ((-1 : Int) ≤ r.toInt ∧ r.toInt ≤ 2) ∧ True)) 0 0 (A8 cy g sz) := by
  refine Met.ofW (cc := cX1_firstLeaver) (maxL := 7) (ret := (some .int)) (by decide) rfl ?_
  intro p e s m args below meth c s₁ B hml hv
  obtain ⟨rfl, hsz, hP, hK, hD0, hC⟩ := hv
  have hx := B.exec
  have hb := B.bytes
  have hr := B.returns
  have hts := hts_g (atoms_spec (ws := ww yX1_firstLeaver cX1_firstLeaver 7 (some .int)) B.pre)
  have hown : s.vm.findClass RX1 = some m.cls := findClass_of_methodNamed B.named
  have hlocks := B.notSynchronized
  clear B
  subst hsz
  have hD := fun τ => A8_D (sz := s.heap.size) hD0 τ
  clear hD0
  have hS : va_S (A8 cy g s.heap.size) s.heap s.heap [] := va_S.rf
  have hl := lv_entry ([.ref (gO g 15), .int p1, .int p2, .int p3, .int p4, .int p5]) (n := 7) (Nat.le_of_ble_eq_true rfl)
  rw [lg_entry_eq]
  generalize (lg_sl ([.ref (gO g 15), .int p1, .int p2, .int p3, .int p4, .int p5]) ++ List.replicate (7 - (lg_sl ([.ref (gO g 15), .int p1, .int p2, .int p3, .int p4, .int p5])).length) Slot.unset).toArray = ls at hl ⊢
  have hl : lv_has ls 7 [(0, .ref (gO g 15)), (1, .int p1), (2, .int p2), (3, .int p3), (4, .int p4), (5, .int p5)] := hl
  refine lv_aload_n hx hb dX1_firstLeaver_0 rfl (lv_at hl 0 rfl) ?_
  refine g8_1_6 hx hb hts hown hK hP (hts _ q373) dX1_firstLeaver_1 ?_
  refine lv_iload_n hx hb dX1_firstLeaver_4 rfl (lv_at hl 1 rfl) ?_
  obtain ⟨x1, ex1⟩ : ∃ z, (σ 15).2.2.1 6 p1.toInt.toNat = z := ⟨_, rfl⟩
  refine l8_1_6 (x := x1) hx hb hK hP (vpo (by have f0 := h0; have g0 := rg32 p1; omega)) ex1 dX1_firstLeaver_5 ?_
  refine lv_iconst (v := 1) hx hb dX1_firstLeaver_6 (by decide) ?_
  refine lv_icmp_ne (tgt := 12) hx hb dX1_firstLeaver_7 (by decide) (fun c2 => ?_) (fun c2 => ?_)
  ·
    have k3 := neq32 c2
    refine lv_iconst (v := (-1)) hx hb dX1_firstLeaver_12 (by decide) ?_
    refine lv_istore (lv' := [(6, .int (-1)), (0, .ref (gO g 15)), (1, .int p1), (2, .int p2), (3, .int p3), (4, .int p4), (5, .int p5)]) hx hb dX1_firstLeaver_13 hl (by decide) rfl (fun ls hl => ?_)
    refine loop8 7 15 (fun x : LZ => [(6, .int (x.2.1 0)), (0, .ref (gO g 15)), (1, .int p1), (2, .int p2), (3, .int p3), (4, .int p4), (5, .int p5)]) (fun x : LZ => (Fr (fO [15]) σ x.1) ∧ (J8 x.1) ∧ ((-1 : Int) ≤ (x.2.1 0).toInt ∧ (x.2.1 0).toInt ≤ 3) ∧ True) (fun x : LZ => ((4 : Int) - (x.2.1 0).toInt).toNat) ?_ (σ, lf [(-1)], lg []) ⟨Fr.rf, hJ, (show (-1 : Int) ≤ ((-1) : Int32).toInt ∧ ((-1) : Int32).toInt ≤ 3 from (by have zm1 : ((-1) : Int32).toInt = (-1) := (by decide); omega)), trivial⟩ _ _ _ hP hS (lv_sub hl [0, 1, 2, 3, 4, 5, 6] rfl)
    intro y6 hI5 nl4 H locs ls hP hS hl
    obtain ⟨σ7, eσ7⟩ : ∃ z, z = y6.1 := ⟨_, rfl⟩
    rw [← eσ7] at hP hI5
    have hF8 : Fr (fO [15]) σ σ7 := hI5.1
    have hJ9 : J8 σ7 := hI5.2.1
    have b10 : (-1 : Int) ≤ (y6.2.1 0).toInt ∧ (y6.2.1 0).toInt ≤ 3 := hI5.2.2.1
    have hl : lv_has ls 7 [(6, .int (y6.2.1 0)), (0, .ref (gO g 15)), (1, .int p1), (2, .int p2), (3, .int p3), (4, .int p4), (5, .int p5)] := hl
    refine lv_iload hx hb dX1_firstLeaver_15 (lv_at hl 0 rfl) ?_
    refine lv_aload_n hx hb dX1_firstLeaver_17 rfl (lv_at hl 1 rfl) ?_
    refine va_calli (va_runV (As := []) (rest := [.int (y6.2.1 0)]) ⟨hx, hb, hml, hown, hts⟩ (m_X1_mostLeaving l D cy g σ7   _ hJ9 ) (cwV 0 hts (gd_V q1188 q1190 q40 q131 q1191) rfl rfl rfl (by decide +kernel) ⟨(Nat.le_of_ble_eq_true rfl), (Nat.le_of_ble_eq_true rfl)⟩) (pv8 hP hK hD hC hS (rv8_1 hK hP)) rfl rfl hl.1 rfl (lv_room (Nat.le_of_ble_eq_true rfl)) dX1_firstLeaver_18 ⟨Nat.le_of_ble_eq_true rfl, Nat.le_of_ble_eq_true rfl⟩) hS (fun q _ h => up8 hS q h) (up8 hS) (fun r11 σ12 tS H1 locs ht hvm hw13 hB hz1 hk1 hS => ?_)
    have hP : va_P D clz (WD8 cy g σ12) H1 := by rw [← ht]; exact hB
    clear hB hz1 hk1 hvm ht
    generalize H1 = H at hP hS ⊢
    have hw13E : σ7 = σ12 := (hw13.1).symm
    subst hw13E
    have b14 : (0 : Int) ≤ r11.toInt ∧ r11.toInt ≤ 3 := hw13.2.1
    refine lv_icmp_ge (tgt := 49) hx hb dX1_firstLeaver_21 (by decide) (fun c15 => ?_) (fun c15 => ?_)
    ·
      have k16 := ple32 c15
      refine lv_iconst (v := (-1)) hx hb dX1_firstLeaver_49 (by decide) ?_
      exact W.iret (v := (-1)) hx hb hr (fun tS ht hW => ⟨⟨(-1), σ7, rfl, ⟨Fr.tr (Fr.rf) hF8 (fO_sub (fun _ q => q)), hJ9, (show (-1 : Int) ≤ ((-1) : Int32).toInt ∧ ((-1) : Int32).toInt ≤ 2 from (by have zm1 : ((-1) : Int32).toInt = (-1) := (by decide); omega)), trivial⟩, (show va_P D clz (WD8 cy g σ7) tS.heap by rw [ht]; exact hP)⟩, hS.F ht⟩) hS.2.2 dX1_firstLeaver_50
    ·
      have k17 := nle32 c15
      refine lv_aload_n hx hb dX1_firstLeaver_24 rfl (lv_at hl 1 rfl) ?_
      refine lv_iload_n hx hb dX1_firstLeaver_25 rfl (lv_at hl 2 rfl) ?_
      refine lv_iload_n hx hb dX1_firstLeaver_26 rfl (lv_at hl 3 rfl) ?_
      refine lv_iload_n hx hb dX1_firstLeaver_27 rfl (lv_at hl 4 rfl) ?_
      refine lv_iload hx hb dX1_firstLeaver_28 (lv_at hl 5 rfl) ?_
      refine lv_iload hx hb dX1_firstLeaver_30 (lv_at hl 0 rfl) ?_
      refine va_calli (va_runV (As := [.int p1, .int p2, .int p3, .int p4, .int (y6.2.1 0)]) (rest := []) ⟨hx, hb, hml, hown, hts⟩ (m_X1_fewestWith 16 (m_X1_fewestFrom 16) l D cy g σ7  p1 p2 p3 p4 (y6.2.1 0) _ hJ9 (show (0 : Int) ≤ p1.toInt ∧ p1.toInt ≤ 15 from (by have f0 := h0; have g0 := rg32 p1; omega)) (show (0 : Int) ≤ p2.toInt ∧ p2.toInt ≤ 16 from (by have f0 := h0; have f1 := h1; have g0 := rg32 p1; have g1 := rg32 p2; omega)) (show (0 : Int) ≤ p3.toInt ∧ p3.toInt ≤ 16 from (by have f0 := h0; have f1 := h1; have f2 := h2; have g0 := rg32 p1; have g1 := rg32 p2; have g2 := rg32 p3; omega)) (show (0 : Int) ≤ p4.toInt ∧ p4.toInt ≤ 16 from (by have f0 := h0; have f1 := h1; have f2 := h2; have f3 := h3; have g0 := rg32 p1; have g1 := rg32 p2; have g2 := rg32 p3; have g3 := rg32 p4; omega)) (show (-1 : Int) ≤ (y6.2.1 0).toInt ∧ (y6.2.1 0).toInt ≤ 2 from (by have f0 := h0; have f1 := h1; have f2 := h2; have f3 := h3; have f4 := b10; have f5 := k17; have f6 := b14; have g0 := rg32 (y6.2.1 0); have g1 := rg32 p1; have g2 := rg32 p2; have g3 := rg32 p3; have g4 := rg32 p4; omega)) (show (15 : Int) ≤ p1.toInt + ((16 : Nat) : Int) from (by have f0 := h0; have f1 := h1; have f2 := h2; have f3 := h3; have f4 := b10; have f5 := k17; have f6 := b14; have g0 := rg32 (y6.2.1 0); have g1 := rg32 p1; have g2 := rg32 p2; have g3 := rg32 p3; have g4 := rg32 p4; omega))) (cwV 5 hts (gd_V q1192 q1194 q41 q131 q1195) rfl rfl rfl (by decide +kernel) ⟨(Nat.le_of_ble_eq_true rfl), (Nat.le_of_ble_eq_true rfl)⟩) (pv8 hP hK hD hC hS (rv8_1 hK hP)) rfl rfl hl.1 rfl (lv_room (Nat.le_of_ble_eq_true rfl)) dX1_firstLeaver_32 ⟨Nat.le_of_ble_eq_true rfl, Nat.le_of_ble_eq_true rfl⟩) hS (fun q _ h => up8 hS q h) (up8 hS) (fun r18 σ19 tS H1 locs ht hvm hw20 hB hz1 hk1 hS => ?_)
      have hP : va_P D clz (WD8 cy g σ19) H1 := by rw [← ht]; exact hB
      clear hB hz1 hk1 hvm ht
      generalize H1 = H at hP hS ⊢
      have hF21 : Fr (fO [15]) σ7 σ19 := hw20.1
      have hJ22 : J8 σ19 := hw20.2.1
      have b23 : (-2147483648 : Int) ≤ r18.toInt ∧ r18.toInt ≤ 63 := hw20.2.2.1
      refine lv_iload hx hb dX1_firstLeaver_35 (lv_at hl 6 rfl) ?_
      refine lv_icmp_ne (tgt := 43) hx hb dX1_firstLeaver_37 (by decide) (fun c24 => ?_) (fun c24 => ?_)
      ·
        have k25 := neq32 c24
        obtain ⟨x26, ex26⟩ : ∃ y : Int32, y = (y6.2.1 0) + 1 := ⟨_, rfl⟩
        have t27 := addO ex26 (by have f0 := b10; have f1 := k17; have f2 := b14; have g0 := rg32 (y6.2.1 0); have z1 : (1 : Int32).toInt = 1 := (by decide); omega)
        refine lv_iinc (v := x26) (lv' := [(6, .int x26), (0, .ref (gO g 15)), (1, .int p1), (2, .int p2), (3, .int p3), (4, .int p4), (5, .int p5)]) hx hb dX1_firstLeaver_43 hl (k := 0) rfl (by rw [ex26]; rfl) (by decide) rfl (fun ls hl => ?_)
        refine lv_goto (tgt := 15) hx hb dX1_firstLeaver_46 (by decide) ?_
        have t28 : ((4 : Int) - x26.toInt).toNat < ((4 : Int) - (y6.2.1 0).toInt).toNat := (by have f0 := b10; have f1 := k17; have f2 := t27; have f3 := b14; have g0 := rg32 (y6.2.1 0); have g1 := rg32 x26; have z1 : (1 : Int32).toInt = 1 := (by decide); omega)
        exact nl4 (σ19, lf [x26], lg []) ⟨Fr.tr (Fr.tr (Fr.rf) hF8 (fO_sub (fun _ q => q))) hF21 (fO_sub (fun _ q => q)), hJ22, (show (-1 : Int) ≤ (x26 : Int32).toInt ∧ (x26 : Int32).toInt ≤ 3 from (by have f0 := t27; have f1 := b10; have f2 := k17; have f3 := b14; have g0 := rg32 x26; have z1 : (1 : Int32).toInt = 1 := (by decide); omega)), trivial⟩ (show ((4 : Int) - x26.toInt).toNat < _ from by first | exact t28 | (rw [← eσ7]; exact t28)) _ _ _ hP hS (lv_sub hl [0, 1, 2, 3, 4, 5, 6] rfl)
      ·
        have k29 := peq32 c24
        refine lv_iload hx hb dX1_firstLeaver_40 (lv_at hl 0 rfl) ?_
        exact W.iret (v := (y6.2.1 0)) hx hb hr (fun tS ht hW => ⟨⟨(y6.2.1 0), σ19, rfl, ⟨Fr.tr (Fr.tr (Fr.rf) hF8 (fO_sub (fun _ q => q))) hF21 (fO_sub (fun _ q => q)), hJ22, (show (-1 : Int) ≤ (y6.2.1 0).toInt ∧ (y6.2.1 0).toInt ≤ 2 from (by have f0 := b10; have f1 := k17; have f2 := b14; have g0 := rg32 (y6.2.1 0); omega)), trivial⟩, (show va_P D clz (WD8 cy g σ19) tS.heap by rw [ht]; exact hP)⟩, hS.F ht⟩) hS.2.2 dX1_firstLeaver_42
  ·
    have k30 := peq32 c2
    refine lv_iconst (v := (-1)) hx hb dX1_firstLeaver_10 (by decide) ?_
    exact W.iret (v := (-1)) hx hb hr (fun tS ht hW => ⟨⟨(-1), σ, rfl, ⟨Fr.rf, hJ, (show (-1 : Int) ≤ ((-1) : Int32).toInt ∧ ((-1) : Int32).toInt ≤ 2 from (by have zm1 : ((-1) : Int32).toInt = (-1) := (by decide); omega)), trivial⟩, (show va_P D clz (WD8 cy g σ) tS.heap by rw [ht]; exact hP)⟩, hS.F ht⟩) hS.2.2 dX1_firstLeaver_11

theorem q1208 : Cond.code yX1_findOrder cX1_findOrder 7 (some .boolean) ∈ lw_g := lw_gm (List.mem_of_getElem? (i := 1208) (by decide +kernel)) rfl
theorem q1209 : Cond.methodLink RX1 65 yX1_firstLeaver ∈ lw_g := lw_gm (List.mem_of_getElem? (i := 1209) (by decide +kernel)) rfl
theorem q1211 : Cond.instanceMethod yX1_firstLeaver ∈ lw_g := lw_gm (List.mem_of_getElem? (i := 1211) (by decide +kernel)) rfl
theorem q43 : Cond.selects RX1 yX1_firstLeaver yX1_firstLeaver ∈ lw_g := lw_gm (List.mem_of_getElem? (i := 43) (by decide +kernel)) rfl
theorem q374 : Cond.fieldLink RX1 24 "LipsAndSlides$Doubles" "leaver" "[I" ∈ lw_g := lw_gm (List.mem_of_getElem? (i := 374) (by decide +kernel)) rfl
theorem dX1_findOrder_0 : decode cX1_findOrder 0 = .ok (.aload_n 0, 1) := by decide +kernel
theorem dX1_findOrder_1 : decode cX1_findOrder 1 = .ok (.iconst 0, 1) := by decide +kernel
theorem dX1_findOrder_2 : decode cX1_findOrder 2 = .ok (.iconst 0, 1) := by decide +kernel
theorem dX1_findOrder_3 : decode cX1_findOrder 3 = .ok (.iconst 0, 1) := by decide +kernel
theorem dX1_findOrder_4 : decode cX1_findOrder 4 = .ok (.iconst 0, 1) := by decide +kernel
theorem dX1_findOrder_5 : decode cX1_findOrder 5 = .ok (.invokevirtual 61, 3) := by decide +kernel
theorem dX1_findOrder_8 : decode cX1_findOrder 8 = .ok (.istore_n 1, 1) := by decide +kernel
theorem dX1_findOrder_9 : decode cX1_findOrder 9 = .ok (.iload_n 1, 1) := by decide +kernel
theorem dX1_findOrder_10 : decode cX1_findOrder 10 = .ok (.bipush 63, 2) := by decide +kernel
theorem dX1_findOrder_12 : decode cX1_findOrder 12 = .ok (.if_icmp .lt 5, 3) := by decide +kernel
theorem dX1_findOrder_15 : decode cX1_findOrder 15 = .ok (.iconst 0, 1) := by decide +kernel
theorem dX1_findOrder_16 : decode cX1_findOrder 16 = .ok (.ireturn, 1) := by decide +kernel
theorem dX1_findOrder_17 : decode cX1_findOrder 17 = .ok (.iconst 0, 1) := by decide +kernel
theorem dX1_findOrder_18 : decode cX1_findOrder 18 = .ok (.istore_n 2, 1) := by decide +kernel
theorem dX1_findOrder_19 : decode cX1_findOrder 19 = .ok (.iconst 0, 1) := by decide +kernel
theorem dX1_findOrder_20 : decode cX1_findOrder 20 = .ok (.istore_n 3, 1) := by decide +kernel
theorem dX1_findOrder_21 : decode cX1_findOrder 21 = .ok (.iconst 0, 1) := by decide +kernel
theorem dX1_findOrder_22 : decode cX1_findOrder 22 = .ok (.istore 4, 2) := by decide +kernel
theorem dX1_findOrder_24 : decode cX1_findOrder 24 = .ok (.iconst 0, 1) := by decide +kernel
theorem dX1_findOrder_25 : decode cX1_findOrder 25 = .ok (.istore 5, 2) := by decide +kernel
theorem dX1_findOrder_27 : decode cX1_findOrder 27 = .ok (.iload 5, 2) := by decide +kernel
theorem dX1_findOrder_29 : decode cX1_findOrder 29 = .ok (.aload_n 0, 1) := by decide +kernel
theorem dX1_findOrder_30 : decode cX1_findOrder 30 = .ok (.getfield 47, 3) := by decide +kernel
theorem dX1_findOrder_33 : decode cX1_findOrder 33 = .ok (.if_icmp .ge 154, 3) := by decide +kernel
theorem dX1_findOrder_36 : decode cX1_findOrder 36 = .ok (.iload 5, 2) := by decide +kernel
theorem dX1_findOrder_38 : decode cX1_findOrder 38 = .ok (.bipush 16, 2) := by decide +kernel
theorem dX1_findOrder_40 : decode cX1_findOrder 40 = .ok (.if_icmp .ge 147, 3) := by decide +kernel
theorem dX1_findOrder_43 : decode cX1_findOrder 43 = .ok (.aload_n 0, 1) := by decide +kernel
theorem dX1_findOrder_44 : decode cX1_findOrder 44 = .ok (.iload 5, 2) := by decide +kernel
theorem dX1_findOrder_46 : decode cX1_findOrder 46 = .ok (.iload_n 2, 1) := by decide +kernel
theorem dX1_findOrder_47 : decode cX1_findOrder 47 = .ok (.iload_n 3, 1) := by decide +kernel
theorem dX1_findOrder_48 : decode cX1_findOrder 48 = .ok (.iload 4, 2) := by decide +kernel
theorem dX1_findOrder_50 : decode cX1_findOrder 50 = .ok (.iload_n 1, 1) := by decide +kernel
theorem dX1_findOrder_51 : decode cX1_findOrder 51 = .ok (.invokevirtual 65, 3) := by decide +kernel
theorem dX1_findOrder_54 : decode cX1_findOrder 54 = .ok (.istore 6, 2) := by decide +kernel
theorem dX1_findOrder_56 : decode cX1_findOrder 56 = .ok (.aload_n 0, 1) := by decide +kernel
theorem dX1_findOrder_57 : decode cX1_findOrder 57 = .ok (.getfield 24, 3) := by decide +kernel
theorem dX1_findOrder_60 : decode cX1_findOrder 60 = .ok (.iload 5, 2) := by decide +kernel
theorem dX1_findOrder_62 : decode cX1_findOrder 62 = .ok (.iload 6, 2) := by decide +kernel
theorem dX1_findOrder_64 : decode cX1_findOrder 64 = .ok (.ifCond .lt 22, 3) := by decide +kernel
theorem dX1_findOrder_67 : decode cX1_findOrder 67 = .ok (.iload 6, 2) := by decide +kernel
theorem dX1_findOrder_69 : decode cX1_findOrder 69 = .ok (.aload_n 0, 1) := by decide +kernel
theorem dX1_findOrder_70 : decode cX1_findOrder 70 = .ok (.getfield 30, 3) := by decide +kernel
theorem dX1_findOrder_73 : decode cX1_findOrder 73 = .ok (.if_icmp .ge 13, 3) := by decide +kernel
theorem dX1_findOrder_76 : decode cX1_findOrder 76 = .ok (.aload_n 0, 1) := by decide +kernel
theorem dX1_findOrder_77 : decode cX1_findOrder 77 = .ok (.getfield 9, 3) := by decide +kernel
theorem dX1_findOrder_80 : decode cX1_findOrder 80 = .ok (.iload 6, 2) := by decide +kernel
theorem dX1_findOrder_82 : decode cX1_findOrder 82 = .ok (.iaload, 1) := by decide +kernel
theorem dX1_findOrder_83 : decode cX1_findOrder 83 = .ok (.goto 4, 3) := by decide +kernel
theorem dX1_findOrder_86 : decode cX1_findOrder 86 = .ok (.iconst (-1), 1) := by decide +kernel
theorem dX1_findOrder_87 : decode cX1_findOrder 87 = .ok (.iastore, 1) := by decide +kernel
theorem dX1_findOrder_88 : decode cX1_findOrder 88 = .ok (.aload_n 0, 1) := by decide +kernel
theorem dX1_findOrder_89 : decode cX1_findOrder 89 = .ok (.getfield 21, 3) := by decide +kernel
theorem dX1_findOrder_92 : decode cX1_findOrder 92 = .ok (.iload 5, 2) := by decide +kernel
theorem dX1_findOrder_94 : decode cX1_findOrder 94 = .ok (.iaload, 1) := by decide +kernel
theorem dX1_findOrder_95 : decode cX1_findOrder 95 = .ok (.iconst 1, 1) := by decide +kernel
theorem dX1_findOrder_96 : decode cX1_findOrder 96 = .ok (.if_icmp .eq 8, 3) := by decide +kernel
theorem dX1_findOrder_99 : decode cX1_findOrder 99 = .ok (.iload 6, 2) := by decide +kernel
theorem dX1_findOrder_101 : decode cX1_findOrder 101 = .ok (.ifCond .ne 10, 3) := by decide +kernel
theorem dX1_findOrder_104 : decode cX1_findOrder 104 = .ok (.iload 5, 2) := by decide +kernel
theorem dX1_findOrder_106 : decode cX1_findOrder 106 = .ok (.iconst 1, 1) := by decide +kernel
theorem dX1_findOrder_107 : decode cX1_findOrder 107 = .ok (.iadd, 1) := by decide +kernel
theorem dX1_findOrder_108 : decode cX1_findOrder 108 = .ok (.goto 4, 3) := by decide +kernel
theorem dX1_findOrder_111 : decode cX1_findOrder 111 = .ok (.iload_n 2, 1) := by decide +kernel
theorem dX1_findOrder_112 : decode cX1_findOrder 112 = .ok (.istore_n 2, 1) := by decide +kernel
theorem dX1_findOrder_113 : decode cX1_findOrder 113 = .ok (.aload_n 0, 1) := by decide +kernel
theorem dX1_findOrder_114 : decode cX1_findOrder 114 = .ok (.getfield 21, 3) := by decide +kernel
theorem dX1_findOrder_117 : decode cX1_findOrder 117 = .ok (.iload 5, 2) := by decide +kernel
theorem dX1_findOrder_119 : decode cX1_findOrder 119 = .ok (.iaload, 1) := by decide +kernel
theorem dX1_findOrder_120 : decode cX1_findOrder 120 = .ok (.iconst 1, 1) := by decide +kernel
theorem dX1_findOrder_121 : decode cX1_findOrder 121 = .ok (.if_icmp .eq 9, 3) := by decide +kernel
theorem dX1_findOrder_124 : decode cX1_findOrder 124 = .ok (.iload 6, 2) := by decide +kernel
theorem dX1_findOrder_126 : decode cX1_findOrder 126 = .ok (.iconst 1, 1) := by decide +kernel
theorem dX1_findOrder_127 : decode cX1_findOrder 127 = .ok (.if_icmp .ne 10, 3) := by decide +kernel
theorem dX1_findOrder_130 : decode cX1_findOrder 130 = .ok (.iload 5, 2) := by decide +kernel
theorem dX1_findOrder_132 : decode cX1_findOrder 132 = .ok (.iconst 1, 1) := by decide +kernel
theorem dX1_findOrder_133 : decode cX1_findOrder 133 = .ok (.iadd, 1) := by decide +kernel
theorem dX1_findOrder_134 : decode cX1_findOrder 134 = .ok (.goto 4, 3) := by decide +kernel
theorem dX1_findOrder_137 : decode cX1_findOrder 137 = .ok (.iload_n 3, 1) := by decide +kernel
theorem dX1_findOrder_138 : decode cX1_findOrder 138 = .ok (.istore_n 3, 1) := by decide +kernel
theorem dX1_findOrder_139 : decode cX1_findOrder 139 = .ok (.aload_n 0, 1) := by decide +kernel
theorem dX1_findOrder_140 : decode cX1_findOrder 140 = .ok (.getfield 21, 3) := by decide +kernel
theorem dX1_findOrder_143 : decode cX1_findOrder 143 = .ok (.iload 5, 2) := by decide +kernel
theorem dX1_findOrder_145 : decode cX1_findOrder 145 = .ok (.iaload, 1) := by decide +kernel
theorem dX1_findOrder_146 : decode cX1_findOrder 146 = .ok (.iconst 1, 1) := by decide +kernel
theorem dX1_findOrder_147 : decode cX1_findOrder 147 = .ok (.if_icmp .eq 9, 3) := by decide +kernel
theorem dX1_findOrder_150 : decode cX1_findOrder 150 = .ok (.iload 6, 2) := by decide +kernel
theorem dX1_findOrder_152 : decode cX1_findOrder 152 = .ok (.iconst 2, 1) := by decide +kernel
theorem dX1_findOrder_153 : decode cX1_findOrder 153 = .ok (.if_icmp .ne 10, 3) := by decide +kernel
theorem dX1_findOrder_156 : decode cX1_findOrder 156 = .ok (.iload 5, 2) := by decide +kernel
theorem dX1_findOrder_158 : decode cX1_findOrder 158 = .ok (.iconst 1, 1) := by decide +kernel
theorem dX1_findOrder_159 : decode cX1_findOrder 159 = .ok (.iadd, 1) := by decide +kernel
theorem dX1_findOrder_160 : decode cX1_findOrder 160 = .ok (.goto 5, 3) := by decide +kernel
theorem dX1_findOrder_163 : decode cX1_findOrder 163 = .ok (.iload 4, 2) := by decide +kernel
theorem dX1_findOrder_165 : decode cX1_findOrder 165 = .ok (.istore 4, 2) := by decide +kernel
theorem dX1_findOrder_167 : decode cX1_findOrder 167 = .ok (.iload 6, 2) := by decide +kernel
theorem dX1_findOrder_169 : decode cX1_findOrder 169 = .ok (.iconst (-1), 1) := by decide +kernel
theorem dX1_findOrder_170 : decode cX1_findOrder 170 = .ok (.if_icmp .ne 7, 3) := by decide +kernel
theorem dX1_findOrder_173 : decode cX1_findOrder 173 = .ok (.iload_n 1, 1) := by decide +kernel
theorem dX1_findOrder_174 : decode cX1_findOrder 174 = .ok (.goto 6, 3) := by decide +kernel
theorem dX1_findOrder_177 : decode cX1_findOrder 177 = .ok (.iload_n 1, 1) := by decide +kernel
theorem dX1_findOrder_178 : decode cX1_findOrder 178 = .ok (.iconst 1, 1) := by decide +kernel
theorem dX1_findOrder_179 : decode cX1_findOrder 179 = .ok (.isub, 1) := by decide +kernel
theorem dX1_findOrder_180 : decode cX1_findOrder 180 = .ok (.istore_n 1, 1) := by decide +kernel
theorem dX1_findOrder_181 : decode cX1_findOrder 181 = .ok (.iinc 5 1, 3) := by decide +kernel
theorem dX1_findOrder_184 : decode cX1_findOrder 184 = .ok (.goto (-157), 3) := by decide +kernel
theorem dX1_findOrder_187 : decode cX1_findOrder 187 = .ok (.iconst 1, 1) := by decide +kernel
theorem dX1_findOrder_188 : decode cX1_findOrder 188 = .ok (.ireturn, 1) := by decide +kernel
set_option maxHeartbeats 4000000 in
set_option maxRecDepth 100000 in
theorem m_X1_findOrder (l : Launch) (D : va_G) (cy : Nat → ClassId) (g : Nat → Nat) (σ : ST)  (sz : Nat) (hJ : J8 σ)  : Met l yX1_findOrder (ww yX1_findOrder cX1_findOrder 7 (some .boolean)) ({ frames := 37, cells := 0, slots := 0, locals := 2368 }) (va_Pc [.ref (gO g 15)] (pr8 D cy g σ sz)) (qi8 D cy g sz (fun r τ => Fr (fO [15]) σ τ ∧ J8 τ ∧ ((0 : Int) ≤ r.toInt ∧ r.toInt ≤ 1) ∧ True)) 0 0 (A8 cy g sz) := by
  refine Met.ofW (cc := cX1_findOrder) (maxL := 7) (ret := (some .boolean)) (by decide) rfl ?_
  intro p e s m args below meth c s₁ B hml hv
  obtain ⟨rfl, hsz, hP, hK, hD0, hC⟩ := hv
  have hx := B.exec
  have hb := B.bytes
  have hr := B.returns
  have hts := hts_g (atoms_spec (ws := ww yX1_findOrder cX1_findOrder 7 (some .boolean)) B.pre)
  have hown : s.vm.findClass RX1 = some m.cls := findClass_of_methodNamed B.named
  have hlocks := B.notSynchronized
  clear B
  subst hsz
  have hD := fun τ => A8_D (sz := s.heap.size) hD0 τ
  clear hD0
  have hS : va_S (A8 cy g s.heap.size) s.heap s.heap [] := va_S.rf
  have hl := lv_entry ([.ref (gO g 15)]) (n := 7) (Nat.le_of_ble_eq_true rfl)
  rw [lg_entry_eq]
  generalize (lg_sl ([.ref (gO g 15)]) ++ List.replicate (7 - (lg_sl ([.ref (gO g 15)])).length) Slot.unset).toArray = ls at hl ⊢
  have hl : lv_has ls 7 [(0, .ref (gO g 15))] := hl
  refine lv_aload_n hx hb dX1_findOrder_0 rfl (lv_at hl 0 rfl) ?_
  refine lv_iconst (v := 0) hx hb dX1_findOrder_1 (by decide) ?_
  refine lv_iconst (v := 0) hx hb dX1_findOrder_2 (by decide) ?_
  refine lv_iconst (v := 0) hx hb dX1_findOrder_3 (by decide) ?_
  refine lv_iconst (v := 0) hx hb dX1_findOrder_4 (by decide) ?_
  refine va_calli (va_runV (As := [.int 0, .int 0, .int 0, .int 0]) (rest := []) ⟨hx, hb, hml, hown, hts⟩ (m_X1_fewestFrom 16 l D cy g σ  (0) (0) (0) (0) _ hJ (show (0 : Int) ≤ (0 : Int32).toInt ∧ (0 : Int32).toInt ≤ 16 from (by have z0 : (0 : Int32).toInt = 0 := (by decide); omega)) (show (0 : Int) ≤ (0 : Int32).toInt ∧ (0 : Int32).toInt ≤ 16 from (by have z0 : (0 : Int32).toInt = 0 := (by decide); omega)) (show (0 : Int) ≤ (0 : Int32).toInt ∧ (0 : Int32).toInt ≤ 16 from (by have z0 : (0 : Int32).toInt = 0 := (by decide); omega)) (show (0 : Int) ≤ (0 : Int32).toInt ∧ (0 : Int32).toInt ≤ 16 from (by have z0 : (0 : Int32).toInt = 0 := (by decide); omega)) (show (16 : Int) ≤ (0 : Int32).toInt + ((16 : Nat) : Int) from (by have z0 : (0 : Int32).toInt = 0 := (by decide); omega))) (cwV 4 hts (gd_V q1181 q1183 q39 q131 q1184) rfl rfl rfl (by decide +kernel) ⟨(Nat.le_of_ble_eq_true rfl), (Nat.le_of_ble_eq_true rfl)⟩) (pv8 hP hK hD hC hS (rv8_1 hK hP)) rfl rfl hl.1 rfl (lv_room (Nat.le_of_ble_eq_true rfl)) dX1_findOrder_5 ⟨Nat.le_of_ble_eq_true rfl, Nat.le_of_ble_eq_true rfl⟩) hS (fun q _ h => up8 hS q h) (up8 hS) (fun r1 σ2 tS H1 locs ht hvm hw3 hB hz1 hk1 hS => ?_)
  have hP : va_P D clz (WD8 cy g σ2) H1 := by rw [← ht]; exact hB
  clear hB hz1 hk1 hvm ht
  generalize H1 = H at hP hS ⊢
  have hF4 : Fr (fO [15]) σ σ2 := hw3.1
  have hJ5 : J8 σ2 := hw3.2.1
  refine lv_istore_n (lv' := [(1, .int r1), (0, .ref (gO g 15))]) hx hb dX1_findOrder_8 rfl hl (by decide) rfl (fun ls hl => ?_)
  refine lv_iload_n hx hb dX1_findOrder_9 rfl (lv_at hl 0 rfl) ?_
  refine lv_bipush (v := 63) hx hb dX1_findOrder_10 (by decide) ?_
  refine lv_icmp_lt (tgt := 17) hx hb dX1_findOrder_12 (by decide) (fun c6 => ?_) (fun c6 => ?_)
  ·
    have k7 := plt32 c6
    refine lv_iconst (v := 0) hx hb dX1_findOrder_17 (by decide) ?_
    refine lv_istore_n (lv' := [(2, .int 0), (1, .int r1), (0, .ref (gO g 15))]) hx hb dX1_findOrder_18 rfl hl (by decide) rfl (fun ls hl => ?_)
    refine lv_iconst (v := 0) hx hb dX1_findOrder_19 (by decide) ?_
    refine lv_istore_n (lv' := [(3, .int 0), (2, .int 0), (1, .int r1), (0, .ref (gO g 15))]) hx hb dX1_findOrder_20 rfl hl (by decide) rfl (fun ls hl => ?_)
    refine lv_iconst (v := 0) hx hb dX1_findOrder_21 (by decide) ?_
    refine lv_istore (lv' := [(4, .int 0), (3, .int 0), (2, .int 0), (1, .int r1), (0, .ref (gO g 15))]) hx hb dX1_findOrder_22 hl (by decide) rfl (fun ls hl => ?_)
    refine lv_iconst (v := 0) hx hb dX1_findOrder_24 (by decide) ?_
    refine lv_istore (lv' := [(5, .int 0), (4, .int 0), (3, .int 0), (2, .int 0), (1, .int r1), (0, .ref (gO g 15))]) hx hb dX1_findOrder_25 hl (by decide) rfl (fun ls hl => ?_)
    refine loop8 7 27 (fun x : LZ => [(5, .int (x.2.1 0)), (4, .int (x.2.1 1)), (3, .int (x.2.1 2)), (2, .int (x.2.1 3)), (1, .int (x.2.1 4)), (0, .ref (gO g 15))]) (fun x : LZ => (Fr (fO [15]) σ2 x.1) ∧ (J8 x.1) ∧ ((0 : Int) ≤ (x.2.1 0).toInt ∧ (x.2.1 0).toInt ≤ 16) ∧ ((0 : Int) ≤ (x.2.1 1).toInt ∧ (x.2.1 1).toInt ≤ 16) ∧ ((0 : Int) ≤ (x.2.1 2).toInt ∧ (x.2.1 2).toInt ≤ 16) ∧ ((0 : Int) ≤ (x.2.1 3).toInt ∧ (x.2.1 3).toInt ≤ 16) ∧ True) (fun x : LZ => ((17 : Int) - (x.2.1 0).toInt).toNat) ?_ (σ2, lf [0, 0, 0, 0, r1], lg []) ⟨Fr.rf, hJ5, (show (0 : Int) ≤ (0 : Int32).toInt ∧ (0 : Int32).toInt ≤ 16 from (by have z0 : (0 : Int32).toInt = 0 := (by decide); omega)), (show (0 : Int) ≤ (0 : Int32).toInt ∧ (0 : Int32).toInt ≤ 16 from (by have z0 : (0 : Int32).toInt = 0 := (by decide); omega)), (show (0 : Int) ≤ (0 : Int32).toInt ∧ (0 : Int32).toInt ≤ 16 from (by have z0 : (0 : Int32).toInt = 0 := (by decide); omega)), (show (0 : Int) ≤ (0 : Int32).toInt ∧ (0 : Int32).toInt ≤ 16 from (by have z0 : (0 : Int32).toInt = 0 := (by decide); omega)), trivial⟩ _ _ _ hP hS (lv_sub hl [0, 1, 2, 3, 4, 5] rfl)
    intro y10 hI9 nl8 H locs ls hP hS hl
    obtain ⟨σ11, eσ11⟩ : ∃ z, z = y10.1 := ⟨_, rfl⟩
    rw [← eσ11] at hP hI9
    have hF12 : Fr (fO [15]) σ2 σ11 := hI9.1
    have hJ13 : J8 σ11 := hI9.2.1
    have b14 : (0 : Int) ≤ (y10.2.1 0).toInt ∧ (y10.2.1 0).toInt ≤ 16 := hI9.2.2.1
    have b15 : (0 : Int) ≤ (y10.2.1 1).toInt ∧ (y10.2.1 1).toInt ≤ 16 := hI9.2.2.2.1
    have b16 : (0 : Int) ≤ (y10.2.1 2).toInt ∧ (y10.2.1 2).toInt ≤ 16 := hI9.2.2.2.2.1
    have b17 : (0 : Int) ≤ (y10.2.1 3).toInt ∧ (y10.2.1 3).toInt ≤ 16 := hI9.2.2.2.2.2.1
    have hl : lv_has ls 7 [(5, .int (y10.2.1 0)), (4, .int (y10.2.1 1)), (3, .int (y10.2.1 2)), (2, .int (y10.2.1 3)), (1, .int (y10.2.1 4)), (0, .ref (gO g 15))] := hl
    refine lv_iload hx hb dX1_findOrder_27 (lv_at hl 0 rfl) ?_
    refine lv_aload_n hx hb dX1_findOrder_29 rfl (lv_at hl 5 rfl) ?_
    refine g8_1_1 (x := ((σ11 15).1 1)) hx hb hts hown hK hP (rfl) (hts _ q368) dX1_findOrder_30 ?_
    refine lv_icmp_ge (tgt := 187) hx hb dX1_findOrder_33 (by decide) (fun c18 => ?_) (fun c18 => ?_)
    ·
      have k19 := ple32 c18
      refine lv_iconst (v := 1) hx hb dX1_findOrder_187 (by decide) ?_
      exact W.zret (v := 1) hx hb hr rfl (fun tS ht hW => ⟨⟨1, σ11, rfl, ⟨Fr.tr (Fr.tr (Fr.rf) hF4 (fO_sub (fun _ q => q))) hF12 (fO_sub (fun _ q => q)), hJ13, (show (0 : Int) ≤ (1 : Int32).toInt ∧ (1 : Int32).toInt ≤ 1 from (by have z1 : (1 : Int32).toInt = 1 := (by decide); omega)), trivial⟩, (show va_P D clz (WD8 cy g σ11) tS.heap by rw [ht]; exact hP)⟩, hS.F ht⟩) hS.2.2 dX1_findOrder_188
    ·
      have k20 := nle32 c18
      refine lv_iload hx hb dX1_findOrder_36 (lv_at hl 0 rfl) ?_
      refine lv_bipush (v := 16) hx hb dX1_findOrder_38 (by decide) ?_
      refine lv_icmp_ge (tgt := 187) hx hb dX1_findOrder_40 (by decide) (fun c21 => ?_) (fun c21 => ?_)
      ·
        have k22 := ple32 c21
        exact False.elim (by have f0 := b14; have f1 := k20; have f2 := k22; have f3 := j8_1_1 hJ13 rfl; have g0 := rg32 (y10.2.1 0); have z16 : (16 : Int32).toInt = 16 := (by decide); omega)
      ·
        have k23 := nle32 c21
        refine lv_aload_n hx hb dX1_findOrder_43 rfl (lv_at hl 5 rfl) ?_
        refine lv_iload hx hb dX1_findOrder_44 (lv_at hl 0 rfl) ?_
        refine lv_iload_n hx hb dX1_findOrder_46 rfl (lv_at hl 3 rfl) ?_
        refine lv_iload_n hx hb dX1_findOrder_47 rfl (lv_at hl 2 rfl) ?_
        refine lv_iload hx hb dX1_findOrder_48 (lv_at hl 1 rfl) ?_
        refine lv_iload_n hx hb dX1_findOrder_50 rfl (lv_at hl 4 rfl) ?_
        refine va_calli (va_runV (As := [.int (y10.2.1 0), .int (y10.2.1 3), .int (y10.2.1 2), .int (y10.2.1 1), .int (y10.2.1 4)]) (rest := []) ⟨hx, hb, hml, hown, hts⟩ (m_X1_firstLeaver l D cy g σ11  (y10.2.1 0) (y10.2.1 3) (y10.2.1 2) (y10.2.1 1) (y10.2.1 4) _ hJ13 (show (0 : Int) ≤ (y10.2.1 0).toInt ∧ (y10.2.1 0).toInt ≤ 15 from (by have f0 := b14; have f1 := k20; have f2 := k23; have f3 := j8_1_1 hJ13 rfl; have g0 := rg32 (y10.2.1 0); have z16 : (16 : Int32).toInt = 16 := (by decide); omega)) (show (0 : Int) ≤ (y10.2.1 3).toInt ∧ (y10.2.1 3).toInt ≤ 16 from (by have f0 := b14; have f1 := b17; have f2 := k20; have f3 := k23; have f4 := j8_1_1 hJ13 rfl; have g0 := rg32 (y10.2.1 0); have g1 := rg32 (y10.2.1 3); have z16 : (16 : Int32).toInt = 16 := (by decide); omega)) (show (0 : Int) ≤ (y10.2.1 2).toInt ∧ (y10.2.1 2).toInt ≤ 16 from (by have f0 := b14; have f1 := b16; have f2 := b17; have f3 := k20; have f4 := k23; have f5 := j8_1_1 hJ13 rfl; have g0 := rg32 (y10.2.1 0); have g1 := rg32 (y10.2.1 2); have g2 := rg32 (y10.2.1 3); have z16 : (16 : Int32).toInt = 16 := (by decide); omega)) (show (0 : Int) ≤ (y10.2.1 1).toInt ∧ (y10.2.1 1).toInt ≤ 16 from (by have f0 := b14; have f1 := b15; have f2 := b16; have f3 := b17; have f4 := k20; have f5 := k23; have f6 := j8_1_1 hJ13 rfl; have g0 := rg32 (y10.2.1 0); have g1 := rg32 (y10.2.1 1); have g2 := rg32 (y10.2.1 2); have g3 := rg32 (y10.2.1 3); have z16 : (16 : Int32).toInt = 16 := (by decide); omega))) (cwV 5 hts (gd_V q1209 q1211 q43 q131 q1212) rfl rfl rfl (by decide +kernel) ⟨(Nat.le_of_ble_eq_true rfl), (Nat.le_of_ble_eq_true rfl)⟩) (pv8 hP hK hD hC hS (rv8_1 hK hP)) rfl rfl hl.1 rfl (lv_room (Nat.le_of_ble_eq_true rfl)) dX1_findOrder_51 ⟨Nat.le_of_ble_eq_true rfl, Nat.le_of_ble_eq_true rfl⟩) hS (fun q _ h => up8 hS q h) (up8 hS) (fun r24 σ25 tS H1 locs ht hvm hw26 hB hz1 hk1 hS => ?_)
        have hP : va_P D clz (WD8 cy g σ25) H1 := by rw [← ht]; exact hB
        clear hB hz1 hk1 hvm ht
        generalize H1 = H at hP hS ⊢
        have hF27 : Fr (fO [15]) σ11 σ25 := hw26.1
        have hJ28 : J8 σ25 := hw26.2.1
        have b29 : (-1 : Int) ≤ r24.toInt ∧ r24.toInt ≤ 2 := hw26.2.2.1
        refine lv_istore (lv' := [(6, .int r24), (5, .int (y10.2.1 0)), (4, .int (y10.2.1 1)), (3, .int (y10.2.1 2)), (2, .int (y10.2.1 3)), (1, .int (y10.2.1 4)), (0, .ref (gO g 15))]) hx hb dX1_findOrder_54 hl (by decide) rfl (fun ls hl => ?_)
        refine lv_aload_n hx hb dX1_findOrder_56 rfl (lv_at hl 6 rfl) ?_
        refine g8_1_7 hx hb hts hown hK hP (hts _ q374) dX1_findOrder_57 ?_
        refine lv_iload hx hb dX1_findOrder_60 (lv_at hl 1 rfl) ?_
        refine lv_iload hx hb dX1_findOrder_62 (lv_at hl 0 rfl) ?_
        refine cut8 (D := D) (cy := cy) (g := g) (A := A8 cy g s.heap.size) (H0 := s.heap) 7 87 (fun x : LZ => [(6, .int r24), (5, .int (y10.2.1 0)), (4, .int (y10.2.1 1)), (3, .int (y10.2.1 2)), (2, .int (y10.2.1 3)), (1, .int (y10.2.1 4)), (0, .ref (gO g 15))]) (fun x : LZ => [.int (x.2.1 0), .int (y10.2.1 0), .ref (gR g 15 7)]) (fun x : LZ => (x.1 = σ25) ∧ True) ?_ ?_
        ·
          intro y32 hI31 H locs ls hP hS hl
          rw [show y32.1 = σ25 from hI31.1] at hP
          have hl : lv_has ls 7 [(6, .int r24), (5, .int (y10.2.1 0)), (4, .int (y10.2.1 1)), (3, .int (y10.2.1 2)), (2, .int (y10.2.1 3)), (1, .int (y10.2.1 4)), (0, .ref (gO g 15))] := hl
          refine W.eq (g2 := F0 m 87 ls [.int (y32.2.1 0), .int (y10.2.1 0), .ref (gR g 15 7)]) rfl ?_
          refine t8_1_7 hx hb hK hP hD hS (vpo (by have f0 := b14; have f1 := k20; have f2 := k23; have f3 := j8_1_1 hJ13 rfl; have g0 := rg32 (y10.2.1 0); have z16 : (16 : Int32).toInt = 16 := (by decide); omega)) dX1_findOrder_87 (fun H locs σ33 eσ33 hP hS => ?_)
          have hJ34 : J8 σ33 := hJ28.A eσ33 rfl (show PA8 1 7 (y32.2.1 0) from trivial)
          refine lv_aload_n hx hb dX1_findOrder_88 rfl (lv_at hl 6 rfl) ?_
          refine g8_1_6 hx hb hts hown hK hP (hts _ q373) dX1_findOrder_89 ?_
          refine lv_iload hx hb dX1_findOrder_92 (lv_at hl 1 rfl) ?_
          obtain ⟨x35, ex35⟩ : ∃ z, (σ25 15).2.2.1 6 (y10.2.1 0).toInt.toNat = z := ⟨_, rfl⟩
          refine l8_1_6 (x := x35) hx hb hK hP (vpo (by have f0 := b14; have f1 := k20; have f2 := k23; have f3 := j8_1_1 hJ13 rfl; have g0 := rg32 (y10.2.1 0); have z16 : (16 : Int32).toInt = 16 := (by decide); omega)) ((congrFun (((sA_f eσ33) 15 6 (fN_k rfl)).2.2.1) _).trans ex35) dX1_findOrder_94 ?_
          refine lv_iconst (v := 1) hx hb dX1_findOrder_95 (by decide) ?_
          refine cut8 (D := D) (cy := cy) (g := g) (A := A8 cy g s.heap.size) (H0 := s.heap) 7 112 (fun x : LZ => [(6, .int r24), (5, .int (y10.2.1 0)), (4, .int (y10.2.1 1)), (3, .int (y10.2.1 2)), (2, .int (y10.2.1 3)), (1, .int (y10.2.1 4)), (0, .ref (gO g 15))]) (fun x : LZ => [.int (x.2.1 0)]) (fun x : LZ => (x.1 = σ33) ∧ ((0 : Int) ≤ (x.2.1 0).toInt ∧ (x.2.1 0).toInt ≤ 16) ∧ True) ?_ ?_
          ·
            intro y38 hI37 H locs ls hP hS hl
            rw [show y38.1 = σ33 from hI37.1] at hP
            have b39 : (0 : Int) ≤ (y38.2.1 0).toInt ∧ (y38.2.1 0).toInt ≤ 16 := hI37.2.1
            have hl : lv_has ls 7 [(6, .int r24), (5, .int (y10.2.1 0)), (4, .int (y10.2.1 1)), (3, .int (y10.2.1 2)), (2, .int (y10.2.1 3)), (1, .int (y10.2.1 4)), (0, .ref (gO g 15))] := hl
            refine W.eq (g2 := F0 m 112 ls [.int (y38.2.1 0)]) rfl ?_
            refine lv_istore_n (lv' := [(2, .int (y38.2.1 0)), (6, .int r24), (5, .int (y10.2.1 0)), (4, .int (y10.2.1 1)), (3, .int (y10.2.1 2)), (1, .int (y10.2.1 4)), (0, .ref (gO g 15))]) hx hb dX1_findOrder_112 rfl hl (by decide) rfl (fun ls hl => ?_)
            refine lv_aload_n hx hb dX1_findOrder_113 rfl (lv_at hl 6 rfl) ?_
            refine g8_1_6 hx hb hts hown hK hP (hts _ q373) dX1_findOrder_114 ?_
            refine lv_iload hx hb dX1_findOrder_117 (lv_at hl 2 rfl) ?_
            refine l8_1_6 (x := x35) hx hb hK hP (vpo (by have f0 := b14; have f1 := k20; have f2 := k23; have f3 := j8_1_1 hJ13 rfl; have g0 := rg32 (y10.2.1 0); have z16 : (16 : Int32).toInt = 16 := (by decide); omega)) ((congrFun (((sA_f eσ33) 15 6 (fN_k rfl)).2.2.1) _).trans ex35) dX1_findOrder_119 ?_
            refine lv_iconst (v := 1) hx hb dX1_findOrder_120 (by decide) ?_
            refine cut8 (D := D) (cy := cy) (g := g) (A := A8 cy g s.heap.size) (H0 := s.heap) 7 138 (fun x : LZ => [(2, .int (y38.2.1 0)), (6, .int r24), (5, .int (y10.2.1 0)), (4, .int (y10.2.1 1)), (3, .int (y10.2.1 2)), (1, .int (y10.2.1 4)), (0, .ref (gO g 15))]) (fun x : LZ => [.int (x.2.1 0)]) (fun x : LZ => (x.1 = σ33) ∧ ((0 : Int) ≤ (x.2.1 0).toInt ∧ (x.2.1 0).toInt ≤ 16) ∧ True) ?_ ?_
            ·
              intro y42 hI41 H locs ls hP hS hl
              rw [show y42.1 = σ33 from hI41.1] at hP
              have b43 : (0 : Int) ≤ (y42.2.1 0).toInt ∧ (y42.2.1 0).toInt ≤ 16 := hI41.2.1
              have hl : lv_has ls 7 [(2, .int (y38.2.1 0)), (6, .int r24), (5, .int (y10.2.1 0)), (4, .int (y10.2.1 1)), (3, .int (y10.2.1 2)), (1, .int (y10.2.1 4)), (0, .ref (gO g 15))] := hl
              refine W.eq (g2 := F0 m 138 ls [.int (y42.2.1 0)]) rfl ?_
              refine lv_istore_n (lv' := [(3, .int (y42.2.1 0)), (2, .int (y38.2.1 0)), (6, .int r24), (5, .int (y10.2.1 0)), (4, .int (y10.2.1 1)), (1, .int (y10.2.1 4)), (0, .ref (gO g 15))]) hx hb dX1_findOrder_138 rfl hl (by decide) rfl (fun ls hl => ?_)
              refine lv_aload_n hx hb dX1_findOrder_139 rfl (lv_at hl 6 rfl) ?_
              refine g8_1_6 hx hb hts hown hK hP (hts _ q373) dX1_findOrder_140 ?_
              refine lv_iload hx hb dX1_findOrder_143 (lv_at hl 3 rfl) ?_
              refine l8_1_6 (x := x35) hx hb hK hP (vpo (by have f0 := b14; have f1 := k20; have f2 := k23; have f3 := j8_1_1 hJ13 rfl; have g0 := rg32 (y10.2.1 0); have z16 : (16 : Int32).toInt = 16 := (by decide); omega)) ((congrFun (((sA_f eσ33) 15 6 (fN_k rfl)).2.2.1) _).trans ex35) dX1_findOrder_145 ?_
              refine lv_iconst (v := 1) hx hb dX1_findOrder_146 (by decide) ?_
              refine cut8 (D := D) (cy := cy) (g := g) (A := A8 cy g s.heap.size) (H0 := s.heap) 7 165 (fun x : LZ => [(3, .int (y42.2.1 0)), (2, .int (y38.2.1 0)), (6, .int r24), (5, .int (y10.2.1 0)), (4, .int (y10.2.1 1)), (1, .int (y10.2.1 4)), (0, .ref (gO g 15))]) (fun x : LZ => [.int (x.2.1 0)]) (fun x : LZ => (x.1 = σ33) ∧ ((0 : Int) ≤ (x.2.1 0).toInt ∧ (x.2.1 0).toInt ≤ 16) ∧ True) ?_ ?_
              ·
                intro y46 hI45 H locs ls hP hS hl
                rw [show y46.1 = σ33 from hI45.1] at hP
                have b47 : (0 : Int) ≤ (y46.2.1 0).toInt ∧ (y46.2.1 0).toInt ≤ 16 := hI45.2.1
                have hl : lv_has ls 7 [(3, .int (y42.2.1 0)), (2, .int (y38.2.1 0)), (6, .int r24), (5, .int (y10.2.1 0)), (4, .int (y10.2.1 1)), (1, .int (y10.2.1 4)), (0, .ref (gO g 15))] := hl
                refine W.eq (g2 := F0 m 165 ls [.int (y46.2.1 0)]) rfl ?_
                refine lv_istore (lv' := [(4, .int (y46.2.1 0)), (3, .int (y42.2.1 0)), (2, .int (y38.2.1 0)), (6, .int r24), (5, .int (y10.2.1 0)), (1, .int (y10.2.1 4)), (0, .ref (gO g 15))]) hx hb dX1_findOrder_165 hl (by decide) rfl (fun ls hl => ?_)
                refine lv_iload hx hb dX1_findOrder_167 (lv_at hl 3 rfl) ?_
                refine lv_iconst (v := (-1)) hx hb dX1_findOrder_169 (by decide) ?_
                refine cut8 (D := D) (cy := cy) (g := g) (A := A8 cy g s.heap.size) (H0 := s.heap) 7 180 (fun x : LZ => [(4, .int (y46.2.1 0)), (3, .int (y42.2.1 0)), (2, .int (y38.2.1 0)), (6, .int r24), (5, .int (y10.2.1 0)), (1, .int (y10.2.1 4)), (0, .ref (gO g 15))]) (fun x : LZ => [.int (x.2.1 0)]) (fun x : LZ => (x.1 = σ33) ∧ True) ?_ ?_
                ·
                  intro y50 hI49 H locs ls hP hS hl
                  rw [show y50.1 = σ33 from hI49.1] at hP
                  have hl : lv_has ls 7 [(4, .int (y46.2.1 0)), (3, .int (y42.2.1 0)), (2, .int (y38.2.1 0)), (6, .int r24), (5, .int (y10.2.1 0)), (1, .int (y10.2.1 4)), (0, .ref (gO g 15))] := hl
                  refine W.eq (g2 := F0 m 180 ls [.int (y50.2.1 0)]) rfl ?_
                  refine lv_istore_n (lv' := [(1, .int (y50.2.1 0)), (4, .int (y46.2.1 0)), (3, .int (y42.2.1 0)), (2, .int (y38.2.1 0)), (6, .int r24), (5, .int (y10.2.1 0)), (0, .ref (gO g 15))]) hx hb dX1_findOrder_180 rfl hl (by decide) rfl (fun ls hl => ?_)
                  obtain ⟨x51, ex51⟩ : ∃ y : Int32, y = (y10.2.1 0) + 1 := ⟨_, rfl⟩
                  have t52 := addO ex51 (by have f0 := b14; have f1 := k20; have f2 := k23; have f3 := j8_1_1 hJ13 rfl; have g0 := rg32 (y10.2.1 0); have z1 : (1 : Int32).toInt = 1 := (by decide); have z16 : (16 : Int32).toInt = 16 := (by decide); omega)
                  refine lv_iinc (v := x51) (lv' := [(5, .int x51), (1, .int (y50.2.1 0)), (4, .int (y46.2.1 0)), (3, .int (y42.2.1 0)), (2, .int (y38.2.1 0)), (6, .int r24), (0, .ref (gO g 15))]) hx hb dX1_findOrder_181 hl (k := 5) rfl (by rw [ex51]; rfl) (by decide) rfl (fun ls hl => ?_)
                  refine lv_goto (tgt := 27) hx hb dX1_findOrder_184 (by decide) ?_
                  have t53 : ((17 : Int) - x51.toInt).toNat < ((17 : Int) - (y10.2.1 0).toInt).toNat := (by have f0 := b14; have f1 := k20; have f2 := k23; have f3 := t52; have f4 := j8_1_1 hJ13 rfl; have g0 := rg32 (y10.2.1 0); have g1 := rg32 x51; have z1 : (1 : Int32).toInt = 1 := (by decide); have z16 : (16 : Int32).toInt = 16 := (by decide); omega)
                  exact nl8 (σ33, lf [x51, (y46.2.1 0), (y42.2.1 0), (y38.2.1 0), (y50.2.1 0)], lg []) ⟨Fr.tr (Fr.tr (Fr.tr (Fr.rf) hF12 (fO_sub (fun _ q => q))) hF27 (fO_sub (fun _ q => q))) (sA_f eσ33) (fN_O mem0), hJ34, (show (0 : Int) ≤ (x51 : Int32).toInt ∧ (x51 : Int32).toInt ≤ 16 from (by have f0 := t52; have f1 := b14; have f2 := k20; have f3 := k23; have f4 := j8_1_1 hJ13 rfl; have g0 := rg32 x51; have z1 : (1 : Int32).toInt = 1 := (by decide); have z16 : (16 : Int32).toInt = 16 := (by decide); omega)), (show (0 : Int) ≤ ((y46.2.1 0) : Int32).toInt ∧ ((y46.2.1 0) : Int32).toInt ≤ 16 from (by have f0 := b47; have g0 := rg32 (y46.2.1 0); omega)), (show (0 : Int) ≤ ((y42.2.1 0) : Int32).toInt ∧ ((y42.2.1 0) : Int32).toInt ≤ 16 from (by have f0 := b43; have g0 := rg32 (y42.2.1 0); omega)), (show (0 : Int) ≤ ((y38.2.1 0) : Int32).toInt ∧ ((y38.2.1 0) : Int32).toInt ≤ 16 from (by have f0 := b39; have g0 := rg32 (y38.2.1 0); omega)), trivial⟩ (show ((17 : Int) - x51.toInt).toNat < _ from by first | exact t53 | (rw [← eσ11]; exact t53)) _ _ _ hP hS (lv_sub hl [0, 2, 3, 4, 1, 6] rfl)
                ·
                  intro nj48
                  refine lv_icmp_ne (tgt := 177) hx hb dX1_findOrder_170 (by decide) (fun c54 => ?_) (fun c54 => ?_)
                  ·
                    have k55 := neq32 c54
                    refine lv_iload_n hx hb dX1_findOrder_177 rfl (lv_at hl 5 rfl) ?_
                    refine lv_iconst (v := 1) hx hb dX1_findOrder_178 (by decide) ?_
                    refine lv_isub hx hb dX1_findOrder_179 ?_
                    refine lv_topi (fun x56 ex56 => ?_)
                    exact nj48 (σ33, lf [x56], lg []) ⟨rfl, trivial⟩ _ _ _ hP hS (lv_sub hl [0, 1, 2, 3, 4, 5, 6] rfl)
                  ·
                    have k57 := peq32 c54
                    refine lv_iload_n hx hb dX1_findOrder_173 rfl (lv_at hl 5 rfl) ?_
                    refine lv_goto (tgt := 180) hx hb dX1_findOrder_174 (by decide) ?_
                    exact nj48 (σ33, lf [(y10.2.1 4)], lg []) ⟨rfl, trivial⟩ _ _ _ hP hS (lv_sub hl [0, 1, 2, 3, 4, 5, 6] rfl)
              ·
                intro nj44
                refine cut8 (D := D) (cy := cy) (g := g) (A := A8 cy g s.heap.size) (H0 := s.heap) 7 156 (fun x : LZ => [(3, .int (y42.2.1 0)), (2, .int (y38.2.1 0)), (6, .int r24), (5, .int (y10.2.1 0)), (4, .int (y10.2.1 1)), (1, .int (y10.2.1 4)), (0, .ref (gO g 15))]) (fun x : LZ => []) (fun x : LZ => (x.1 = σ33) ∧ True) ?_ ?_
                ·
                  intro y60 hI59 H locs ls hP hS hl
                  rw [show y60.1 = σ33 from hI59.1] at hP
                  have hl : lv_has ls 7 [(3, .int (y42.2.1 0)), (2, .int (y38.2.1 0)), (6, .int r24), (5, .int (y10.2.1 0)), (4, .int (y10.2.1 1)), (1, .int (y10.2.1 4)), (0, .ref (gO g 15))] := hl
                  refine lv_iload hx hb dX1_findOrder_156 (lv_at hl 3 rfl) ?_
                  refine lv_iconst (v := 1) hx hb dX1_findOrder_158 (by decide) ?_
                  refine lv_iadd hx hb dX1_findOrder_159 ?_
                  refine lv_topi (fun x61 ex61 => ?_)
                  have t62 := addO ex61 (by have f0 := b14; have f1 := k20; have f2 := k23; have f3 := j8_1_1 hJ13 rfl; have g0 := rg32 (y10.2.1 0); have z1 : (1 : Int32).toInt = 1 := (by decide); have z16 : (16 : Int32).toInt = 16 := (by decide); omega)
                  refine lv_goto (tgt := 165) hx hb dX1_findOrder_160 (by decide) ?_
                  exact nj44 (σ33, lf [x61], lg []) ⟨rfl, (show (0 : Int) ≤ (x61 : Int32).toInt ∧ (x61 : Int32).toInt ≤ 16 from (by have f0 := t62; have f1 := b14; have f2 := k20; have f3 := k23; have f4 := j8_1_1 hJ13 rfl; have g0 := rg32 x61; have z1 : (1 : Int32).toInt = 1 := (by decide); have z16 : (16 : Int32).toInt = 16 := (by decide); omega)), trivial⟩ _ _ _ hP hS (lv_sub hl [0, 1, 2, 3, 4, 5, 6] rfl)
                ·
                  intro nj58
                  refine lv_icmp_eq (tgt := 156) hx hb dX1_findOrder_147 (by decide) (fun c63 => ?_) (fun c63 => ?_)
                  ·
                    have k64 := peq32 c63
                    exact nj58 (σ33, lf [], lg []) ⟨rfl, trivial⟩ _ _ _ hP hS (lv_sub hl [0, 1, 2, 3, 4, 5, 6] rfl)
                  ·
                    have k65 := neq32 c63
                    refine lv_iload hx hb dX1_findOrder_150 (lv_at hl 2 rfl) ?_
                    refine lv_iconst (v := 2) hx hb dX1_findOrder_152 (by decide) ?_
                    refine lv_icmp_ne (tgt := 163) hx hb dX1_findOrder_153 (by decide) (fun c66 => ?_) (fun c66 => ?_)
                    ·
                      have k67 := neq32 c66
                      refine lv_iload hx hb dX1_findOrder_163 (lv_at hl 4 rfl) ?_
                      exact nj44 (σ33, lf [(y10.2.1 1)], lg []) ⟨rfl, (show (0 : Int) ≤ ((y10.2.1 1) : Int32).toInt ∧ ((y10.2.1 1) : Int32).toInt ≤ 16 from (by have f0 := b15; have g0 := rg32 (y10.2.1 1); omega)), trivial⟩ _ _ _ hP hS (lv_sub hl [0, 1, 2, 3, 4, 5, 6] rfl)
                    ·
                      have k68 := peq32 c66
                      exact nj58 (σ33, lf [], lg []) ⟨rfl, trivial⟩ _ _ _ hP hS (lv_sub hl [0, 1, 2, 3, 4, 5, 6] rfl)
            ·
              intro nj40
              refine cut8 (D := D) (cy := cy) (g := g) (A := A8 cy g s.heap.size) (H0 := s.heap) 7 130 (fun x : LZ => [(2, .int (y38.2.1 0)), (6, .int r24), (5, .int (y10.2.1 0)), (4, .int (y10.2.1 1)), (3, .int (y10.2.1 2)), (1, .int (y10.2.1 4)), (0, .ref (gO g 15))]) (fun x : LZ => []) (fun x : LZ => (x.1 = σ33) ∧ True) ?_ ?_
              ·
                intro y71 hI70 H locs ls hP hS hl
                rw [show y71.1 = σ33 from hI70.1] at hP
                have hl : lv_has ls 7 [(2, .int (y38.2.1 0)), (6, .int r24), (5, .int (y10.2.1 0)), (4, .int (y10.2.1 1)), (3, .int (y10.2.1 2)), (1, .int (y10.2.1 4)), (0, .ref (gO g 15))] := hl
                refine lv_iload hx hb dX1_findOrder_130 (lv_at hl 2 rfl) ?_
                refine lv_iconst (v := 1) hx hb dX1_findOrder_132 (by decide) ?_
                refine lv_iadd hx hb dX1_findOrder_133 ?_
                refine lv_topi (fun x72 ex72 => ?_)
                have t73 := addO ex72 (by have f0 := b14; have f1 := k20; have f2 := k23; have f3 := j8_1_1 hJ13 rfl; have g0 := rg32 (y10.2.1 0); have z1 : (1 : Int32).toInt = 1 := (by decide); have z16 : (16 : Int32).toInt = 16 := (by decide); omega)
                refine lv_goto (tgt := 138) hx hb dX1_findOrder_134 (by decide) ?_
                exact nj40 (σ33, lf [x72], lg []) ⟨rfl, (show (0 : Int) ≤ (x72 : Int32).toInt ∧ (x72 : Int32).toInt ≤ 16 from (by have f0 := t73; have f1 := b14; have f2 := k20; have f3 := k23; have f4 := j8_1_1 hJ13 rfl; have g0 := rg32 x72; have z1 : (1 : Int32).toInt = 1 := (by decide); have z16 : (16 : Int32).toInt = 16 := (by decide); omega)), trivial⟩ _ _ _ hP hS (lv_sub hl [0, 1, 2, 3, 4, 5, 6] rfl)
              ·
                intro nj69
                refine lv_icmp_eq (tgt := 130) hx hb dX1_findOrder_121 (by decide) (fun c74 => ?_) (fun c74 => ?_)
                ·
                  have k75 := peq32 c74
                  exact nj69 (σ33, lf [], lg []) ⟨rfl, trivial⟩ _ _ _ hP hS (lv_sub hl [0, 1, 2, 3, 4, 5, 6] rfl)
                ·
                  have k76 := neq32 c74
                  refine lv_iload hx hb dX1_findOrder_124 (lv_at hl 1 rfl) ?_
                  refine lv_iconst (v := 1) hx hb dX1_findOrder_126 (by decide) ?_
                  refine lv_icmp_ne (tgt := 137) hx hb dX1_findOrder_127 (by decide) (fun c77 => ?_) (fun c77 => ?_)
                  ·
                    have k78 := neq32 c77
                    refine lv_iload_n hx hb dX1_findOrder_137 rfl (lv_at hl 4 rfl) ?_
                    exact nj40 (σ33, lf [(y10.2.1 2)], lg []) ⟨rfl, (show (0 : Int) ≤ ((y10.2.1 2) : Int32).toInt ∧ ((y10.2.1 2) : Int32).toInt ≤ 16 from (by have f0 := b16; have g0 := rg32 (y10.2.1 2); omega)), trivial⟩ _ _ _ hP hS (lv_sub hl [0, 1, 2, 3, 4, 5, 6] rfl)
                  ·
                    have k79 := peq32 c77
                    exact nj69 (σ33, lf [], lg []) ⟨rfl, trivial⟩ _ _ _ hP hS (lv_sub hl [0, 1, 2, 3, 4, 5, 6] rfl)
          ·
            intro nj36
            refine cut8 (D := D) (cy := cy) (g := g) (A := A8 cy g s.heap.size) (H0 := s.heap) 7 104 (fun x : LZ => [(6, .int r24), (5, .int (y10.2.1 0)), (4, .int (y10.2.1 1)), (3, .int (y10.2.1 2)), (2, .int (y10.2.1 3)), (1, .int (y10.2.1 4)), (0, .ref (gO g 15))]) (fun x : LZ => []) (fun x : LZ => (x.1 = σ33) ∧ True) ?_ ?_
            ·
              intro y82 hI81 H locs ls hP hS hl
              rw [show y82.1 = σ33 from hI81.1] at hP
              have hl : lv_has ls 7 [(6, .int r24), (5, .int (y10.2.1 0)), (4, .int (y10.2.1 1)), (3, .int (y10.2.1 2)), (2, .int (y10.2.1 3)), (1, .int (y10.2.1 4)), (0, .ref (gO g 15))] := hl
              refine lv_iload hx hb dX1_findOrder_104 (lv_at hl 1 rfl) ?_
              refine lv_iconst (v := 1) hx hb dX1_findOrder_106 (by decide) ?_
              refine lv_iadd hx hb dX1_findOrder_107 ?_
              refine lv_topi (fun x83 ex83 => ?_)
              have t84 := addO ex83 (by have f0 := b14; have f1 := k20; have f2 := k23; have f3 := j8_1_1 hJ13 rfl; have g0 := rg32 (y10.2.1 0); have z1 : (1 : Int32).toInt = 1 := (by decide); have z16 : (16 : Int32).toInt = 16 := (by decide); omega)
              refine lv_goto (tgt := 112) hx hb dX1_findOrder_108 (by decide) ?_
              exact nj36 (σ33, lf [x83], lg []) ⟨rfl, (show (0 : Int) ≤ (x83 : Int32).toInt ∧ (x83 : Int32).toInt ≤ 16 from (by have f0 := t84; have f1 := b14; have f2 := k20; have f3 := k23; have f4 := j8_1_1 hJ13 rfl; have g0 := rg32 x83; have z1 : (1 : Int32).toInt = 1 := (by decide); have z16 : (16 : Int32).toInt = 16 := (by decide); omega)), trivial⟩ _ _ _ hP hS (lv_sub hl [0, 1, 2, 3, 4, 5, 6] rfl)
            ·
              intro nj80
              refine lv_icmp_eq (tgt := 104) hx hb dX1_findOrder_96 (by decide) (fun c85 => ?_) (fun c85 => ?_)
              ·
                have k86 := peq32 c85
                exact nj80 (σ33, lf [], lg []) ⟨rfl, trivial⟩ _ _ _ hP hS (lv_sub hl [0, 1, 2, 3, 4, 5, 6] rfl)
              ·
                have k87 := neq32 c85
                refine lv_iload hx hb dX1_findOrder_99 (lv_at hl 0 rfl) ?_
                refine lv_if_ne (tgt := 111) hx hb dX1_findOrder_101 (by decide) (fun c88 => ?_) (fun c88 => ?_)
                ·
                  have k89 := neq32 c88
                  refine lv_iload_n hx hb dX1_findOrder_111 rfl (lv_at hl 4 rfl) ?_
                  exact nj36 (σ33, lf [(y10.2.1 3)], lg []) ⟨rfl, (show (0 : Int) ≤ ((y10.2.1 3) : Int32).toInt ∧ ((y10.2.1 3) : Int32).toInt ≤ 16 from (by have f0 := b17; have g0 := rg32 (y10.2.1 3); omega)), trivial⟩ _ _ _ hP hS (lv_sub hl [0, 1, 2, 3, 4, 5, 6] rfl)
                ·
                  have k90 := peq32 c88
                  exact nj80 (σ33, lf [], lg []) ⟨rfl, trivial⟩ _ _ _ hP hS (lv_sub hl [0, 1, 2, 3, 4, 5, 6] rfl)
        ·
          intro nj30
          refine cut8 (D := D) (cy := cy) (g := g) (A := A8 cy g s.heap.size) (H0 := s.heap) 7 86 (fun x : LZ => [(6, .int r24), (5, .int (y10.2.1 0)), (4, .int (y10.2.1 1)), (3, .int (y10.2.1 2)), (2, .int (y10.2.1 3)), (1, .int (y10.2.1 4)), (0, .ref (gO g 15))]) (fun x : LZ => [.int (y10.2.1 0), .ref (gR g 15 7)]) (fun x : LZ => (x.1 = σ25) ∧ True) ?_ ?_
          ·
            intro y93 hI92 H locs ls hP hS hl
            rw [show y93.1 = σ25 from hI92.1] at hP
            have hl : lv_has ls 7 [(6, .int r24), (5, .int (y10.2.1 0)), (4, .int (y10.2.1 1)), (3, .int (y10.2.1 2)), (2, .int (y10.2.1 3)), (1, .int (y10.2.1 4)), (0, .ref (gO g 15))] := hl
            refine W.eq (g2 := F0 m 86 ls [.int (y10.2.1 0), .ref (gR g 15 7)]) rfl ?_
            refine lv_iconst (v := (-1)) hx hb dX1_findOrder_86 (by decide) ?_
            exact nj30 (σ25, lf [(-1)], lg []) ⟨rfl, trivial⟩ _ _ _ hP hS (lv_sub hl [0, 1, 2, 3, 4, 5, 6] rfl)
          ·
            intro nj91
            refine lv_if_lt (tgt := 86) hx hb dX1_findOrder_64 (by decide) (fun c94 => ?_) (fun c94 => ?_)
            ·
              have k95 := plt32 c94
              exact nj91 (σ25, lf [], lg []) ⟨rfl, trivial⟩ _ _ _ hP hS (lv_sub hl [0, 1, 2, 3, 4, 5, 6] rfl)
            ·
              have k96 := nlt32 c94
              refine lv_iload hx hb dX1_findOrder_67 (lv_at hl 0 rfl) ?_
              refine lv_aload_n hx hb dX1_findOrder_69 rfl (lv_at hl 6 rfl) ?_
              refine g8_1_0 (x := ((σ25 15).1 0)) hx hb hts hown hK hP (rfl) (hts _ q367) dX1_findOrder_70 ?_
              refine lv_icmp_ge (tgt := 86) hx hb dX1_findOrder_73 (by decide) (fun c97 => ?_) (fun c97 => ?_)
              ·
                have k98 := ple32 c97
                exact nj91 (σ25, lf [], lg []) ⟨rfl, trivial⟩ _ _ _ hP hS (lv_sub hl [0, 1, 2, 3, 4, 5, 6] rfl)
              ·
                have k99 := nle32 c97
                refine lv_aload_n hx hb dX1_findOrder_76 rfl (lv_at hl 6 rfl) ?_
                refine g8_1_3 hx hb hts hown hK hP (hts _ q370) dX1_findOrder_77 ?_
                refine lv_iload hx hb dX1_findOrder_80 (lv_at hl 0 rfl) ?_
                obtain ⟨x100, ex100⟩ : ∃ z, (σ25 15).2.2.1 3 r24.toInt.toNat = z := ⟨_, rfl⟩
                refine l8_1_3 (x := x100) hx hb hK hP (vpo (by have f0 := b29; have f1 := k96; have f2 := k99; have f3 := j8_1_0 hJ28 rfl; have g0 := rg32 r24; have z0 : (0 : Int32).toInt = 0 := (by decide); omega)) ex100 dX1_findOrder_82 ?_
                refine lv_goto (tgt := 87) hx hb dX1_findOrder_83 (by decide) ?_
                exact nj30 (σ25, lf [x100], lg []) ⟨rfl, trivial⟩ _ _ _ hP hS (lv_sub hl [0, 1, 2, 3, 4, 5, 6] rfl)
  ·
    have k101 := nlt32 c6
    refine lv_iconst (v := 0) hx hb dX1_findOrder_15 (by decide) ?_
    exact W.zret (v := 0) hx hb hr rfl (fun tS ht hW => ⟨⟨0, σ2, rfl, ⟨Fr.tr (Fr.rf) hF4 (fO_sub (fun _ q => q)), hJ5, (show (0 : Int) ≤ (0 : Int32).toInt ∧ (0 : Int32).toInt ≤ 1 from (by have z0 : (0 : Int32).toInt = 0 := (by decide); omega)), trivial⟩, (show va_P D clz (WD8 cy g σ2) tS.heap by rw [ht]; exact hP)⟩, hS.F ht⟩) hS.2.2 dX1_findOrder_16

