theorem dL_law_18 : decode cL_law 18 = .ok (.iload_n 3, 1) := by decide +kernel
theorem dL_law_19 : decode cL_law 19 = .ok (.aload_n 0, 1) := by decide +kernel
theorem dL_law_20 : decode cL_law 20 = .ok (.arraylength, 1) := by decide +kernel
theorem dL_law_21 : decode cL_law 21 = .ok (.bipush 6, 2) := by decide +kernel
theorem dL_law_23 : decode cL_law 23 = .ok (.isub, 1) := by decide +kernel
theorem dL_law_24 : decode cL_law 24 = .ok (.if_icmp .gt 2393, 3) := by decide +kernel
theorem dL_law_27 : decode cL_law 27 = .ok (.aload_n 0, 1) := by decide +kernel
theorem dL_law_28 : decode cL_law 28 = .ok (.iload_n 3, 1) := by decide +kernel
theorem dL_law_29 : decode cL_law 29 = .ok (.iaload, 1) := by decide +kernel
theorem dL_law_30 : decode cL_law 30 = .ok (.bipush 63, 2) := by decide +kernel
theorem dL_law_32 : decode cL_law 32 = .ok (.iand, 1) := by decide +kernel
theorem dL_law_2411 : decode cL_law 2411 = .ok (.iinc 3 6, 3) := by decide +kernel
theorem dL_law_2414 : decode cL_law 2414 = .ok (.goto (-2396), 3) := by decide +kernel
theorem dL_law_2417 : decode cL_law 2417 = .ok (.iconst 1, 1) := by decide +kernel
theorem dL_law_2418 : decode cL_law 2418 = .ok (.ireturn, 1) := by decide +kernel
set_option maxHeartbeats 4000000 in
set_option maxRecDepth 100000 in
theorem law_loop {p : Program} {l : Launch} {e : Env} {s : State} {m : MethodId} {below : List Frame} {meth : Method} {c : Code} {b L : Nat} {xs : Nat → Int32} {D : va_G} {cy : Nat → ClassId} {g1 g2 : Nat → Nat} (X : LX p s m meth c b L xs D cy g1 g2) (hL : L ≤ 3072) : ∀ (n : Nat) (i : Int32) (σ8 σ9 : ST) (H : Heap) (locs : List Loc) (ls : Array Slot), ((L : Int) + 6 - i.toInt).toNat ≤ n → ((0 : Int) ≤ i.toInt ∧ i.toInt ≤ (L : Int)) → J8 σ8 → J9 (σ9 9) → DKA (σ9 9) → KP σ8 (σ9 9) → va_P D clz (WD8 cy g1 σ8) H → va_P D clz (WD9 cy g2 σ9) H → va_S (lawA s) s.heap H locs → lv_has ls 4 [(3, .int i), (2, .ref (g2 60)), (1, .ref (gO g1 17)), (0, .ref b)] → W p l e room_1 s m #[Value.ref b] below meth c H locs 200 700000 (lw_Z below #[Value.ref b] s) (F0 m 18 ls []) := by
  intro n
  induction n with
  | zero =>
    intro i σ8 σ9 H locs ls hn hi
    exact absurd hn (by omega)
  | succ n ih =>
    intro i σ8 σ9 H locs ls hn hi hJ8 hJ9 hDK hR hP8 hP9 hS hl
    obtain ⟨⟨hx, hb, hr, hml, hown0, hts0, hX, hbl, hlocks, hgv⟩, hK, hDD, hC8, hC9⟩ := id X
    have hbA : ¬ lawA s b := Nat.not_le.mpr hbl
    have z6 : (6 : Int32).toInt = 6 := by decide
    have hLt : (Int32.ofNat L).toInt = (L : Int) := nI_toInt (by omega)
    refine lv_iload_n hx hb dL_law_18 rfl (lv_at hl 0 rfl) ?_
    refine lv_aload_n hx hb dL_law_19 rfl (lv_at hl 3 rfl) ?_
    refine va_slen hx hb hX hbl hbA hS dL_law_20 ?_
    refine lv_bipush (v := 6) hx hb dL_law_21 (by decide) ?_
    refine lv_isub hx hb dL_law_23 ?_
    refine lv_topi (fun y ey => ?_)
    have hy := subO ey (by omega)
    refine lv_icmp_gt (tgt := 2417) hx hb dL_law_24 (by decide) (fun cc => ?_) (fun cc => ?_)
    · refine lv_iconst (v := 1) hx hb dL_law_2417 (by decide) ?_
      refine va_forget (fun q hq => hS.2.2 q hq) ?_
      refine W.widen (k := 600000) (n := 7302249) (Nat.le_of_ble_eq_true rfl) (Nat.le_of_ble_eq_true rfl) ?_
      exact lw_ret hx hb hr hlocks dL_law_2418
    · have hcc := nlt32 cc
      have hi6 : (0 : Int) ≤ i.toInt ∧ i.toInt + 6 ≤ (L : Int) := ⟨hi.1, by omega⟩
      refine lv_aload_n hx hb dL_law_27 rfl (lv_at hl 3 rfl) ?_
      refine lv_iload_n hx hb dL_law_28 rfl (lv_at hl 0 rfl) ?_
      refine va_sld hx hb hX hbl hbA hS (vpo (by omega)) dL_law_29 ?_
      refine lv_bipush (v := 63) hx hb dL_law_30 (by decide) ?_
      refine lv_iand hx hb dL_law_32 ?_
      obtain ⟨j, hj, ej⟩ := pk_andE (xs i.toNatClampNeg) (m := 63) 6 (by decide)
      refine lv_topi (fun z ez => ?_)
      rw [ej] at ez
      subst ez
      refine law_disp X hL hi6 ?_ σ8 σ9 H locs ls hJ8 hJ9 hDK hR hP8 hP9 hS hl j hj
      intro σ8 σ9 H locs ls hJ8 hJ9 hDK hR hP8 hP9 hS hl
      obtain ⟨k, ek⟩ : ∃ y : Int32, y = i + 6 := ⟨_, rfl⟩
      have hk := addO ek (by omega)
      refine lv_iinc (v := k) (lv' := [(3, .int k), (2, .ref (g2 60)), (1, .ref (gO g1 17)), (0, .ref b)]) hx hb dL_law_2411 hl (k := 0) rfl (by rw [ek]; rfl) (by decide) rfl (fun ls hl => ?_)
      refine lv_goto (tgt := 18) hx hb dL_law_2414 (by decide) ?_
      exact ih k σ8 σ9 H locs ls (by omega) ⟨by omega, by omega⟩ hJ8 hJ9 hDK hR hP8 hP9 hS hl

