theorem q910 : Cond.methodLink RL 79 yX8_plays ∈ lw_g := lw_gm (List.mem_of_getElem? (i := 910) (by decide +kernel)) rfl
theorem q911 : Cond.instanceMethod yX8_plays ∈ lw_g := lw_gm (List.mem_of_getElem? (i := 911) (by decide +kernel)) rfl
theorem q912 : Cond.selects RX8 yX8_plays yX8_plays ∈ lw_g := lw_gm (List.mem_of_getElem? (i := 912) (by decide +kernel)) rfl
theorem q1818 : Cond.methodLink RL 82 yX9_plays ∈ lw_g := lw_gm (List.mem_of_getElem? (i := 1818) (by decide +kernel)) rfl
theorem q1819 : Cond.instanceMethod yX9_plays ∈ lw_g := lw_gm (List.mem_of_getElem? (i := 1819) (by decide +kernel)) rfl
theorem q1820 : Cond.selects RX9 yX9_plays yX9_plays ∈ lw_g := lw_gm (List.mem_of_getElem? (i := 1820) (by decide +kernel)) rfl
theorem dL_law_849 : decode cL_law 849 = .ok (.aload_n 1, 1) := by decide +kernel
theorem dL_law_850 : decode cL_law 850 = .ok (.aload_n 0, 1) := by decide +kernel
theorem dL_law_851 : decode cL_law 851 = .ok (.iload_n 3, 1) := by decide +kernel
theorem dL_law_852 : decode cL_law 852 = .ok (.iconst 1, 1) := by decide +kernel
theorem dL_law_853 : decode cL_law 853 = .ok (.iadd, 1) := by decide +kernel
theorem dL_law_854 : decode cL_law 854 = .ok (.iaload, 1) := by decide +kernel
theorem dL_law_855 : decode cL_law 855 = .ok (.aload_n 0, 1) := by decide +kernel
theorem dL_law_856 : decode cL_law 856 = .ok (.iload_n 3, 1) := by decide +kernel
theorem dL_law_857 : decode cL_law 857 = .ok (.iconst 2, 1) := by decide +kernel
theorem dL_law_858 : decode cL_law 858 = .ok (.iadd, 1) := by decide +kernel
theorem dL_law_859 : decode cL_law 859 = .ok (.iaload, 1) := by decide +kernel
theorem dL_law_860 : decode cL_law 860 = .ok (.invokevirtual 79, 3) := by decide +kernel
theorem dL_law_863 : decode cL_law 863 = .ok (.pop, 1) := by decide +kernel
theorem dL_law_864 : decode cL_law 864 = .ok (.aload_n 2, 1) := by decide +kernel
theorem dL_law_865 : decode cL_law 865 = .ok (.aload_n 0, 1) := by decide +kernel
theorem dL_law_866 : decode cL_law 866 = .ok (.iload_n 3, 1) := by decide +kernel
theorem dL_law_867 : decode cL_law 867 = .ok (.iconst 1, 1) := by decide +kernel
theorem dL_law_868 : decode cL_law 868 = .ok (.iadd, 1) := by decide +kernel
theorem dL_law_869 : decode cL_law 869 = .ok (.iaload, 1) := by decide +kernel
theorem dL_law_870 : decode cL_law 870 = .ok (.aload_n 0, 1) := by decide +kernel
theorem dL_law_871 : decode cL_law 871 = .ok (.iload_n 3, 1) := by decide +kernel
theorem dL_law_872 : decode cL_law 872 = .ok (.iconst 2, 1) := by decide +kernel
theorem dL_law_873 : decode cL_law 873 = .ok (.iadd, 1) := by decide +kernel
theorem dL_law_874 : decode cL_law 874 = .ok (.iaload, 1) := by decide +kernel
theorem dL_law_875 : decode cL_law 875 = .ok (.invokevirtual 82, 3) := by decide +kernel
theorem dL_law_878 : decode cL_law 878 = .ok (.pop, 1) := by decide +kernel
theorem dL_law_879 : decode cL_law 879 = .ok (.goto 1532, 3) := by decide +kernel
set_option maxHeartbeats 4000000 in
set_option maxRecDepth 100000 in
theorem lawc_15 {p : Program} {l : Launch} {e : Env} {s : State} {m : MethodId} {below : List Frame} {meth : Method} {c : Code} {b L : Nat} {xs : Nat → Int32} {D : va_G} {cy : Nat → ClassId} {g1 g2 : Nat → Nat} (X : LX p s m meth c b L xs D cy g1 g2) (hL : L ≤ 3072) {i : Int32} (hi : (0 : Int) ≤ i.toInt ∧ i.toInt + 6 ≤ (L : Int)) (hnext : (∀ (σ8 σ9 : ST) (H : Heap) (locs : List Loc) (ls : Array Slot), J8 σ8 → J9 (σ9 9) → DKA (σ9 9) → KP σ8 (σ9 9) → va_P D clz (WD8 cy g1 σ8) H → va_P D clz (WD9 cy g2 σ9) H → va_S (lawA s) s.heap H locs → lv_has ls 4 [(3, .int i), (2, .ref (g2 60)), (1, .ref (gO g1 17)), (0, .ref b)] → W p l e room_1 s m #[Value.ref b] below meth c H locs 200 700000 (lw_Z below #[Value.ref b] s) (F0 m 2411 ls []))) (σ8 σ9 : ST) (H : Heap) (locs : List Loc) (ls : Array Slot) (hJ8 : J8 σ8) (hJ9 : J9 (σ9 9)) (hDK : DKA (σ9 9)) (hR : KP σ8 (σ9 9)) (hP8 : va_P D clz (WD8 cy g1 σ8) H) (hP9 : va_P D clz (WD9 cy g2 σ9) H) (hS : va_S (lawA s) s.heap H locs) (hl : lv_has ls 4 [(3, .int i), (2, .ref (g2 60)), (1, .ref (gO g1 17)), (0, .ref b)]) : W p l e room_1 s m #[Value.ref b] below meth c H locs 200 700000 (lw_Z below #[Value.ref b] s) (F0 m 849 ls []) := by
  obtain ⟨⟨hx, hb, hr, hml, hown0, hts0, hX, hbl, hlocks, hgv⟩, hK, hDD, hC8, hC9⟩ := X
  have hown : s.vm.findClass RL = some m.cls := hown0
  have hts : ∀ w ∈ lw_g, w.before #[Value.ref b] s = true := fun w h => hts0 w (lw_gt h)
  have hbA : ¬ lawA s b := Nat.not_le.mpr hbl
  have hA8 := A8_law hDD
  have hA9 := A9_law hDD
  have hD8 : ∀ τ : ST, va_D (A8 cy g1 s.heap.size) (WD8 cy g1 τ) := fun τ => by rw [hA8]; exact map_D WD8_m (D_l hDD)
  have hD9 : ∀ τ : ST, va_D (A9 cy g2 s.heap.size) (WD9 cy g2 τ) := fun τ => by rw [hA9]; exact map_D WD9_m (D_r hDD)
  rw [← hA8] at hC8
  rw [← hA9] at hC9
  refine lv_aload_n hx hb dL_law_849 rfl (lv_at hl 2 rfl) ?_
  refine lv_aload_n hx hb dL_law_850 rfl (lv_at hl 3 rfl) ?_
  refine lv_iload_n hx hb dL_law_851 rfl (lv_at hl 0 rfl) ?_
  refine lv_iconst (v := 1) hx hb dL_law_852 (by decide) ?_
  refine lv_iadd hx hb dL_law_853 ?_
  refine lv_topi (fun x1 ex1 => ?_)
  have t2 := addO ex1 (by have f0 := hi; have f1 := hL; have z1 : (1 : Int32).toInt = 1 := (by decide); omega)
  refine va_sld hx hb hX hbl hbA hS (vpo (by have f0 := t2; have f1 := hi; have f2 := hL; have g0 := rg32 x1; have z1 : (1 : Int32).toInt = 1 := (by decide); omega)) dL_law_854 ?_
  refine lv_topi (fun x3 ex3 => ?_)
  refine lv_aload_n hx hb dL_law_855 rfl (lv_at hl 3 rfl) ?_
  refine lv_iload_n hx hb dL_law_856 rfl (lv_at hl 0 rfl) ?_
  refine lv_iconst (v := 2) hx hb dL_law_857 (by decide) ?_
  refine lv_iadd hx hb dL_law_858 ?_
  refine lv_topi (fun x4 ex4 => ?_)
  have t5 := addO ex4 (by have f0 := hi; have f1 := hL; have f2 := t2; have z1 : (1 : Int32).toInt = 1 := (by decide); have z2 : (2 : Int32).toInt = 2 := (by decide); omega)
  refine va_sld hx hb hX hbl hbA hS (vpo (by have f0 := t5; have f1 := hi; have f2 := hL; have f3 := t2; have g0 := rg32 x4; have z1 : (1 : Int32).toInt = 1 := (by decide); have z2 : (2 : Int32).toInt = 2 := (by decide); omega)) dL_law_859 ?_
  refine lv_topi (fun x6 ex6 => ?_)
  have hSx : va_S (A8 cy g1 s.heap.size) s.heap H locs := by rw [hA8]; exact hS
  refine va_calli (va_runV (As := [.int x3, .int x6]) (rest := []) ⟨hx, hb, hml, hown, hts⟩ (m_X8_plays l D cy g1 σ8 x3 x6 _ hJ8) (cwV 2 hts (gd_V q910 q911 q912 q125 q913) rfl rfl rfl (by decide +kernel) ⟨Nat.le_of_ble_eq_true rfl, Nat.le_of_ble_eq_true rfl⟩) (pv8 hP8 hK hD8 hC8 hSx (rv8_8 hK hP8)) rfl rfl hl.1 rfl (lv_room (Nat.le_of_ble_eq_true rfl)) dL_law_860 ⟨Nat.le_of_ble_eq_true rfl, Nat.le_of_ble_eq_true rfl⟩) hSx (fun q _ h => up8 hSx q h) (up8 hSx) (fun r7 υ8 tS H1 locs ht hvm hw9 hB hz1 hk1 hSy => ?_)
  have hP8 : va_P D clz (WD8 cy g1 υ8) H1 := by rw [← ht]; exact hB
  have hP9 := kp9 hDD hP9 hk1
  have hS : va_S (lawA s) s.heap H1 locs := by rw [← hA8]; exact hSy
  clear hB hz1 hk1 hvm ht hSx hSy
  generalize H1 = H at hP8 hP9 hS ⊢
  have hJ10 : J8 υ8 := hw9.2.1
  have hR11 : KP υ8 (σ9 9) := KP.fr8 hR (show Fr (fO [11, 13]) σ8 υ8 from hw9.1) (by decide)
  refine lv_pop hx hb dL_law_863 rfl ?_
  refine lv_aload_n hx hb dL_law_864 rfl (lv_at hl 1 rfl) ?_
  refine lv_aload_n hx hb dL_law_865 rfl (lv_at hl 3 rfl) ?_
  refine lv_iload_n hx hb dL_law_866 rfl (lv_at hl 0 rfl) ?_
  refine lv_iconst (v := 1) hx hb dL_law_867 (by decide) ?_
  refine lv_iadd hx hb dL_law_868 ?_
  refine lv_topi (fun x12 ex12 => ?_)
  have t13 := addO ex12 (by have f0 := hi; have f1 := hL; have f2 := t2; have f3 := t5; have z1 : (1 : Int32).toInt = 1 := (by decide); have z2 : (2 : Int32).toInt = 2 := (by decide); omega)
  refine va_sld hx hb hX hbl hbA hS (vpo (by have f0 := t13; have f1 := hi; have f2 := hL; have f3 := t2; have f4 := t5; have g0 := rg32 x12; have z1 : (1 : Int32).toInt = 1 := (by decide); have z2 : (2 : Int32).toInt = 2 := (by decide); omega)) dL_law_869 ?_
  refine lv_topi (fun x14 ex14 => ?_)
  refine lv_aload_n hx hb dL_law_870 rfl (lv_at hl 3 rfl) ?_
  refine lv_iload_n hx hb dL_law_871 rfl (lv_at hl 0 rfl) ?_
  refine lv_iconst (v := 2) hx hb dL_law_872 (by decide) ?_
  refine lv_iadd hx hb dL_law_873 ?_
  refine lv_topi (fun x15 ex15 => ?_)
  have t16 := addO ex15 (by have f0 := hi; have f1 := hL; have f2 := t2; have f3 := t5; have f4 := t13; have z1 : (1 : Int32).toInt = 1 := (by decide); have z2 : (2 : Int32).toInt = 2 := (by decide); omega)
  refine va_sld hx hb hX hbl hbA hS (vpo (by have f0 := t16; have f1 := hi; have f2 := hL; have f3 := t2; have f4 := t5; have f5 := t13; have g0 := rg32 x15; have z1 : (1 : Int32).toInt = 1 := (by decide); have z2 : (2 : Int32).toInt = 2 := (by decide); omega)) dL_law_874 ?_
  refine lv_topi (fun x17 ex17 => ?_)
  have hSx : va_S (A9 cy g2 s.heap.size) s.heap H locs := by rw [hA9]; exact hS
  refine va_calli (va_runV (As := [.int x14, .int x17]) (rest := []) ⟨hx, hb, hml, hown, hts⟩ (m_X9_plays l D cy g2 σ9 x14 x17 _ hJ9 (DKA.zero hDK)) (cwV 2 hts (gd_V q1818 q1819 q1820 q134 q1821) rfl rfl rfl (by decide +kernel) ⟨Nat.le_of_ble_eq_true rfl, Nat.le_of_ble_eq_true rfl⟩) (pv9 hP9 hK hD9 hC9 hSx (va_recv hK hP9 (ci := 9) (q0 := 0) rfl rfl)) rfl rfl hl.1 rfl (lv_room (Nat.le_of_ble_eq_true rfl)) dL_law_875 ⟨Nat.le_of_ble_eq_true rfl, Nat.le_of_ble_eq_true rfl⟩) hSx (fun q _ h => up9 hSx q h) (up9 hSx) (fun r18 υ19 tS H1 locs ht hvm hw20 hB hz1 hk1 hSy => ?_)
  have hP9 : va_P D clz (WD9 cy g2 υ19) H1 := by rw [← ht]; exact hB
  have hP8 := kp8 hDD hP8 hk1
  have hS : va_S (lawA s) s.heap H1 locs := by rw [← hA9]; exact hSy
  clear hB hz1 hk1 hvm ht hSx hSy
  generalize H1 = H at hP8 hP9 hS ⊢
  have hF21 : Fr (fL [0, 23, 24, 25, 26, 27, 28, 29, 30, 31, 32, 33, 34, 35, 36, 37, 38, 39, 40, 41]) σ9 υ19 := hw20.1
  have hJ22 : J9 (υ19 9) := hw20.2.1
  have hK23 : DKA (υ19 9) := DKA.mv hDK (hF21 9 17 rfl).2.2.1 (hF21 9 18 rfl).2.2.1 (hF21 9 19 rfl).2.2.1
  have hR24 : KP υ8 (υ19 9) := KP.fr9 hR11 (hF21 9 22 rfl).2.2.1
  refine lv_pop hx hb dL_law_878 rfl ?_
  refine lv_goto (tgt := 2411) hx hb dL_law_879 (by decide) ?_
  exact hnext _ _ _ _ _ hJ10 hJ22 hK23 hR24 hP8 hP9 hS hl

theorem q992 : Cond.methodLink RL 83 yX8_cost ∈ lw_g := lw_gm (List.mem_of_getElem? (i := 992) (by decide +kernel)) rfl
theorem q993 : Cond.instanceMethod yX8_cost ∈ lw_g := lw_gm (List.mem_of_getElem? (i := 993) (by decide +kernel)) rfl
theorem q994 : Cond.selects RX8 yX8_cost yX8_cost ∈ lw_g := lw_gm (List.mem_of_getElem? (i := 994) (by decide +kernel)) rfl
theorem q1872 : Cond.methodLink RL 86 yX9_cost ∈ lw_g := lw_gm (List.mem_of_getElem? (i := 1872) (by decide +kernel)) rfl
theorem q1873 : Cond.instanceMethod yX9_cost ∈ lw_g := lw_gm (List.mem_of_getElem? (i := 1873) (by decide +kernel)) rfl
theorem q1874 : Cond.selects RX9 yX9_cost yX9_cost ∈ lw_g := lw_gm (List.mem_of_getElem? (i := 1874) (by decide +kernel)) rfl
theorem dL_law_882 : decode cL_law 882 = .ok (.aload_n 1, 1) := by decide +kernel
theorem dL_law_883 : decode cL_law 883 = .ok (.aload_n 0, 1) := by decide +kernel
theorem dL_law_884 : decode cL_law 884 = .ok (.iload_n 3, 1) := by decide +kernel
theorem dL_law_885 : decode cL_law 885 = .ok (.iconst 1, 1) := by decide +kernel
theorem dL_law_886 : decode cL_law 886 = .ok (.iadd, 1) := by decide +kernel
theorem dL_law_887 : decode cL_law 887 = .ok (.iaload, 1) := by decide +kernel
theorem dL_law_888 : decode cL_law 888 = .ok (.aload_n 0, 1) := by decide +kernel
theorem dL_law_889 : decode cL_law 889 = .ok (.iload_n 3, 1) := by decide +kernel
theorem dL_law_890 : decode cL_law 890 = .ok (.iconst 2, 1) := by decide +kernel
theorem dL_law_891 : decode cL_law 891 = .ok (.iadd, 1) := by decide +kernel
theorem dL_law_892 : decode cL_law 892 = .ok (.iaload, 1) := by decide +kernel
theorem dL_law_893 : decode cL_law 893 = .ok (.invokevirtual 83, 3) := by decide +kernel
theorem dL_law_896 : decode cL_law 896 = .ok (.pop, 1) := by decide +kernel
theorem dL_law_897 : decode cL_law 897 = .ok (.aload_n 2, 1) := by decide +kernel
theorem dL_law_898 : decode cL_law 898 = .ok (.aload_n 0, 1) := by decide +kernel
theorem dL_law_899 : decode cL_law 899 = .ok (.iload_n 3, 1) := by decide +kernel
theorem dL_law_900 : decode cL_law 900 = .ok (.iconst 1, 1) := by decide +kernel
theorem dL_law_901 : decode cL_law 901 = .ok (.iadd, 1) := by decide +kernel
theorem dL_law_902 : decode cL_law 902 = .ok (.iaload, 1) := by decide +kernel
theorem dL_law_903 : decode cL_law 903 = .ok (.aload_n 0, 1) := by decide +kernel
theorem dL_law_904 : decode cL_law 904 = .ok (.iload_n 3, 1) := by decide +kernel
theorem dL_law_905 : decode cL_law 905 = .ok (.iconst 2, 1) := by decide +kernel
theorem dL_law_906 : decode cL_law 906 = .ok (.iadd, 1) := by decide +kernel
theorem dL_law_907 : decode cL_law 907 = .ok (.iaload, 1) := by decide +kernel
theorem dL_law_908 : decode cL_law 908 = .ok (.invokevirtual 86, 3) := by decide +kernel
theorem dL_law_911 : decode cL_law 911 = .ok (.pop, 1) := by decide +kernel
theorem dL_law_912 : decode cL_law 912 = .ok (.goto 1499, 3) := by decide +kernel
set_option maxHeartbeats 4000000 in
set_option maxRecDepth 100000 in
theorem lawc_16 {p : Program} {l : Launch} {e : Env} {s : State} {m : MethodId} {below : List Frame} {meth : Method} {c : Code} {b L : Nat} {xs : Nat → Int32} {D : va_G} {cy : Nat → ClassId} {g1 g2 : Nat → Nat} (X : LX p s m meth c b L xs D cy g1 g2) (hL : L ≤ 3072) {i : Int32} (hi : (0 : Int) ≤ i.toInt ∧ i.toInt + 6 ≤ (L : Int)) (hnext : (∀ (σ8 σ9 : ST) (H : Heap) (locs : List Loc) (ls : Array Slot), J8 σ8 → J9 (σ9 9) → DKA (σ9 9) → KP σ8 (σ9 9) → va_P D clz (WD8 cy g1 σ8) H → va_P D clz (WD9 cy g2 σ9) H → va_S (lawA s) s.heap H locs → lv_has ls 4 [(3, .int i), (2, .ref (g2 60)), (1, .ref (gO g1 17)), (0, .ref b)] → W p l e room_1 s m #[Value.ref b] below meth c H locs 200 700000 (lw_Z below #[Value.ref b] s) (F0 m 2411 ls []))) (σ8 σ9 : ST) (H : Heap) (locs : List Loc) (ls : Array Slot) (hJ8 : J8 σ8) (hJ9 : J9 (σ9 9)) (hDK : DKA (σ9 9)) (hR : KP σ8 (σ9 9)) (hP8 : va_P D clz (WD8 cy g1 σ8) H) (hP9 : va_P D clz (WD9 cy g2 σ9) H) (hS : va_S (lawA s) s.heap H locs) (hl : lv_has ls 4 [(3, .int i), (2, .ref (g2 60)), (1, .ref (gO g1 17)), (0, .ref b)]) : W p l e room_1 s m #[Value.ref b] below meth c H locs 200 700000 (lw_Z below #[Value.ref b] s) (F0 m 882 ls []) := by
  obtain ⟨⟨hx, hb, hr, hml, hown0, hts0, hX, hbl, hlocks, hgv⟩, hK, hDD, hC8, hC9⟩ := X
  have hown : s.vm.findClass RL = some m.cls := hown0
  have hts : ∀ w ∈ lw_g, w.before #[Value.ref b] s = true := fun w h => hts0 w (lw_gt h)
  have hbA : ¬ lawA s b := Nat.not_le.mpr hbl
  have hA8 := A8_law hDD
  have hA9 := A9_law hDD
  have hD8 : ∀ τ : ST, va_D (A8 cy g1 s.heap.size) (WD8 cy g1 τ) := fun τ => by rw [hA8]; exact map_D WD8_m (D_l hDD)
  have hD9 : ∀ τ : ST, va_D (A9 cy g2 s.heap.size) (WD9 cy g2 τ) := fun τ => by rw [hA9]; exact map_D WD9_m (D_r hDD)
  rw [← hA8] at hC8
  rw [← hA9] at hC9
  refine lv_aload_n hx hb dL_law_882 rfl (lv_at hl 2 rfl) ?_
  refine lv_aload_n hx hb dL_law_883 rfl (lv_at hl 3 rfl) ?_
  refine lv_iload_n hx hb dL_law_884 rfl (lv_at hl 0 rfl) ?_
  refine lv_iconst (v := 1) hx hb dL_law_885 (by decide) ?_
  refine lv_iadd hx hb dL_law_886 ?_
  refine lv_topi (fun x1 ex1 => ?_)
  have t2 := addO ex1 (by have f0 := hi; have f1 := hL; have z1 : (1 : Int32).toInt = 1 := (by decide); omega)
  refine va_sld hx hb hX hbl hbA hS (vpo (by have f0 := t2; have f1 := hi; have f2 := hL; have g0 := rg32 x1; have z1 : (1 : Int32).toInt = 1 := (by decide); omega)) dL_law_887 ?_
  refine lv_topi (fun x3 ex3 => ?_)
  refine lv_aload_n hx hb dL_law_888 rfl (lv_at hl 3 rfl) ?_
  refine lv_iload_n hx hb dL_law_889 rfl (lv_at hl 0 rfl) ?_
  refine lv_iconst (v := 2) hx hb dL_law_890 (by decide) ?_
  refine lv_iadd hx hb dL_law_891 ?_
  refine lv_topi (fun x4 ex4 => ?_)
  have t5 := addO ex4 (by have f0 := hi; have f1 := hL; have f2 := t2; have z1 : (1 : Int32).toInt = 1 := (by decide); have z2 : (2 : Int32).toInt = 2 := (by decide); omega)
  refine va_sld hx hb hX hbl hbA hS (vpo (by have f0 := t5; have f1 := hi; have f2 := hL; have f3 := t2; have g0 := rg32 x4; have z1 : (1 : Int32).toInt = 1 := (by decide); have z2 : (2 : Int32).toInt = 2 := (by decide); omega)) dL_law_892 ?_
  refine lv_topi (fun x6 ex6 => ?_)
  have hSx : va_S (A8 cy g1 s.heap.size) s.heap H locs := by rw [hA8]; exact hS
  refine va_calli (va_runV (As := [.int x3, .int x6]) (rest := []) ⟨hx, hb, hml, hown, hts⟩ (m_X8_cost l D cy g1 σ8 x3 x6 _ hJ8) (cwV 2 hts (gd_V q992 q993 q994 q125 q995) rfl rfl rfl (by decide +kernel) ⟨Nat.le_of_ble_eq_true rfl, Nat.le_of_ble_eq_true rfl⟩) (pv8 hP8 hK hD8 hC8 hSx (rv8_8 hK hP8)) rfl rfl hl.1 rfl (lv_room (Nat.le_of_ble_eq_true rfl)) dL_law_893 ⟨Nat.le_of_ble_eq_true rfl, Nat.le_of_ble_eq_true rfl⟩) hSx (fun q _ h => up8 hSx q h) (up8 hSx) (fun r7 υ8 tS H1 locs ht hvm hw9 hB hz1 hk1 hSy => ?_)
  have hP8 : va_P D clz (WD8 cy g1 υ8) H1 := by rw [← ht]; exact hB
  have hP9 := kp9 hDD hP9 hk1
  have hS : va_S (lawA s) s.heap H1 locs := by rw [← hA8]; exact hSy
  clear hB hz1 hk1 hvm ht hSx hSy
  generalize H1 = H at hP8 hP9 hS ⊢
  have hJ10 : J8 υ8 := hw9.2.1
  have hR11 : KP υ8 (σ9 9) := KP.fr8 hR (show Fr (fO [11, 13]) σ8 υ8 from hw9.1) (by decide)
  refine lv_pop hx hb dL_law_896 rfl ?_
  refine lv_aload_n hx hb dL_law_897 rfl (lv_at hl 1 rfl) ?_
  refine lv_aload_n hx hb dL_law_898 rfl (lv_at hl 3 rfl) ?_
  refine lv_iload_n hx hb dL_law_899 rfl (lv_at hl 0 rfl) ?_
  refine lv_iconst (v := 1) hx hb dL_law_900 (by decide) ?_
  refine lv_iadd hx hb dL_law_901 ?_
  refine lv_topi (fun x12 ex12 => ?_)
  have t13 := addO ex12 (by have f0 := hi; have f1 := hL; have f2 := t2; have f3 := t5; have z1 : (1 : Int32).toInt = 1 := (by decide); have z2 : (2 : Int32).toInt = 2 := (by decide); omega)
  refine va_sld hx hb hX hbl hbA hS (vpo (by have f0 := t13; have f1 := hi; have f2 := hL; have f3 := t2; have f4 := t5; have g0 := rg32 x12; have z1 : (1 : Int32).toInt = 1 := (by decide); have z2 : (2 : Int32).toInt = 2 := (by decide); omega)) dL_law_902 ?_
  refine lv_topi (fun x14 ex14 => ?_)
  refine lv_aload_n hx hb dL_law_903 rfl (lv_at hl 3 rfl) ?_
  refine lv_iload_n hx hb dL_law_904 rfl (lv_at hl 0 rfl) ?_
  refine lv_iconst (v := 2) hx hb dL_law_905 (by decide) ?_
  refine lv_iadd hx hb dL_law_906 ?_
  refine lv_topi (fun x15 ex15 => ?_)
  have t16 := addO ex15 (by have f0 := hi; have f1 := hL; have f2 := t2; have f3 := t5; have f4 := t13; have z1 : (1 : Int32).toInt = 1 := (by decide); have z2 : (2 : Int32).toInt = 2 := (by decide); omega)
  refine va_sld hx hb hX hbl hbA hS (vpo (by have f0 := t16; have f1 := hi; have f2 := hL; have f3 := t2; have f4 := t5; have f5 := t13; have g0 := rg32 x15; have z1 : (1 : Int32).toInt = 1 := (by decide); have z2 : (2 : Int32).toInt = 2 := (by decide); omega)) dL_law_907 ?_
  refine lv_topi (fun x17 ex17 => ?_)
  have hSx : va_S (A9 cy g2 s.heap.size) s.heap H locs := by rw [hA9]; exact hS
  refine va_calli (va_runV (As := [.int x14, .int x17]) (rest := []) ⟨hx, hb, hml, hown, hts⟩ (m_X9_cost l D cy g2 σ9 x14 x17 _ hJ9 (DKA.zero hDK)) (cwV 2 hts (gd_V q1872 q1873 q1874 q134 q1875) rfl rfl rfl (by decide +kernel) ⟨Nat.le_of_ble_eq_true rfl, Nat.le_of_ble_eq_true rfl⟩) (pv9 hP9 hK hD9 hC9 hSx (va_recv hK hP9 (ci := 9) (q0 := 0) rfl rfl)) rfl rfl hl.1 rfl (lv_room (Nat.le_of_ble_eq_true rfl)) dL_law_908 ⟨Nat.le_of_ble_eq_true rfl, Nat.le_of_ble_eq_true rfl⟩) hSx (fun q _ h => up9 hSx q h) (up9 hSx) (fun r18 υ19 tS H1 locs ht hvm hw20 hB hz1 hk1 hSy => ?_)
  have hP9 : va_P D clz (WD9 cy g2 υ19) H1 := by rw [← ht]; exact hB
  have hP8 := kp8 hDD hP8 hk1
  have hS : va_S (lawA s) s.heap H1 locs := by rw [← hA9]; exact hSy
  clear hB hz1 hk1 hvm ht hSx hSy
  generalize H1 = H at hP8 hP9 hS ⊢
  have hF21 : Fr (fL [0, 23, 24, 25, 26, 27, 28, 29, 30, 31, 32, 33, 34, 35, 36, 37, 38, 39, 40, 41]) σ9 υ19 := hw20.1
  have hJ22 : J9 (υ19 9) := hw20.2.1
  have hK23 : DKA (υ19 9) := DKA.mv hDK (hF21 9 17 rfl).2.2.1 (hF21 9 18 rfl).2.2.1 (hF21 9 19 rfl).2.2.1
  have hR24 : KP υ8 (υ19 9) := KP.fr9 hR11 (hF21 9 22 rfl).2.2.1
  refine lv_pop hx hb dL_law_911 rfl ?_
  refine lv_goto (tgt := 2411) hx hb dL_law_912 (by decide) ?_
  exact hnext _ _ _ _ _ hJ10 hJ22 hK23 hR24 hP8 hP9 hS hl

theorem q996 : Cond.methodLink RL 87 yX8_sour ∈ lw_g := lw_gm (List.mem_of_getElem? (i := 996) (by decide +kernel)) rfl
theorem q997 : Cond.instanceMethod yX8_sour ∈ lw_g := lw_gm (List.mem_of_getElem? (i := 997) (by decide +kernel)) rfl
theorem q998 : Cond.selects RX8 yX8_sour yX8_sour ∈ lw_g := lw_gm (List.mem_of_getElem? (i := 998) (by decide +kernel)) rfl
theorem q1876 : Cond.methodLink RL 90 yX9_sour ∈ lw_g := lw_gm (List.mem_of_getElem? (i := 1876) (by decide +kernel)) rfl
theorem q1877 : Cond.instanceMethod yX9_sour ∈ lw_g := lw_gm (List.mem_of_getElem? (i := 1877) (by decide +kernel)) rfl
theorem q1878 : Cond.selects RX9 yX9_sour yX9_sour ∈ lw_g := lw_gm (List.mem_of_getElem? (i := 1878) (by decide +kernel)) rfl
theorem dL_law_915 : decode cL_law 915 = .ok (.aload_n 1, 1) := by decide +kernel
theorem dL_law_916 : decode cL_law 916 = .ok (.aload_n 0, 1) := by decide +kernel
theorem dL_law_917 : decode cL_law 917 = .ok (.iload_n 3, 1) := by decide +kernel
theorem dL_law_918 : decode cL_law 918 = .ok (.iconst 1, 1) := by decide +kernel
theorem dL_law_919 : decode cL_law 919 = .ok (.iadd, 1) := by decide +kernel
theorem dL_law_920 : decode cL_law 920 = .ok (.iaload, 1) := by decide +kernel
theorem dL_law_921 : decode cL_law 921 = .ok (.aload_n 0, 1) := by decide +kernel
theorem dL_law_922 : decode cL_law 922 = .ok (.iload_n 3, 1) := by decide +kernel
theorem dL_law_923 : decode cL_law 923 = .ok (.iconst 2, 1) := by decide +kernel
theorem dL_law_924 : decode cL_law 924 = .ok (.iadd, 1) := by decide +kernel
theorem dL_law_925 : decode cL_law 925 = .ok (.iaload, 1) := by decide +kernel
theorem dL_law_926 : decode cL_law 926 = .ok (.invokevirtual 87, 3) := by decide +kernel
theorem dL_law_929 : decode cL_law 929 = .ok (.pop, 1) := by decide +kernel
theorem dL_law_930 : decode cL_law 930 = .ok (.aload_n 2, 1) := by decide +kernel
theorem dL_law_931 : decode cL_law 931 = .ok (.aload_n 0, 1) := by decide +kernel
theorem dL_law_932 : decode cL_law 932 = .ok (.iload_n 3, 1) := by decide +kernel
theorem dL_law_933 : decode cL_law 933 = .ok (.iconst 1, 1) := by decide +kernel
theorem dL_law_934 : decode cL_law 934 = .ok (.iadd, 1) := by decide +kernel
theorem dL_law_935 : decode cL_law 935 = .ok (.iaload, 1) := by decide +kernel
theorem dL_law_936 : decode cL_law 936 = .ok (.aload_n 0, 1) := by decide +kernel
theorem dL_law_937 : decode cL_law 937 = .ok (.iload_n 3, 1) := by decide +kernel
theorem dL_law_938 : decode cL_law 938 = .ok (.iconst 2, 1) := by decide +kernel
theorem dL_law_939 : decode cL_law 939 = .ok (.iadd, 1) := by decide +kernel
theorem dL_law_940 : decode cL_law 940 = .ok (.iaload, 1) := by decide +kernel
theorem dL_law_941 : decode cL_law 941 = .ok (.invokevirtual 90, 3) := by decide +kernel
theorem dL_law_944 : decode cL_law 944 = .ok (.pop, 1) := by decide +kernel
theorem dL_law_945 : decode cL_law 945 = .ok (.goto 1466, 3) := by decide +kernel
set_option maxHeartbeats 4000000 in
set_option maxRecDepth 100000 in
theorem lawc_17 {p : Program} {l : Launch} {e : Env} {s : State} {m : MethodId} {below : List Frame} {meth : Method} {c : Code} {b L : Nat} {xs : Nat → Int32} {D : va_G} {cy : Nat → ClassId} {g1 g2 : Nat → Nat} (X : LX p s m meth c b L xs D cy g1 g2) (hL : L ≤ 3072) {i : Int32} (hi : (0 : Int) ≤ i.toInt ∧ i.toInt + 6 ≤ (L : Int)) (hnext : (∀ (σ8 σ9 : ST) (H : Heap) (locs : List Loc) (ls : Array Slot), J8 σ8 → J9 (σ9 9) → DKA (σ9 9) → KP σ8 (σ9 9) → va_P D clz (WD8 cy g1 σ8) H → va_P D clz (WD9 cy g2 σ9) H → va_S (lawA s) s.heap H locs → lv_has ls 4 [(3, .int i), (2, .ref (g2 60)), (1, .ref (gO g1 17)), (0, .ref b)] → W p l e room_1 s m #[Value.ref b] below meth c H locs 200 700000 (lw_Z below #[Value.ref b] s) (F0 m 2411 ls []))) (σ8 σ9 : ST) (H : Heap) (locs : List Loc) (ls : Array Slot) (hJ8 : J8 σ8) (hJ9 : J9 (σ9 9)) (hDK : DKA (σ9 9)) (hR : KP σ8 (σ9 9)) (hP8 : va_P D clz (WD8 cy g1 σ8) H) (hP9 : va_P D clz (WD9 cy g2 σ9) H) (hS : va_S (lawA s) s.heap H locs) (hl : lv_has ls 4 [(3, .int i), (2, .ref (g2 60)), (1, .ref (gO g1 17)), (0, .ref b)]) : W p l e room_1 s m #[Value.ref b] below meth c H locs 200 700000 (lw_Z below #[Value.ref b] s) (F0 m 915 ls []) := by
  obtain ⟨⟨hx, hb, hr, hml, hown0, hts0, hX, hbl, hlocks, hgv⟩, hK, hDD, hC8, hC9⟩ := X
  have hown : s.vm.findClass RL = some m.cls := hown0
  have hts : ∀ w ∈ lw_g, w.before #[Value.ref b] s = true := fun w h => hts0 w (lw_gt h)
  have hbA : ¬ lawA s b := Nat.not_le.mpr hbl
  have hA8 := A8_law hDD
  have hA9 := A9_law hDD
  have hD8 : ∀ τ : ST, va_D (A8 cy g1 s.heap.size) (WD8 cy g1 τ) := fun τ => by rw [hA8]; exact map_D WD8_m (D_l hDD)
  have hD9 : ∀ τ : ST, va_D (A9 cy g2 s.heap.size) (WD9 cy g2 τ) := fun τ => by rw [hA9]; exact map_D WD9_m (D_r hDD)
  rw [← hA8] at hC8
  rw [← hA9] at hC9
  refine lv_aload_n hx hb dL_law_915 rfl (lv_at hl 2 rfl) ?_
  refine lv_aload_n hx hb dL_law_916 rfl (lv_at hl 3 rfl) ?_
  refine lv_iload_n hx hb dL_law_917 rfl (lv_at hl 0 rfl) ?_
  refine lv_iconst (v := 1) hx hb dL_law_918 (by decide) ?_
  refine lv_iadd hx hb dL_law_919 ?_
  refine lv_topi (fun x1 ex1 => ?_)
  have t2 := addO ex1 (by have f0 := hi; have f1 := hL; have z1 : (1 : Int32).toInt = 1 := (by decide); omega)
  refine va_sld hx hb hX hbl hbA hS (vpo (by have f0 := t2; have f1 := hi; have f2 := hL; have g0 := rg32 x1; have z1 : (1 : Int32).toInt = 1 := (by decide); omega)) dL_law_920 ?_
  refine lv_topi (fun x3 ex3 => ?_)
  refine lv_aload_n hx hb dL_law_921 rfl (lv_at hl 3 rfl) ?_
  refine lv_iload_n hx hb dL_law_922 rfl (lv_at hl 0 rfl) ?_
  refine lv_iconst (v := 2) hx hb dL_law_923 (by decide) ?_
  refine lv_iadd hx hb dL_law_924 ?_
  refine lv_topi (fun x4 ex4 => ?_)
  have t5 := addO ex4 (by have f0 := hi; have f1 := hL; have f2 := t2; have z1 : (1 : Int32).toInt = 1 := (by decide); have z2 : (2 : Int32).toInt = 2 := (by decide); omega)
  refine va_sld hx hb hX hbl hbA hS (vpo (by have f0 := t5; have f1 := hi; have f2 := hL; have f3 := t2; have g0 := rg32 x4; have z1 : (1 : Int32).toInt = 1 := (by decide); have z2 : (2 : Int32).toInt = 2 := (by decide); omega)) dL_law_925 ?_
  refine lv_topi (fun x6 ex6 => ?_)
  have hSx : va_S (A8 cy g1 s.heap.size) s.heap H locs := by rw [hA8]; exact hS
  refine va_calli (va_runV (As := [.int x3, .int x6]) (rest := []) ⟨hx, hb, hml, hown, hts⟩ (m_X8_sour l D cy g1 σ8 x3 x6 _ hJ8) (cwV 2 hts (gd_V q996 q997 q998 q125 q999) rfl rfl rfl (by decide +kernel) ⟨Nat.le_of_ble_eq_true rfl, Nat.le_of_ble_eq_true rfl⟩) (pv8 hP8 hK hD8 hC8 hSx (rv8_8 hK hP8)) rfl rfl hl.1 rfl (lv_room (Nat.le_of_ble_eq_true rfl)) dL_law_926 ⟨Nat.le_of_ble_eq_true rfl, Nat.le_of_ble_eq_true rfl⟩) hSx (fun q _ h => up8 hSx q h) (up8 hSx) (fun r7 υ8 tS H1 locs ht hvm hw9 hB hz1 hk1 hSy => ?_)
  have hP8 : va_P D clz (WD8 cy g1 υ8) H1 := by rw [← ht]; exact hB
  have hP9 := kp9 hDD hP9 hk1
  have hS : va_S (lawA s) s.heap H1 locs := by rw [← hA8]; exact hSy
  clear hB hz1 hk1 hvm ht hSx hSy
  generalize H1 = H at hP8 hP9 hS ⊢
  have hJ10 : J8 υ8 := hw9.2.1
  have hR11 : KP υ8 (σ9 9) := KP.fr8 hR (show Fr (fO [11, 13]) σ8 υ8 from hw9.1) (by decide)
  refine lv_pop hx hb dL_law_929 rfl ?_
  refine lv_aload_n hx hb dL_law_930 rfl (lv_at hl 1 rfl) ?_
  refine lv_aload_n hx hb dL_law_931 rfl (lv_at hl 3 rfl) ?_
  refine lv_iload_n hx hb dL_law_932 rfl (lv_at hl 0 rfl) ?_
  refine lv_iconst (v := 1) hx hb dL_law_933 (by decide) ?_
  refine lv_iadd hx hb dL_law_934 ?_
  refine lv_topi (fun x12 ex12 => ?_)
  have t13 := addO ex12 (by have f0 := hi; have f1 := hL; have f2 := t2; have f3 := t5; have z1 : (1 : Int32).toInt = 1 := (by decide); have z2 : (2 : Int32).toInt = 2 := (by decide); omega)
  refine va_sld hx hb hX hbl hbA hS (vpo (by have f0 := t13; have f1 := hi; have f2 := hL; have f3 := t2; have f4 := t5; have g0 := rg32 x12; have z1 : (1 : Int32).toInt = 1 := (by decide); have z2 : (2 : Int32).toInt = 2 := (by decide); omega)) dL_law_935 ?_
  refine lv_topi (fun x14 ex14 => ?_)
  refine lv_aload_n hx hb dL_law_936 rfl (lv_at hl 3 rfl) ?_
  refine lv_iload_n hx hb dL_law_937 rfl (lv_at hl 0 rfl) ?_
  refine lv_iconst (v := 2) hx hb dL_law_938 (by decide) ?_
  refine lv_iadd hx hb dL_law_939 ?_
  refine lv_topi (fun x15 ex15 => ?_)
  have t16 := addO ex15 (by have f0 := hi; have f1 := hL; have f2 := t2; have f3 := t5; have f4 := t13; have z1 : (1 : Int32).toInt = 1 := (by decide); have z2 : (2 : Int32).toInt = 2 := (by decide); omega)
  refine va_sld hx hb hX hbl hbA hS (vpo (by have f0 := t16; have f1 := hi; have f2 := hL; have f3 := t2; have f4 := t5; have f5 := t13; have g0 := rg32 x15; have z1 : (1 : Int32).toInt = 1 := (by decide); have z2 : (2 : Int32).toInt = 2 := (by decide); omega)) dL_law_940 ?_
  refine lv_topi (fun x17 ex17 => ?_)
  have hSx : va_S (A9 cy g2 s.heap.size) s.heap H locs := by rw [hA9]; exact hS
  refine va_calli (va_runV (As := [.int x14, .int x17]) (rest := []) ⟨hx, hb, hml, hown, hts⟩ (m_X9_sour l D cy g2 σ9 x14 x17 _ hJ9 (DKA.zero hDK)) (cwV 2 hts (gd_V q1876 q1877 q1878 q134 q1879) rfl rfl rfl (by decide +kernel) ⟨Nat.le_of_ble_eq_true rfl, Nat.le_of_ble_eq_true rfl⟩) (pv9 hP9 hK hD9 hC9 hSx (va_recv hK hP9 (ci := 9) (q0 := 0) rfl rfl)) rfl rfl hl.1 rfl (lv_room (Nat.le_of_ble_eq_true rfl)) dL_law_941 ⟨Nat.le_of_ble_eq_true rfl, Nat.le_of_ble_eq_true rfl⟩) hSx (fun q _ h => up9 hSx q h) (up9 hSx) (fun r18 υ19 tS H1 locs ht hvm hw20 hB hz1 hk1 hSy => ?_)
  have hP9 : va_P D clz (WD9 cy g2 υ19) H1 := by rw [← ht]; exact hB
  have hP8 := kp8 hDD hP8 hk1
  have hS : va_S (lawA s) s.heap H1 locs := by rw [← hA9]; exact hSy
  clear hB hz1 hk1 hvm ht hSx hSy
  generalize H1 = H at hP8 hP9 hS ⊢
  have hF21 : Fr (fL [0, 23, 24, 25, 26, 27, 28, 29, 30, 31, 32, 33, 34, 35, 36, 37, 38, 39, 40, 41]) σ9 υ19 := hw20.1
  have hJ22 : J9 (υ19 9) := hw20.2.1
  have hK23 : DKA (υ19 9) := DKA.mv hDK (hF21 9 17 rfl).2.2.1 (hF21 9 18 rfl).2.2.1 (hF21 9 19 rfl).2.2.1
  have hR24 : KP υ8 (υ19 9) := KP.fr9 hR11 (hF21 9 22 rfl).2.2.1
  refine lv_pop hx hb dL_law_944 rfl ?_
  refine lv_goto (tgt := 2411) hx hb dL_law_945 (by decide) ?_
  exact hnext _ _ _ _ _ hJ10 hJ22 hK23 hR24 hP8 hP9 hS hl

theorem q1000 : Cond.methodLink RL 91 yX8_chosen ∈ lw_g := lw_gm (List.mem_of_getElem? (i := 1000) (by decide +kernel)) rfl
theorem q1001 : Cond.instanceMethod yX8_chosen ∈ lw_g := lw_gm (List.mem_of_getElem? (i := 1001) (by decide +kernel)) rfl
theorem q1002 : Cond.selects RX8 yX8_chosen yX8_chosen ∈ lw_g := lw_gm (List.mem_of_getElem? (i := 1002) (by decide +kernel)) rfl
theorem q1880 : Cond.methodLink RL 94 yX9_chosen ∈ lw_g := lw_gm (List.mem_of_getElem? (i := 1880) (by decide +kernel)) rfl
theorem q1881 : Cond.instanceMethod yX9_chosen ∈ lw_g := lw_gm (List.mem_of_getElem? (i := 1881) (by decide +kernel)) rfl
theorem q1882 : Cond.selects RX9 yX9_chosen yX9_chosen ∈ lw_g := lw_gm (List.mem_of_getElem? (i := 1882) (by decide +kernel)) rfl
theorem dL_law_948 : decode cL_law 948 = .ok (.aload_n 1, 1) := by decide +kernel
theorem dL_law_949 : decode cL_law 949 = .ok (.aload_n 0, 1) := by decide +kernel
theorem dL_law_950 : decode cL_law 950 = .ok (.iload_n 3, 1) := by decide +kernel
theorem dL_law_951 : decode cL_law 951 = .ok (.iconst 1, 1) := by decide +kernel
theorem dL_law_952 : decode cL_law 952 = .ok (.iadd, 1) := by decide +kernel
theorem dL_law_953 : decode cL_law 953 = .ok (.iaload, 1) := by decide +kernel
theorem dL_law_954 : decode cL_law 954 = .ok (.aload_n 0, 1) := by decide +kernel
theorem dL_law_955 : decode cL_law 955 = .ok (.iload_n 3, 1) := by decide +kernel
theorem dL_law_956 : decode cL_law 956 = .ok (.iconst 2, 1) := by decide +kernel
theorem dL_law_957 : decode cL_law 957 = .ok (.iadd, 1) := by decide +kernel
theorem dL_law_958 : decode cL_law 958 = .ok (.iaload, 1) := by decide +kernel
theorem dL_law_959 : decode cL_law 959 = .ok (.aload_n 0, 1) := by decide +kernel
theorem dL_law_960 : decode cL_law 960 = .ok (.iload_n 3, 1) := by decide +kernel
theorem dL_law_961 : decode cL_law 961 = .ok (.iconst 3, 1) := by decide +kernel
theorem dL_law_962 : decode cL_law 962 = .ok (.iadd, 1) := by decide +kernel
theorem dL_law_963 : decode cL_law 963 = .ok (.iaload, 1) := by decide +kernel
theorem dL_law_964 : decode cL_law 964 = .ok (.aload_n 0, 1) := by decide +kernel
theorem dL_law_965 : decode cL_law 965 = .ok (.iload_n 3, 1) := by decide +kernel
theorem dL_law_966 : decode cL_law 966 = .ok (.iconst 4, 1) := by decide +kernel
theorem dL_law_967 : decode cL_law 967 = .ok (.iadd, 1) := by decide +kernel
theorem dL_law_968 : decode cL_law 968 = .ok (.iaload, 1) := by decide +kernel
theorem dL_law_969 : decode cL_law 969 = .ok (.invokevirtual 91, 3) := by decide +kernel
theorem dL_law_972 : decode cL_law 972 = .ok (.pop, 1) := by decide +kernel
theorem dL_law_973 : decode cL_law 973 = .ok (.aload_n 2, 1) := by decide +kernel
theorem dL_law_974 : decode cL_law 974 = .ok (.aload_n 0, 1) := by decide +kernel
theorem dL_law_975 : decode cL_law 975 = .ok (.iload_n 3, 1) := by decide +kernel
theorem dL_law_976 : decode cL_law 976 = .ok (.iconst 1, 1) := by decide +kernel
theorem dL_law_977 : decode cL_law 977 = .ok (.iadd, 1) := by decide +kernel
theorem dL_law_978 : decode cL_law 978 = .ok (.iaload, 1) := by decide +kernel
theorem dL_law_979 : decode cL_law 979 = .ok (.aload_n 0, 1) := by decide +kernel
theorem dL_law_980 : decode cL_law 980 = .ok (.iload_n 3, 1) := by decide +kernel
theorem dL_law_981 : decode cL_law 981 = .ok (.iconst 2, 1) := by decide +kernel
theorem dL_law_982 : decode cL_law 982 = .ok (.iadd, 1) := by decide +kernel
theorem dL_law_983 : decode cL_law 983 = .ok (.iaload, 1) := by decide +kernel
theorem dL_law_984 : decode cL_law 984 = .ok (.aload_n 0, 1) := by decide +kernel
theorem dL_law_985 : decode cL_law 985 = .ok (.iload_n 3, 1) := by decide +kernel
theorem dL_law_986 : decode cL_law 986 = .ok (.iconst 3, 1) := by decide +kernel
theorem dL_law_987 : decode cL_law 987 = .ok (.iadd, 1) := by decide +kernel
theorem dL_law_988 : decode cL_law 988 = .ok (.iaload, 1) := by decide +kernel
theorem dL_law_989 : decode cL_law 989 = .ok (.aload_n 0, 1) := by decide +kernel
theorem dL_law_990 : decode cL_law 990 = .ok (.iload_n 3, 1) := by decide +kernel
theorem dL_law_991 : decode cL_law 991 = .ok (.iconst 4, 1) := by decide +kernel
theorem dL_law_992 : decode cL_law 992 = .ok (.iadd, 1) := by decide +kernel
theorem dL_law_993 : decode cL_law 993 = .ok (.iaload, 1) := by decide +kernel
theorem dL_law_994 : decode cL_law 994 = .ok (.invokevirtual 94, 3) := by decide +kernel
theorem dL_law_997 : decode cL_law 997 = .ok (.pop, 1) := by decide +kernel
theorem dL_law_998 : decode cL_law 998 = .ok (.goto 1413, 3) := by decide +kernel
set_option maxHeartbeats 4000000 in
set_option maxRecDepth 100000 in
theorem lawc_18 {p : Program} {l : Launch} {e : Env} {s : State} {m : MethodId} {below : List Frame} {meth : Method} {c : Code} {b L : Nat} {xs : Nat → Int32} {D : va_G} {cy : Nat → ClassId} {g1 g2 : Nat → Nat} (X : LX p s m meth c b L xs D cy g1 g2) (hL : L ≤ 3072) {i : Int32} (hi : (0 : Int) ≤ i.toInt ∧ i.toInt + 6 ≤ (L : Int)) (hnext : (∀ (σ8 σ9 : ST) (H : Heap) (locs : List Loc) (ls : Array Slot), J8 σ8 → J9 (σ9 9) → DKA (σ9 9) → KP σ8 (σ9 9) → va_P D clz (WD8 cy g1 σ8) H → va_P D clz (WD9 cy g2 σ9) H → va_S (lawA s) s.heap H locs → lv_has ls 4 [(3, .int i), (2, .ref (g2 60)), (1, .ref (gO g1 17)), (0, .ref b)] → W p l e room_1 s m #[Value.ref b] below meth c H locs 200 700000 (lw_Z below #[Value.ref b] s) (F0 m 2411 ls []))) (σ8 σ9 : ST) (H : Heap) (locs : List Loc) (ls : Array Slot) (hJ8 : J8 σ8) (hJ9 : J9 (σ9 9)) (hDK : DKA (σ9 9)) (hR : KP σ8 (σ9 9)) (hP8 : va_P D clz (WD8 cy g1 σ8) H) (hP9 : va_P D clz (WD9 cy g2 σ9) H) (hS : va_S (lawA s) s.heap H locs) (hl : lv_has ls 4 [(3, .int i), (2, .ref (g2 60)), (1, .ref (gO g1 17)), (0, .ref b)]) : W p l e room_1 s m #[Value.ref b] below meth c H locs 200 700000 (lw_Z below #[Value.ref b] s) (F0 m 948 ls []) := by
  obtain ⟨⟨hx, hb, hr, hml, hown0, hts0, hX, hbl, hlocks, hgv⟩, hK, hDD, hC8, hC9⟩ := X
  have hown : s.vm.findClass RL = some m.cls := hown0
  have hts : ∀ w ∈ lw_g, w.before #[Value.ref b] s = true := fun w h => hts0 w (lw_gt h)
  have hbA : ¬ lawA s b := Nat.not_le.mpr hbl
  have hA8 := A8_law hDD
  have hA9 := A9_law hDD
  have hD8 : ∀ τ : ST, va_D (A8 cy g1 s.heap.size) (WD8 cy g1 τ) := fun τ => by rw [hA8]; exact map_D WD8_m (D_l hDD)
  have hD9 : ∀ τ : ST, va_D (A9 cy g2 s.heap.size) (WD9 cy g2 τ) := fun τ => by rw [hA9]; exact map_D WD9_m (D_r hDD)
  rw [← hA8] at hC8
  rw [← hA9] at hC9
  refine lv_aload_n hx hb dL_law_948 rfl (lv_at hl 2 rfl) ?_
  refine lv_aload_n hx hb dL_law_949 rfl (lv_at hl 3 rfl) ?_
  refine lv_iload_n hx hb dL_law_950 rfl (lv_at hl 0 rfl) ?_
  refine lv_iconst (v := 1) hx hb dL_law_951 (by decide) ?_
  refine lv_iadd hx hb dL_law_952 ?_
  refine lv_topi (fun x1 ex1 => ?_)
  have t2 := addO ex1 (by have f0 := hi; have f1 := hL; have z1 : (1 : Int32).toInt = 1 := (by decide); omega)
  refine va_sld hx hb hX hbl hbA hS (vpo (by have f0 := t2; have f1 := hi; have f2 := hL; have g0 := rg32 x1; have z1 : (1 : Int32).toInt = 1 := (by decide); omega)) dL_law_953 ?_
  refine lv_topi (fun x3 ex3 => ?_)
  refine lv_aload_n hx hb dL_law_954 rfl (lv_at hl 3 rfl) ?_
  refine lv_iload_n hx hb dL_law_955 rfl (lv_at hl 0 rfl) ?_
  refine lv_iconst (v := 2) hx hb dL_law_956 (by decide) ?_
  refine lv_iadd hx hb dL_law_957 ?_
  refine lv_topi (fun x4 ex4 => ?_)
  have t5 := addO ex4 (by have f0 := hi; have f1 := hL; have f2 := t2; have z1 : (1 : Int32).toInt = 1 := (by decide); have z2 : (2 : Int32).toInt = 2 := (by decide); omega)
  refine va_sld hx hb hX hbl hbA hS (vpo (by have f0 := t5; have f1 := hi; have f2 := hL; have f3 := t2; have g0 := rg32 x4; have z1 : (1 : Int32).toInt = 1 := (by decide); have z2 : (2 : Int32).toInt = 2 := (by decide); omega)) dL_law_958 ?_
  refine lv_topi (fun x6 ex6 => ?_)
  refine lv_aload_n hx hb dL_law_959 rfl (lv_at hl 3 rfl) ?_
  refine lv_iload_n hx hb dL_law_960 rfl (lv_at hl 0 rfl) ?_
  refine lv_iconst (v := 3) hx hb dL_law_961 (by decide) ?_
  refine lv_iadd hx hb dL_law_962 ?_
  refine lv_topi (fun x7 ex7 => ?_)
  have t8 := addO ex7 (by have f0 := hi; have f1 := hL; have f2 := t2; have f3 := t5; have z1 : (1 : Int32).toInt = 1 := (by decide); have z2 : (2 : Int32).toInt = 2 := (by decide); have z3 : (3 : Int32).toInt = 3 := (by decide); omega)
  refine va_sld hx hb hX hbl hbA hS (vpo (by have f0 := t8; have f1 := hi; have f2 := hL; have f3 := t2; have f4 := t5; have g0 := rg32 x7; have z1 : (1 : Int32).toInt = 1 := (by decide); have z2 : (2 : Int32).toInt = 2 := (by decide); have z3 : (3 : Int32).toInt = 3 := (by decide); omega)) dL_law_963 ?_
  refine lv_topi (fun x9 ex9 => ?_)
  refine lv_aload_n hx hb dL_law_964 rfl (lv_at hl 3 rfl) ?_
  refine lv_iload_n hx hb dL_law_965 rfl (lv_at hl 0 rfl) ?_
  refine lv_iconst (v := 4) hx hb dL_law_966 (by decide) ?_
  refine lv_iadd hx hb dL_law_967 ?_
  refine lv_topi (fun x10 ex10 => ?_)
  have t11 := addO ex10 (by have f0 := hi; have f1 := hL; have f2 := t2; have f3 := t5; have f4 := t8; have z1 : (1 : Int32).toInt = 1 := (by decide); have z2 : (2 : Int32).toInt = 2 := (by decide); have z3 : (3 : Int32).toInt = 3 := (by decide); have z4 : (4 : Int32).toInt = 4 := (by decide); omega)
  refine va_sld hx hb hX hbl hbA hS (vpo (by have f0 := t11; have f1 := hi; have f2 := hL; have f3 := t2; have f4 := t5; have f5 := t8; have g0 := rg32 x10; have z1 : (1 : Int32).toInt = 1 := (by decide); have z2 : (2 : Int32).toInt = 2 := (by decide); have z3 : (3 : Int32).toInt = 3 := (by decide); have z4 : (4 : Int32).toInt = 4 := (by decide); omega)) dL_law_968 ?_
  refine lv_topi (fun x12 ex12 => ?_)
  have hSx : va_S (A8 cy g1 s.heap.size) s.heap H locs := by rw [hA8]; exact hS
  refine va_calli (va_runV (As := [.int x3, .int x6, .int x9, .int x12]) (rest := []) ⟨hx, hb, hml, hown, hts⟩ (m_X8_chosen l D cy g1 σ8 x3 x6 x9 x12 _ hJ8) (cwV 4 hts (gd_V q1000 q1001 q1002 q125 q1003) rfl rfl rfl (by decide +kernel) ⟨Nat.le_of_ble_eq_true rfl, Nat.le_of_ble_eq_true rfl⟩) (pv8 hP8 hK hD8 hC8 hSx (rv8_8 hK hP8)) rfl rfl hl.1 rfl (lv_room (Nat.le_of_ble_eq_true rfl)) dL_law_969 ⟨Nat.le_of_ble_eq_true rfl, Nat.le_of_ble_eq_true rfl⟩) hSx (fun q _ h => up8 hSx q h) (up8 hSx) (fun r13 υ14 tS H1 locs ht hvm hw15 hB hz1 hk1 hSy => ?_)
  have hP8 : va_P D clz (WD8 cy g1 υ14) H1 := by rw [← ht]; exact hB
  have hP9 := kp9 hDD hP9 hk1
  have hS : va_S (lawA s) s.heap H1 locs := by rw [← hA8]; exact hSy
  clear hB hz1 hk1 hvm ht hSx hSy
  generalize H1 = H at hP8 hP9 hS ⊢
  have hJ16 : J8 υ14 := hw15.2.1
  have hR17 : KP υ14 (σ9 9) := KP.fr8 hR (show Fr (fO [11, 13]) σ8 υ14 from hw15.1) (by decide)
  refine lv_pop hx hb dL_law_972 rfl ?_
  refine lv_aload_n hx hb dL_law_973 rfl (lv_at hl 1 rfl) ?_
  refine lv_aload_n hx hb dL_law_974 rfl (lv_at hl 3 rfl) ?_
  refine lv_iload_n hx hb dL_law_975 rfl (lv_at hl 0 rfl) ?_
  refine lv_iconst (v := 1) hx hb dL_law_976 (by decide) ?_
  refine lv_iadd hx hb dL_law_977 ?_
  refine lv_topi (fun x18 ex18 => ?_)
  have t19 := addO ex18 (by have f0 := hi; have f1 := hL; have f2 := t2; have f3 := t5; have f4 := t8; have f5 := t11; have z1 : (1 : Int32).toInt = 1 := (by decide); have z2 : (2 : Int32).toInt = 2 := (by decide); have z3 : (3 : Int32).toInt = 3 := (by decide); have z4 : (4 : Int32).toInt = 4 := (by decide); omega)
  refine va_sld hx hb hX hbl hbA hS (vpo (by have f0 := t19; have f1 := hi; have f2 := hL; have f3 := t2; have f4 := t5; have f5 := t8; have f6 := t11; have g0 := rg32 x18; have z1 : (1 : Int32).toInt = 1 := (by decide); have z2 : (2 : Int32).toInt = 2 := (by decide); have z3 : (3 : Int32).toInt = 3 := (by decide); have z4 : (4 : Int32).toInt = 4 := (by decide); omega)) dL_law_978 ?_
  refine lv_topi (fun x20 ex20 => ?_)
  refine lv_aload_n hx hb dL_law_979 rfl (lv_at hl 3 rfl) ?_
  refine lv_iload_n hx hb dL_law_980 rfl (lv_at hl 0 rfl) ?_
  refine lv_iconst (v := 2) hx hb dL_law_981 (by decide) ?_
  refine lv_iadd hx hb dL_law_982 ?_
  refine lv_topi (fun x21 ex21 => ?_)
  have t22 := addO ex21 (by have f0 := hi; have f1 := hL; have f2 := t2; have f3 := t5; have f4 := t8; have f5 := t11; have f6 := t19; have z1 : (1 : Int32).toInt = 1 := (by decide); have z2 : (2 : Int32).toInt = 2 := (by decide); have z3 : (3 : Int32).toInt = 3 := (by decide); have z4 : (4 : Int32).toInt = 4 := (by decide); omega)
  refine va_sld hx hb hX hbl hbA hS (vpo (by have f0 := t22; have f1 := hi; have f2 := hL; have f3 := t2; have f4 := t5; have f5 := t8; have f6 := t11; have f7 := t19; have g0 := rg32 x21; have z1 : (1 : Int32).toInt = 1 := (by decide); have z2 : (2 : Int32).toInt = 2 := (by decide); have z3 : (3 : Int32).toInt = 3 := (by decide); have z4 : (4 : Int32).toInt = 4 := (by decide); omega)) dL_law_983 ?_
  refine lv_topi (fun x23 ex23 => ?_)
  refine lv_aload_n hx hb dL_law_984 rfl (lv_at hl 3 rfl) ?_
  refine lv_iload_n hx hb dL_law_985 rfl (lv_at hl 0 rfl) ?_
  refine lv_iconst (v := 3) hx hb dL_law_986 (by decide) ?_
  refine lv_iadd hx hb dL_law_987 ?_
  refine lv_topi (fun x24 ex24 => ?_)
  have t25 := addO ex24 (by have f0 := hi; have f1 := hL; have f2 := t2; have f3 := t5; have f4 := t8; have f5 := t11; have f6 := t19; have f7 := t22; have z1 : (1 : Int32).toInt = 1 := (by decide); have z2 : (2 : Int32).toInt = 2 := (by decide); have z3 : (3 : Int32).toInt = 3 := (by decide); have z4 : (4 : Int32).toInt = 4 := (by decide); omega)
  refine va_sld hx hb hX hbl hbA hS (vpo (by have f0 := t25; have f1 := hi; have f2 := hL; have f3 := t2; have f4 := t5; have f5 := t8; have f6 := t11; have f7 := t19; have f8 := t22; have g0 := rg32 x24; have z1 : (1 : Int32).toInt = 1 := (by decide); have z2 : (2 : Int32).toInt = 2 := (by decide); have z3 : (3 : Int32).toInt = 3 := (by decide); have z4 : (4 : Int32).toInt = 4 := (by decide); omega)) dL_law_988 ?_
  refine lv_topi (fun x26 ex26 => ?_)
  refine lv_aload_n hx hb dL_law_989 rfl (lv_at hl 3 rfl) ?_
  refine lv_iload_n hx hb dL_law_990 rfl (lv_at hl 0 rfl) ?_
  refine lv_iconst (v := 4) hx hb dL_law_991 (by decide) ?_
  refine lv_iadd hx hb dL_law_992 ?_
  refine lv_topi (fun x27 ex27 => ?_)
  have t28 := addO ex27 (by have f0 := hi; have f1 := hL; have f2 := t2; have f3 := t5; have f4 := t8; have f5 := t11; have f6 := t19; have f7 := t22; have f8 := t25; have z1 : (1 : Int32).toInt = 1 := (by decide); have z2 : (2 : Int32).toInt = 2 := (by decide); have z3 : (3 : Int32).toInt = 3 := (by decide); have z4 : (4 : Int32).toInt = 4 := (by decide); omega)
  refine va_sld hx hb hX hbl hbA hS (vpo (by have f0 := t28; have f1 := hi; have f2 := hL; have f3 := t2; have f4 := t5; have f5 := t8; have f6 := t11; have f7 := t19; have f8 := t22; have f9 := t25; have g0 := rg32 x27; have z1 : (1 : Int32).toInt = 1 := (by decide); have z2 : (2 : Int32).toInt = 2 := (by decide); have z3 : (3 : Int32).toInt = 3 := (by decide); have z4 : (4 : Int32).toInt = 4 := (by decide); omega)) dL_law_993 ?_
  refine lv_topi (fun x29 ex29 => ?_)
  have hSx : va_S (A9 cy g2 s.heap.size) s.heap H locs := by rw [hA9]; exact hS
  refine va_calli (va_runV (As := [.int x20, .int x23, .int x26, .int x29]) (rest := []) ⟨hx, hb, hml, hown, hts⟩ (m_X9_chosen l D cy g2 σ9 x20 x23 x26 x29 _ hJ9 (DKA.zero hDK)) (cwV 4 hts (gd_V q1880 q1881 q1882 q134 q1883) rfl rfl rfl (by decide +kernel) ⟨Nat.le_of_ble_eq_true rfl, Nat.le_of_ble_eq_true rfl⟩) (pv9 hP9 hK hD9 hC9 hSx (va_recv hK hP9 (ci := 9) (q0 := 0) rfl rfl)) rfl rfl hl.1 rfl (lv_room (Nat.le_of_ble_eq_true rfl)) dL_law_994 ⟨Nat.le_of_ble_eq_true rfl, Nat.le_of_ble_eq_true rfl⟩) hSx (fun q _ h => up9 hSx q h) (up9 hSx) (fun r30 υ31 tS H1 locs ht hvm hw32 hB hz1 hk1 hSy => ?_)
  have hP9 : va_P D clz (WD9 cy g2 υ31) H1 := by rw [← ht]; exact hB
  have hP8 := kp8 hDD hP8 hk1
  have hS : va_S (lawA s) s.heap H1 locs := by rw [← hA9]; exact hSy
  clear hB hz1 hk1 hvm ht hSx hSy
  generalize H1 = H at hP8 hP9 hS ⊢
  have hF33 : Fr (fL [0, 23, 24, 25, 26, 27, 28, 29, 30, 31, 32, 33, 34, 35, 36, 37, 38, 39, 40, 41]) σ9 υ31 := hw32.1
  have hJ34 : J9 (υ31 9) := hw32.2.1
  have hK35 : DKA (υ31 9) := DKA.mv hDK (hF33 9 17 rfl).2.2.1 (hF33 9 18 rfl).2.2.1 (hF33 9 19 rfl).2.2.1
  have hR36 : KP υ14 (υ31 9) := KP.fr9 hR17 (hF33 9 22 rfl).2.2.1
  refine lv_pop hx hb dL_law_997 rfl ?_
  refine lv_goto (tgt := 2411) hx hb dL_law_998 (by decide) ?_
  exact hnext _ _ _ _ _ hJ16 hJ34 hK35 hR36 hP8 hP9 hS hl

theorem q1012 : Cond.methodLink RL 95 yX8_slurs ∈ lw_g := lw_gm (List.mem_of_getElem? (i := 1012) (by decide +kernel)) rfl
theorem q1013 : Cond.instanceMethod yX8_slurs ∈ lw_g := lw_gm (List.mem_of_getElem? (i := 1013) (by decide +kernel)) rfl
theorem q1014 : Cond.selects RX8 yX8_slurs yX8_slurs ∈ lw_g := lw_gm (List.mem_of_getElem? (i := 1014) (by decide +kernel)) rfl
theorem q1888 : Cond.methodLink RL 98 yX9_slurs ∈ lw_g := lw_gm (List.mem_of_getElem? (i := 1888) (by decide +kernel)) rfl
theorem q1889 : Cond.instanceMethod yX9_slurs ∈ lw_g := lw_gm (List.mem_of_getElem? (i := 1889) (by decide +kernel)) rfl
theorem q1890 : Cond.selects RX9 yX9_slurs yX9_slurs ∈ lw_g := lw_gm (List.mem_of_getElem? (i := 1890) (by decide +kernel)) rfl
theorem dL_law_1001 : decode cL_law 1001 = .ok (.aload_n 1, 1) := by decide +kernel
theorem dL_law_1002 : decode cL_law 1002 = .ok (.aload_n 0, 1) := by decide +kernel
theorem dL_law_1003 : decode cL_law 1003 = .ok (.iload_n 3, 1) := by decide +kernel
theorem dL_law_1004 : decode cL_law 1004 = .ok (.iconst 1, 1) := by decide +kernel
theorem dL_law_1005 : decode cL_law 1005 = .ok (.iadd, 1) := by decide +kernel
theorem dL_law_1006 : decode cL_law 1006 = .ok (.iaload, 1) := by decide +kernel
theorem dL_law_1007 : decode cL_law 1007 = .ok (.aload_n 0, 1) := by decide +kernel
theorem dL_law_1008 : decode cL_law 1008 = .ok (.iload_n 3, 1) := by decide +kernel
theorem dL_law_1009 : decode cL_law 1009 = .ok (.iconst 2, 1) := by decide +kernel
theorem dL_law_1010 : decode cL_law 1010 = .ok (.iadd, 1) := by decide +kernel
theorem dL_law_1011 : decode cL_law 1011 = .ok (.iaload, 1) := by decide +kernel
theorem dL_law_1012 : decode cL_law 1012 = .ok (.aload_n 0, 1) := by decide +kernel
theorem dL_law_1013 : decode cL_law 1013 = .ok (.iload_n 3, 1) := by decide +kernel
theorem dL_law_1014 : decode cL_law 1014 = .ok (.iconst 3, 1) := by decide +kernel
theorem dL_law_1015 : decode cL_law 1015 = .ok (.iadd, 1) := by decide +kernel
theorem dL_law_1016 : decode cL_law 1016 = .ok (.iaload, 1) := by decide +kernel
theorem dL_law_1017 : decode cL_law 1017 = .ok (.invokevirtual 95, 3) := by decide +kernel
theorem dL_law_1020 : decode cL_law 1020 = .ok (.pop, 1) := by decide +kernel
theorem dL_law_1021 : decode cL_law 1021 = .ok (.aload_n 2, 1) := by decide +kernel
theorem dL_law_1022 : decode cL_law 1022 = .ok (.aload_n 0, 1) := by decide +kernel
theorem dL_law_1023 : decode cL_law 1023 = .ok (.iload_n 3, 1) := by decide +kernel
theorem dL_law_1024 : decode cL_law 1024 = .ok (.iconst 1, 1) := by decide +kernel
theorem dL_law_1025 : decode cL_law 1025 = .ok (.iadd, 1) := by decide +kernel
theorem dL_law_1026 : decode cL_law 1026 = .ok (.iaload, 1) := by decide +kernel
theorem dL_law_1027 : decode cL_law 1027 = .ok (.aload_n 0, 1) := by decide +kernel
theorem dL_law_1028 : decode cL_law 1028 = .ok (.iload_n 3, 1) := by decide +kernel
theorem dL_law_1029 : decode cL_law 1029 = .ok (.iconst 2, 1) := by decide +kernel
theorem dL_law_1030 : decode cL_law 1030 = .ok (.iadd, 1) := by decide +kernel
theorem dL_law_1031 : decode cL_law 1031 = .ok (.iaload, 1) := by decide +kernel
theorem dL_law_1032 : decode cL_law 1032 = .ok (.aload_n 0, 1) := by decide +kernel
theorem dL_law_1033 : decode cL_law 1033 = .ok (.iload_n 3, 1) := by decide +kernel
theorem dL_law_1034 : decode cL_law 1034 = .ok (.iconst 3, 1) := by decide +kernel
theorem dL_law_1035 : decode cL_law 1035 = .ok (.iadd, 1) := by decide +kernel
theorem dL_law_1036 : decode cL_law 1036 = .ok (.iaload, 1) := by decide +kernel
theorem dL_law_1037 : decode cL_law 1037 = .ok (.invokevirtual 98, 3) := by decide +kernel
theorem dL_law_1040 : decode cL_law 1040 = .ok (.pop, 1) := by decide +kernel
theorem dL_law_1041 : decode cL_law 1041 = .ok (.goto 1370, 3) := by decide +kernel
set_option maxHeartbeats 4000000 in
set_option maxRecDepth 100000 in
theorem lawc_19 {p : Program} {l : Launch} {e : Env} {s : State} {m : MethodId} {below : List Frame} {meth : Method} {c : Code} {b L : Nat} {xs : Nat → Int32} {D : va_G} {cy : Nat → ClassId} {g1 g2 : Nat → Nat} (X : LX p s m meth c b L xs D cy g1 g2) (hL : L ≤ 3072) {i : Int32} (hi : (0 : Int) ≤ i.toInt ∧ i.toInt + 6 ≤ (L : Int)) (hnext : (∀ (σ8 σ9 : ST) (H : Heap) (locs : List Loc) (ls : Array Slot), J8 σ8 → J9 (σ9 9) → DKA (σ9 9) → KP σ8 (σ9 9) → va_P D clz (WD8 cy g1 σ8) H → va_P D clz (WD9 cy g2 σ9) H → va_S (lawA s) s.heap H locs → lv_has ls 4 [(3, .int i), (2, .ref (g2 60)), (1, .ref (gO g1 17)), (0, .ref b)] → W p l e room_1 s m #[Value.ref b] below meth c H locs 200 700000 (lw_Z below #[Value.ref b] s) (F0 m 2411 ls []))) (σ8 σ9 : ST) (H : Heap) (locs : List Loc) (ls : Array Slot) (hJ8 : J8 σ8) (hJ9 : J9 (σ9 9)) (hDK : DKA (σ9 9)) (hR : KP σ8 (σ9 9)) (hP8 : va_P D clz (WD8 cy g1 σ8) H) (hP9 : va_P D clz (WD9 cy g2 σ9) H) (hS : va_S (lawA s) s.heap H locs) (hl : lv_has ls 4 [(3, .int i), (2, .ref (g2 60)), (1, .ref (gO g1 17)), (0, .ref b)]) : W p l e room_1 s m #[Value.ref b] below meth c H locs 200 700000 (lw_Z below #[Value.ref b] s) (F0 m 1001 ls []) := by
  obtain ⟨⟨hx, hb, hr, hml, hown0, hts0, hX, hbl, hlocks, hgv⟩, hK, hDD, hC8, hC9⟩ := X
  have hown : s.vm.findClass RL = some m.cls := hown0
  have hts : ∀ w ∈ lw_g, w.before #[Value.ref b] s = true := fun w h => hts0 w (lw_gt h)
  have hbA : ¬ lawA s b := Nat.not_le.mpr hbl
  have hA8 := A8_law hDD
  have hA9 := A9_law hDD
  have hD8 : ∀ τ : ST, va_D (A8 cy g1 s.heap.size) (WD8 cy g1 τ) := fun τ => by rw [hA8]; exact map_D WD8_m (D_l hDD)
  have hD9 : ∀ τ : ST, va_D (A9 cy g2 s.heap.size) (WD9 cy g2 τ) := fun τ => by rw [hA9]; exact map_D WD9_m (D_r hDD)
  rw [← hA8] at hC8
  rw [← hA9] at hC9
  refine lv_aload_n hx hb dL_law_1001 rfl (lv_at hl 2 rfl) ?_
  refine lv_aload_n hx hb dL_law_1002 rfl (lv_at hl 3 rfl) ?_
  refine lv_iload_n hx hb dL_law_1003 rfl (lv_at hl 0 rfl) ?_
  refine lv_iconst (v := 1) hx hb dL_law_1004 (by decide) ?_
  refine lv_iadd hx hb dL_law_1005 ?_
  refine lv_topi (fun x1 ex1 => ?_)
  have t2 := addO ex1 (by have f0 := hi; have f1 := hL; have z1 : (1 : Int32).toInt = 1 := (by decide); omega)
  refine va_sld hx hb hX hbl hbA hS (vpo (by have f0 := t2; have f1 := hi; have f2 := hL; have g0 := rg32 x1; have z1 : (1 : Int32).toInt = 1 := (by decide); omega)) dL_law_1006 ?_
  refine lv_topi (fun x3 ex3 => ?_)
  refine lv_aload_n hx hb dL_law_1007 rfl (lv_at hl 3 rfl) ?_
  refine lv_iload_n hx hb dL_law_1008 rfl (lv_at hl 0 rfl) ?_
  refine lv_iconst (v := 2) hx hb dL_law_1009 (by decide) ?_
  refine lv_iadd hx hb dL_law_1010 ?_
  refine lv_topi (fun x4 ex4 => ?_)
  have t5 := addO ex4 (by have f0 := hi; have f1 := hL; have f2 := t2; have z1 : (1 : Int32).toInt = 1 := (by decide); have z2 : (2 : Int32).toInt = 2 := (by decide); omega)
  refine va_sld hx hb hX hbl hbA hS (vpo (by have f0 := t5; have f1 := hi; have f2 := hL; have f3 := t2; have g0 := rg32 x4; have z1 : (1 : Int32).toInt = 1 := (by decide); have z2 : (2 : Int32).toInt = 2 := (by decide); omega)) dL_law_1011 ?_
  refine lv_topi (fun x6 ex6 => ?_)
  refine lv_aload_n hx hb dL_law_1012 rfl (lv_at hl 3 rfl) ?_
  refine lv_iload_n hx hb dL_law_1013 rfl (lv_at hl 0 rfl) ?_
  refine lv_iconst (v := 3) hx hb dL_law_1014 (by decide) ?_
  refine lv_iadd hx hb dL_law_1015 ?_
  refine lv_topi (fun x7 ex7 => ?_)
  have t8 := addO ex7 (by have f0 := hi; have f1 := hL; have f2 := t2; have f3 := t5; have z1 : (1 : Int32).toInt = 1 := (by decide); have z2 : (2 : Int32).toInt = 2 := (by decide); have z3 : (3 : Int32).toInt = 3 := (by decide); omega)
  refine va_sld hx hb hX hbl hbA hS (vpo (by have f0 := t8; have f1 := hi; have f2 := hL; have f3 := t2; have f4 := t5; have g0 := rg32 x7; have z1 : (1 : Int32).toInt = 1 := (by decide); have z2 : (2 : Int32).toInt = 2 := (by decide); have z3 : (3 : Int32).toInt = 3 := (by decide); omega)) dL_law_1016 ?_
  refine lv_topi (fun x9 ex9 => ?_)
  have hSx : va_S (A8 cy g1 s.heap.size) s.heap H locs := by rw [hA8]; exact hS
  refine va_calli (va_runV (As := [.int x3, .int x6, .int x9]) (rest := []) ⟨hx, hb, hml, hown, hts⟩ (m_X8_slurs l D cy g1 σ8 x3 x6 x9 _ hJ8) (cwV 3 hts (gd_V q1012 q1013 q1014 q125 q1015) rfl rfl rfl (by decide +kernel) ⟨Nat.le_of_ble_eq_true rfl, Nat.le_of_ble_eq_true rfl⟩) (pv8 hP8 hK hD8 hC8 hSx (rv8_8 hK hP8)) rfl rfl hl.1 rfl (lv_room (Nat.le_of_ble_eq_true rfl)) dL_law_1017 ⟨Nat.le_of_ble_eq_true rfl, Nat.le_of_ble_eq_true rfl⟩) hSx (fun q _ h => up8 hSx q h) (up8 hSx) (fun r10 υ11 tS H1 locs ht hvm hw12 hB hz1 hk1 hSy => ?_)
  have hP8 : va_P D clz (WD8 cy g1 υ11) H1 := by rw [← ht]; exact hB
  have hP9 := kp9 hDD hP9 hk1
  have hS : va_S (lawA s) s.heap H1 locs := by rw [← hA8]; exact hSy
  clear hB hz1 hk1 hvm ht hSx hSy
  generalize H1 = H at hP8 hP9 hS ⊢
  have hJ13 : J8 υ11 := hw12.2.1
  have hR14 : KP υ11 (σ9 9) := KP.fr8 hR (show Fr (fO [11, 13]) σ8 υ11 from hw12.1) (by decide)
  refine lv_pop hx hb dL_law_1020 rfl ?_
  refine lv_aload_n hx hb dL_law_1021 rfl (lv_at hl 1 rfl) ?_
  refine lv_aload_n hx hb dL_law_1022 rfl (lv_at hl 3 rfl) ?_
  refine lv_iload_n hx hb dL_law_1023 rfl (lv_at hl 0 rfl) ?_
  refine lv_iconst (v := 1) hx hb dL_law_1024 (by decide) ?_
  refine lv_iadd hx hb dL_law_1025 ?_
  refine lv_topi (fun x15 ex15 => ?_)
  have t16 := addO ex15 (by have f0 := hi; have f1 := hL; have f2 := t2; have f3 := t5; have f4 := t8; have z1 : (1 : Int32).toInt = 1 := (by decide); have z2 : (2 : Int32).toInt = 2 := (by decide); have z3 : (3 : Int32).toInt = 3 := (by decide); omega)
  refine va_sld hx hb hX hbl hbA hS (vpo (by have f0 := t16; have f1 := hi; have f2 := hL; have f3 := t2; have f4 := t5; have f5 := t8; have g0 := rg32 x15; have z1 : (1 : Int32).toInt = 1 := (by decide); have z2 : (2 : Int32).toInt = 2 := (by decide); have z3 : (3 : Int32).toInt = 3 := (by decide); omega)) dL_law_1026 ?_
  refine lv_topi (fun x17 ex17 => ?_)
  refine lv_aload_n hx hb dL_law_1027 rfl (lv_at hl 3 rfl) ?_
  refine lv_iload_n hx hb dL_law_1028 rfl (lv_at hl 0 rfl) ?_
  refine lv_iconst (v := 2) hx hb dL_law_1029 (by decide) ?_
  refine lv_iadd hx hb dL_law_1030 ?_
  refine lv_topi (fun x18 ex18 => ?_)
  have t19 := addO ex18 (by have f0 := hi; have f1 := hL; have f2 := t2; have f3 := t5; have f4 := t8; have f5 := t16; have z1 : (1 : Int32).toInt = 1 := (by decide); have z2 : (2 : Int32).toInt = 2 := (by decide); have z3 : (3 : Int32).toInt = 3 := (by decide); omega)
  refine va_sld hx hb hX hbl hbA hS (vpo (by have f0 := t19; have f1 := hi; have f2 := hL; have f3 := t2; have f4 := t5; have f5 := t8; have f6 := t16; have g0 := rg32 x18; have z1 : (1 : Int32).toInt = 1 := (by decide); have z2 : (2 : Int32).toInt = 2 := (by decide); have z3 : (3 : Int32).toInt = 3 := (by decide); omega)) dL_law_1031 ?_
  refine lv_topi (fun x20 ex20 => ?_)
  refine lv_aload_n hx hb dL_law_1032 rfl (lv_at hl 3 rfl) ?_
  refine lv_iload_n hx hb dL_law_1033 rfl (lv_at hl 0 rfl) ?_
  refine lv_iconst (v := 3) hx hb dL_law_1034 (by decide) ?_
  refine lv_iadd hx hb dL_law_1035 ?_
  refine lv_topi (fun x21 ex21 => ?_)
  have t22 := addO ex21 (by have f0 := hi; have f1 := hL; have f2 := t2; have f3 := t5; have f4 := t8; have f5 := t16; have f6 := t19; have z1 : (1 : Int32).toInt = 1 := (by decide); have z2 : (2 : Int32).toInt = 2 := (by decide); have z3 : (3 : Int32).toInt = 3 := (by decide); omega)
  refine va_sld hx hb hX hbl hbA hS (vpo (by have f0 := t22; have f1 := hi; have f2 := hL; have f3 := t2; have f4 := t5; have f5 := t8; have f6 := t16; have f7 := t19; have g0 := rg32 x21; have z1 : (1 : Int32).toInt = 1 := (by decide); have z2 : (2 : Int32).toInt = 2 := (by decide); have z3 : (3 : Int32).toInt = 3 := (by decide); omega)) dL_law_1036 ?_
  refine lv_topi (fun x23 ex23 => ?_)
  have hSx : va_S (A9 cy g2 s.heap.size) s.heap H locs := by rw [hA9]; exact hS
  refine va_calli (va_runV (As := [.int x17, .int x20, .int x23]) (rest := []) ⟨hx, hb, hml, hown, hts⟩ (m_X9_slurs l D cy g2 σ9 x17 x20 x23 _ hJ9 (DKA.zero hDK)) (cwV 3 hts (gd_V q1888 q1889 q1890 q134 q1891) rfl rfl rfl (by decide +kernel) ⟨Nat.le_of_ble_eq_true rfl, Nat.le_of_ble_eq_true rfl⟩) (pv9 hP9 hK hD9 hC9 hSx (va_recv hK hP9 (ci := 9) (q0 := 0) rfl rfl)) rfl rfl hl.1 rfl (lv_room (Nat.le_of_ble_eq_true rfl)) dL_law_1037 ⟨Nat.le_of_ble_eq_true rfl, Nat.le_of_ble_eq_true rfl⟩) hSx (fun q _ h => up9 hSx q h) (up9 hSx) (fun r24 υ25 tS H1 locs ht hvm hw26 hB hz1 hk1 hSy => ?_)
  have hP9 : va_P D clz (WD9 cy g2 υ25) H1 := by rw [← ht]; exact hB
  have hP8 := kp8 hDD hP8 hk1
  have hS : va_S (lawA s) s.heap H1 locs := by rw [← hA9]; exact hSy
  clear hB hz1 hk1 hvm ht hSx hSy
  generalize H1 = H at hP8 hP9 hS ⊢
  have hF27 : Fr (fL [0, 23, 24, 25, 26, 27, 28, 29, 30, 31, 32, 33, 34, 35, 36, 37, 38, 39, 40, 41]) σ9 υ25 := hw26.1
  have hJ28 : J9 (υ25 9) := hw26.2.1
  have hK29 : DKA (υ25 9) := DKA.mv hDK (hF27 9 17 rfl).2.2.1 (hF27 9 18 rfl).2.2.1 (hF27 9 19 rfl).2.2.1
  have hR30 : KP υ11 (υ25 9) := KP.fr9 hR14 (hF27 9 22 rfl).2.2.1
  refine lv_pop hx hb dL_law_1040 rfl ?_
  refine lv_goto (tgt := 2411) hx hb dL_law_1041 (by decide) ?_
  exact hnext _ _ _ _ _ hJ13 hJ28 hK29 hR30 hP8 hP9 hS hl

theorem q1020 : Cond.methodLink RL 99 yX8_stuck ∈ lw_g := lw_gm (List.mem_of_getElem? (i := 1020) (by decide +kernel)) rfl
theorem q1021 : Cond.instanceMethod yX8_stuck ∈ lw_g := lw_gm (List.mem_of_getElem? (i := 1021) (by decide +kernel)) rfl
theorem q1022 : Cond.selects RX8 yX8_stuck yX8_stuck ∈ lw_g := lw_gm (List.mem_of_getElem? (i := 1022) (by decide +kernel)) rfl
theorem q1892 : Cond.methodLink RL 102 yX9_stuck ∈ lw_g := lw_gm (List.mem_of_getElem? (i := 1892) (by decide +kernel)) rfl
theorem q1893 : Cond.instanceMethod yX9_stuck ∈ lw_g := lw_gm (List.mem_of_getElem? (i := 1893) (by decide +kernel)) rfl
theorem q1894 : Cond.selects RX9 yX9_stuck yX9_stuck ∈ lw_g := lw_gm (List.mem_of_getElem? (i := 1894) (by decide +kernel)) rfl
theorem dL_law_1044 : decode cL_law 1044 = .ok (.aload_n 1, 1) := by decide +kernel
theorem dL_law_1045 : decode cL_law 1045 = .ok (.aload_n 0, 1) := by decide +kernel
theorem dL_law_1046 : decode cL_law 1046 = .ok (.iload_n 3, 1) := by decide +kernel
theorem dL_law_1047 : decode cL_law 1047 = .ok (.iconst 1, 1) := by decide +kernel
theorem dL_law_1048 : decode cL_law 1048 = .ok (.iadd, 1) := by decide +kernel
theorem dL_law_1049 : decode cL_law 1049 = .ok (.iaload, 1) := by decide +kernel
theorem dL_law_1050 : decode cL_law 1050 = .ok (.aload_n 0, 1) := by decide +kernel
theorem dL_law_1051 : decode cL_law 1051 = .ok (.iload_n 3, 1) := by decide +kernel
theorem dL_law_1052 : decode cL_law 1052 = .ok (.iconst 2, 1) := by decide +kernel
theorem dL_law_1053 : decode cL_law 1053 = .ok (.iadd, 1) := by decide +kernel
theorem dL_law_1054 : decode cL_law 1054 = .ok (.iaload, 1) := by decide +kernel
theorem dL_law_1055 : decode cL_law 1055 = .ok (.invokevirtual 99, 3) := by decide +kernel
theorem dL_law_1058 : decode cL_law 1058 = .ok (.pop, 1) := by decide +kernel
theorem dL_law_1059 : decode cL_law 1059 = .ok (.aload_n 2, 1) := by decide +kernel
theorem dL_law_1060 : decode cL_law 1060 = .ok (.aload_n 0, 1) := by decide +kernel
theorem dL_law_1061 : decode cL_law 1061 = .ok (.iload_n 3, 1) := by decide +kernel
theorem dL_law_1062 : decode cL_law 1062 = .ok (.iconst 1, 1) := by decide +kernel
theorem dL_law_1063 : decode cL_law 1063 = .ok (.iadd, 1) := by decide +kernel
theorem dL_law_1064 : decode cL_law 1064 = .ok (.iaload, 1) := by decide +kernel
theorem dL_law_1065 : decode cL_law 1065 = .ok (.aload_n 0, 1) := by decide +kernel
theorem dL_law_1066 : decode cL_law 1066 = .ok (.iload_n 3, 1) := by decide +kernel
theorem dL_law_1067 : decode cL_law 1067 = .ok (.iconst 2, 1) := by decide +kernel
theorem dL_law_1068 : decode cL_law 1068 = .ok (.iadd, 1) := by decide +kernel
theorem dL_law_1069 : decode cL_law 1069 = .ok (.iaload, 1) := by decide +kernel
theorem dL_law_1070 : decode cL_law 1070 = .ok (.invokevirtual 102, 3) := by decide +kernel
theorem dL_law_1073 : decode cL_law 1073 = .ok (.pop, 1) := by decide +kernel
theorem dL_law_1074 : decode cL_law 1074 = .ok (.goto 1337, 3) := by decide +kernel
set_option maxHeartbeats 4000000 in
set_option maxRecDepth 100000 in
theorem lawc_20 {p : Program} {l : Launch} {e : Env} {s : State} {m : MethodId} {below : List Frame} {meth : Method} {c : Code} {b L : Nat} {xs : Nat → Int32} {D : va_G} {cy : Nat → ClassId} {g1 g2 : Nat → Nat} (X : LX p s m meth c b L xs D cy g1 g2) (hL : L ≤ 3072) {i : Int32} (hi : (0 : Int) ≤ i.toInt ∧ i.toInt + 6 ≤ (L : Int)) (hnext : (∀ (σ8 σ9 : ST) (H : Heap) (locs : List Loc) (ls : Array Slot), J8 σ8 → J9 (σ9 9) → DKA (σ9 9) → KP σ8 (σ9 9) → va_P D clz (WD8 cy g1 σ8) H → va_P D clz (WD9 cy g2 σ9) H → va_S (lawA s) s.heap H locs → lv_has ls 4 [(3, .int i), (2, .ref (g2 60)), (1, .ref (gO g1 17)), (0, .ref b)] → W p l e room_1 s m #[Value.ref b] below meth c H locs 200 700000 (lw_Z below #[Value.ref b] s) (F0 m 2411 ls []))) (σ8 σ9 : ST) (H : Heap) (locs : List Loc) (ls : Array Slot) (hJ8 : J8 σ8) (hJ9 : J9 (σ9 9)) (hDK : DKA (σ9 9)) (hR : KP σ8 (σ9 9)) (hP8 : va_P D clz (WD8 cy g1 σ8) H) (hP9 : va_P D clz (WD9 cy g2 σ9) H) (hS : va_S (lawA s) s.heap H locs) (hl : lv_has ls 4 [(3, .int i), (2, .ref (g2 60)), (1, .ref (gO g1 17)), (0, .ref b)]) : W p l e room_1 s m #[Value.ref b] below meth c H locs 200 700000 (lw_Z below #[Value.ref b] s) (F0 m 1044 ls []) := by
  obtain ⟨⟨hx, hb, hr, hml, hown0, hts0, hX, hbl, hlocks, hgv⟩, hK, hDD, hC8, hC9⟩ := X
  have hown : s.vm.findClass RL = some m.cls := hown0
  have hts : ∀ w ∈ lw_g, w.before #[Value.ref b] s = true := fun w h => hts0 w (lw_gt h)
  have hbA : ¬ lawA s b := Nat.not_le.mpr hbl
  have hA8 := A8_law hDD
  have hA9 := A9_law hDD
  have hD8 : ∀ τ : ST, va_D (A8 cy g1 s.heap.size) (WD8 cy g1 τ) := fun τ => by rw [hA8]; exact map_D WD8_m (D_l hDD)
  have hD9 : ∀ τ : ST, va_D (A9 cy g2 s.heap.size) (WD9 cy g2 τ) := fun τ => by rw [hA9]; exact map_D WD9_m (D_r hDD)
  rw [← hA8] at hC8
  rw [← hA9] at hC9
  refine lv_aload_n hx hb dL_law_1044 rfl (lv_at hl 2 rfl) ?_
  refine lv_aload_n hx hb dL_law_1045 rfl (lv_at hl 3 rfl) ?_
  refine lv_iload_n hx hb dL_law_1046 rfl (lv_at hl 0 rfl) ?_
  refine lv_iconst (v := 1) hx hb dL_law_1047 (by decide) ?_
  refine lv_iadd hx hb dL_law_1048 ?_
  refine lv_topi (fun x1 ex1 => ?_)
  have t2 := addO ex1 (by have f0 := hi; have f1 := hL; have z1 : (1 : Int32).toInt = 1 := (by decide); omega)
  refine va_sld hx hb hX hbl hbA hS (vpo (by have f0 := t2; have f1 := hi; have f2 := hL; have g0 := rg32 x1; have z1 : (1 : Int32).toInt = 1 := (by decide); omega)) dL_law_1049 ?_
  refine lv_topi (fun x3 ex3 => ?_)
  refine lv_aload_n hx hb dL_law_1050 rfl (lv_at hl 3 rfl) ?_
  refine lv_iload_n hx hb dL_law_1051 rfl (lv_at hl 0 rfl) ?_
  refine lv_iconst (v := 2) hx hb dL_law_1052 (by decide) ?_
  refine lv_iadd hx hb dL_law_1053 ?_
  refine lv_topi (fun x4 ex4 => ?_)
  have t5 := addO ex4 (by have f0 := hi; have f1 := hL; have f2 := t2; have z1 : (1 : Int32).toInt = 1 := (by decide); have z2 : (2 : Int32).toInt = 2 := (by decide); omega)
  refine va_sld hx hb hX hbl hbA hS (vpo (by have f0 := t5; have f1 := hi; have f2 := hL; have f3 := t2; have g0 := rg32 x4; have z1 : (1 : Int32).toInt = 1 := (by decide); have z2 : (2 : Int32).toInt = 2 := (by decide); omega)) dL_law_1054 ?_
  refine lv_topi (fun x6 ex6 => ?_)
  have hSx : va_S (A8 cy g1 s.heap.size) s.heap H locs := by rw [hA8]; exact hS
  refine va_calli (va_runV (As := [.int x3, .int x6]) (rest := []) ⟨hx, hb, hml, hown, hts⟩ (m_X8_stuck l D cy g1 σ8 x3 x6 _ hJ8) (cwV 2 hts (gd_V q1020 q1021 q1022 q125 q1023) rfl rfl rfl (by decide +kernel) ⟨Nat.le_of_ble_eq_true rfl, Nat.le_of_ble_eq_true rfl⟩) (pv8 hP8 hK hD8 hC8 hSx (rv8_8 hK hP8)) rfl rfl hl.1 rfl (lv_room (Nat.le_of_ble_eq_true rfl)) dL_law_1055 ⟨Nat.le_of_ble_eq_true rfl, Nat.le_of_ble_eq_true rfl⟩) hSx (fun q _ h => up8 hSx q h) (up8 hSx) (fun r7 υ8 tS H1 locs ht hvm hw9 hB hz1 hk1 hSy => ?_)
  have hP8 : va_P D clz (WD8 cy g1 υ8) H1 := by rw [← ht]; exact hB
  have hP9 := kp9 hDD hP9 hk1
  have hS : va_S (lawA s) s.heap H1 locs := by rw [← hA8]; exact hSy
  clear hB hz1 hk1 hvm ht hSx hSy
  generalize H1 = H at hP8 hP9 hS ⊢
  have hJ10 : J8 υ8 := hw9.2.1
  have hR11 : KP υ8 (σ9 9) := KP.fr8 hR (show Fr (fO [11, 13]) σ8 υ8 from hw9.1) (by decide)
  refine lv_pop hx hb dL_law_1058 rfl ?_
  refine lv_aload_n hx hb dL_law_1059 rfl (lv_at hl 1 rfl) ?_
  refine lv_aload_n hx hb dL_law_1060 rfl (lv_at hl 3 rfl) ?_
  refine lv_iload_n hx hb dL_law_1061 rfl (lv_at hl 0 rfl) ?_
  refine lv_iconst (v := 1) hx hb dL_law_1062 (by decide) ?_
  refine lv_iadd hx hb dL_law_1063 ?_
  refine lv_topi (fun x12 ex12 => ?_)
  have t13 := addO ex12 (by have f0 := hi; have f1 := hL; have f2 := t2; have f3 := t5; have z1 : (1 : Int32).toInt = 1 := (by decide); have z2 : (2 : Int32).toInt = 2 := (by decide); omega)
  refine va_sld hx hb hX hbl hbA hS (vpo (by have f0 := t13; have f1 := hi; have f2 := hL; have f3 := t2; have f4 := t5; have g0 := rg32 x12; have z1 : (1 : Int32).toInt = 1 := (by decide); have z2 : (2 : Int32).toInt = 2 := (by decide); omega)) dL_law_1064 ?_
  refine lv_topi (fun x14 ex14 => ?_)
  refine lv_aload_n hx hb dL_law_1065 rfl (lv_at hl 3 rfl) ?_
  refine lv_iload_n hx hb dL_law_1066 rfl (lv_at hl 0 rfl) ?_
  refine lv_iconst (v := 2) hx hb dL_law_1067 (by decide) ?_
  refine lv_iadd hx hb dL_law_1068 ?_
  refine lv_topi (fun x15 ex15 => ?_)
  have t16 := addO ex15 (by have f0 := hi; have f1 := hL; have f2 := t2; have f3 := t5; have f4 := t13; have z1 : (1 : Int32).toInt = 1 := (by decide); have z2 : (2 : Int32).toInt = 2 := (by decide); omega)
  refine va_sld hx hb hX hbl hbA hS (vpo (by have f0 := t16; have f1 := hi; have f2 := hL; have f3 := t2; have f4 := t5; have f5 := t13; have g0 := rg32 x15; have z1 : (1 : Int32).toInt = 1 := (by decide); have z2 : (2 : Int32).toInt = 2 := (by decide); omega)) dL_law_1069 ?_
  refine lv_topi (fun x17 ex17 => ?_)
  have hSx : va_S (A9 cy g2 s.heap.size) s.heap H locs := by rw [hA9]; exact hS
  refine va_calli (va_runV (As := [.int x14, .int x17]) (rest := []) ⟨hx, hb, hml, hown, hts⟩ (m_X9_stuck l D cy g2 σ9 x14 x17 _ hJ9 (DKA.zero hDK)) (cwV 2 hts (gd_V q1892 q1893 q1894 q134 q1895) rfl rfl rfl (by decide +kernel) ⟨Nat.le_of_ble_eq_true rfl, Nat.le_of_ble_eq_true rfl⟩) (pv9 hP9 hK hD9 hC9 hSx (va_recv hK hP9 (ci := 9) (q0 := 0) rfl rfl)) rfl rfl hl.1 rfl (lv_room (Nat.le_of_ble_eq_true rfl)) dL_law_1070 ⟨Nat.le_of_ble_eq_true rfl, Nat.le_of_ble_eq_true rfl⟩) hSx (fun q _ h => up9 hSx q h) (up9 hSx) (fun r18 υ19 tS H1 locs ht hvm hw20 hB hz1 hk1 hSy => ?_)
  have hP9 : va_P D clz (WD9 cy g2 υ19) H1 := by rw [← ht]; exact hB
  have hP8 := kp8 hDD hP8 hk1
  have hS : va_S (lawA s) s.heap H1 locs := by rw [← hA9]; exact hSy
  clear hB hz1 hk1 hvm ht hSx hSy
  generalize H1 = H at hP8 hP9 hS ⊢
  have hF21 : Fr (fL [0, 23, 24, 25, 26, 27, 28, 29, 30, 31, 32, 33, 34, 42]) σ9 υ19 := hw20.1
  have hJ22 : J9 (υ19 9) := hw20.2.1
  have hK23 : DKA (υ19 9) := DKA.mv hDK (hF21 9 17 rfl).2.2.1 (hF21 9 18 rfl).2.2.1 (hF21 9 19 rfl).2.2.1
  have hR24 : KP υ8 (υ19 9) := KP.fr9 hR11 (hF21 9 22 rfl).2.2.1
  refine lv_pop hx hb dL_law_1073 rfl ?_
  refine lv_goto (tgt := 2411) hx hb dL_law_1074 (by decide) ?_
  exact hnext _ _ _ _ _ hJ10 hJ22 hK23 hR24 hP8 hP9 hS hl

theorem q1032 : Cond.methodLink RL 103 yX8_quick ∈ lw_g := lw_gm (List.mem_of_getElem? (i := 1032) (by decide +kernel)) rfl
theorem q1033 : Cond.instanceMethod yX8_quick ∈ lw_g := lw_gm (List.mem_of_getElem? (i := 1033) (by decide +kernel)) rfl
theorem q1034 : Cond.selects RX8 yX8_quick yX8_quick ∈ lw_g := lw_gm (List.mem_of_getElem? (i := 1034) (by decide +kernel)) rfl
theorem q1900 : Cond.methodLink RL 106 yX9_quick ∈ lw_g := lw_gm (List.mem_of_getElem? (i := 1900) (by decide +kernel)) rfl
theorem q1901 : Cond.instanceMethod yX9_quick ∈ lw_g := lw_gm (List.mem_of_getElem? (i := 1901) (by decide +kernel)) rfl
theorem q1902 : Cond.selects RX9 yX9_quick yX9_quick ∈ lw_g := lw_gm (List.mem_of_getElem? (i := 1902) (by decide +kernel)) rfl
theorem dL_law_1077 : decode cL_law 1077 = .ok (.aload_n 1, 1) := by decide +kernel
theorem dL_law_1078 : decode cL_law 1078 = .ok (.aload_n 0, 1) := by decide +kernel
theorem dL_law_1079 : decode cL_law 1079 = .ok (.iload_n 3, 1) := by decide +kernel
theorem dL_law_1080 : decode cL_law 1080 = .ok (.iconst 1, 1) := by decide +kernel
theorem dL_law_1081 : decode cL_law 1081 = .ok (.iadd, 1) := by decide +kernel
theorem dL_law_1082 : decode cL_law 1082 = .ok (.iaload, 1) := by decide +kernel
theorem dL_law_1083 : decode cL_law 1083 = .ok (.aload_n 0, 1) := by decide +kernel
theorem dL_law_1084 : decode cL_law 1084 = .ok (.iload_n 3, 1) := by decide +kernel
theorem dL_law_1085 : decode cL_law 1085 = .ok (.iconst 2, 1) := by decide +kernel
theorem dL_law_1086 : decode cL_law 1086 = .ok (.iadd, 1) := by decide +kernel
theorem dL_law_1087 : decode cL_law 1087 = .ok (.iaload, 1) := by decide +kernel
theorem dL_law_1088 : decode cL_law 1088 = .ok (.invokevirtual 103, 3) := by decide +kernel
theorem dL_law_1091 : decode cL_law 1091 = .ok (.pop, 1) := by decide +kernel
theorem dL_law_1092 : decode cL_law 1092 = .ok (.aload_n 2, 1) := by decide +kernel
theorem dL_law_1093 : decode cL_law 1093 = .ok (.aload_n 0, 1) := by decide +kernel
theorem dL_law_1094 : decode cL_law 1094 = .ok (.iload_n 3, 1) := by decide +kernel
theorem dL_law_1095 : decode cL_law 1095 = .ok (.iconst 1, 1) := by decide +kernel
theorem dL_law_1096 : decode cL_law 1096 = .ok (.iadd, 1) := by decide +kernel
theorem dL_law_1097 : decode cL_law 1097 = .ok (.iaload, 1) := by decide +kernel
theorem dL_law_1098 : decode cL_law 1098 = .ok (.aload_n 0, 1) := by decide +kernel
theorem dL_law_1099 : decode cL_law 1099 = .ok (.iload_n 3, 1) := by decide +kernel
theorem dL_law_1100 : decode cL_law 1100 = .ok (.iconst 2, 1) := by decide +kernel
theorem dL_law_1101 : decode cL_law 1101 = .ok (.iadd, 1) := by decide +kernel
theorem dL_law_1102 : decode cL_law 1102 = .ok (.iaload, 1) := by decide +kernel
theorem dL_law_1103 : decode cL_law 1103 = .ok (.invokevirtual 106, 3) := by decide +kernel
theorem dL_law_1106 : decode cL_law 1106 = .ok (.pop, 1) := by decide +kernel
theorem dL_law_1107 : decode cL_law 1107 = .ok (.goto 1304, 3) := by decide +kernel
set_option maxHeartbeats 4000000 in
set_option maxRecDepth 100000 in
theorem lawc_21 {p : Program} {l : Launch} {e : Env} {s : State} {m : MethodId} {below : List Frame} {meth : Method} {c : Code} {b L : Nat} {xs : Nat → Int32} {D : va_G} {cy : Nat → ClassId} {g1 g2 : Nat → Nat} (X : LX p s m meth c b L xs D cy g1 g2) (hL : L ≤ 3072) {i : Int32} (hi : (0 : Int) ≤ i.toInt ∧ i.toInt + 6 ≤ (L : Int)) (hnext : (∀ (σ8 σ9 : ST) (H : Heap) (locs : List Loc) (ls : Array Slot), J8 σ8 → J9 (σ9 9) → DKA (σ9 9) → KP σ8 (σ9 9) → va_P D clz (WD8 cy g1 σ8) H → va_P D clz (WD9 cy g2 σ9) H → va_S (lawA s) s.heap H locs → lv_has ls 4 [(3, .int i), (2, .ref (g2 60)), (1, .ref (gO g1 17)), (0, .ref b)] → W p l e room_1 s m #[Value.ref b] below meth c H locs 200 700000 (lw_Z below #[Value.ref b] s) (F0 m 2411 ls []))) (σ8 σ9 : ST) (H : Heap) (locs : List Loc) (ls : Array Slot) (hJ8 : J8 σ8) (hJ9 : J9 (σ9 9)) (hDK : DKA (σ9 9)) (hR : KP σ8 (σ9 9)) (hP8 : va_P D clz (WD8 cy g1 σ8) H) (hP9 : va_P D clz (WD9 cy g2 σ9) H) (hS : va_S (lawA s) s.heap H locs) (hl : lv_has ls 4 [(3, .int i), (2, .ref (g2 60)), (1, .ref (gO g1 17)), (0, .ref b)]) : W p l e room_1 s m #[Value.ref b] below meth c H locs 200 700000 (lw_Z below #[Value.ref b] s) (F0 m 1077 ls []) := by
  obtain ⟨⟨hx, hb, hr, hml, hown0, hts0, hX, hbl, hlocks, hgv⟩, hK, hDD, hC8, hC9⟩ := X
  have hown : s.vm.findClass RL = some m.cls := hown0
  have hts : ∀ w ∈ lw_g, w.before #[Value.ref b] s = true := fun w h => hts0 w (lw_gt h)
  have hbA : ¬ lawA s b := Nat.not_le.mpr hbl
  have hA8 := A8_law hDD
  have hA9 := A9_law hDD
  have hD8 : ∀ τ : ST, va_D (A8 cy g1 s.heap.size) (WD8 cy g1 τ) := fun τ => by rw [hA8]; exact map_D WD8_m (D_l hDD)
  have hD9 : ∀ τ : ST, va_D (A9 cy g2 s.heap.size) (WD9 cy g2 τ) := fun τ => by rw [hA9]; exact map_D WD9_m (D_r hDD)
  rw [← hA8] at hC8
  rw [← hA9] at hC9
  refine lv_aload_n hx hb dL_law_1077 rfl (lv_at hl 2 rfl) ?_
  refine lv_aload_n hx hb dL_law_1078 rfl (lv_at hl 3 rfl) ?_
  refine lv_iload_n hx hb dL_law_1079 rfl (lv_at hl 0 rfl) ?_
  refine lv_iconst (v := 1) hx hb dL_law_1080 (by decide) ?_
  refine lv_iadd hx hb dL_law_1081 ?_
  refine lv_topi (fun x1 ex1 => ?_)
  have t2 := addO ex1 (by have f0 := hi; have f1 := hL; have z1 : (1 : Int32).toInt = 1 := (by decide); omega)
  refine va_sld hx hb hX hbl hbA hS (vpo (by have f0 := t2; have f1 := hi; have f2 := hL; have g0 := rg32 x1; have z1 : (1 : Int32).toInt = 1 := (by decide); omega)) dL_law_1082 ?_
  refine lv_topi (fun x3 ex3 => ?_)
  refine lv_aload_n hx hb dL_law_1083 rfl (lv_at hl 3 rfl) ?_
  refine lv_iload_n hx hb dL_law_1084 rfl (lv_at hl 0 rfl) ?_
  refine lv_iconst (v := 2) hx hb dL_law_1085 (by decide) ?_
  refine lv_iadd hx hb dL_law_1086 ?_
  refine lv_topi (fun x4 ex4 => ?_)
  have t5 := addO ex4 (by have f0 := hi; have f1 := hL; have f2 := t2; have z1 : (1 : Int32).toInt = 1 := (by decide); have z2 : (2 : Int32).toInt = 2 := (by decide); omega)
  refine va_sld hx hb hX hbl hbA hS (vpo (by have f0 := t5; have f1 := hi; have f2 := hL; have f3 := t2; have g0 := rg32 x4; have z1 : (1 : Int32).toInt = 1 := (by decide); have z2 : (2 : Int32).toInt = 2 := (by decide); omega)) dL_law_1087 ?_
  refine lv_topi (fun x6 ex6 => ?_)
  have hSx : va_S (A8 cy g1 s.heap.size) s.heap H locs := by rw [hA8]; exact hS
  refine va_calli (va_runV (As := [.int x3, .int x6]) (rest := []) ⟨hx, hb, hml, hown, hts⟩ (m_X8_quick l D cy g1 σ8 x3 x6 _ hJ8) (cwV 2 hts (gd_V q1032 q1033 q1034 q125 q1035) rfl rfl rfl (by decide +kernel) ⟨Nat.le_of_ble_eq_true rfl, Nat.le_of_ble_eq_true rfl⟩) (pv8 hP8 hK hD8 hC8 hSx (rv8_8 hK hP8)) rfl rfl hl.1 rfl (lv_room (Nat.le_of_ble_eq_true rfl)) dL_law_1088 ⟨Nat.le_of_ble_eq_true rfl, Nat.le_of_ble_eq_true rfl⟩) hSx (fun q _ h => up8 hSx q h) (up8 hSx) (fun r7 υ8 tS H1 locs ht hvm hw9 hB hz1 hk1 hSy => ?_)
  have hP8 : va_P D clz (WD8 cy g1 υ8) H1 := by rw [← ht]; exact hB
  have hP9 := kp9 hDD hP9 hk1
  have hS : va_S (lawA s) s.heap H1 locs := by rw [← hA8]; exact hSy
  clear hB hz1 hk1 hvm ht hSx hSy
  generalize H1 = H at hP8 hP9 hS ⊢
  have hJ10 : J8 υ8 := hw9.2.1
  have hR11 : KP υ8 (σ9 9) := KP.fr8 hR (show Fr (fO [11, 13]) σ8 υ8 from hw9.1) (by decide)
  refine lv_pop hx hb dL_law_1091 rfl ?_
  refine lv_aload_n hx hb dL_law_1092 rfl (lv_at hl 1 rfl) ?_
  refine lv_aload_n hx hb dL_law_1093 rfl (lv_at hl 3 rfl) ?_
  refine lv_iload_n hx hb dL_law_1094 rfl (lv_at hl 0 rfl) ?_
  refine lv_iconst (v := 1) hx hb dL_law_1095 (by decide) ?_
  refine lv_iadd hx hb dL_law_1096 ?_
  refine lv_topi (fun x12 ex12 => ?_)
  have t13 := addO ex12 (by have f0 := hi; have f1 := hL; have f2 := t2; have f3 := t5; have z1 : (1 : Int32).toInt = 1 := (by decide); have z2 : (2 : Int32).toInt = 2 := (by decide); omega)
  refine va_sld hx hb hX hbl hbA hS (vpo (by have f0 := t13; have f1 := hi; have f2 := hL; have f3 := t2; have f4 := t5; have g0 := rg32 x12; have z1 : (1 : Int32).toInt = 1 := (by decide); have z2 : (2 : Int32).toInt = 2 := (by decide); omega)) dL_law_1097 ?_
  refine lv_topi (fun x14 ex14 => ?_)
  refine lv_aload_n hx hb dL_law_1098 rfl (lv_at hl 3 rfl) ?_
  refine lv_iload_n hx hb dL_law_1099 rfl (lv_at hl 0 rfl) ?_
  refine lv_iconst (v := 2) hx hb dL_law_1100 (by decide) ?_
  refine lv_iadd hx hb dL_law_1101 ?_
  refine lv_topi (fun x15 ex15 => ?_)
  have t16 := addO ex15 (by have f0 := hi; have f1 := hL; have f2 := t2; have f3 := t5; have f4 := t13; have z1 : (1 : Int32).toInt = 1 := (by decide); have z2 : (2 : Int32).toInt = 2 := (by decide); omega)
  refine va_sld hx hb hX hbl hbA hS (vpo (by have f0 := t16; have f1 := hi; have f2 := hL; have f3 := t2; have f4 := t5; have f5 := t13; have g0 := rg32 x15; have z1 : (1 : Int32).toInt = 1 := (by decide); have z2 : (2 : Int32).toInt = 2 := (by decide); omega)) dL_law_1102 ?_
  refine lv_topi (fun x17 ex17 => ?_)
  have hSx : va_S (A9 cy g2 s.heap.size) s.heap H locs := by rw [hA9]; exact hS
  refine va_calli (va_runV (As := [.int x14, .int x17]) (rest := []) ⟨hx, hb, hml, hown, hts⟩ (m_X9_quick l D cy g2 σ9 x14 x17 _ hJ9 (DKA.zero hDK)) (cwV 2 hts (gd_V q1900 q1901 q1902 q134 q1903) rfl rfl rfl (by decide +kernel) ⟨Nat.le_of_ble_eq_true rfl, Nat.le_of_ble_eq_true rfl⟩) (pv9 hP9 hK hD9 hC9 hSx (va_recv hK hP9 (ci := 9) (q0 := 0) rfl rfl)) rfl rfl hl.1 rfl (lv_room (Nat.le_of_ble_eq_true rfl)) dL_law_1103 ⟨Nat.le_of_ble_eq_true rfl, Nat.le_of_ble_eq_true rfl⟩) hSx (fun q _ h => up9 hSx q h) (up9 hSx) (fun r18 υ19 tS H1 locs ht hvm hw20 hB hz1 hk1 hSy => ?_)
  have hP9 : va_P D clz (WD9 cy g2 υ19) H1 := by rw [← ht]; exact hB
  have hP8 := kp8 hDD hP8 hk1
  have hS : va_S (lawA s) s.heap H1 locs := by rw [← hA9]; exact hSy
  clear hB hz1 hk1 hvm ht hSx hSy
  generalize H1 = H at hP8 hP9 hS ⊢
  have hF21 : Fr (fL [0, 23, 24, 25, 26, 27, 28, 29, 30, 31, 32, 33, 34, 35, 36, 37, 38, 39, 40, 41]) σ9 υ19 := hw20.1
  have hJ22 : J9 (υ19 9) := hw20.2.1
  have hK23 : DKA (υ19 9) := DKA.mv hDK (hF21 9 17 rfl).2.2.1 (hF21 9 18 rfl).2.2.1 (hF21 9 19 rfl).2.2.1
  have hR24 : KP υ8 (υ19 9) := KP.fr9 hR11 (hF21 9 22 rfl).2.2.1
  refine lv_pop hx hb dL_law_1106 rfl ?_
  refine lv_goto (tgt := 2411) hx hb dL_law_1107 (by decide) ?_
  exact hnext _ _ _ _ _ hJ10 hJ22 hK23 hR24 hP8 hP9 hS hl

theorem q1040 : Cond.methodLink RL 107 yX8_cents ∈ lw_g := lw_gm (List.mem_of_getElem? (i := 1040) (by decide +kernel)) rfl
theorem q1041 : Cond.instanceMethod yX8_cents ∈ lw_g := lw_gm (List.mem_of_getElem? (i := 1041) (by decide +kernel)) rfl
theorem q1042 : Cond.selects RX8 yX8_cents yX8_cents ∈ lw_g := lw_gm (List.mem_of_getElem? (i := 1042) (by decide +kernel)) rfl
theorem q1904 : Cond.methodLink RL 110 yX9_cents ∈ lw_g := lw_gm (List.mem_of_getElem? (i := 1904) (by decide +kernel)) rfl
theorem q1905 : Cond.instanceMethod yX9_cents ∈ lw_g := lw_gm (List.mem_of_getElem? (i := 1905) (by decide +kernel)) rfl
theorem q1906 : Cond.selects RX9 yX9_cents yX9_cents ∈ lw_g := lw_gm (List.mem_of_getElem? (i := 1906) (by decide +kernel)) rfl
theorem dL_law_1110 : decode cL_law 1110 = .ok (.aload_n 1, 1) := by decide +kernel
theorem dL_law_1111 : decode cL_law 1111 = .ok (.aload_n 0, 1) := by decide +kernel
theorem dL_law_1112 : decode cL_law 1112 = .ok (.iload_n 3, 1) := by decide +kernel
theorem dL_law_1113 : decode cL_law 1113 = .ok (.iconst 1, 1) := by decide +kernel
theorem dL_law_1114 : decode cL_law 1114 = .ok (.iadd, 1) := by decide +kernel
theorem dL_law_1115 : decode cL_law 1115 = .ok (.iaload, 1) := by decide +kernel
theorem dL_law_1116 : decode cL_law 1116 = .ok (.aload_n 0, 1) := by decide +kernel
theorem dL_law_1117 : decode cL_law 1117 = .ok (.iload_n 3, 1) := by decide +kernel
theorem dL_law_1118 : decode cL_law 1118 = .ok (.iconst 2, 1) := by decide +kernel
theorem dL_law_1119 : decode cL_law 1119 = .ok (.iadd, 1) := by decide +kernel
theorem dL_law_1120 : decode cL_law 1120 = .ok (.iaload, 1) := by decide +kernel
theorem dL_law_1121 : decode cL_law 1121 = .ok (.invokevirtual 107, 3) := by decide +kernel
theorem dL_law_1124 : decode cL_law 1124 = .ok (.pop, 1) := by decide +kernel
theorem dL_law_1125 : decode cL_law 1125 = .ok (.aload_n 2, 1) := by decide +kernel
theorem dL_law_1126 : decode cL_law 1126 = .ok (.aload_n 0, 1) := by decide +kernel
theorem dL_law_1127 : decode cL_law 1127 = .ok (.iload_n 3, 1) := by decide +kernel
theorem dL_law_1128 : decode cL_law 1128 = .ok (.iconst 1, 1) := by decide +kernel
theorem dL_law_1129 : decode cL_law 1129 = .ok (.iadd, 1) := by decide +kernel
theorem dL_law_1130 : decode cL_law 1130 = .ok (.iaload, 1) := by decide +kernel
theorem dL_law_1131 : decode cL_law 1131 = .ok (.aload_n 0, 1) := by decide +kernel
theorem dL_law_1132 : decode cL_law 1132 = .ok (.iload_n 3, 1) := by decide +kernel
theorem dL_law_1133 : decode cL_law 1133 = .ok (.iconst 2, 1) := by decide +kernel
theorem dL_law_1134 : decode cL_law 1134 = .ok (.iadd, 1) := by decide +kernel
theorem dL_law_1135 : decode cL_law 1135 = .ok (.iaload, 1) := by decide +kernel
theorem dL_law_1136 : decode cL_law 1136 = .ok (.invokevirtual 110, 3) := by decide +kernel
theorem dL_law_1139 : decode cL_law 1139 = .ok (.pop, 1) := by decide +kernel
theorem dL_law_1140 : decode cL_law 1140 = .ok (.goto 1271, 3) := by decide +kernel
set_option maxHeartbeats 4000000 in
set_option maxRecDepth 100000 in
theorem lawc_22 {p : Program} {l : Launch} {e : Env} {s : State} {m : MethodId} {below : List Frame} {meth : Method} {c : Code} {b L : Nat} {xs : Nat → Int32} {D : va_G} {cy : Nat → ClassId} {g1 g2 : Nat → Nat} (X : LX p s m meth c b L xs D cy g1 g2) (hL : L ≤ 3072) {i : Int32} (hi : (0 : Int) ≤ i.toInt ∧ i.toInt + 6 ≤ (L : Int)) (hnext : (∀ (σ8 σ9 : ST) (H : Heap) (locs : List Loc) (ls : Array Slot), J8 σ8 → J9 (σ9 9) → DKA (σ9 9) → KP σ8 (σ9 9) → va_P D clz (WD8 cy g1 σ8) H → va_P D clz (WD9 cy g2 σ9) H → va_S (lawA s) s.heap H locs → lv_has ls 4 [(3, .int i), (2, .ref (g2 60)), (1, .ref (gO g1 17)), (0, .ref b)] → W p l e room_1 s m #[Value.ref b] below meth c H locs 200 700000 (lw_Z below #[Value.ref b] s) (F0 m 2411 ls []))) (σ8 σ9 : ST) (H : Heap) (locs : List Loc) (ls : Array Slot) (hJ8 : J8 σ8) (hJ9 : J9 (σ9 9)) (hDK : DKA (σ9 9)) (hR : KP σ8 (σ9 9)) (hP8 : va_P D clz (WD8 cy g1 σ8) H) (hP9 : va_P D clz (WD9 cy g2 σ9) H) (hS : va_S (lawA s) s.heap H locs) (hl : lv_has ls 4 [(3, .int i), (2, .ref (g2 60)), (1, .ref (gO g1 17)), (0, .ref b)]) : W p l e room_1 s m #[Value.ref b] below meth c H locs 200 700000 (lw_Z below #[Value.ref b] s) (F0 m 1110 ls []) := by
  obtain ⟨⟨hx, hb, hr, hml, hown0, hts0, hX, hbl, hlocks, hgv⟩, hK, hDD, hC8, hC9⟩ := X
  have hown : s.vm.findClass RL = some m.cls := hown0
  have hts : ∀ w ∈ lw_g, w.before #[Value.ref b] s = true := fun w h => hts0 w (lw_gt h)
  have hbA : ¬ lawA s b := Nat.not_le.mpr hbl
  have hA8 := A8_law hDD
  have hA9 := A9_law hDD
  have hD8 : ∀ τ : ST, va_D (A8 cy g1 s.heap.size) (WD8 cy g1 τ) := fun τ => by rw [hA8]; exact map_D WD8_m (D_l hDD)
  have hD9 : ∀ τ : ST, va_D (A9 cy g2 s.heap.size) (WD9 cy g2 τ) := fun τ => by rw [hA9]; exact map_D WD9_m (D_r hDD)
  rw [← hA8] at hC8
  rw [← hA9] at hC9
  refine lv_aload_n hx hb dL_law_1110 rfl (lv_at hl 2 rfl) ?_
  refine lv_aload_n hx hb dL_law_1111 rfl (lv_at hl 3 rfl) ?_
  refine lv_iload_n hx hb dL_law_1112 rfl (lv_at hl 0 rfl) ?_
  refine lv_iconst (v := 1) hx hb dL_law_1113 (by decide) ?_
  refine lv_iadd hx hb dL_law_1114 ?_
  refine lv_topi (fun x1 ex1 => ?_)
  have t2 := addO ex1 (by have f0 := hi; have f1 := hL; have z1 : (1 : Int32).toInt = 1 := (by decide); omega)
  refine va_sld hx hb hX hbl hbA hS (vpo (by have f0 := t2; have f1 := hi; have f2 := hL; have g0 := rg32 x1; have z1 : (1 : Int32).toInt = 1 := (by decide); omega)) dL_law_1115 ?_
  refine lv_topi (fun x3 ex3 => ?_)
  refine lv_aload_n hx hb dL_law_1116 rfl (lv_at hl 3 rfl) ?_
  refine lv_iload_n hx hb dL_law_1117 rfl (lv_at hl 0 rfl) ?_
  refine lv_iconst (v := 2) hx hb dL_law_1118 (by decide) ?_
  refine lv_iadd hx hb dL_law_1119 ?_
  refine lv_topi (fun x4 ex4 => ?_)
  have t5 := addO ex4 (by have f0 := hi; have f1 := hL; have f2 := t2; have z1 : (1 : Int32).toInt = 1 := (by decide); have z2 : (2 : Int32).toInt = 2 := (by decide); omega)
  refine va_sld hx hb hX hbl hbA hS (vpo (by have f0 := t5; have f1 := hi; have f2 := hL; have f3 := t2; have g0 := rg32 x4; have z1 : (1 : Int32).toInt = 1 := (by decide); have z2 : (2 : Int32).toInt = 2 := (by decide); omega)) dL_law_1120 ?_
  refine lv_topi (fun x6 ex6 => ?_)
  have hSx : va_S (A8 cy g1 s.heap.size) s.heap H locs := by rw [hA8]; exact hS
  refine va_calli (va_runV (As := [.int x3, .int x6]) (rest := []) ⟨hx, hb, hml, hown, hts⟩ (m_X8_cents l D cy g1 σ8 x3 x6 _ hJ8) (cwV 2 hts (gd_V q1040 q1041 q1042 q125 q1043) rfl rfl rfl (by decide +kernel) ⟨Nat.le_of_ble_eq_true rfl, Nat.le_of_ble_eq_true rfl⟩) (pv8 hP8 hK hD8 hC8 hSx (rv8_8 hK hP8)) rfl rfl hl.1 rfl (lv_room (Nat.le_of_ble_eq_true rfl)) dL_law_1121 ⟨Nat.le_of_ble_eq_true rfl, Nat.le_of_ble_eq_true rfl⟩) hSx (fun q _ h => up8 hSx q h) (up8 hSx) (fun r7 υ8 tS H1 locs ht hvm hw9 hB hz1 hk1 hSy => ?_)
  have hP8 : va_P D clz (WD8 cy g1 υ8) H1 := by rw [← ht]; exact hB
  have hP9 := kp9 hDD hP9 hk1
  have hS : va_S (lawA s) s.heap H1 locs := by rw [← hA8]; exact hSy
  clear hB hz1 hk1 hvm ht hSx hSy
  generalize H1 = H at hP8 hP9 hS ⊢
  have hJ10 : J8 υ8 := hw9.2.1
  have hR11 : KP υ8 (σ9 9) := KP.fr8 hR (show Fr (fO [11, 13]) σ8 υ8 from hw9.1) (by decide)
  refine lv_pop hx hb dL_law_1124 rfl ?_
  refine lv_aload_n hx hb dL_law_1125 rfl (lv_at hl 1 rfl) ?_
  refine lv_aload_n hx hb dL_law_1126 rfl (lv_at hl 3 rfl) ?_
  refine lv_iload_n hx hb dL_law_1127 rfl (lv_at hl 0 rfl) ?_
  refine lv_iconst (v := 1) hx hb dL_law_1128 (by decide) ?_
  refine lv_iadd hx hb dL_law_1129 ?_
  refine lv_topi (fun x12 ex12 => ?_)
  have t13 := addO ex12 (by have f0 := hi; have f1 := hL; have f2 := t2; have f3 := t5; have z1 : (1 : Int32).toInt = 1 := (by decide); have z2 : (2 : Int32).toInt = 2 := (by decide); omega)
  refine va_sld hx hb hX hbl hbA hS (vpo (by have f0 := t13; have f1 := hi; have f2 := hL; have f3 := t2; have f4 := t5; have g0 := rg32 x12; have z1 : (1 : Int32).toInt = 1 := (by decide); have z2 : (2 : Int32).toInt = 2 := (by decide); omega)) dL_law_1130 ?_
  refine lv_topi (fun x14 ex14 => ?_)
  refine lv_aload_n hx hb dL_law_1131 rfl (lv_at hl 3 rfl) ?_
  refine lv_iload_n hx hb dL_law_1132 rfl (lv_at hl 0 rfl) ?_
  refine lv_iconst (v := 2) hx hb dL_law_1133 (by decide) ?_
  refine lv_iadd hx hb dL_law_1134 ?_
  refine lv_topi (fun x15 ex15 => ?_)
  have t16 := addO ex15 (by have f0 := hi; have f1 := hL; have f2 := t2; have f3 := t5; have f4 := t13; have z1 : (1 : Int32).toInt = 1 := (by decide); have z2 : (2 : Int32).toInt = 2 := (by decide); omega)
  refine va_sld hx hb hX hbl hbA hS (vpo (by have f0 := t16; have f1 := hi; have f2 := hL; have f3 := t2; have f4 := t5; have f5 := t13; have g0 := rg32 x15; have z1 : (1 : Int32).toInt = 1 := (by decide); have z2 : (2 : Int32).toInt = 2 := (by decide); omega)) dL_law_1135 ?_
  refine lv_topi (fun x17 ex17 => ?_)
  have hSx : va_S (A9 cy g2 s.heap.size) s.heap H locs := by rw [hA9]; exact hS
  refine va_calli (va_runV (As := [.int x14, .int x17]) (rest := []) ⟨hx, hb, hml, hown, hts⟩ (m_X9_cents l D cy g2 σ9 x14 x17 _ hJ9 (DKA.zero hDK)) (cwV 2 hts (gd_V q1904 q1905 q1906 q134 q1907) rfl rfl rfl (by decide +kernel) ⟨Nat.le_of_ble_eq_true rfl, Nat.le_of_ble_eq_true rfl⟩) (pv9 hP9 hK hD9 hC9 hSx (va_recv hK hP9 (ci := 9) (q0 := 0) rfl rfl)) rfl rfl hl.1 rfl (lv_room (Nat.le_of_ble_eq_true rfl)) dL_law_1136 ⟨Nat.le_of_ble_eq_true rfl, Nat.le_of_ble_eq_true rfl⟩) hSx (fun q _ h => up9 hSx q h) (up9 hSx) (fun r18 υ19 tS H1 locs ht hvm hw20 hB hz1 hk1 hSy => ?_)
  have hP9 : va_P D clz (WD9 cy g2 υ19) H1 := by rw [← ht]; exact hB
  have hP8 := kp8 hDD hP8 hk1
  have hS : va_S (lawA s) s.heap H1 locs := by rw [← hA9]; exact hSy
  clear hB hz1 hk1 hvm ht hSx hSy
  generalize H1 = H at hP8 hP9 hS ⊢
  have hF21 : Fr (fL [0, 23, 24, 25, 26, 27, 28, 29, 30, 31, 32, 33, 34, 35, 36, 37, 38, 39, 40, 41]) σ9 υ19 := hw20.1
  have hJ22 : J9 (υ19 9) := hw20.2.1
  have hK23 : DKA (υ19 9) := DKA.mv hDK (hF21 9 17 rfl).2.2.1 (hF21 9 18 rfl).2.2.1 (hF21 9 19 rfl).2.2.1
  have hR24 : KP υ8 (υ19 9) := KP.fr9 hR11 (hF21 9 22 rfl).2.2.1
  refine lv_pop hx hb dL_law_1139 rfl ?_
  refine lv_goto (tgt := 2411) hx hb dL_law_1140 (by decide) ?_
  exact hnext _ _ _ _ _ hJ10 hJ22 hK23 hR24 hP8 hP9 hS hl

theorem q1048 : Cond.methodLink RL 111 yX8_many ∈ lw_g := lw_gm (List.mem_of_getElem? (i := 1048) (by decide +kernel)) rfl
theorem q1049 : Cond.instanceMethod yX8_many ∈ lw_g := lw_gm (List.mem_of_getElem? (i := 1049) (by decide +kernel)) rfl
theorem q1050 : Cond.selects RX8 yX8_many yX8_many ∈ lw_g := lw_gm (List.mem_of_getElem? (i := 1050) (by decide +kernel)) rfl
theorem q1908 : Cond.methodLink RL 114 yX9_many ∈ lw_g := lw_gm (List.mem_of_getElem? (i := 1908) (by decide +kernel)) rfl
theorem q1909 : Cond.instanceMethod yX9_many ∈ lw_g := lw_gm (List.mem_of_getElem? (i := 1909) (by decide +kernel)) rfl
theorem q1910 : Cond.selects RX9 yX9_many yX9_many ∈ lw_g := lw_gm (List.mem_of_getElem? (i := 1910) (by decide +kernel)) rfl
theorem dL_law_1143 : decode cL_law 1143 = .ok (.aload_n 1, 1) := by decide +kernel
theorem dL_law_1144 : decode cL_law 1144 = .ok (.aload_n 0, 1) := by decide +kernel
theorem dL_law_1145 : decode cL_law 1145 = .ok (.iload_n 3, 1) := by decide +kernel
theorem dL_law_1146 : decode cL_law 1146 = .ok (.iconst 1, 1) := by decide +kernel
theorem dL_law_1147 : decode cL_law 1147 = .ok (.iadd, 1) := by decide +kernel
theorem dL_law_1148 : decode cL_law 1148 = .ok (.iaload, 1) := by decide +kernel
theorem dL_law_1149 : decode cL_law 1149 = .ok (.aload_n 0, 1) := by decide +kernel
theorem dL_law_1150 : decode cL_law 1150 = .ok (.iload_n 3, 1) := by decide +kernel
theorem dL_law_1151 : decode cL_law 1151 = .ok (.iconst 2, 1) := by decide +kernel
theorem dL_law_1152 : decode cL_law 1152 = .ok (.iadd, 1) := by decide +kernel
theorem dL_law_1153 : decode cL_law 1153 = .ok (.iaload, 1) := by decide +kernel
theorem dL_law_1154 : decode cL_law 1154 = .ok (.invokevirtual 111, 3) := by decide +kernel
theorem dL_law_1157 : decode cL_law 1157 = .ok (.pop, 1) := by decide +kernel
theorem dL_law_1158 : decode cL_law 1158 = .ok (.aload_n 2, 1) := by decide +kernel
theorem dL_law_1159 : decode cL_law 1159 = .ok (.aload_n 0, 1) := by decide +kernel
theorem dL_law_1160 : decode cL_law 1160 = .ok (.iload_n 3, 1) := by decide +kernel
theorem dL_law_1161 : decode cL_law 1161 = .ok (.iconst 1, 1) := by decide +kernel
theorem dL_law_1162 : decode cL_law 1162 = .ok (.iadd, 1) := by decide +kernel
theorem dL_law_1163 : decode cL_law 1163 = .ok (.iaload, 1) := by decide +kernel
theorem dL_law_1164 : decode cL_law 1164 = .ok (.aload_n 0, 1) := by decide +kernel
theorem dL_law_1165 : decode cL_law 1165 = .ok (.iload_n 3, 1) := by decide +kernel
theorem dL_law_1166 : decode cL_law 1166 = .ok (.iconst 2, 1) := by decide +kernel
theorem dL_law_1167 : decode cL_law 1167 = .ok (.iadd, 1) := by decide +kernel
theorem dL_law_1168 : decode cL_law 1168 = .ok (.iaload, 1) := by decide +kernel
theorem dL_law_1169 : decode cL_law 1169 = .ok (.invokevirtual 114, 3) := by decide +kernel
theorem dL_law_1172 : decode cL_law 1172 = .ok (.pop, 1) := by decide +kernel
theorem dL_law_1173 : decode cL_law 1173 = .ok (.goto 1238, 3) := by decide +kernel
set_option maxHeartbeats 4000000 in
set_option maxRecDepth 100000 in
theorem lawc_23 {p : Program} {l : Launch} {e : Env} {s : State} {m : MethodId} {below : List Frame} {meth : Method} {c : Code} {b L : Nat} {xs : Nat → Int32} {D : va_G} {cy : Nat → ClassId} {g1 g2 : Nat → Nat} (X : LX p s m meth c b L xs D cy g1 g2) (hL : L ≤ 3072) {i : Int32} (hi : (0 : Int) ≤ i.toInt ∧ i.toInt + 6 ≤ (L : Int)) (hnext : (∀ (σ8 σ9 : ST) (H : Heap) (locs : List Loc) (ls : Array Slot), J8 σ8 → J9 (σ9 9) → DKA (σ9 9) → KP σ8 (σ9 9) → va_P D clz (WD8 cy g1 σ8) H → va_P D clz (WD9 cy g2 σ9) H → va_S (lawA s) s.heap H locs → lv_has ls 4 [(3, .int i), (2, .ref (g2 60)), (1, .ref (gO g1 17)), (0, .ref b)] → W p l e room_1 s m #[Value.ref b] below meth c H locs 200 700000 (lw_Z below #[Value.ref b] s) (F0 m 2411 ls []))) (σ8 σ9 : ST) (H : Heap) (locs : List Loc) (ls : Array Slot) (hJ8 : J8 σ8) (hJ9 : J9 (σ9 9)) (hDK : DKA (σ9 9)) (hR : KP σ8 (σ9 9)) (hP8 : va_P D clz (WD8 cy g1 σ8) H) (hP9 : va_P D clz (WD9 cy g2 σ9) H) (hS : va_S (lawA s) s.heap H locs) (hl : lv_has ls 4 [(3, .int i), (2, .ref (g2 60)), (1, .ref (gO g1 17)), (0, .ref b)]) : W p l e room_1 s m #[Value.ref b] below meth c H locs 200 700000 (lw_Z below #[Value.ref b] s) (F0 m 1143 ls []) := by
  obtain ⟨⟨hx, hb, hr, hml, hown0, hts0, hX, hbl, hlocks, hgv⟩, hK, hDD, hC8, hC9⟩ := X
  have hown : s.vm.findClass RL = some m.cls := hown0
  have hts : ∀ w ∈ lw_g, w.before #[Value.ref b] s = true := fun w h => hts0 w (lw_gt h)
  have hbA : ¬ lawA s b := Nat.not_le.mpr hbl
  have hA8 := A8_law hDD
  have hA9 := A9_law hDD
  have hD8 : ∀ τ : ST, va_D (A8 cy g1 s.heap.size) (WD8 cy g1 τ) := fun τ => by rw [hA8]; exact map_D WD8_m (D_l hDD)
  have hD9 : ∀ τ : ST, va_D (A9 cy g2 s.heap.size) (WD9 cy g2 τ) := fun τ => by rw [hA9]; exact map_D WD9_m (D_r hDD)
  rw [← hA8] at hC8
  rw [← hA9] at hC9
  refine lv_aload_n hx hb dL_law_1143 rfl (lv_at hl 2 rfl) ?_
  refine lv_aload_n hx hb dL_law_1144 rfl (lv_at hl 3 rfl) ?_
  refine lv_iload_n hx hb dL_law_1145 rfl (lv_at hl 0 rfl) ?_
  refine lv_iconst (v := 1) hx hb dL_law_1146 (by decide) ?_
  refine lv_iadd hx hb dL_law_1147 ?_
  refine lv_topi (fun x1 ex1 => ?_)
  have t2 := addO ex1 (by have f0 := hi; have f1 := hL; have z1 : (1 : Int32).toInt = 1 := (by decide); omega)
  refine va_sld hx hb hX hbl hbA hS (vpo (by have f0 := t2; have f1 := hi; have f2 := hL; have g0 := rg32 x1; have z1 : (1 : Int32).toInt = 1 := (by decide); omega)) dL_law_1148 ?_
  refine lv_topi (fun x3 ex3 => ?_)
  refine lv_aload_n hx hb dL_law_1149 rfl (lv_at hl 3 rfl) ?_
  refine lv_iload_n hx hb dL_law_1150 rfl (lv_at hl 0 rfl) ?_
  refine lv_iconst (v := 2) hx hb dL_law_1151 (by decide) ?_
  refine lv_iadd hx hb dL_law_1152 ?_
  refine lv_topi (fun x4 ex4 => ?_)
  have t5 := addO ex4 (by have f0 := hi; have f1 := hL; have f2 := t2; have z1 : (1 : Int32).toInt = 1 := (by decide); have z2 : (2 : Int32).toInt = 2 := (by decide); omega)
  refine va_sld hx hb hX hbl hbA hS (vpo (by have f0 := t5; have f1 := hi; have f2 := hL; have f3 := t2; have g0 := rg32 x4; have z1 : (1 : Int32).toInt = 1 := (by decide); have z2 : (2 : Int32).toInt = 2 := (by decide); omega)) dL_law_1153 ?_
  refine lv_topi (fun x6 ex6 => ?_)
  have hSx : va_S (A8 cy g1 s.heap.size) s.heap H locs := by rw [hA8]; exact hS
  refine va_calli (va_runV (As := [.int x3, .int x6]) (rest := []) ⟨hx, hb, hml, hown, hts⟩ (m_X8_many l D cy g1 σ8 x3 x6 _ hJ8) (cwV 2 hts (gd_V q1048 q1049 q1050 q125 q1051) rfl rfl rfl (by decide +kernel) ⟨Nat.le_of_ble_eq_true rfl, Nat.le_of_ble_eq_true rfl⟩) (pv8 hP8 hK hD8 hC8 hSx (rv8_8 hK hP8)) rfl rfl hl.1 rfl (lv_room (Nat.le_of_ble_eq_true rfl)) dL_law_1154 ⟨Nat.le_of_ble_eq_true rfl, Nat.le_of_ble_eq_true rfl⟩) hSx (fun q _ h => up8 hSx q h) (up8 hSx) (fun r7 υ8 tS H1 locs ht hvm hw9 hB hz1 hk1 hSy => ?_)
  have hP8 : va_P D clz (WD8 cy g1 υ8) H1 := by rw [← ht]; exact hB
  have hP9 := kp9 hDD hP9 hk1
  have hS : va_S (lawA s) s.heap H1 locs := by rw [← hA8]; exact hSy
  clear hB hz1 hk1 hvm ht hSx hSy
  generalize H1 = H at hP8 hP9 hS ⊢
  have hJ10 : J8 υ8 := hw9.2.1
  have hR11 : KP υ8 (σ9 9) := KP.fr8 hR (show Fr (fO [11, 13]) σ8 υ8 from hw9.1) (by decide)
  refine lv_pop hx hb dL_law_1157 rfl ?_
  refine lv_aload_n hx hb dL_law_1158 rfl (lv_at hl 1 rfl) ?_
  refine lv_aload_n hx hb dL_law_1159 rfl (lv_at hl 3 rfl) ?_
  refine lv_iload_n hx hb dL_law_1160 rfl (lv_at hl 0 rfl) ?_
  refine lv_iconst (v := 1) hx hb dL_law_1161 (by decide) ?_
  refine lv_iadd hx hb dL_law_1162 ?_
  refine lv_topi (fun x12 ex12 => ?_)
  have t13 := addO ex12 (by have f0 := hi; have f1 := hL; have f2 := t2; have f3 := t5; have z1 : (1 : Int32).toInt = 1 := (by decide); have z2 : (2 : Int32).toInt = 2 := (by decide); omega)
  refine va_sld hx hb hX hbl hbA hS (vpo (by have f0 := t13; have f1 := hi; have f2 := hL; have f3 := t2; have f4 := t5; have g0 := rg32 x12; have z1 : (1 : Int32).toInt = 1 := (by decide); have z2 : (2 : Int32).toInt = 2 := (by decide); omega)) dL_law_1163 ?_
  refine lv_topi (fun x14 ex14 => ?_)
  refine lv_aload_n hx hb dL_law_1164 rfl (lv_at hl 3 rfl) ?_
  refine lv_iload_n hx hb dL_law_1165 rfl (lv_at hl 0 rfl) ?_
  refine lv_iconst (v := 2) hx hb dL_law_1166 (by decide) ?_
  refine lv_iadd hx hb dL_law_1167 ?_
  refine lv_topi (fun x15 ex15 => ?_)
  have t16 := addO ex15 (by have f0 := hi; have f1 := hL; have f2 := t2; have f3 := t5; have f4 := t13; have z1 : (1 : Int32).toInt = 1 := (by decide); have z2 : (2 : Int32).toInt = 2 := (by decide); omega)
  refine va_sld hx hb hX hbl hbA hS (vpo (by have f0 := t16; have f1 := hi; have f2 := hL; have f3 := t2; have f4 := t5; have f5 := t13; have g0 := rg32 x15; have z1 : (1 : Int32).toInt = 1 := (by decide); have z2 : (2 : Int32).toInt = 2 := (by decide); omega)) dL_law_1168 ?_
  refine lv_topi (fun x17 ex17 => ?_)
  have hSx : va_S (A9 cy g2 s.heap.size) s.heap H locs := by rw [hA9]; exact hS
  refine va_calli (va_runV (As := [.int x14, .int x17]) (rest := []) ⟨hx, hb, hml, hown, hts⟩ (m_X9_many l D cy g2 σ9 x14 x17 _ hJ9 (DKA.zero hDK)) (cwV 2 hts (gd_V q1908 q1909 q1910 q134 q1911) rfl rfl rfl (by decide +kernel) ⟨Nat.le_of_ble_eq_true rfl, Nat.le_of_ble_eq_true rfl⟩) (pv9 hP9 hK hD9 hC9 hSx (va_recv hK hP9 (ci := 9) (q0 := 0) rfl rfl)) rfl rfl hl.1 rfl (lv_room (Nat.le_of_ble_eq_true rfl)) dL_law_1169 ⟨Nat.le_of_ble_eq_true rfl, Nat.le_of_ble_eq_true rfl⟩) hSx (fun q _ h => up9 hSx q h) (up9 hSx) (fun r18 υ19 tS H1 locs ht hvm hw20 hB hz1 hk1 hSy => ?_)
  have hP9 : va_P D clz (WD9 cy g2 υ19) H1 := by rw [← ht]; exact hB
  have hP8 := kp8 hDD hP8 hk1
  have hS : va_S (lawA s) s.heap H1 locs := by rw [← hA9]; exact hSy
  clear hB hz1 hk1 hvm ht hSx hSy
  generalize H1 = H at hP8 hP9 hS ⊢
  have hF21 : Fr (fL [0, 23, 24, 25, 26, 27, 28, 29, 30, 31, 32, 33, 34, 35, 36, 37, 38, 39, 40, 41]) σ9 υ19 := hw20.1
  have hJ22 : J9 (υ19 9) := hw20.2.1
  have hK23 : DKA (υ19 9) := DKA.mv hDK (hF21 9 17 rfl).2.2.1 (hF21 9 18 rfl).2.2.1 (hF21 9 19 rfl).2.2.1
  have hR24 : KP υ8 (υ19 9) := KP.fr9 hR11 (hF21 9 22 rfl).2.2.1
  refine lv_pop hx hb dL_law_1172 rfl ?_
  refine lv_goto (tgt := 2411) hx hb dL_law_1173 (by decide) ?_
  exact hnext _ _ _ _ _ hJ10 hJ22 hK23 hR24 hP8 hP9 hS hl

theorem q1062 : Cond.methodLink RL 115 yX8_moved ∈ lw_g := lw_gm (List.mem_of_getElem? (i := 1062) (by decide +kernel)) rfl
theorem q1063 : Cond.instanceMethod yX8_moved ∈ lw_g := lw_gm (List.mem_of_getElem? (i := 1063) (by decide +kernel)) rfl
theorem q1064 : Cond.selects RX8 yX8_moved yX8_moved ∈ lw_g := lw_gm (List.mem_of_getElem? (i := 1064) (by decide +kernel)) rfl
theorem q1912 : Cond.methodLink RL 118 yX9_moved ∈ lw_g := lw_gm (List.mem_of_getElem? (i := 1912) (by decide +kernel)) rfl
theorem q1913 : Cond.instanceMethod yX9_moved ∈ lw_g := lw_gm (List.mem_of_getElem? (i := 1913) (by decide +kernel)) rfl
theorem q1914 : Cond.selects RX9 yX9_moved yX9_moved ∈ lw_g := lw_gm (List.mem_of_getElem? (i := 1914) (by decide +kernel)) rfl
theorem dL_law_1176 : decode cL_law 1176 = .ok (.aload_n 1, 1) := by decide +kernel
theorem dL_law_1177 : decode cL_law 1177 = .ok (.aload_n 0, 1) := by decide +kernel
theorem dL_law_1178 : decode cL_law 1178 = .ok (.iload_n 3, 1) := by decide +kernel
theorem dL_law_1179 : decode cL_law 1179 = .ok (.iconst 1, 1) := by decide +kernel
theorem dL_law_1180 : decode cL_law 1180 = .ok (.iadd, 1) := by decide +kernel
theorem dL_law_1181 : decode cL_law 1181 = .ok (.iaload, 1) := by decide +kernel
theorem dL_law_1182 : decode cL_law 1182 = .ok (.aload_n 0, 1) := by decide +kernel
theorem dL_law_1183 : decode cL_law 1183 = .ok (.iload_n 3, 1) := by decide +kernel
theorem dL_law_1184 : decode cL_law 1184 = .ok (.iconst 2, 1) := by decide +kernel
theorem dL_law_1185 : decode cL_law 1185 = .ok (.iadd, 1) := by decide +kernel
theorem dL_law_1186 : decode cL_law 1186 = .ok (.iaload, 1) := by decide +kernel
theorem dL_law_1187 : decode cL_law 1187 = .ok (.invokevirtual 115, 3) := by decide +kernel
theorem dL_law_1190 : decode cL_law 1190 = .ok (.pop, 1) := by decide +kernel
theorem dL_law_1191 : decode cL_law 1191 = .ok (.aload_n 2, 1) := by decide +kernel
theorem dL_law_1192 : decode cL_law 1192 = .ok (.aload_n 0, 1) := by decide +kernel
theorem dL_law_1193 : decode cL_law 1193 = .ok (.iload_n 3, 1) := by decide +kernel
theorem dL_law_1194 : decode cL_law 1194 = .ok (.iconst 1, 1) := by decide +kernel
theorem dL_law_1195 : decode cL_law 1195 = .ok (.iadd, 1) := by decide +kernel
theorem dL_law_1196 : decode cL_law 1196 = .ok (.iaload, 1) := by decide +kernel
theorem dL_law_1197 : decode cL_law 1197 = .ok (.aload_n 0, 1) := by decide +kernel
theorem dL_law_1198 : decode cL_law 1198 = .ok (.iload_n 3, 1) := by decide +kernel
theorem dL_law_1199 : decode cL_law 1199 = .ok (.iconst 2, 1) := by decide +kernel
theorem dL_law_1200 : decode cL_law 1200 = .ok (.iadd, 1) := by decide +kernel
theorem dL_law_1201 : decode cL_law 1201 = .ok (.iaload, 1) := by decide +kernel
theorem dL_law_1202 : decode cL_law 1202 = .ok (.invokevirtual 118, 3) := by decide +kernel
theorem dL_law_1205 : decode cL_law 1205 = .ok (.pop, 1) := by decide +kernel
theorem dL_law_1206 : decode cL_law 1206 = .ok (.goto 1205, 3) := by decide +kernel
set_option maxHeartbeats 4000000 in
set_option maxRecDepth 100000 in
theorem lawc_24 {p : Program} {l : Launch} {e : Env} {s : State} {m : MethodId} {below : List Frame} {meth : Method} {c : Code} {b L : Nat} {xs : Nat → Int32} {D : va_G} {cy : Nat → ClassId} {g1 g2 : Nat → Nat} (X : LX p s m meth c b L xs D cy g1 g2) (hL : L ≤ 3072) {i : Int32} (hi : (0 : Int) ≤ i.toInt ∧ i.toInt + 6 ≤ (L : Int)) (hnext : (∀ (σ8 σ9 : ST) (H : Heap) (locs : List Loc) (ls : Array Slot), J8 σ8 → J9 (σ9 9) → DKA (σ9 9) → KP σ8 (σ9 9) → va_P D clz (WD8 cy g1 σ8) H → va_P D clz (WD9 cy g2 σ9) H → va_S (lawA s) s.heap H locs → lv_has ls 4 [(3, .int i), (2, .ref (g2 60)), (1, .ref (gO g1 17)), (0, .ref b)] → W p l e room_1 s m #[Value.ref b] below meth c H locs 200 700000 (lw_Z below #[Value.ref b] s) (F0 m 2411 ls []))) (σ8 σ9 : ST) (H : Heap) (locs : List Loc) (ls : Array Slot) (hJ8 : J8 σ8) (hJ9 : J9 (σ9 9)) (hDK : DKA (σ9 9)) (hR : KP σ8 (σ9 9)) (hP8 : va_P D clz (WD8 cy g1 σ8) H) (hP9 : va_P D clz (WD9 cy g2 σ9) H) (hS : va_S (lawA s) s.heap H locs) (hl : lv_has ls 4 [(3, .int i), (2, .ref (g2 60)), (1, .ref (gO g1 17)), (0, .ref b)]) : W p l e room_1 s m #[Value.ref b] below meth c H locs 200 700000 (lw_Z below #[Value.ref b] s) (F0 m 1176 ls []) := by
  obtain ⟨⟨hx, hb, hr, hml, hown0, hts0, hX, hbl, hlocks, hgv⟩, hK, hDD, hC8, hC9⟩ := X
  have hown : s.vm.findClass RL = some m.cls := hown0
  have hts : ∀ w ∈ lw_g, w.before #[Value.ref b] s = true := fun w h => hts0 w (lw_gt h)
  have hbA : ¬ lawA s b := Nat.not_le.mpr hbl
  have hA8 := A8_law hDD
  have hA9 := A9_law hDD
  have hD8 : ∀ τ : ST, va_D (A8 cy g1 s.heap.size) (WD8 cy g1 τ) := fun τ => by rw [hA8]; exact map_D WD8_m (D_l hDD)
  have hD9 : ∀ τ : ST, va_D (A9 cy g2 s.heap.size) (WD9 cy g2 τ) := fun τ => by rw [hA9]; exact map_D WD9_m (D_r hDD)
  rw [← hA8] at hC8
  rw [← hA9] at hC9
  refine lv_aload_n hx hb dL_law_1176 rfl (lv_at hl 2 rfl) ?_
  refine lv_aload_n hx hb dL_law_1177 rfl (lv_at hl 3 rfl) ?_
  refine lv_iload_n hx hb dL_law_1178 rfl (lv_at hl 0 rfl) ?_
  refine lv_iconst (v := 1) hx hb dL_law_1179 (by decide) ?_
  refine lv_iadd hx hb dL_law_1180 ?_
  refine lv_topi (fun x1 ex1 => ?_)
  have t2 := addO ex1 (by have f0 := hi; have f1 := hL; have z1 : (1 : Int32).toInt = 1 := (by decide); omega)
  refine va_sld hx hb hX hbl hbA hS (vpo (by have f0 := t2; have f1 := hi; have f2 := hL; have g0 := rg32 x1; have z1 : (1 : Int32).toInt = 1 := (by decide); omega)) dL_law_1181 ?_
  refine lv_topi (fun x3 ex3 => ?_)
  refine lv_aload_n hx hb dL_law_1182 rfl (lv_at hl 3 rfl) ?_
  refine lv_iload_n hx hb dL_law_1183 rfl (lv_at hl 0 rfl) ?_
  refine lv_iconst (v := 2) hx hb dL_law_1184 (by decide) ?_
  refine lv_iadd hx hb dL_law_1185 ?_
  refine lv_topi (fun x4 ex4 => ?_)
  have t5 := addO ex4 (by have f0 := hi; have f1 := hL; have f2 := t2; have z1 : (1 : Int32).toInt = 1 := (by decide); have z2 : (2 : Int32).toInt = 2 := (by decide); omega)
  refine va_sld hx hb hX hbl hbA hS (vpo (by have f0 := t5; have f1 := hi; have f2 := hL; have f3 := t2; have g0 := rg32 x4; have z1 : (1 : Int32).toInt = 1 := (by decide); have z2 : (2 : Int32).toInt = 2 := (by decide); omega)) dL_law_1186 ?_
  refine lv_topi (fun x6 ex6 => ?_)
  have hSx : va_S (A8 cy g1 s.heap.size) s.heap H locs := by rw [hA8]; exact hS
  refine va_calli (va_runV (As := [.int x3, .int x6]) (rest := []) ⟨hx, hb, hml, hown, hts⟩ (m_X8_moved l D cy g1 σ8 x3 x6 _ hJ8) (cwV 2 hts (gd_V q1062 q1063 q1064 q125 q1065) rfl rfl rfl (by decide +kernel) ⟨Nat.le_of_ble_eq_true rfl, Nat.le_of_ble_eq_true rfl⟩) (pv8 hP8 hK hD8 hC8 hSx (rv8_8 hK hP8)) rfl rfl hl.1 rfl (lv_room (Nat.le_of_ble_eq_true rfl)) dL_law_1187 ⟨Nat.le_of_ble_eq_true rfl, Nat.le_of_ble_eq_true rfl⟩) hSx (fun q _ h => up8 hSx q h) (up8 hSx) (fun r7 υ8 tS H1 locs ht hvm hw9 hB hz1 hk1 hSy => ?_)
  have hP8 : va_P D clz (WD8 cy g1 υ8) H1 := by rw [← ht]; exact hB
  have hP9 := kp9 hDD hP9 hk1
  have hS : va_S (lawA s) s.heap H1 locs := by rw [← hA8]; exact hSy
  clear hB hz1 hk1 hvm ht hSx hSy
  generalize H1 = H at hP8 hP9 hS ⊢
  have hJ10 : J8 υ8 := hw9.2.1
  have hR11 : KP υ8 (σ9 9) := KP.fr8 hR (show Fr (fO [11, 13]) σ8 υ8 from hw9.1) (by decide)
  refine lv_pop hx hb dL_law_1190 rfl ?_
  refine lv_aload_n hx hb dL_law_1191 rfl (lv_at hl 1 rfl) ?_
  refine lv_aload_n hx hb dL_law_1192 rfl (lv_at hl 3 rfl) ?_
  refine lv_iload_n hx hb dL_law_1193 rfl (lv_at hl 0 rfl) ?_
  refine lv_iconst (v := 1) hx hb dL_law_1194 (by decide) ?_
  refine lv_iadd hx hb dL_law_1195 ?_
  refine lv_topi (fun x12 ex12 => ?_)
  have t13 := addO ex12 (by have f0 := hi; have f1 := hL; have f2 := t2; have f3 := t5; have z1 : (1 : Int32).toInt = 1 := (by decide); have z2 : (2 : Int32).toInt = 2 := (by decide); omega)
  refine va_sld hx hb hX hbl hbA hS (vpo (by have f0 := t13; have f1 := hi; have f2 := hL; have f3 := t2; have f4 := t5; have g0 := rg32 x12; have z1 : (1 : Int32).toInt = 1 := (by decide); have z2 : (2 : Int32).toInt = 2 := (by decide); omega)) dL_law_1196 ?_
  refine lv_topi (fun x14 ex14 => ?_)
  refine lv_aload_n hx hb dL_law_1197 rfl (lv_at hl 3 rfl) ?_
  refine lv_iload_n hx hb dL_law_1198 rfl (lv_at hl 0 rfl) ?_
  refine lv_iconst (v := 2) hx hb dL_law_1199 (by decide) ?_
  refine lv_iadd hx hb dL_law_1200 ?_
  refine lv_topi (fun x15 ex15 => ?_)
  have t16 := addO ex15 (by have f0 := hi; have f1 := hL; have f2 := t2; have f3 := t5; have f4 := t13; have z1 : (1 : Int32).toInt = 1 := (by decide); have z2 : (2 : Int32).toInt = 2 := (by decide); omega)
  refine va_sld hx hb hX hbl hbA hS (vpo (by have f0 := t16; have f1 := hi; have f2 := hL; have f3 := t2; have f4 := t5; have f5 := t13; have g0 := rg32 x15; have z1 : (1 : Int32).toInt = 1 := (by decide); have z2 : (2 : Int32).toInt = 2 := (by decide); omega)) dL_law_1201 ?_
  refine lv_topi (fun x17 ex17 => ?_)
  have hSx : va_S (A9 cy g2 s.heap.size) s.heap H locs := by rw [hA9]; exact hS
  refine va_calli (va_runV (As := [.int x14, .int x17]) (rest := []) ⟨hx, hb, hml, hown, hts⟩ (m_X9_moved l D cy g2 σ9 x14 x17 _ hJ9 (DKA.zero hDK)) (cwV 2 hts (gd_V q1912 q1913 q1914 q134 q1915) rfl rfl rfl (by decide +kernel) ⟨Nat.le_of_ble_eq_true rfl, Nat.le_of_ble_eq_true rfl⟩) (pv9 hP9 hK hD9 hC9 hSx (va_recv hK hP9 (ci := 9) (q0 := 0) rfl rfl)) rfl rfl hl.1 rfl (lv_room (Nat.le_of_ble_eq_true rfl)) dL_law_1202 ⟨Nat.le_of_ble_eq_true rfl, Nat.le_of_ble_eq_true rfl⟩) hSx (fun q _ h => up9 hSx q h) (up9 hSx) (fun r18 υ19 tS H1 locs ht hvm hw20 hB hz1 hk1 hSy => ?_)
  have hP9 : va_P D clz (WD9 cy g2 υ19) H1 := by rw [← ht]; exact hB
  have hP8 := kp8 hDD hP8 hk1
  have hS : va_S (lawA s) s.heap H1 locs := by rw [← hA9]; exact hSy
  clear hB hz1 hk1 hvm ht hSx hSy
  generalize H1 = H at hP8 hP9 hS ⊢
  have hF21 : Fr (fL [0, 23, 24, 25, 26, 27, 28, 29, 30, 31, 32, 33, 34, 43, 44, 45, 46, 47, 48]) σ9 υ19 := hw20.1
  have hJ22 : J9 (υ19 9) := hw20.2.1
  have hK23 : DKA (υ19 9) := DKA.mv hDK (hF21 9 17 rfl).2.2.1 (hF21 9 18 rfl).2.2.1 (hF21 9 19 rfl).2.2.1
  have hR24 : KP υ8 (υ19 9) := KP.fr9 hR11 (hF21 9 22 rfl).2.2.1
  refine lv_pop hx hb dL_law_1205 rfl ?_
  refine lv_goto (tgt := 2411) hx hb dL_law_1206 (by decide) ?_
  exact hnext _ _ _ _ _ hJ10 hJ22 hK23 hR24 hP8 hP9 hS hl

theorem q1082 : Cond.methodLink RL 119 yX8_put ∈ lw_g := lw_gm (List.mem_of_getElem? (i := 1082) (by decide +kernel)) rfl
theorem q1083 : Cond.instanceMethod yX8_put ∈ lw_g := lw_gm (List.mem_of_getElem? (i := 1083) (by decide +kernel)) rfl
theorem q1084 : Cond.selects RX8 yX8_put yX8_put ∈ lw_g := lw_gm (List.mem_of_getElem? (i := 1084) (by decide +kernel)) rfl
theorem q1936 : Cond.methodLink RL 122 yX9_put ∈ lw_g := lw_gm (List.mem_of_getElem? (i := 1936) (by decide +kernel)) rfl
theorem q1937 : Cond.instanceMethod yX9_put ∈ lw_g := lw_gm (List.mem_of_getElem? (i := 1937) (by decide +kernel)) rfl
theorem q1938 : Cond.selects RX9 yX9_put yX9_put ∈ lw_g := lw_gm (List.mem_of_getElem? (i := 1938) (by decide +kernel)) rfl
theorem dL_law_1209 : decode cL_law 1209 = .ok (.aload_n 1, 1) := by decide +kernel
theorem dL_law_1210 : decode cL_law 1210 = .ok (.aload_n 0, 1) := by decide +kernel
theorem dL_law_1211 : decode cL_law 1211 = .ok (.iload_n 3, 1) := by decide +kernel
theorem dL_law_1212 : decode cL_law 1212 = .ok (.iconst 1, 1) := by decide +kernel
theorem dL_law_1213 : decode cL_law 1213 = .ok (.iadd, 1) := by decide +kernel
theorem dL_law_1214 : decode cL_law 1214 = .ok (.iaload, 1) := by decide +kernel
theorem dL_law_1215 : decode cL_law 1215 = .ok (.aload_n 0, 1) := by decide +kernel
theorem dL_law_1216 : decode cL_law 1216 = .ok (.iload_n 3, 1) := by decide +kernel
theorem dL_law_1217 : decode cL_law 1217 = .ok (.iconst 2, 1) := by decide +kernel
theorem dL_law_1218 : decode cL_law 1218 = .ok (.iadd, 1) := by decide +kernel
theorem dL_law_1219 : decode cL_law 1219 = .ok (.iaload, 1) := by decide +kernel
theorem dL_law_1220 : decode cL_law 1220 = .ok (.aload_n 0, 1) := by decide +kernel
theorem dL_law_1221 : decode cL_law 1221 = .ok (.iload_n 3, 1) := by decide +kernel
theorem dL_law_1222 : decode cL_law 1222 = .ok (.iconst 3, 1) := by decide +kernel
theorem dL_law_1223 : decode cL_law 1223 = .ok (.iadd, 1) := by decide +kernel
theorem dL_law_1224 : decode cL_law 1224 = .ok (.iaload, 1) := by decide +kernel
theorem dL_law_1225 : decode cL_law 1225 = .ok (.invokevirtual 119, 3) := by decide +kernel
theorem dL_law_1228 : decode cL_law 1228 = .ok (.pop, 1) := by decide +kernel
theorem dL_law_1229 : decode cL_law 1229 = .ok (.aload_n 2, 1) := by decide +kernel
theorem dL_law_1230 : decode cL_law 1230 = .ok (.aload_n 0, 1) := by decide +kernel
theorem dL_law_1231 : decode cL_law 1231 = .ok (.iload_n 3, 1) := by decide +kernel
theorem dL_law_1232 : decode cL_law 1232 = .ok (.iconst 1, 1) := by decide +kernel
theorem dL_law_1233 : decode cL_law 1233 = .ok (.iadd, 1) := by decide +kernel
theorem dL_law_1234 : decode cL_law 1234 = .ok (.iaload, 1) := by decide +kernel
theorem dL_law_1235 : decode cL_law 1235 = .ok (.aload_n 0, 1) := by decide +kernel
theorem dL_law_1236 : decode cL_law 1236 = .ok (.iload_n 3, 1) := by decide +kernel
theorem dL_law_1237 : decode cL_law 1237 = .ok (.iconst 2, 1) := by decide +kernel
theorem dL_law_1238 : decode cL_law 1238 = .ok (.iadd, 1) := by decide +kernel
theorem dL_law_1239 : decode cL_law 1239 = .ok (.iaload, 1) := by decide +kernel
theorem dL_law_1240 : decode cL_law 1240 = .ok (.aload_n 0, 1) := by decide +kernel
theorem dL_law_1241 : decode cL_law 1241 = .ok (.iload_n 3, 1) := by decide +kernel
theorem dL_law_1242 : decode cL_law 1242 = .ok (.iconst 3, 1) := by decide +kernel
theorem dL_law_1243 : decode cL_law 1243 = .ok (.iadd, 1) := by decide +kernel
theorem dL_law_1244 : decode cL_law 1244 = .ok (.iaload, 1) := by decide +kernel
theorem dL_law_1245 : decode cL_law 1245 = .ok (.invokevirtual 122, 3) := by decide +kernel
theorem dL_law_1248 : decode cL_law 1248 = .ok (.pop, 1) := by decide +kernel
theorem dL_law_1249 : decode cL_law 1249 = .ok (.goto 1162, 3) := by decide +kernel
set_option maxHeartbeats 4000000 in
set_option maxRecDepth 100000 in
theorem lawc_25 {p : Program} {l : Launch} {e : Env} {s : State} {m : MethodId} {below : List Frame} {meth : Method} {c : Code} {b L : Nat} {xs : Nat → Int32} {D : va_G} {cy : Nat → ClassId} {g1 g2 : Nat → Nat} (X : LX p s m meth c b L xs D cy g1 g2) (hL : L ≤ 3072) {i : Int32} (hi : (0 : Int) ≤ i.toInt ∧ i.toInt + 6 ≤ (L : Int)) (hnext : (∀ (σ8 σ9 : ST) (H : Heap) (locs : List Loc) (ls : Array Slot), J8 σ8 → J9 (σ9 9) → DKA (σ9 9) → KP σ8 (σ9 9) → va_P D clz (WD8 cy g1 σ8) H → va_P D clz (WD9 cy g2 σ9) H → va_S (lawA s) s.heap H locs → lv_has ls 4 [(3, .int i), (2, .ref (g2 60)), (1, .ref (gO g1 17)), (0, .ref b)] → W p l e room_1 s m #[Value.ref b] below meth c H locs 200 700000 (lw_Z below #[Value.ref b] s) (F0 m 2411 ls []))) (σ8 σ9 : ST) (H : Heap) (locs : List Loc) (ls : Array Slot) (hJ8 : J8 σ8) (hJ9 : J9 (σ9 9)) (hDK : DKA (σ9 9)) (hR : KP σ8 (σ9 9)) (hP8 : va_P D clz (WD8 cy g1 σ8) H) (hP9 : va_P D clz (WD9 cy g2 σ9) H) (hS : va_S (lawA s) s.heap H locs) (hl : lv_has ls 4 [(3, .int i), (2, .ref (g2 60)), (1, .ref (gO g1 17)), (0, .ref b)]) : W p l e room_1 s m #[Value.ref b] below meth c H locs 200 700000 (lw_Z below #[Value.ref b] s) (F0 m 1209 ls []) := by
  obtain ⟨⟨hx, hb, hr, hml, hown0, hts0, hX, hbl, hlocks, hgv⟩, hK, hDD, hC8, hC9⟩ := X
  have hown : s.vm.findClass RL = some m.cls := hown0
  have hts : ∀ w ∈ lw_g, w.before #[Value.ref b] s = true := fun w h => hts0 w (lw_gt h)
  have hbA : ¬ lawA s b := Nat.not_le.mpr hbl
  have hA8 := A8_law hDD
  have hA9 := A9_law hDD
  have hD8 : ∀ τ : ST, va_D (A8 cy g1 s.heap.size) (WD8 cy g1 τ) := fun τ => by rw [hA8]; exact map_D WD8_m (D_l hDD)
  have hD9 : ∀ τ : ST, va_D (A9 cy g2 s.heap.size) (WD9 cy g2 τ) := fun τ => by rw [hA9]; exact map_D WD9_m (D_r hDD)
  rw [← hA8] at hC8
  rw [← hA9] at hC9
  refine lv_aload_n hx hb dL_law_1209 rfl (lv_at hl 2 rfl) ?_
  refine lv_aload_n hx hb dL_law_1210 rfl (lv_at hl 3 rfl) ?_
  refine lv_iload_n hx hb dL_law_1211 rfl (lv_at hl 0 rfl) ?_
  refine lv_iconst (v := 1) hx hb dL_law_1212 (by decide) ?_
  refine lv_iadd hx hb dL_law_1213 ?_
  refine lv_topi (fun x1 ex1 => ?_)
  have t2 := addO ex1 (by have f0 := hi; have f1 := hL; have z1 : (1 : Int32).toInt = 1 := (by decide); omega)
  refine va_sld hx hb hX hbl hbA hS (vpo (by have f0 := t2; have f1 := hi; have f2 := hL; have g0 := rg32 x1; have z1 : (1 : Int32).toInt = 1 := (by decide); omega)) dL_law_1214 ?_
  refine lv_topi (fun x3 ex3 => ?_)
  refine lv_aload_n hx hb dL_law_1215 rfl (lv_at hl 3 rfl) ?_
  refine lv_iload_n hx hb dL_law_1216 rfl (lv_at hl 0 rfl) ?_
  refine lv_iconst (v := 2) hx hb dL_law_1217 (by decide) ?_
  refine lv_iadd hx hb dL_law_1218 ?_
  refine lv_topi (fun x4 ex4 => ?_)
  have t5 := addO ex4 (by have f0 := hi; have f1 := hL; have f2 := t2; have z1 : (1 : Int32).toInt = 1 := (by decide); have z2 : (2 : Int32).toInt = 2 := (by decide); omega)
  refine va_sld hx hb hX hbl hbA hS (vpo (by have f0 := t5; have f1 := hi; have f2 := hL; have f3 := t2; have g0 := rg32 x4; have z1 : (1 : Int32).toInt = 1 := (by decide); have z2 : (2 : Int32).toInt = 2 := (by decide); omega)) dL_law_1219 ?_
  refine lv_topi (fun x6 ex6 => ?_)
  refine lv_aload_n hx hb dL_law_1220 rfl (lv_at hl 3 rfl) ?_
  refine lv_iload_n hx hb dL_law_1221 rfl (lv_at hl 0 rfl) ?_
  refine lv_iconst (v := 3) hx hb dL_law_1222 (by decide) ?_
  refine lv_iadd hx hb dL_law_1223 ?_
  refine lv_topi (fun x7 ex7 => ?_)
  have t8 := addO ex7 (by have f0 := hi; have f1 := hL; have f2 := t2; have f3 := t5; have z1 : (1 : Int32).toInt = 1 := (by decide); have z2 : (2 : Int32).toInt = 2 := (by decide); have z3 : (3 : Int32).toInt = 3 := (by decide); omega)
  refine va_sld hx hb hX hbl hbA hS (vpo (by have f0 := t8; have f1 := hi; have f2 := hL; have f3 := t2; have f4 := t5; have g0 := rg32 x7; have z1 : (1 : Int32).toInt = 1 := (by decide); have z2 : (2 : Int32).toInt = 2 := (by decide); have z3 : (3 : Int32).toInt = 3 := (by decide); omega)) dL_law_1224 ?_
  refine lv_topi (fun x9 ex9 => ?_)
  have hSx : va_S (A8 cy g1 s.heap.size) s.heap H locs := by rw [hA8]; exact hS
  refine va_calli (va_runV (As := [.int x3, .int x6, .int x9]) (rest := []) ⟨hx, hb, hml, hown, hts⟩ (m_X8_put l D cy g1 σ8 x3 x6 x9 _ hJ8) (cwV 3 hts (gd_V q1082 q1083 q1084 q125 q1085) rfl rfl rfl (by decide +kernel) ⟨Nat.le_of_ble_eq_true rfl, Nat.le_of_ble_eq_true rfl⟩) (pv8 hP8 hK hD8 hC8 hSx (rv8_8 hK hP8)) rfl rfl hl.1 rfl (lv_room (Nat.le_of_ble_eq_true rfl)) dL_law_1225 ⟨Nat.le_of_ble_eq_true rfl, Nat.le_of_ble_eq_true rfl⟩) hSx (fun q _ h => up8 hSx q h) (up8 hSx) (fun r10 υ11 tS H1 locs ht hvm hw12 hB hz1 hk1 hSy => ?_)
  have hP8 : va_P D clz (WD8 cy g1 υ11) H1 := by rw [← ht]; exact hB
  have hP9 := kp9 hDD hP9 hk1
  have hS : va_S (lawA s) s.heap H1 locs := by rw [← hA8]; exact hSy
  clear hB hz1 hk1 hvm ht hSx hSy
  generalize H1 = H at hP8 hP9 hS ⊢
  have hJ13 : J8 υ11 := hw12.2.1
  have hR14 : KP υ11 (σ9 9) := KP.fr8 hR (show Fr (fO [11, 13]) σ8 υ11 from hw12.1) (by decide)
  refine lv_pop hx hb dL_law_1228 rfl ?_
  refine lv_aload_n hx hb dL_law_1229 rfl (lv_at hl 1 rfl) ?_
  refine lv_aload_n hx hb dL_law_1230 rfl (lv_at hl 3 rfl) ?_
  refine lv_iload_n hx hb dL_law_1231 rfl (lv_at hl 0 rfl) ?_
  refine lv_iconst (v := 1) hx hb dL_law_1232 (by decide) ?_
  refine lv_iadd hx hb dL_law_1233 ?_
  refine lv_topi (fun x15 ex15 => ?_)
  have t16 := addO ex15 (by have f0 := hi; have f1 := hL; have f2 := t2; have f3 := t5; have f4 := t8; have z1 : (1 : Int32).toInt = 1 := (by decide); have z2 : (2 : Int32).toInt = 2 := (by decide); have z3 : (3 : Int32).toInt = 3 := (by decide); omega)
  refine va_sld hx hb hX hbl hbA hS (vpo (by have f0 := t16; have f1 := hi; have f2 := hL; have f3 := t2; have f4 := t5; have f5 := t8; have g0 := rg32 x15; have z1 : (1 : Int32).toInt = 1 := (by decide); have z2 : (2 : Int32).toInt = 2 := (by decide); have z3 : (3 : Int32).toInt = 3 := (by decide); omega)) dL_law_1234 ?_
  refine lv_topi (fun x17 ex17 => ?_)
  refine lv_aload_n hx hb dL_law_1235 rfl (lv_at hl 3 rfl) ?_
  refine lv_iload_n hx hb dL_law_1236 rfl (lv_at hl 0 rfl) ?_
  refine lv_iconst (v := 2) hx hb dL_law_1237 (by decide) ?_
  refine lv_iadd hx hb dL_law_1238 ?_
  refine lv_topi (fun x18 ex18 => ?_)
  have t19 := addO ex18 (by have f0 := hi; have f1 := hL; have f2 := t2; have f3 := t5; have f4 := t8; have f5 := t16; have z1 : (1 : Int32).toInt = 1 := (by decide); have z2 : (2 : Int32).toInt = 2 := (by decide); have z3 : (3 : Int32).toInt = 3 := (by decide); omega)
  refine va_sld hx hb hX hbl hbA hS (vpo (by have f0 := t19; have f1 := hi; have f2 := hL; have f3 := t2; have f4 := t5; have f5 := t8; have f6 := t16; have g0 := rg32 x18; have z1 : (1 : Int32).toInt = 1 := (by decide); have z2 : (2 : Int32).toInt = 2 := (by decide); have z3 : (3 : Int32).toInt = 3 := (by decide); omega)) dL_law_1239 ?_
  refine lv_topi (fun x20 ex20 => ?_)
  refine lv_aload_n hx hb dL_law_1240 rfl (lv_at hl 3 rfl) ?_
  refine lv_iload_n hx hb dL_law_1241 rfl (lv_at hl 0 rfl) ?_
  refine lv_iconst (v := 3) hx hb dL_law_1242 (by decide) ?_
  refine lv_iadd hx hb dL_law_1243 ?_
  refine lv_topi (fun x21 ex21 => ?_)
  have t22 := addO ex21 (by have f0 := hi; have f1 := hL; have f2 := t2; have f3 := t5; have f4 := t8; have f5 := t16; have f6 := t19; have z1 : (1 : Int32).toInt = 1 := (by decide); have z2 : (2 : Int32).toInt = 2 := (by decide); have z3 : (3 : Int32).toInt = 3 := (by decide); omega)
  refine va_sld hx hb hX hbl hbA hS (vpo (by have f0 := t22; have f1 := hi; have f2 := hL; have f3 := t2; have f4 := t5; have f5 := t8; have f6 := t16; have f7 := t19; have g0 := rg32 x21; have z1 : (1 : Int32).toInt = 1 := (by decide); have z2 : (2 : Int32).toInt = 2 := (by decide); have z3 : (3 : Int32).toInt = 3 := (by decide); omega)) dL_law_1244 ?_
  refine lv_topi (fun x23 ex23 => ?_)
  have hSx : va_S (A9 cy g2 s.heap.size) s.heap H locs := by rw [hA9]; exact hS
  refine va_calli (va_runV (As := [.int x17, .int x20, .int x23]) (rest := []) ⟨hx, hb, hml, hown, hts⟩ (m_X9_put l D cy g2 σ9 x17 x20 x23 _ hJ9 (DKA.zero hDK)) (cwV 3 hts (gd_V q1936 q1937 q1938 q134 q1939) rfl rfl rfl (by decide +kernel) ⟨Nat.le_of_ble_eq_true rfl, Nat.le_of_ble_eq_true rfl⟩) (pv9 hP9 hK hD9 hC9 hSx (va_recv hK hP9 (ci := 9) (q0 := 0) rfl rfl)) rfl rfl hl.1 rfl (lv_room (Nat.le_of_ble_eq_true rfl)) dL_law_1245 ⟨Nat.le_of_ble_eq_true rfl, Nat.le_of_ble_eq_true rfl⟩) hSx (fun q _ h => up9 hSx q h) (up9 hSx) (fun r24 υ25 tS H1 locs ht hvm hw26 hB hz1 hk1 hSy => ?_)
  have hP9 : va_P D clz (WD9 cy g2 υ25) H1 := by rw [← ht]; exact hB
  have hP8 := kp8 hDD hP8 hk1
  have hS : va_S (lawA s) s.heap H1 locs := by rw [← hA9]; exact hSy
  clear hB hz1 hk1 hvm ht hSx hSy
  generalize H1 = H at hP8 hP9 hS ⊢
  have hF27 : Fr (fL [0, 23, 24, 25, 26, 27, 28, 29, 30, 31, 32, 33, 34, 43, 44, 45, 46, 47, 48]) σ9 υ25 := hw26.1
  have hJ28 : J9 (υ25 9) := hw26.2.1
  have hK29 : DKA (υ25 9) := DKA.mv hDK (hF27 9 17 rfl).2.2.1 (hF27 9 18 rfl).2.2.1 (hF27 9 19 rfl).2.2.1
  have hR30 : KP υ11 (υ25 9) := KP.fr9 hR14 (hF27 9 22 rfl).2.2.1
  refine lv_pop hx hb dL_law_1248 rfl ?_
  refine lv_goto (tgt := 2411) hx hb dL_law_1249 (by decide) ?_
  exact hnext _ _ _ _ _ hJ13 hJ28 hK29 hR30 hP8 hP9 hS hl

theorem q1090 : Cond.methodLink RL 123 yX8_shift ∈ lw_g := lw_gm (List.mem_of_getElem? (i := 1090) (by decide +kernel)) rfl
theorem q1091 : Cond.instanceMethod yX8_shift ∈ lw_g := lw_gm (List.mem_of_getElem? (i := 1091) (by decide +kernel)) rfl
theorem q1092 : Cond.selects RX8 yX8_shift yX8_shift ∈ lw_g := lw_gm (List.mem_of_getElem? (i := 1092) (by decide +kernel)) rfl
theorem q1940 : Cond.methodLink RL 126 yX9_shift ∈ lw_g := lw_gm (List.mem_of_getElem? (i := 1940) (by decide +kernel)) rfl
theorem q1941 : Cond.instanceMethod yX9_shift ∈ lw_g := lw_gm (List.mem_of_getElem? (i := 1941) (by decide +kernel)) rfl
theorem q1942 : Cond.selects RX9 yX9_shift yX9_shift ∈ lw_g := lw_gm (List.mem_of_getElem? (i := 1942) (by decide +kernel)) rfl
theorem dL_law_1252 : decode cL_law 1252 = .ok (.aload_n 1, 1) := by decide +kernel
theorem dL_law_1253 : decode cL_law 1253 = .ok (.aload_n 0, 1) := by decide +kernel
theorem dL_law_1254 : decode cL_law 1254 = .ok (.iload_n 3, 1) := by decide +kernel
theorem dL_law_1255 : decode cL_law 1255 = .ok (.iconst 1, 1) := by decide +kernel
theorem dL_law_1256 : decode cL_law 1256 = .ok (.iadd, 1) := by decide +kernel
theorem dL_law_1257 : decode cL_law 1257 = .ok (.iaload, 1) := by decide +kernel
theorem dL_law_1258 : decode cL_law 1258 = .ok (.aload_n 0, 1) := by decide +kernel
theorem dL_law_1259 : decode cL_law 1259 = .ok (.iload_n 3, 1) := by decide +kernel
theorem dL_law_1260 : decode cL_law 1260 = .ok (.iconst 2, 1) := by decide +kernel
theorem dL_law_1261 : decode cL_law 1261 = .ok (.iadd, 1) := by decide +kernel
theorem dL_law_1262 : decode cL_law 1262 = .ok (.iaload, 1) := by decide +kernel
theorem dL_law_1263 : decode cL_law 1263 = .ok (.invokevirtual 123, 3) := by decide +kernel
theorem dL_law_1266 : decode cL_law 1266 = .ok (.pop, 1) := by decide +kernel
theorem dL_law_1267 : decode cL_law 1267 = .ok (.aload_n 2, 1) := by decide +kernel
theorem dL_law_1268 : decode cL_law 1268 = .ok (.aload_n 0, 1) := by decide +kernel
theorem dL_law_1269 : decode cL_law 1269 = .ok (.iload_n 3, 1) := by decide +kernel
theorem dL_law_1270 : decode cL_law 1270 = .ok (.iconst 1, 1) := by decide +kernel
theorem dL_law_1271 : decode cL_law 1271 = .ok (.iadd, 1) := by decide +kernel
theorem dL_law_1272 : decode cL_law 1272 = .ok (.iaload, 1) := by decide +kernel
theorem dL_law_1273 : decode cL_law 1273 = .ok (.aload_n 0, 1) := by decide +kernel
theorem dL_law_1274 : decode cL_law 1274 = .ok (.iload_n 3, 1) := by decide +kernel
theorem dL_law_1275 : decode cL_law 1275 = .ok (.iconst 2, 1) := by decide +kernel
theorem dL_law_1276 : decode cL_law 1276 = .ok (.iadd, 1) := by decide +kernel
theorem dL_law_1277 : decode cL_law 1277 = .ok (.iaload, 1) := by decide +kernel
theorem dL_law_1278 : decode cL_law 1278 = .ok (.invokevirtual 126, 3) := by decide +kernel
theorem dL_law_1281 : decode cL_law 1281 = .ok (.pop, 1) := by decide +kernel
theorem dL_law_1282 : decode cL_law 1282 = .ok (.goto 1129, 3) := by decide +kernel
set_option maxHeartbeats 4000000 in
set_option maxRecDepth 100000 in
theorem lawc_26 {p : Program} {l : Launch} {e : Env} {s : State} {m : MethodId} {below : List Frame} {meth : Method} {c : Code} {b L : Nat} {xs : Nat → Int32} {D : va_G} {cy : Nat → ClassId} {g1 g2 : Nat → Nat} (X : LX p s m meth c b L xs D cy g1 g2) (hL : L ≤ 3072) {i : Int32} (hi : (0 : Int) ≤ i.toInt ∧ i.toInt + 6 ≤ (L : Int)) (hnext : (∀ (σ8 σ9 : ST) (H : Heap) (locs : List Loc) (ls : Array Slot), J8 σ8 → J9 (σ9 9) → DKA (σ9 9) → KP σ8 (σ9 9) → va_P D clz (WD8 cy g1 σ8) H → va_P D clz (WD9 cy g2 σ9) H → va_S (lawA s) s.heap H locs → lv_has ls 4 [(3, .int i), (2, .ref (g2 60)), (1, .ref (gO g1 17)), (0, .ref b)] → W p l e room_1 s m #[Value.ref b] below meth c H locs 200 700000 (lw_Z below #[Value.ref b] s) (F0 m 2411 ls []))) (σ8 σ9 : ST) (H : Heap) (locs : List Loc) (ls : Array Slot) (hJ8 : J8 σ8) (hJ9 : J9 (σ9 9)) (hDK : DKA (σ9 9)) (hR : KP σ8 (σ9 9)) (hP8 : va_P D clz (WD8 cy g1 σ8) H) (hP9 : va_P D clz (WD9 cy g2 σ9) H) (hS : va_S (lawA s) s.heap H locs) (hl : lv_has ls 4 [(3, .int i), (2, .ref (g2 60)), (1, .ref (gO g1 17)), (0, .ref b)]) : W p l e room_1 s m #[Value.ref b] below meth c H locs 200 700000 (lw_Z below #[Value.ref b] s) (F0 m 1252 ls []) := by
  obtain ⟨⟨hx, hb, hr, hml, hown0, hts0, hX, hbl, hlocks, hgv⟩, hK, hDD, hC8, hC9⟩ := X
  have hown : s.vm.findClass RL = some m.cls := hown0
  have hts : ∀ w ∈ lw_g, w.before #[Value.ref b] s = true := fun w h => hts0 w (lw_gt h)
  have hbA : ¬ lawA s b := Nat.not_le.mpr hbl
  have hA8 := A8_law hDD
  have hA9 := A9_law hDD
  have hD8 : ∀ τ : ST, va_D (A8 cy g1 s.heap.size) (WD8 cy g1 τ) := fun τ => by rw [hA8]; exact map_D WD8_m (D_l hDD)
  have hD9 : ∀ τ : ST, va_D (A9 cy g2 s.heap.size) (WD9 cy g2 τ) := fun τ => by rw [hA9]; exact map_D WD9_m (D_r hDD)
  rw [← hA8] at hC8
  rw [← hA9] at hC9
  refine lv_aload_n hx hb dL_law_1252 rfl (lv_at hl 2 rfl) ?_
  refine lv_aload_n hx hb dL_law_1253 rfl (lv_at hl 3 rfl) ?_
  refine lv_iload_n hx hb dL_law_1254 rfl (lv_at hl 0 rfl) ?_
  refine lv_iconst (v := 1) hx hb dL_law_1255 (by decide) ?_
  refine lv_iadd hx hb dL_law_1256 ?_
  refine lv_topi (fun x1 ex1 => ?_)
  have t2 := addO ex1 (by have f0 := hi; have f1 := hL; have z1 : (1 : Int32).toInt = 1 := (by decide); omega)
  refine va_sld hx hb hX hbl hbA hS (vpo (by have f0 := t2; have f1 := hi; have f2 := hL; have g0 := rg32 x1; have z1 : (1 : Int32).toInt = 1 := (by decide); omega)) dL_law_1257 ?_
  refine lv_topi (fun x3 ex3 => ?_)
  refine lv_aload_n hx hb dL_law_1258 rfl (lv_at hl 3 rfl) ?_
  refine lv_iload_n hx hb dL_law_1259 rfl (lv_at hl 0 rfl) ?_
  refine lv_iconst (v := 2) hx hb dL_law_1260 (by decide) ?_
  refine lv_iadd hx hb dL_law_1261 ?_
  refine lv_topi (fun x4 ex4 => ?_)
  have t5 := addO ex4 (by have f0 := hi; have f1 := hL; have f2 := t2; have z1 : (1 : Int32).toInt = 1 := (by decide); have z2 : (2 : Int32).toInt = 2 := (by decide); omega)
  refine va_sld hx hb hX hbl hbA hS (vpo (by have f0 := t5; have f1 := hi; have f2 := hL; have f3 := t2; have g0 := rg32 x4; have z1 : (1 : Int32).toInt = 1 := (by decide); have z2 : (2 : Int32).toInt = 2 := (by decide); omega)) dL_law_1262 ?_
  refine lv_topi (fun x6 ex6 => ?_)
  have hSx : va_S (A8 cy g1 s.heap.size) s.heap H locs := by rw [hA8]; exact hS
  refine va_calli (va_runV (As := [.int x3, .int x6]) (rest := []) ⟨hx, hb, hml, hown, hts⟩ (m_X8_shift l D cy g1 σ8 x3 x6 _ hJ8) (cwV 2 hts (gd_V q1090 q1091 q1092 q125 q1093) rfl rfl rfl (by decide +kernel) ⟨Nat.le_of_ble_eq_true rfl, Nat.le_of_ble_eq_true rfl⟩) (pv8 hP8 hK hD8 hC8 hSx (rv8_8 hK hP8)) rfl rfl hl.1 rfl (lv_room (Nat.le_of_ble_eq_true rfl)) dL_law_1263 ⟨Nat.le_of_ble_eq_true rfl, Nat.le_of_ble_eq_true rfl⟩) hSx (fun q _ h => up8 hSx q h) (up8 hSx) (fun r7 υ8 tS H1 locs ht hvm hw9 hB hz1 hk1 hSy => ?_)
  have hP8 : va_P D clz (WD8 cy g1 υ8) H1 := by rw [← ht]; exact hB
  have hP9 := kp9 hDD hP9 hk1
  have hS : va_S (lawA s) s.heap H1 locs := by rw [← hA8]; exact hSy
  clear hB hz1 hk1 hvm ht hSx hSy
  generalize H1 = H at hP8 hP9 hS ⊢
  have hJ10 : J8 υ8 := hw9.2.1
  have hR11 : KP υ8 (σ9 9) := KP.fr8 hR (show Fr (fO [11, 13]) σ8 υ8 from hw9.1) (by decide)
  refine lv_pop hx hb dL_law_1266 rfl ?_
  refine lv_aload_n hx hb dL_law_1267 rfl (lv_at hl 1 rfl) ?_
  refine lv_aload_n hx hb dL_law_1268 rfl (lv_at hl 3 rfl) ?_
  refine lv_iload_n hx hb dL_law_1269 rfl (lv_at hl 0 rfl) ?_
  refine lv_iconst (v := 1) hx hb dL_law_1270 (by decide) ?_
  refine lv_iadd hx hb dL_law_1271 ?_
  refine lv_topi (fun x12 ex12 => ?_)
  have t13 := addO ex12 (by have f0 := hi; have f1 := hL; have f2 := t2; have f3 := t5; have z1 : (1 : Int32).toInt = 1 := (by decide); have z2 : (2 : Int32).toInt = 2 := (by decide); omega)
  refine va_sld hx hb hX hbl hbA hS (vpo (by have f0 := t13; have f1 := hi; have f2 := hL; have f3 := t2; have f4 := t5; have g0 := rg32 x12; have z1 : (1 : Int32).toInt = 1 := (by decide); have z2 : (2 : Int32).toInt = 2 := (by decide); omega)) dL_law_1272 ?_
  refine lv_topi (fun x14 ex14 => ?_)
  refine lv_aload_n hx hb dL_law_1273 rfl (lv_at hl 3 rfl) ?_
  refine lv_iload_n hx hb dL_law_1274 rfl (lv_at hl 0 rfl) ?_
  refine lv_iconst (v := 2) hx hb dL_law_1275 (by decide) ?_
  refine lv_iadd hx hb dL_law_1276 ?_
  refine lv_topi (fun x15 ex15 => ?_)
  have t16 := addO ex15 (by have f0 := hi; have f1 := hL; have f2 := t2; have f3 := t5; have f4 := t13; have z1 : (1 : Int32).toInt = 1 := (by decide); have z2 : (2 : Int32).toInt = 2 := (by decide); omega)
  refine va_sld hx hb hX hbl hbA hS (vpo (by have f0 := t16; have f1 := hi; have f2 := hL; have f3 := t2; have f4 := t5; have f5 := t13; have g0 := rg32 x15; have z1 : (1 : Int32).toInt = 1 := (by decide); have z2 : (2 : Int32).toInt = 2 := (by decide); omega)) dL_law_1277 ?_
  refine lv_topi (fun x17 ex17 => ?_)
  have hSx : va_S (A9 cy g2 s.heap.size) s.heap H locs := by rw [hA9]; exact hS
  refine va_calli (va_runV (As := [.int x14, .int x17]) (rest := []) ⟨hx, hb, hml, hown, hts⟩ (m_X9_shift l D cy g2 σ9 x14 x17 _ hJ9 (DKA.zero hDK)) (cwV 2 hts (gd_V q1940 q1941 q1942 q134 q1943) rfl rfl rfl (by decide +kernel) ⟨Nat.le_of_ble_eq_true rfl, Nat.le_of_ble_eq_true rfl⟩) (pv9 hP9 hK hD9 hC9 hSx (va_recv hK hP9 (ci := 9) (q0 := 0) rfl rfl)) rfl rfl hl.1 rfl (lv_room (Nat.le_of_ble_eq_true rfl)) dL_law_1278 ⟨Nat.le_of_ble_eq_true rfl, Nat.le_of_ble_eq_true rfl⟩) hSx (fun q _ h => up9 hSx q h) (up9 hSx) (fun r18 υ19 tS H1 locs ht hvm hw20 hB hz1 hk1 hSy => ?_)
  have hP9 : va_P D clz (WD9 cy g2 υ19) H1 := by rw [← ht]; exact hB
  have hP8 := kp8 hDD hP8 hk1
  have hS : va_S (lawA s) s.heap H1 locs := by rw [← hA9]; exact hSy
  clear hB hz1 hk1 hvm ht hSx hSy
  generalize H1 = H at hP8 hP9 hS ⊢
  have hF21 : Fr (fL [0, 23, 24, 25, 26, 27, 28, 29, 30, 31, 32, 33, 34, 35, 36, 37, 38, 39, 40, 41]) σ9 υ19 := hw20.1
  have hJ22 : J9 (υ19 9) := hw20.2.1
  have hK23 : DKA (υ19 9) := DKA.mv hDK (hF21 9 17 rfl).2.2.1 (hF21 9 18 rfl).2.2.1 (hF21 9 19 rfl).2.2.1
  have hR24 : KP υ8 (υ19 9) := KP.fr9 hR11 (hF21 9 22 rfl).2.2.1
  refine lv_pop hx hb dL_law_1281 rfl ?_
  refine lv_goto (tgt := 2411) hx hb dL_law_1282 (by decide) ?_
  exact hnext _ _ _ _ _ hJ10 hJ22 hK23 hR24 hP8 hP9 hS hl

theorem q1098 : Cond.methodLink RL 127 yX8_breaths ∈ lw_g := lw_gm (List.mem_of_getElem? (i := 1098) (by decide +kernel)) rfl
theorem q1099 : Cond.instanceMethod yX8_breaths ∈ lw_g := lw_gm (List.mem_of_getElem? (i := 1099) (by decide +kernel)) rfl
theorem q1100 : Cond.selects RX8 yX8_breaths yX8_breaths ∈ lw_g := lw_gm (List.mem_of_getElem? (i := 1100) (by decide +kernel)) rfl
theorem q1944 : Cond.methodLink RL 130 yX9_breaths ∈ lw_g := lw_gm (List.mem_of_getElem? (i := 1944) (by decide +kernel)) rfl
theorem q1945 : Cond.instanceMethod yX9_breaths ∈ lw_g := lw_gm (List.mem_of_getElem? (i := 1945) (by decide +kernel)) rfl
theorem q1946 : Cond.selects RX9 yX9_breaths yX9_breaths ∈ lw_g := lw_gm (List.mem_of_getElem? (i := 1946) (by decide +kernel)) rfl
theorem dL_law_1285 : decode cL_law 1285 = .ok (.aload_n 1, 1) := by decide +kernel
theorem dL_law_1286 : decode cL_law 1286 = .ok (.aload_n 0, 1) := by decide +kernel
theorem dL_law_1287 : decode cL_law 1287 = .ok (.iload_n 3, 1) := by decide +kernel
theorem dL_law_1288 : decode cL_law 1288 = .ok (.iconst 1, 1) := by decide +kernel
theorem dL_law_1289 : decode cL_law 1289 = .ok (.iadd, 1) := by decide +kernel
theorem dL_law_1290 : decode cL_law 1290 = .ok (.iaload, 1) := by decide +kernel
theorem dL_law_1291 : decode cL_law 1291 = .ok (.aload_n 0, 1) := by decide +kernel
theorem dL_law_1292 : decode cL_law 1292 = .ok (.iload_n 3, 1) := by decide +kernel
theorem dL_law_1293 : decode cL_law 1293 = .ok (.iconst 2, 1) := by decide +kernel
theorem dL_law_1294 : decode cL_law 1294 = .ok (.iadd, 1) := by decide +kernel
theorem dL_law_1295 : decode cL_law 1295 = .ok (.iaload, 1) := by decide +kernel
theorem dL_law_1296 : decode cL_law 1296 = .ok (.invokevirtual 127, 3) := by decide +kernel
theorem dL_law_1299 : decode cL_law 1299 = .ok (.pop, 1) := by decide +kernel
theorem dL_law_1300 : decode cL_law 1300 = .ok (.aload_n 2, 1) := by decide +kernel
theorem dL_law_1301 : decode cL_law 1301 = .ok (.aload_n 0, 1) := by decide +kernel
theorem dL_law_1302 : decode cL_law 1302 = .ok (.iload_n 3, 1) := by decide +kernel
theorem dL_law_1303 : decode cL_law 1303 = .ok (.iconst 1, 1) := by decide +kernel
theorem dL_law_1304 : decode cL_law 1304 = .ok (.iadd, 1) := by decide +kernel
theorem dL_law_1305 : decode cL_law 1305 = .ok (.iaload, 1) := by decide +kernel
theorem dL_law_1306 : decode cL_law 1306 = .ok (.aload_n 0, 1) := by decide +kernel
theorem dL_law_1307 : decode cL_law 1307 = .ok (.iload_n 3, 1) := by decide +kernel
theorem dL_law_1308 : decode cL_law 1308 = .ok (.iconst 2, 1) := by decide +kernel
theorem dL_law_1309 : decode cL_law 1309 = .ok (.iadd, 1) := by decide +kernel
theorem dL_law_1310 : decode cL_law 1310 = .ok (.iaload, 1) := by decide +kernel
theorem dL_law_1311 : decode cL_law 1311 = .ok (.invokevirtual 130, 3) := by decide +kernel
theorem dL_law_1314 : decode cL_law 1314 = .ok (.pop, 1) := by decide +kernel
theorem dL_law_1315 : decode cL_law 1315 = .ok (.goto 1096, 3) := by decide +kernel
set_option maxHeartbeats 4000000 in
set_option maxRecDepth 100000 in
theorem lawc_27 {p : Program} {l : Launch} {e : Env} {s : State} {m : MethodId} {below : List Frame} {meth : Method} {c : Code} {b L : Nat} {xs : Nat → Int32} {D : va_G} {cy : Nat → ClassId} {g1 g2 : Nat → Nat} (X : LX p s m meth c b L xs D cy g1 g2) (hL : L ≤ 3072) {i : Int32} (hi : (0 : Int) ≤ i.toInt ∧ i.toInt + 6 ≤ (L : Int)) (hnext : (∀ (σ8 σ9 : ST) (H : Heap) (locs : List Loc) (ls : Array Slot), J8 σ8 → J9 (σ9 9) → DKA (σ9 9) → KP σ8 (σ9 9) → va_P D clz (WD8 cy g1 σ8) H → va_P D clz (WD9 cy g2 σ9) H → va_S (lawA s) s.heap H locs → lv_has ls 4 [(3, .int i), (2, .ref (g2 60)), (1, .ref (gO g1 17)), (0, .ref b)] → W p l e room_1 s m #[Value.ref b] below meth c H locs 200 700000 (lw_Z below #[Value.ref b] s) (F0 m 2411 ls []))) (σ8 σ9 : ST) (H : Heap) (locs : List Loc) (ls : Array Slot) (hJ8 : J8 σ8) (hJ9 : J9 (σ9 9)) (hDK : DKA (σ9 9)) (hR : KP σ8 (σ9 9)) (hP8 : va_P D clz (WD8 cy g1 σ8) H) (hP9 : va_P D clz (WD9 cy g2 σ9) H) (hS : va_S (lawA s) s.heap H locs) (hl : lv_has ls 4 [(3, .int i), (2, .ref (g2 60)), (1, .ref (gO g1 17)), (0, .ref b)]) : W p l e room_1 s m #[Value.ref b] below meth c H locs 200 700000 (lw_Z below #[Value.ref b] s) (F0 m 1285 ls []) := by
  obtain ⟨⟨hx, hb, hr, hml, hown0, hts0, hX, hbl, hlocks, hgv⟩, hK, hDD, hC8, hC9⟩ := X
  have hown : s.vm.findClass RL = some m.cls := hown0
  have hts : ∀ w ∈ lw_g, w.before #[Value.ref b] s = true := fun w h => hts0 w (lw_gt h)
  have hbA : ¬ lawA s b := Nat.not_le.mpr hbl
  have hA8 := A8_law hDD
  have hA9 := A9_law hDD
  have hD8 : ∀ τ : ST, va_D (A8 cy g1 s.heap.size) (WD8 cy g1 τ) := fun τ => by rw [hA8]; exact map_D WD8_m (D_l hDD)
  have hD9 : ∀ τ : ST, va_D (A9 cy g2 s.heap.size) (WD9 cy g2 τ) := fun τ => by rw [hA9]; exact map_D WD9_m (D_r hDD)
  rw [← hA8] at hC8
  rw [← hA9] at hC9
  refine lv_aload_n hx hb dL_law_1285 rfl (lv_at hl 2 rfl) ?_
  refine lv_aload_n hx hb dL_law_1286 rfl (lv_at hl 3 rfl) ?_
  refine lv_iload_n hx hb dL_law_1287 rfl (lv_at hl 0 rfl) ?_
  refine lv_iconst (v := 1) hx hb dL_law_1288 (by decide) ?_
  refine lv_iadd hx hb dL_law_1289 ?_
  refine lv_topi (fun x1 ex1 => ?_)
  have t2 := addO ex1 (by have f0 := hi; have f1 := hL; have z1 : (1 : Int32).toInt = 1 := (by decide); omega)
  refine va_sld hx hb hX hbl hbA hS (vpo (by have f0 := t2; have f1 := hi; have f2 := hL; have g0 := rg32 x1; have z1 : (1 : Int32).toInt = 1 := (by decide); omega)) dL_law_1290 ?_
  refine lv_topi (fun x3 ex3 => ?_)
  refine lv_aload_n hx hb dL_law_1291 rfl (lv_at hl 3 rfl) ?_
  refine lv_iload_n hx hb dL_law_1292 rfl (lv_at hl 0 rfl) ?_
  refine lv_iconst (v := 2) hx hb dL_law_1293 (by decide) ?_
  refine lv_iadd hx hb dL_law_1294 ?_
  refine lv_topi (fun x4 ex4 => ?_)
  have t5 := addO ex4 (by have f0 := hi; have f1 := hL; have f2 := t2; have z1 : (1 : Int32).toInt = 1 := (by decide); have z2 : (2 : Int32).toInt = 2 := (by decide); omega)
  refine va_sld hx hb hX hbl hbA hS (vpo (by have f0 := t5; have f1 := hi; have f2 := hL; have f3 := t2; have g0 := rg32 x4; have z1 : (1 : Int32).toInt = 1 := (by decide); have z2 : (2 : Int32).toInt = 2 := (by decide); omega)) dL_law_1295 ?_
  refine lv_topi (fun x6 ex6 => ?_)
  have hSx : va_S (A8 cy g1 s.heap.size) s.heap H locs := by rw [hA8]; exact hS
  refine va_calli (va_runV (As := [.int x3, .int x6]) (rest := []) ⟨hx, hb, hml, hown, hts⟩ (m_X8_breaths l D cy g1 σ8 x3 x6 _ hJ8) (cwV 2 hts (gd_V q1098 q1099 q1100 q125 q1101) rfl rfl rfl (by decide +kernel) ⟨Nat.le_of_ble_eq_true rfl, Nat.le_of_ble_eq_true rfl⟩) (pv8 hP8 hK hD8 hC8 hSx (rv8_8 hK hP8)) rfl rfl hl.1 rfl (lv_room (Nat.le_of_ble_eq_true rfl)) dL_law_1296 ⟨Nat.le_of_ble_eq_true rfl, Nat.le_of_ble_eq_true rfl⟩) hSx (fun q _ h => up8 hSx q h) (up8 hSx) (fun r7 υ8 tS H1 locs ht hvm hw9 hB hz1 hk1 hSy => ?_)
  have hP8 : va_P D clz (WD8 cy g1 υ8) H1 := by rw [← ht]; exact hB
  have hP9 := kp9 hDD hP9 hk1
  have hS : va_S (lawA s) s.heap H1 locs := by rw [← hA8]; exact hSy
  clear hB hz1 hk1 hvm ht hSx hSy
  generalize H1 = H at hP8 hP9 hS ⊢
  have hJ10 : J8 υ8 := hw9.2.1
  have hR11 : KP υ8 (σ9 9) := KP.fr8 hR (show Fr (fO [14]) σ8 υ8 from hw9.1) (by decide)
  refine lv_pop hx hb dL_law_1299 rfl ?_
  refine lv_aload_n hx hb dL_law_1300 rfl (lv_at hl 1 rfl) ?_
  refine lv_aload_n hx hb dL_law_1301 rfl (lv_at hl 3 rfl) ?_
  refine lv_iload_n hx hb dL_law_1302 rfl (lv_at hl 0 rfl) ?_
  refine lv_iconst (v := 1) hx hb dL_law_1303 (by decide) ?_
  refine lv_iadd hx hb dL_law_1304 ?_
  refine lv_topi (fun x12 ex12 => ?_)
  have t13 := addO ex12 (by have f0 := hi; have f1 := hL; have f2 := t2; have f3 := t5; have z1 : (1 : Int32).toInt = 1 := (by decide); have z2 : (2 : Int32).toInt = 2 := (by decide); omega)
  refine va_sld hx hb hX hbl hbA hS (vpo (by have f0 := t13; have f1 := hi; have f2 := hL; have f3 := t2; have f4 := t5; have g0 := rg32 x12; have z1 : (1 : Int32).toInt = 1 := (by decide); have z2 : (2 : Int32).toInt = 2 := (by decide); omega)) dL_law_1305 ?_
  refine lv_topi (fun x14 ex14 => ?_)
  refine lv_aload_n hx hb dL_law_1306 rfl (lv_at hl 3 rfl) ?_
  refine lv_iload_n hx hb dL_law_1307 rfl (lv_at hl 0 rfl) ?_
  refine lv_iconst (v := 2) hx hb dL_law_1308 (by decide) ?_
  refine lv_iadd hx hb dL_law_1309 ?_
  refine lv_topi (fun x15 ex15 => ?_)
  have t16 := addO ex15 (by have f0 := hi; have f1 := hL; have f2 := t2; have f3 := t5; have f4 := t13; have z1 : (1 : Int32).toInt = 1 := (by decide); have z2 : (2 : Int32).toInt = 2 := (by decide); omega)
  refine va_sld hx hb hX hbl hbA hS (vpo (by have f0 := t16; have f1 := hi; have f2 := hL; have f3 := t2; have f4 := t5; have f5 := t13; have g0 := rg32 x15; have z1 : (1 : Int32).toInt = 1 := (by decide); have z2 : (2 : Int32).toInt = 2 := (by decide); omega)) dL_law_1310 ?_
  refine lv_topi (fun x17 ex17 => ?_)
  have hSx : va_S (A9 cy g2 s.heap.size) s.heap H locs := by rw [hA9]; exact hS
  refine va_calli (va_runV (As := [.int x14, .int x17]) (rest := []) ⟨hx, hb, hml, hown, hts⟩ (m_X9_breaths l D cy g2 σ9 x14 x17 _ hJ9 ) (cwV 2 hts (gd_V q1944 q1945 q1946 q134 q1947) rfl rfl rfl (by decide +kernel) ⟨Nat.le_of_ble_eq_true rfl, Nat.le_of_ble_eq_true rfl⟩) (pv9 hP9 hK hD9 hC9 hSx (va_recv hK hP9 (ci := 9) (q0 := 0) rfl rfl)) rfl rfl hl.1 rfl (lv_room (Nat.le_of_ble_eq_true rfl)) dL_law_1311 ⟨Nat.le_of_ble_eq_true rfl, Nat.le_of_ble_eq_true rfl⟩) hSx (fun q _ h => up9 hSx q h) (up9 hSx) (fun r18 υ19 tS H1 locs ht hvm hw20 hB hz1 hk1 hSy => ?_)
  have hP9 : va_P D clz (WD9 cy g2 υ19) H1 := by rw [← ht]; exact hB
  have hP8 := kp8 hDD hP8 hk1
  have hS : va_S (lawA s) s.heap H1 locs := by rw [← hA9]; exact hSy
  clear hB hz1 hk1 hvm ht hSx hSy
  generalize H1 = H at hP8 hP9 hS ⊢
  have hF21 : Fr (fL [0]) σ9 υ19 := hw20.1
  have hJ22 : J9 (υ19 9) := hw20.2.1
  have hK23 : DKA (υ19 9) := DKA.mv hDK (hF21 9 17 rfl).2.2.1 (hF21 9 18 rfl).2.2.1 (hF21 9 19 rfl).2.2.1
  have hR24 : KP υ8 (υ19 9) := KP.fr9 hR11 (hF21 9 22 rfl).2.2.1
  refine lv_pop hx hb dL_law_1314 rfl ?_
  refine lv_goto (tgt := 2411) hx hb dL_law_1315 (by decide) ?_
  exact hnext _ _ _ _ _ hJ10 hJ22 hK23 hR24 hP8 hP9 hS hl

theorem q1117 : Cond.methodLink RL 131 yX8_marks ∈ lw_g := lw_gm (List.mem_of_getElem? (i := 1117) (by decide +kernel)) rfl
theorem q1118 : Cond.instanceMethod yX8_marks ∈ lw_g := lw_gm (List.mem_of_getElem? (i := 1118) (by decide +kernel)) rfl
theorem q1119 : Cond.selects RX8 yX8_marks yX8_marks ∈ lw_g := lw_gm (List.mem_of_getElem? (i := 1119) (by decide +kernel)) rfl
theorem q1964 : Cond.methodLink RL 134 yX9_marks ∈ lw_g := lw_gm (List.mem_of_getElem? (i := 1964) (by decide +kernel)) rfl
theorem q1965 : Cond.instanceMethod yX9_marks ∈ lw_g := lw_gm (List.mem_of_getElem? (i := 1965) (by decide +kernel)) rfl
theorem q1966 : Cond.selects RX9 yX9_marks yX9_marks ∈ lw_g := lw_gm (List.mem_of_getElem? (i := 1966) (by decide +kernel)) rfl
theorem dL_law_1318 : decode cL_law 1318 = .ok (.aload_n 1, 1) := by decide +kernel
theorem dL_law_1319 : decode cL_law 1319 = .ok (.aload_n 0, 1) := by decide +kernel
theorem dL_law_1320 : decode cL_law 1320 = .ok (.iload_n 3, 1) := by decide +kernel
theorem dL_law_1321 : decode cL_law 1321 = .ok (.iconst 1, 1) := by decide +kernel
theorem dL_law_1322 : decode cL_law 1322 = .ok (.iadd, 1) := by decide +kernel
theorem dL_law_1323 : decode cL_law 1323 = .ok (.iaload, 1) := by decide +kernel
theorem dL_law_1324 : decode cL_law 1324 = .ok (.aload_n 0, 1) := by decide +kernel
theorem dL_law_1325 : decode cL_law 1325 = .ok (.iload_n 3, 1) := by decide +kernel
theorem dL_law_1326 : decode cL_law 1326 = .ok (.iconst 2, 1) := by decide +kernel
theorem dL_law_1327 : decode cL_law 1327 = .ok (.iadd, 1) := by decide +kernel
theorem dL_law_1328 : decode cL_law 1328 = .ok (.iaload, 1) := by decide +kernel
theorem dL_law_1329 : decode cL_law 1329 = .ok (.invokevirtual 131, 3) := by decide +kernel
theorem dL_law_1332 : decode cL_law 1332 = .ok (.pop, 1) := by decide +kernel
theorem dL_law_1333 : decode cL_law 1333 = .ok (.aload_n 2, 1) := by decide +kernel
theorem dL_law_1334 : decode cL_law 1334 = .ok (.aload_n 0, 1) := by decide +kernel
theorem dL_law_1335 : decode cL_law 1335 = .ok (.iload_n 3, 1) := by decide +kernel
theorem dL_law_1336 : decode cL_law 1336 = .ok (.iconst 1, 1) := by decide +kernel
theorem dL_law_1337 : decode cL_law 1337 = .ok (.iadd, 1) := by decide +kernel
theorem dL_law_1338 : decode cL_law 1338 = .ok (.iaload, 1) := by decide +kernel
theorem dL_law_1339 : decode cL_law 1339 = .ok (.aload_n 0, 1) := by decide +kernel
theorem dL_law_1340 : decode cL_law 1340 = .ok (.iload_n 3, 1) := by decide +kernel
theorem dL_law_1341 : decode cL_law 1341 = .ok (.iconst 2, 1) := by decide +kernel
theorem dL_law_1342 : decode cL_law 1342 = .ok (.iadd, 1) := by decide +kernel
theorem dL_law_1343 : decode cL_law 1343 = .ok (.iaload, 1) := by decide +kernel
theorem dL_law_1344 : decode cL_law 1344 = .ok (.invokevirtual 134, 3) := by decide +kernel
theorem dL_law_1347 : decode cL_law 1347 = .ok (.pop, 1) := by decide +kernel
theorem dL_law_1348 : decode cL_law 1348 = .ok (.goto 1063, 3) := by decide +kernel
set_option maxHeartbeats 4000000 in
set_option maxRecDepth 100000 in
theorem lawc_28 {p : Program} {l : Launch} {e : Env} {s : State} {m : MethodId} {below : List Frame} {meth : Method} {c : Code} {b L : Nat} {xs : Nat → Int32} {D : va_G} {cy : Nat → ClassId} {g1 g2 : Nat → Nat} (X : LX p s m meth c b L xs D cy g1 g2) (hL : L ≤ 3072) {i : Int32} (hi : (0 : Int) ≤ i.toInt ∧ i.toInt + 6 ≤ (L : Int)) (hnext : (∀ (σ8 σ9 : ST) (H : Heap) (locs : List Loc) (ls : Array Slot), J8 σ8 → J9 (σ9 9) → DKA (σ9 9) → KP σ8 (σ9 9) → va_P D clz (WD8 cy g1 σ8) H → va_P D clz (WD9 cy g2 σ9) H → va_S (lawA s) s.heap H locs → lv_has ls 4 [(3, .int i), (2, .ref (g2 60)), (1, .ref (gO g1 17)), (0, .ref b)] → W p l e room_1 s m #[Value.ref b] below meth c H locs 200 700000 (lw_Z below #[Value.ref b] s) (F0 m 2411 ls []))) (σ8 σ9 : ST) (H : Heap) (locs : List Loc) (ls : Array Slot) (hJ8 : J8 σ8) (hJ9 : J9 (σ9 9)) (hDK : DKA (σ9 9)) (hR : KP σ8 (σ9 9)) (hP8 : va_P D clz (WD8 cy g1 σ8) H) (hP9 : va_P D clz (WD9 cy g2 σ9) H) (hS : va_S (lawA s) s.heap H locs) (hl : lv_has ls 4 [(3, .int i), (2, .ref (g2 60)), (1, .ref (gO g1 17)), (0, .ref b)]) : W p l e room_1 s m #[Value.ref b] below meth c H locs 200 700000 (lw_Z below #[Value.ref b] s) (F0 m 1318 ls []) := by
  obtain ⟨⟨hx, hb, hr, hml, hown0, hts0, hX, hbl, hlocks, hgv⟩, hK, hDD, hC8, hC9⟩ := X
  have hown : s.vm.findClass RL = some m.cls := hown0
  have hts : ∀ w ∈ lw_g, w.before #[Value.ref b] s = true := fun w h => hts0 w (lw_gt h)
  have hbA : ¬ lawA s b := Nat.not_le.mpr hbl
  have hA8 := A8_law hDD
  have hA9 := A9_law hDD
  have hD8 : ∀ τ : ST, va_D (A8 cy g1 s.heap.size) (WD8 cy g1 τ) := fun τ => by rw [hA8]; exact map_D WD8_m (D_l hDD)
  have hD9 : ∀ τ : ST, va_D (A9 cy g2 s.heap.size) (WD9 cy g2 τ) := fun τ => by rw [hA9]; exact map_D WD9_m (D_r hDD)
  rw [← hA8] at hC8
  rw [← hA9] at hC9
  refine lv_aload_n hx hb dL_law_1318 rfl (lv_at hl 2 rfl) ?_
  refine lv_aload_n hx hb dL_law_1319 rfl (lv_at hl 3 rfl) ?_
  refine lv_iload_n hx hb dL_law_1320 rfl (lv_at hl 0 rfl) ?_
  refine lv_iconst (v := 1) hx hb dL_law_1321 (by decide) ?_
  refine lv_iadd hx hb dL_law_1322 ?_
  refine lv_topi (fun x1 ex1 => ?_)
  have t2 := addO ex1 (by have f0 := hi; have f1 := hL; have z1 : (1 : Int32).toInt = 1 := (by decide); omega)
  refine va_sld hx hb hX hbl hbA hS (vpo (by have f0 := t2; have f1 := hi; have f2 := hL; have g0 := rg32 x1; have z1 : (1 : Int32).toInt = 1 := (by decide); omega)) dL_law_1323 ?_
  refine lv_topi (fun x3 ex3 => ?_)
  refine lv_aload_n hx hb dL_law_1324 rfl (lv_at hl 3 rfl) ?_
  refine lv_iload_n hx hb dL_law_1325 rfl (lv_at hl 0 rfl) ?_
  refine lv_iconst (v := 2) hx hb dL_law_1326 (by decide) ?_
  refine lv_iadd hx hb dL_law_1327 ?_
  refine lv_topi (fun x4 ex4 => ?_)
  have t5 := addO ex4 (by have f0 := hi; have f1 := hL; have f2 := t2; have z1 : (1 : Int32).toInt = 1 := (by decide); have z2 : (2 : Int32).toInt = 2 := (by decide); omega)
  refine va_sld hx hb hX hbl hbA hS (vpo (by have f0 := t5; have f1 := hi; have f2 := hL; have f3 := t2; have g0 := rg32 x4; have z1 : (1 : Int32).toInt = 1 := (by decide); have z2 : (2 : Int32).toInt = 2 := (by decide); omega)) dL_law_1328 ?_
  refine lv_topi (fun x6 ex6 => ?_)
  have hSx : va_S (A8 cy g1 s.heap.size) s.heap H locs := by rw [hA8]; exact hS
  refine va_calli (va_runV (As := [.int x3, .int x6]) (rest := []) ⟨hx, hb, hml, hown, hts⟩ (m_X8_marks l D cy g1 σ8 x3 x6 _ hJ8) (cwV 2 hts (gd_V q1117 q1118 q1119 q125 q1120) rfl rfl rfl (by decide +kernel) ⟨Nat.le_of_ble_eq_true rfl, Nat.le_of_ble_eq_true rfl⟩) (pv8 hP8 hK hD8 hC8 hSx (rv8_8 hK hP8)) rfl rfl hl.1 rfl (lv_room (Nat.le_of_ble_eq_true rfl)) dL_law_1329 ⟨Nat.le_of_ble_eq_true rfl, Nat.le_of_ble_eq_true rfl⟩) hSx (fun q _ h => up8 hSx q h) (up8 hSx) (fun r7 υ8 tS H1 locs ht hvm hw9 hB hz1 hk1 hSy => ?_)
  have hP8 : va_P D clz (WD8 cy g1 υ8) H1 := by rw [← ht]; exact hB
  have hP9 := kp9 hDD hP9 hk1
  have hS : va_S (lawA s) s.heap H1 locs := by rw [← hA8]; exact hSy
  clear hB hz1 hk1 hvm ht hSx hSy
  generalize H1 = H at hP8 hP9 hS ⊢
  have hJ10 : J8 υ8 := hw9.2.1
  have hR11 : KP υ8 (σ9 9) := KP.fr8 hR (show Fr (fO [14]) σ8 υ8 from hw9.1) (by decide)
  refine lv_pop hx hb dL_law_1332 rfl ?_
  refine lv_aload_n hx hb dL_law_1333 rfl (lv_at hl 1 rfl) ?_
  refine lv_aload_n hx hb dL_law_1334 rfl (lv_at hl 3 rfl) ?_
  refine lv_iload_n hx hb dL_law_1335 rfl (lv_at hl 0 rfl) ?_
  refine lv_iconst (v := 1) hx hb dL_law_1336 (by decide) ?_
  refine lv_iadd hx hb dL_law_1337 ?_
  refine lv_topi (fun x12 ex12 => ?_)
  have t13 := addO ex12 (by have f0 := hi; have f1 := hL; have f2 := t2; have f3 := t5; have z1 : (1 : Int32).toInt = 1 := (by decide); have z2 : (2 : Int32).toInt = 2 := (by decide); omega)
  refine va_sld hx hb hX hbl hbA hS (vpo (by have f0 := t13; have f1 := hi; have f2 := hL; have f3 := t2; have f4 := t5; have g0 := rg32 x12; have z1 : (1 : Int32).toInt = 1 := (by decide); have z2 : (2 : Int32).toInt = 2 := (by decide); omega)) dL_law_1338 ?_
  refine lv_topi (fun x14 ex14 => ?_)
  refine lv_aload_n hx hb dL_law_1339 rfl (lv_at hl 3 rfl) ?_
  refine lv_iload_n hx hb dL_law_1340 rfl (lv_at hl 0 rfl) ?_
  refine lv_iconst (v := 2) hx hb dL_law_1341 (by decide) ?_
  refine lv_iadd hx hb dL_law_1342 ?_
  refine lv_topi (fun x15 ex15 => ?_)
  have t16 := addO ex15 (by have f0 := hi; have f1 := hL; have f2 := t2; have f3 := t5; have f4 := t13; have z1 : (1 : Int32).toInt = 1 := (by decide); have z2 : (2 : Int32).toInt = 2 := (by decide); omega)
  refine va_sld hx hb hX hbl hbA hS (vpo (by have f0 := t16; have f1 := hi; have f2 := hL; have f3 := t2; have f4 := t5; have f5 := t13; have g0 := rg32 x15; have z1 : (1 : Int32).toInt = 1 := (by decide); have z2 : (2 : Int32).toInt = 2 := (by decide); omega)) dL_law_1343 ?_
  refine lv_topi (fun x17 ex17 => ?_)
  have hSx : va_S (A9 cy g2 s.heap.size) s.heap H locs := by rw [hA9]; exact hS
  refine va_calli (va_runV (As := [.int x14, .int x17]) (rest := []) ⟨hx, hb, hml, hown, hts⟩ (m_X9_marks l D cy g2 σ9 x14 x17 _ hJ9 ) (cwV 2 hts (gd_V q1964 q1965 q1966 q134 q1967) rfl rfl rfl (by decide +kernel) ⟨Nat.le_of_ble_eq_true rfl, Nat.le_of_ble_eq_true rfl⟩) (pv9 hP9 hK hD9 hC9 hSx (va_recv hK hP9 (ci := 9) (q0 := 0) rfl rfl)) rfl rfl hl.1 rfl (lv_room (Nat.le_of_ble_eq_true rfl)) dL_law_1344 ⟨Nat.le_of_ble_eq_true rfl, Nat.le_of_ble_eq_true rfl⟩) hSx (fun q _ h => up9 hSx q h) (up9 hSx) (fun r18 υ19 tS H1 locs ht hvm hw20 hB hz1 hk1 hSy => ?_)
  have hP9 : va_P D clz (WD9 cy g2 υ19) H1 := by rw [← ht]; exact hB
  have hP8 := kp8 hDD hP8 hk1
  have hS : va_S (lawA s) s.heap H1 locs := by rw [← hA9]; exact hSy
  clear hB hz1 hk1 hvm ht hSx hSy
  generalize H1 = H at hP8 hP9 hS ⊢
  have hF21 : Fr (fL [0]) σ9 υ19 := hw20.1
  have hJ22 : J9 (υ19 9) := hw20.2.1
  have hK23 : DKA (υ19 9) := DKA.mv hDK (hF21 9 17 rfl).2.2.1 (hF21 9 18 rfl).2.2.1 (hF21 9 19 rfl).2.2.1
  have hR24 : KP υ8 (υ19 9) := KP.fr9 hR11 (hF21 9 22 rfl).2.2.1
  refine lv_pop hx hb dL_law_1347 rfl ?_
  refine lv_goto (tgt := 2411) hx hb dL_law_1348 (by decide) ?_
  exact hnext _ _ _ _ _ hJ10 hJ22 hK23 hR24 hP8 hP9 hS hl

theorem q1121 : Cond.methodLink RL 135 yX8_choked ∈ lw_g := lw_gm (List.mem_of_getElem? (i := 1121) (by decide +kernel)) rfl
theorem q1122 : Cond.instanceMethod yX8_choked ∈ lw_g := lw_gm (List.mem_of_getElem? (i := 1122) (by decide +kernel)) rfl
theorem q1123 : Cond.selects RX8 yX8_choked yX8_choked ∈ lw_g := lw_gm (List.mem_of_getElem? (i := 1123) (by decide +kernel)) rfl
theorem q1968 : Cond.methodLink RL 138 yX9_choked ∈ lw_g := lw_gm (List.mem_of_getElem? (i := 1968) (by decide +kernel)) rfl
theorem q1969 : Cond.instanceMethod yX9_choked ∈ lw_g := lw_gm (List.mem_of_getElem? (i := 1969) (by decide +kernel)) rfl
theorem q1970 : Cond.selects RX9 yX9_choked yX9_choked ∈ lw_g := lw_gm (List.mem_of_getElem? (i := 1970) (by decide +kernel)) rfl
theorem dL_law_1351 : decode cL_law 1351 = .ok (.aload_n 1, 1) := by decide +kernel
theorem dL_law_1352 : decode cL_law 1352 = .ok (.aload_n 0, 1) := by decide +kernel
theorem dL_law_1353 : decode cL_law 1353 = .ok (.iload_n 3, 1) := by decide +kernel
theorem dL_law_1354 : decode cL_law 1354 = .ok (.iconst 1, 1) := by decide +kernel
theorem dL_law_1355 : decode cL_law 1355 = .ok (.iadd, 1) := by decide +kernel
theorem dL_law_1356 : decode cL_law 1356 = .ok (.iaload, 1) := by decide +kernel
theorem dL_law_1357 : decode cL_law 1357 = .ok (.aload_n 0, 1) := by decide +kernel
theorem dL_law_1358 : decode cL_law 1358 = .ok (.iload_n 3, 1) := by decide +kernel
theorem dL_law_1359 : decode cL_law 1359 = .ok (.iconst 2, 1) := by decide +kernel
theorem dL_law_1360 : decode cL_law 1360 = .ok (.iadd, 1) := by decide +kernel
theorem dL_law_1361 : decode cL_law 1361 = .ok (.iaload, 1) := by decide +kernel
theorem dL_law_1362 : decode cL_law 1362 = .ok (.invokevirtual 135, 3) := by decide +kernel
theorem dL_law_1365 : decode cL_law 1365 = .ok (.pop, 1) := by decide +kernel
theorem dL_law_1366 : decode cL_law 1366 = .ok (.aload_n 2, 1) := by decide +kernel
theorem dL_law_1367 : decode cL_law 1367 = .ok (.aload_n 0, 1) := by decide +kernel
theorem dL_law_1368 : decode cL_law 1368 = .ok (.iload_n 3, 1) := by decide +kernel
theorem dL_law_1369 : decode cL_law 1369 = .ok (.iconst 1, 1) := by decide +kernel
theorem dL_law_1370 : decode cL_law 1370 = .ok (.iadd, 1) := by decide +kernel
theorem dL_law_1371 : decode cL_law 1371 = .ok (.iaload, 1) := by decide +kernel
theorem dL_law_1372 : decode cL_law 1372 = .ok (.aload_n 0, 1) := by decide +kernel
theorem dL_law_1373 : decode cL_law 1373 = .ok (.iload_n 3, 1) := by decide +kernel
theorem dL_law_1374 : decode cL_law 1374 = .ok (.iconst 2, 1) := by decide +kernel
theorem dL_law_1375 : decode cL_law 1375 = .ok (.iadd, 1) := by decide +kernel
theorem dL_law_1376 : decode cL_law 1376 = .ok (.iaload, 1) := by decide +kernel
theorem dL_law_1377 : decode cL_law 1377 = .ok (.invokevirtual 138, 3) := by decide +kernel
theorem dL_law_1380 : decode cL_law 1380 = .ok (.pop, 1) := by decide +kernel
theorem dL_law_1381 : decode cL_law 1381 = .ok (.goto 1030, 3) := by decide +kernel
set_option maxHeartbeats 4000000 in
set_option maxRecDepth 100000 in
theorem lawc_29 {p : Program} {l : Launch} {e : Env} {s : State} {m : MethodId} {below : List Frame} {meth : Method} {c : Code} {b L : Nat} {xs : Nat → Int32} {D : va_G} {cy : Nat → ClassId} {g1 g2 : Nat → Nat} (X : LX p s m meth c b L xs D cy g1 g2) (hL : L ≤ 3072) {i : Int32} (hi : (0 : Int) ≤ i.toInt ∧ i.toInt + 6 ≤ (L : Int)) (hnext : (∀ (σ8 σ9 : ST) (H : Heap) (locs : List Loc) (ls : Array Slot), J8 σ8 → J9 (σ9 9) → DKA (σ9 9) → KP σ8 (σ9 9) → va_P D clz (WD8 cy g1 σ8) H → va_P D clz (WD9 cy g2 σ9) H → va_S (lawA s) s.heap H locs → lv_has ls 4 [(3, .int i), (2, .ref (g2 60)), (1, .ref (gO g1 17)), (0, .ref b)] → W p l e room_1 s m #[Value.ref b] below meth c H locs 200 700000 (lw_Z below #[Value.ref b] s) (F0 m 2411 ls []))) (σ8 σ9 : ST) (H : Heap) (locs : List Loc) (ls : Array Slot) (hJ8 : J8 σ8) (hJ9 : J9 (σ9 9)) (hDK : DKA (σ9 9)) (hR : KP σ8 (σ9 9)) (hP8 : va_P D clz (WD8 cy g1 σ8) H) (hP9 : va_P D clz (WD9 cy g2 σ9) H) (hS : va_S (lawA s) s.heap H locs) (hl : lv_has ls 4 [(3, .int i), (2, .ref (g2 60)), (1, .ref (gO g1 17)), (0, .ref b)]) : W p l e room_1 s m #[Value.ref b] below meth c H locs 200 700000 (lw_Z below #[Value.ref b] s) (F0 m 1351 ls []) := by
  obtain ⟨⟨hx, hb, hr, hml, hown0, hts0, hX, hbl, hlocks, hgv⟩, hK, hDD, hC8, hC9⟩ := X
  have hown : s.vm.findClass RL = some m.cls := hown0
  have hts : ∀ w ∈ lw_g, w.before #[Value.ref b] s = true := fun w h => hts0 w (lw_gt h)
  have hbA : ¬ lawA s b := Nat.not_le.mpr hbl
  have hA8 := A8_law hDD
  have hA9 := A9_law hDD
  have hD8 : ∀ τ : ST, va_D (A8 cy g1 s.heap.size) (WD8 cy g1 τ) := fun τ => by rw [hA8]; exact map_D WD8_m (D_l hDD)
  have hD9 : ∀ τ : ST, va_D (A9 cy g2 s.heap.size) (WD9 cy g2 τ) := fun τ => by rw [hA9]; exact map_D WD9_m (D_r hDD)
  rw [← hA8] at hC8
  rw [← hA9] at hC9
  refine lv_aload_n hx hb dL_law_1351 rfl (lv_at hl 2 rfl) ?_
  refine lv_aload_n hx hb dL_law_1352 rfl (lv_at hl 3 rfl) ?_
  refine lv_iload_n hx hb dL_law_1353 rfl (lv_at hl 0 rfl) ?_
  refine lv_iconst (v := 1) hx hb dL_law_1354 (by decide) ?_
  refine lv_iadd hx hb dL_law_1355 ?_
  refine lv_topi (fun x1 ex1 => ?_)
  have t2 := addO ex1 (by have f0 := hi; have f1 := hL; have z1 : (1 : Int32).toInt = 1 := (by decide); omega)
  refine va_sld hx hb hX hbl hbA hS (vpo (by have f0 := t2; have f1 := hi; have f2 := hL; have g0 := rg32 x1; have z1 : (1 : Int32).toInt = 1 := (by decide); omega)) dL_law_1356 ?_
  refine lv_topi (fun x3 ex3 => ?_)
  refine lv_aload_n hx hb dL_law_1357 rfl (lv_at hl 3 rfl) ?_
  refine lv_iload_n hx hb dL_law_1358 rfl (lv_at hl 0 rfl) ?_
  refine lv_iconst (v := 2) hx hb dL_law_1359 (by decide) ?_
  refine lv_iadd hx hb dL_law_1360 ?_
  refine lv_topi (fun x4 ex4 => ?_)
  have t5 := addO ex4 (by have f0 := hi; have f1 := hL; have f2 := t2; have z1 : (1 : Int32).toInt = 1 := (by decide); have z2 : (2 : Int32).toInt = 2 := (by decide); omega)
  refine va_sld hx hb hX hbl hbA hS (vpo (by have f0 := t5; have f1 := hi; have f2 := hL; have f3 := t2; have g0 := rg32 x4; have z1 : (1 : Int32).toInt = 1 := (by decide); have z2 : (2 : Int32).toInt = 2 := (by decide); omega)) dL_law_1361 ?_
  refine lv_topi (fun x6 ex6 => ?_)
  have hSx : va_S (A8 cy g1 s.heap.size) s.heap H locs := by rw [hA8]; exact hS
  refine va_calli (va_runV (As := [.int x3, .int x6]) (rest := []) ⟨hx, hb, hml, hown, hts⟩ (m_X8_choked l D cy g1 σ8 x3 x6 _ hJ8) (cwV 2 hts (gd_V q1121 q1122 q1123 q125 q1124) rfl rfl rfl (by decide +kernel) ⟨Nat.le_of_ble_eq_true rfl, Nat.le_of_ble_eq_true rfl⟩) (pv8 hP8 hK hD8 hC8 hSx (rv8_8 hK hP8)) rfl rfl hl.1 rfl (lv_room (Nat.le_of_ble_eq_true rfl)) dL_law_1362 ⟨Nat.le_of_ble_eq_true rfl, Nat.le_of_ble_eq_true rfl⟩) hSx (fun q _ h => up8 hSx q h) (up8 hSx) (fun r7 υ8 tS H1 locs ht hvm hw9 hB hz1 hk1 hSy => ?_)
  have hP8 : va_P D clz (WD8 cy g1 υ8) H1 := by rw [← ht]; exact hB
  have hP9 := kp9 hDD hP9 hk1
  have hS : va_S (lawA s) s.heap H1 locs := by rw [← hA8]; exact hSy
  clear hB hz1 hk1 hvm ht hSx hSy
  generalize H1 = H at hP8 hP9 hS ⊢
  have hw9E : σ8 = υ8 := (hw9.1).symm
  subst hw9E
  refine lv_pop hx hb dL_law_1365 rfl ?_
  refine lv_aload_n hx hb dL_law_1366 rfl (lv_at hl 1 rfl) ?_
  refine lv_aload_n hx hb dL_law_1367 rfl (lv_at hl 3 rfl) ?_
  refine lv_iload_n hx hb dL_law_1368 rfl (lv_at hl 0 rfl) ?_
  refine lv_iconst (v := 1) hx hb dL_law_1369 (by decide) ?_
  refine lv_iadd hx hb dL_law_1370 ?_
  refine lv_topi (fun x10 ex10 => ?_)
  have t11 := addO ex10 (by have f0 := hi; have f1 := hL; have f2 := t2; have f3 := t5; have z1 : (1 : Int32).toInt = 1 := (by decide); have z2 : (2 : Int32).toInt = 2 := (by decide); omega)
  refine va_sld hx hb hX hbl hbA hS (vpo (by have f0 := t11; have f1 := hi; have f2 := hL; have f3 := t2; have f4 := t5; have g0 := rg32 x10; have z1 : (1 : Int32).toInt = 1 := (by decide); have z2 : (2 : Int32).toInt = 2 := (by decide); omega)) dL_law_1371 ?_
  refine lv_topi (fun x12 ex12 => ?_)
  refine lv_aload_n hx hb dL_law_1372 rfl (lv_at hl 3 rfl) ?_
  refine lv_iload_n hx hb dL_law_1373 rfl (lv_at hl 0 rfl) ?_
  refine lv_iconst (v := 2) hx hb dL_law_1374 (by decide) ?_
  refine lv_iadd hx hb dL_law_1375 ?_
  refine lv_topi (fun x13 ex13 => ?_)
  have t14 := addO ex13 (by have f0 := hi; have f1 := hL; have f2 := t2; have f3 := t5; have f4 := t11; have z1 : (1 : Int32).toInt = 1 := (by decide); have z2 : (2 : Int32).toInt = 2 := (by decide); omega)
  refine va_sld hx hb hX hbl hbA hS (vpo (by have f0 := t14; have f1 := hi; have f2 := hL; have f3 := t2; have f4 := t5; have f5 := t11; have g0 := rg32 x13; have z1 : (1 : Int32).toInt = 1 := (by decide); have z2 : (2 : Int32).toInt = 2 := (by decide); omega)) dL_law_1376 ?_
  refine lv_topi (fun x15 ex15 => ?_)
  have hSx : va_S (A9 cy g2 s.heap.size) s.heap H locs := by rw [hA9]; exact hS
  refine va_calli (va_runV (As := [.int x12, .int x15]) (rest := []) ⟨hx, hb, hml, hown, hts⟩ (m_X9_choked l D cy g2 σ9 x12 x15 _ hJ9 ) (cwV 2 hts (gd_V q1968 q1969 q1970 q134 q1971) rfl rfl rfl (by decide +kernel) ⟨Nat.le_of_ble_eq_true rfl, Nat.le_of_ble_eq_true rfl⟩) (pv9 hP9 hK hD9 hC9 hSx (va_recv hK hP9 (ci := 9) (q0 := 0) rfl rfl)) rfl rfl hl.1 rfl (lv_room (Nat.le_of_ble_eq_true rfl)) dL_law_1377 ⟨Nat.le_of_ble_eq_true rfl, Nat.le_of_ble_eq_true rfl⟩) hSx (fun q _ h => up9 hSx q h) (up9 hSx) (fun r16 υ17 tS H1 locs ht hvm hw18 hB hz1 hk1 hSy => ?_)
  have hP9 : va_P D clz (WD9 cy g2 υ17) H1 := by rw [← ht]; exact hB
  have hP8 := kp8 hDD hP8 hk1
  have hS : va_S (lawA s) s.heap H1 locs := by rw [← hA9]; exact hSy
  clear hB hz1 hk1 hvm ht hSx hSy
  generalize H1 = H at hP8 hP9 hS ⊢
  have hF19 : Fr (fL [0]) σ9 υ17 := hw18.1
  have hJ20 : J9 (υ17 9) := hw18.2.1
  have hK21 : DKA (υ17 9) := DKA.mv hDK (hF19 9 17 rfl).2.2.1 (hF19 9 18 rfl).2.2.1 (hF19 9 19 rfl).2.2.1
  have hR22 : KP σ8 (υ17 9) := KP.fr9 hR (hF19 9 22 rfl).2.2.1
  refine lv_pop hx hb dL_law_1380 rfl ?_
  refine lv_goto (tgt := 2411) hx hb dL_law_1381 (by decide) ?_
  exact hnext _ _ _ _ _ hJ8 hJ20 hK21 hR22 hP8 hP9 hS hl

