theorem q763 : Cond.methodLink RL 199 yX8_train ∈ lw_g := lw_gm (List.mem_of_getElem? (i := 763) (by decide +kernel)) rfl
theorem q764 : Cond.instanceMethod yX8_train ∈ lw_g := lw_gm (List.mem_of_getElem? (i := 764) (by decide +kernel)) rfl
theorem q765 : Cond.selects RX8 yX8_train yX8_train ∈ lw_g := lw_gm (List.mem_of_getElem? (i := 765) (by decide +kernel)) rfl
theorem q2102 : Cond.methodLink RL 202 yX9_train ∈ lw_g := lw_gm (List.mem_of_getElem? (i := 2102) (by decide +kernel)) rfl
theorem q2103 : Cond.instanceMethod yX9_train ∈ lw_g := lw_gm (List.mem_of_getElem? (i := 2103) (by decide +kernel)) rfl
theorem q2104 : Cond.selects RX9 yX9_train yX9_train ∈ lw_g := lw_gm (List.mem_of_getElem? (i := 2104) (by decide +kernel)) rfl
theorem dL_law_1899 : decode cL_law 1899 = .ok (.aload_n 1, 1) := by decide +kernel
theorem dL_law_1900 : decode cL_law 1900 = .ok (.aload_n 0, 1) := by decide +kernel
theorem dL_law_1901 : decode cL_law 1901 = .ok (.iload_n 3, 1) := by decide +kernel
theorem dL_law_1902 : decode cL_law 1902 = .ok (.iconst 1, 1) := by decide +kernel
theorem dL_law_1903 : decode cL_law 1903 = .ok (.iadd, 1) := by decide +kernel
theorem dL_law_1904 : decode cL_law 1904 = .ok (.iaload, 1) := by decide +kernel
theorem dL_law_1905 : decode cL_law 1905 = .ok (.aload_n 0, 1) := by decide +kernel
theorem dL_law_1906 : decode cL_law 1906 = .ok (.iload_n 3, 1) := by decide +kernel
theorem dL_law_1907 : decode cL_law 1907 = .ok (.iconst 2, 1) := by decide +kernel
theorem dL_law_1908 : decode cL_law 1908 = .ok (.iadd, 1) := by decide +kernel
theorem dL_law_1909 : decode cL_law 1909 = .ok (.iaload, 1) := by decide +kernel
theorem dL_law_1910 : decode cL_law 1910 = .ok (.aload_n 0, 1) := by decide +kernel
theorem dL_law_1911 : decode cL_law 1911 = .ok (.iload_n 3, 1) := by decide +kernel
theorem dL_law_1912 : decode cL_law 1912 = .ok (.iconst 3, 1) := by decide +kernel
theorem dL_law_1913 : decode cL_law 1913 = .ok (.iadd, 1) := by decide +kernel
theorem dL_law_1914 : decode cL_law 1914 = .ok (.iaload, 1) := by decide +kernel
theorem dL_law_1915 : decode cL_law 1915 = .ok (.invokevirtual 199, 3) := by decide +kernel
theorem dL_law_1918 : decode cL_law 1918 = .ok (.pop, 1) := by decide +kernel
theorem dL_law_1919 : decode cL_law 1919 = .ok (.aload_n 2, 1) := by decide +kernel
theorem dL_law_1920 : decode cL_law 1920 = .ok (.aload_n 0, 1) := by decide +kernel
theorem dL_law_1921 : decode cL_law 1921 = .ok (.iload_n 3, 1) := by decide +kernel
theorem dL_law_1922 : decode cL_law 1922 = .ok (.iconst 1, 1) := by decide +kernel
theorem dL_law_1923 : decode cL_law 1923 = .ok (.iadd, 1) := by decide +kernel
theorem dL_law_1924 : decode cL_law 1924 = .ok (.iaload, 1) := by decide +kernel
theorem dL_law_1925 : decode cL_law 1925 = .ok (.aload_n 0, 1) := by decide +kernel
theorem dL_law_1926 : decode cL_law 1926 = .ok (.iload_n 3, 1) := by decide +kernel
theorem dL_law_1927 : decode cL_law 1927 = .ok (.iconst 2, 1) := by decide +kernel
theorem dL_law_1928 : decode cL_law 1928 = .ok (.iadd, 1) := by decide +kernel
theorem dL_law_1929 : decode cL_law 1929 = .ok (.iaload, 1) := by decide +kernel
theorem dL_law_1930 : decode cL_law 1930 = .ok (.aload_n 0, 1) := by decide +kernel
theorem dL_law_1931 : decode cL_law 1931 = .ok (.iload_n 3, 1) := by decide +kernel
theorem dL_law_1932 : decode cL_law 1932 = .ok (.iconst 3, 1) := by decide +kernel
theorem dL_law_1933 : decode cL_law 1933 = .ok (.iadd, 1) := by decide +kernel
theorem dL_law_1934 : decode cL_law 1934 = .ok (.iaload, 1) := by decide +kernel
theorem dL_law_1935 : decode cL_law 1935 = .ok (.invokevirtual 202, 3) := by decide +kernel
theorem dL_law_1938 : decode cL_law 1938 = .ok (.pop, 1) := by decide +kernel
theorem dL_law_1939 : decode cL_law 1939 = .ok (.goto 472, 3) := by decide +kernel
set_option maxHeartbeats 4000000 in
set_option maxRecDepth 100000 in
theorem lawc_45 {p : Program} {l : Launch} {e : Env} {s : State} {m : MethodId} {below : List Frame} {meth : Method} {c : Code} {b L : Nat} {xs : Nat → Int32} {D : va_G} {cy : Nat → ClassId} {g1 g2 : Nat → Nat} (X : LX p s m meth c b L xs D cy g1 g2) (hL : L ≤ 3072) {i : Int32} (hi : (0 : Int) ≤ i.toInt ∧ i.toInt + 6 ≤ (L : Int)) (hnext : (∀ (σ8 σ9 : ST) (H : Heap) (locs : List Loc) (ls : Array Slot), J8 σ8 → J9 (σ9 9) → DKA (σ9 9) → KP σ8 (σ9 9) → va_P D clz (WD8 cy g1 σ8) H → va_P D clz (WD9 cy g2 σ9) H → va_S (lawA s) s.heap H locs → lv_has ls 4 [(3, .int i), (2, .ref (g2 60)), (1, .ref (gO g1 17)), (0, .ref b)] → W p l e room_1 s m #[Value.ref b] below meth c H locs 200 700000 (lw_Z below #[Value.ref b] s) (F0 m 2411 ls []))) (σ8 σ9 : ST) (H : Heap) (locs : List Loc) (ls : Array Slot) (hJ8 : J8 σ8) (hJ9 : J9 (σ9 9)) (hDK : DKA (σ9 9)) (hR : KP σ8 (σ9 9)) (hP8 : va_P D clz (WD8 cy g1 σ8) H) (hP9 : va_P D clz (WD9 cy g2 σ9) H) (hS : va_S (lawA s) s.heap H locs) (hl : lv_has ls 4 [(3, .int i), (2, .ref (g2 60)), (1, .ref (gO g1 17)), (0, .ref b)]) : W p l e room_1 s m #[Value.ref b] below meth c H locs 200 700000 (lw_Z below #[Value.ref b] s) (F0 m 1899 ls []) := by
  obtain ⟨⟨hx, hb, hr, hml, hown0, hts0, hX, hbl, hlocks, hgv⟩, hK, hDD, hC8, hC9⟩ := X
  have hown : s.vm.findClass RL = some m.cls := hown0
  have hts : ∀ w ∈ lw_g, w.before #[Value.ref b] s = true := fun w h => hts0 w (lw_gt h)
  have hbA : ¬ lawA s b := Nat.not_le.mpr hbl
  have hA8 := A8_law hDD
  have hA9 := A9_law hDD
  have hD8 : ∀ τ : ST, va_D (A8 cy g1 s.heap.size) (WD8 cy g1 τ) := fun τ => by rw [hA8]; exact map_D WD8_m (D_l hDD)
  have hD9 : ∀ τ : ST, va_D (A9 cy g2 s.heap.size) (WD9 cy g2 τ) := fun τ => by rw [hA9]; exact map_D WD9_m (D_r hDD)
  rw [← hA8] at hC8
  rw [← hA9] at hC9
  refine lv_aload_n hx hb dL_law_1899 rfl (lv_at hl 2 rfl) ?_
  refine lv_aload_n hx hb dL_law_1900 rfl (lv_at hl 3 rfl) ?_
  refine lv_iload_n hx hb dL_law_1901 rfl (lv_at hl 0 rfl) ?_
  refine lv_iconst (v := 1) hx hb dL_law_1902 (by decide) ?_
  refine lv_iadd hx hb dL_law_1903 ?_
  refine lv_topi (fun x1 ex1 => ?_)
  have t2 := addO ex1 (by have f0 := hi; have f1 := hL; have z1 : (1 : Int32).toInt = 1 := (by decide); omega)
  refine va_sld hx hb hX hbl hbA hS (vpo (by have f0 := t2; have f1 := hi; have f2 := hL; have g0 := rg32 x1; have z1 : (1 : Int32).toInt = 1 := (by decide); omega)) dL_law_1904 ?_
  refine lv_topi (fun x3 ex3 => ?_)
  refine lv_aload_n hx hb dL_law_1905 rfl (lv_at hl 3 rfl) ?_
  refine lv_iload_n hx hb dL_law_1906 rfl (lv_at hl 0 rfl) ?_
  refine lv_iconst (v := 2) hx hb dL_law_1907 (by decide) ?_
  refine lv_iadd hx hb dL_law_1908 ?_
  refine lv_topi (fun x4 ex4 => ?_)
  have t5 := addO ex4 (by have f0 := hi; have f1 := hL; have f2 := t2; have z1 : (1 : Int32).toInt = 1 := (by decide); have z2 : (2 : Int32).toInt = 2 := (by decide); omega)
  refine va_sld hx hb hX hbl hbA hS (vpo (by have f0 := t5; have f1 := hi; have f2 := hL; have f3 := t2; have g0 := rg32 x4; have z1 : (1 : Int32).toInt = 1 := (by decide); have z2 : (2 : Int32).toInt = 2 := (by decide); omega)) dL_law_1909 ?_
  refine lv_topi (fun x6 ex6 => ?_)
  refine lv_aload_n hx hb dL_law_1910 rfl (lv_at hl 3 rfl) ?_
  refine lv_iload_n hx hb dL_law_1911 rfl (lv_at hl 0 rfl) ?_
  refine lv_iconst (v := 3) hx hb dL_law_1912 (by decide) ?_
  refine lv_iadd hx hb dL_law_1913 ?_
  refine lv_topi (fun x7 ex7 => ?_)
  have t8 := addO ex7 (by have f0 := hi; have f1 := hL; have f2 := t2; have f3 := t5; have z1 : (1 : Int32).toInt = 1 := (by decide); have z2 : (2 : Int32).toInt = 2 := (by decide); have z3 : (3 : Int32).toInt = 3 := (by decide); omega)
  refine va_sld hx hb hX hbl hbA hS (vpo (by have f0 := t8; have f1 := hi; have f2 := hL; have f3 := t2; have f4 := t5; have g0 := rg32 x7; have z1 : (1 : Int32).toInt = 1 := (by decide); have z2 : (2 : Int32).toInt = 2 := (by decide); have z3 : (3 : Int32).toInt = 3 := (by decide); omega)) dL_law_1914 ?_
  refine lv_topi (fun x9 ex9 => ?_)
  have hSx : va_S (A8 cy g1 s.heap.size) s.heap H locs := by rw [hA8]; exact hS
  refine va_calli (va_runV (As := [.int x3, .int x6, .int x9]) (rest := []) ⟨hx, hb, hml, hown, hts⟩ (m_X8_train l D cy g1 σ8 x3 x6 x9 _ hJ8) (cwV 3 hts (gd_V q763 q764 q765 q125 q766) rfl rfl rfl (by decide +kernel) ⟨Nat.le_of_ble_eq_true rfl, Nat.le_of_ble_eq_true rfl⟩) (pv8 hP8 hK hD8 hC8 hSx (rv8_8 hK hP8)) rfl rfl hl.1 rfl (lv_room (Nat.le_of_ble_eq_true rfl)) dL_law_1915 ⟨Nat.le_of_ble_eq_true rfl, Nat.le_of_ble_eq_true rfl⟩) hSx (fun q _ h => up8 hSx q h) (up8 hSx) (fun r10 υ11 tS H1 locs ht hvm hw12 hB hz1 hk1 hSy => ?_)
  have hP8 : va_P D clz (WD8 cy g1 υ11) H1 := by rw [← ht]; exact hB
  have hP9 := kp9 hDD hP9 hk1
  have hS : va_S (lawA s) s.heap H1 locs := by rw [← hA8]; exact hSy
  clear hB hz1 hk1 hvm ht hSx hSy
  generalize H1 = H at hP8 hP9 hS ⊢
  have hJ13 : J8 υ11 := hw12.2.1
  have hR14 : KP υ11 (σ9 9) := KP.fr8 hR (show Fr (fO [0, 1, 2, 3, 4]) σ8 υ11 from hw12.1) (by decide)
  refine lv_pop hx hb dL_law_1918 rfl ?_
  refine lv_aload_n hx hb dL_law_1919 rfl (lv_at hl 1 rfl) ?_
  refine lv_aload_n hx hb dL_law_1920 rfl (lv_at hl 3 rfl) ?_
  refine lv_iload_n hx hb dL_law_1921 rfl (lv_at hl 0 rfl) ?_
  refine lv_iconst (v := 1) hx hb dL_law_1922 (by decide) ?_
  refine lv_iadd hx hb dL_law_1923 ?_
  refine lv_topi (fun x15 ex15 => ?_)
  have t16 := addO ex15 (by have f0 := hi; have f1 := hL; have f2 := t2; have f3 := t5; have f4 := t8; have z1 : (1 : Int32).toInt = 1 := (by decide); have z2 : (2 : Int32).toInt = 2 := (by decide); have z3 : (3 : Int32).toInt = 3 := (by decide); omega)
  refine va_sld hx hb hX hbl hbA hS (vpo (by have f0 := t16; have f1 := hi; have f2 := hL; have f3 := t2; have f4 := t5; have f5 := t8; have g0 := rg32 x15; have z1 : (1 : Int32).toInt = 1 := (by decide); have z2 : (2 : Int32).toInt = 2 := (by decide); have z3 : (3 : Int32).toInt = 3 := (by decide); omega)) dL_law_1924 ?_
  refine lv_topi (fun x17 ex17 => ?_)
  refine lv_aload_n hx hb dL_law_1925 rfl (lv_at hl 3 rfl) ?_
  refine lv_iload_n hx hb dL_law_1926 rfl (lv_at hl 0 rfl) ?_
  refine lv_iconst (v := 2) hx hb dL_law_1927 (by decide) ?_
  refine lv_iadd hx hb dL_law_1928 ?_
  refine lv_topi (fun x18 ex18 => ?_)
  have t19 := addO ex18 (by have f0 := hi; have f1 := hL; have f2 := t2; have f3 := t5; have f4 := t8; have f5 := t16; have z1 : (1 : Int32).toInt = 1 := (by decide); have z2 : (2 : Int32).toInt = 2 := (by decide); have z3 : (3 : Int32).toInt = 3 := (by decide); omega)
  refine va_sld hx hb hX hbl hbA hS (vpo (by have f0 := t19; have f1 := hi; have f2 := hL; have f3 := t2; have f4 := t5; have f5 := t8; have f6 := t16; have g0 := rg32 x18; have z1 : (1 : Int32).toInt = 1 := (by decide); have z2 : (2 : Int32).toInt = 2 := (by decide); have z3 : (3 : Int32).toInt = 3 := (by decide); omega)) dL_law_1929 ?_
  refine lv_topi (fun x20 ex20 => ?_)
  refine lv_aload_n hx hb dL_law_1930 rfl (lv_at hl 3 rfl) ?_
  refine lv_iload_n hx hb dL_law_1931 rfl (lv_at hl 0 rfl) ?_
  refine lv_iconst (v := 3) hx hb dL_law_1932 (by decide) ?_
  refine lv_iadd hx hb dL_law_1933 ?_
  refine lv_topi (fun x21 ex21 => ?_)
  have t22 := addO ex21 (by have f0 := hi; have f1 := hL; have f2 := t2; have f3 := t5; have f4 := t8; have f5 := t16; have f6 := t19; have z1 : (1 : Int32).toInt = 1 := (by decide); have z2 : (2 : Int32).toInt = 2 := (by decide); have z3 : (3 : Int32).toInt = 3 := (by decide); omega)
  refine va_sld hx hb hX hbl hbA hS (vpo (by have f0 := t22; have f1 := hi; have f2 := hL; have f3 := t2; have f4 := t5; have f5 := t8; have f6 := t16; have f7 := t19; have g0 := rg32 x21; have z1 : (1 : Int32).toInt = 1 := (by decide); have z2 : (2 : Int32).toInt = 2 := (by decide); have z3 : (3 : Int32).toInt = 3 := (by decide); omega)) dL_law_1934 ?_
  refine lv_topi (fun x23 ex23 => ?_)
  have hSx : va_S (A9 cy g2 s.heap.size) s.heap H locs := by rw [hA9]; exact hS
  refine va_calli (va_runV (As := [.int x17, .int x20, .int x23]) (rest := []) ⟨hx, hb, hml, hown, hts⟩ (m_X9_train l D cy g2 σ9 x17 x20 x23 _ hJ9 hDK) (cwV 3 hts (gd_V q2102 q2103 q2104 q134 q2105) rfl rfl rfl (by decide +kernel) ⟨Nat.le_of_ble_eq_true rfl, Nat.le_of_ble_eq_true rfl⟩) (pv9 hP9 hK hD9 hC9 hSx (va_recv hK hP9 (ci := 9) (q0 := 0) rfl rfl)) rfl rfl hl.1 rfl (lv_room (Nat.le_of_ble_eq_true rfl)) dL_law_1935 ⟨Nat.le_of_ble_eq_true rfl, Nat.le_of_ble_eq_true rfl⟩) hSx (fun q _ h => up9 hSx q h) (up9 hSx) (fun r24 υ25 tS H1 locs ht hvm hw26 hB hz1 hk1 hSy => ?_)
  have hP9 : va_P D clz (WD9 cy g2 υ25) H1 := by rw [← ht]; exact hB
  have hP8 := kp8 hDD hP8 hk1
  have hS : va_S (lawA s) s.heap H1 locs := by rw [← hA9]; exact hSy
  clear hB hz1 hk1 hvm ht hSx hSy
  generalize H1 = H at hP8 hP9 hS ⊢
  have hF27 : Fr (fL [0, 19]) σ9 υ25 := hw26.1
  have hJ28 : J9 (υ25 9) := hw26.2.1
  have hK29 : DKA (υ25 9) := hw26.2.2.1
  have hR30 : KP υ11 (υ25 9) := KP.fr9 hR14 (hF27 9 22 rfl).2.2.1
  refine lv_pop hx hb dL_law_1938 rfl ?_
  refine lv_goto (tgt := 2411) hx hb dL_law_1939 (by decide) ?_
  exact hnext _ _ _ _ _ hJ13 hJ28 hK29 hR30 hP8 hP9 hS hl

theorem q772 : Cond.methodLink RL 203 yX8_tune ∈ lw_g := lw_gm (List.mem_of_getElem? (i := 772) (by decide +kernel)) rfl
theorem q773 : Cond.instanceMethod yX8_tune ∈ lw_g := lw_gm (List.mem_of_getElem? (i := 773) (by decide +kernel)) rfl
theorem q774 : Cond.selects RX8 yX8_tune yX8_tune ∈ lw_g := lw_gm (List.mem_of_getElem? (i := 774) (by decide +kernel)) rfl
theorem q2112 : Cond.methodLink RL 206 yX9_tune ∈ lw_g := lw_gm (List.mem_of_getElem? (i := 2112) (by decide +kernel)) rfl
theorem q2113 : Cond.instanceMethod yX9_tune ∈ lw_g := lw_gm (List.mem_of_getElem? (i := 2113) (by decide +kernel)) rfl
theorem q2114 : Cond.selects RX9 yX9_tune yX9_tune ∈ lw_g := lw_gm (List.mem_of_getElem? (i := 2114) (by decide +kernel)) rfl
theorem dL_law_1942 : decode cL_law 1942 = .ok (.aload_n 1, 1) := by decide +kernel
theorem dL_law_1943 : decode cL_law 1943 = .ok (.aload_n 0, 1) := by decide +kernel
theorem dL_law_1944 : decode cL_law 1944 = .ok (.iload_n 3, 1) := by decide +kernel
theorem dL_law_1945 : decode cL_law 1945 = .ok (.iconst 1, 1) := by decide +kernel
theorem dL_law_1946 : decode cL_law 1946 = .ok (.iadd, 1) := by decide +kernel
theorem dL_law_1947 : decode cL_law 1947 = .ok (.iaload, 1) := by decide +kernel
theorem dL_law_1948 : decode cL_law 1948 = .ok (.aload_n 0, 1) := by decide +kernel
theorem dL_law_1949 : decode cL_law 1949 = .ok (.iload_n 3, 1) := by decide +kernel
theorem dL_law_1950 : decode cL_law 1950 = .ok (.iconst 2, 1) := by decide +kernel
theorem dL_law_1951 : decode cL_law 1951 = .ok (.iadd, 1) := by decide +kernel
theorem dL_law_1952 : decode cL_law 1952 = .ok (.iaload, 1) := by decide +kernel
theorem dL_law_1953 : decode cL_law 1953 = .ok (.invokevirtual 203, 3) := by decide +kernel
theorem dL_law_1956 : decode cL_law 1956 = .ok (.pop, 1) := by decide +kernel
theorem dL_law_1957 : decode cL_law 1957 = .ok (.aload_n 2, 1) := by decide +kernel
theorem dL_law_1958 : decode cL_law 1958 = .ok (.aload_n 0, 1) := by decide +kernel
theorem dL_law_1959 : decode cL_law 1959 = .ok (.iload_n 3, 1) := by decide +kernel
theorem dL_law_1960 : decode cL_law 1960 = .ok (.iconst 1, 1) := by decide +kernel
theorem dL_law_1961 : decode cL_law 1961 = .ok (.iadd, 1) := by decide +kernel
theorem dL_law_1962 : decode cL_law 1962 = .ok (.iaload, 1) := by decide +kernel
theorem dL_law_1963 : decode cL_law 1963 = .ok (.aload_n 0, 1) := by decide +kernel
theorem dL_law_1964 : decode cL_law 1964 = .ok (.iload_n 3, 1) := by decide +kernel
theorem dL_law_1965 : decode cL_law 1965 = .ok (.iconst 2, 1) := by decide +kernel
theorem dL_law_1966 : decode cL_law 1966 = .ok (.iadd, 1) := by decide +kernel
theorem dL_law_1967 : decode cL_law 1967 = .ok (.iaload, 1) := by decide +kernel
theorem dL_law_1968 : decode cL_law 1968 = .ok (.invokevirtual 206, 3) := by decide +kernel
theorem dL_law_1971 : decode cL_law 1971 = .ok (.pop, 1) := by decide +kernel
theorem dL_law_1972 : decode cL_law 1972 = .ok (.goto 439, 3) := by decide +kernel
set_option maxHeartbeats 4000000 in
set_option maxRecDepth 100000 in
theorem lawc_46 {p : Program} {l : Launch} {e : Env} {s : State} {m : MethodId} {below : List Frame} {meth : Method} {c : Code} {b L : Nat} {xs : Nat → Int32} {D : va_G} {cy : Nat → ClassId} {g1 g2 : Nat → Nat} (X : LX p s m meth c b L xs D cy g1 g2) (hL : L ≤ 3072) {i : Int32} (hi : (0 : Int) ≤ i.toInt ∧ i.toInt + 6 ≤ (L : Int)) (hnext : (∀ (σ8 σ9 : ST) (H : Heap) (locs : List Loc) (ls : Array Slot), J8 σ8 → J9 (σ9 9) → DKA (σ9 9) → KP σ8 (σ9 9) → va_P D clz (WD8 cy g1 σ8) H → va_P D clz (WD9 cy g2 σ9) H → va_S (lawA s) s.heap H locs → lv_has ls 4 [(3, .int i), (2, .ref (g2 60)), (1, .ref (gO g1 17)), (0, .ref b)] → W p l e room_1 s m #[Value.ref b] below meth c H locs 200 700000 (lw_Z below #[Value.ref b] s) (F0 m 2411 ls []))) (σ8 σ9 : ST) (H : Heap) (locs : List Loc) (ls : Array Slot) (hJ8 : J8 σ8) (hJ9 : J9 (σ9 9)) (hDK : DKA (σ9 9)) (hR : KP σ8 (σ9 9)) (hP8 : va_P D clz (WD8 cy g1 σ8) H) (hP9 : va_P D clz (WD9 cy g2 σ9) H) (hS : va_S (lawA s) s.heap H locs) (hl : lv_has ls 4 [(3, .int i), (2, .ref (g2 60)), (1, .ref (gO g1 17)), (0, .ref b)]) : W p l e room_1 s m #[Value.ref b] below meth c H locs 200 700000 (lw_Z below #[Value.ref b] s) (F0 m 1942 ls []) := by
  obtain ⟨⟨hx, hb, hr, hml, hown0, hts0, hX, hbl, hlocks, hgv⟩, hK, hDD, hC8, hC9⟩ := X
  have hown : s.vm.findClass RL = some m.cls := hown0
  have hts : ∀ w ∈ lw_g, w.before #[Value.ref b] s = true := fun w h => hts0 w (lw_gt h)
  have hbA : ¬ lawA s b := Nat.not_le.mpr hbl
  have hA8 := A8_law hDD
  have hA9 := A9_law hDD
  have hD8 : ∀ τ : ST, va_D (A8 cy g1 s.heap.size) (WD8 cy g1 τ) := fun τ => by rw [hA8]; exact map_D WD8_m (D_l hDD)
  have hD9 : ∀ τ : ST, va_D (A9 cy g2 s.heap.size) (WD9 cy g2 τ) := fun τ => by rw [hA9]; exact map_D WD9_m (D_r hDD)
  rw [← hA8] at hC8
  rw [← hA9] at hC9
  refine lv_aload_n hx hb dL_law_1942 rfl (lv_at hl 2 rfl) ?_
  refine lv_aload_n hx hb dL_law_1943 rfl (lv_at hl 3 rfl) ?_
  refine lv_iload_n hx hb dL_law_1944 rfl (lv_at hl 0 rfl) ?_
  refine lv_iconst (v := 1) hx hb dL_law_1945 (by decide) ?_
  refine lv_iadd hx hb dL_law_1946 ?_
  refine lv_topi (fun x1 ex1 => ?_)
  have t2 := addO ex1 (by have f0 := hi; have f1 := hL; have z1 : (1 : Int32).toInt = 1 := (by decide); omega)
  refine va_sld hx hb hX hbl hbA hS (vpo (by have f0 := t2; have f1 := hi; have f2 := hL; have g0 := rg32 x1; have z1 : (1 : Int32).toInt = 1 := (by decide); omega)) dL_law_1947 ?_
  refine lv_topi (fun x3 ex3 => ?_)
  refine lv_aload_n hx hb dL_law_1948 rfl (lv_at hl 3 rfl) ?_
  refine lv_iload_n hx hb dL_law_1949 rfl (lv_at hl 0 rfl) ?_
  refine lv_iconst (v := 2) hx hb dL_law_1950 (by decide) ?_
  refine lv_iadd hx hb dL_law_1951 ?_
  refine lv_topi (fun x4 ex4 => ?_)
  have t5 := addO ex4 (by have f0 := hi; have f1 := hL; have f2 := t2; have z1 : (1 : Int32).toInt = 1 := (by decide); have z2 : (2 : Int32).toInt = 2 := (by decide); omega)
  refine va_sld hx hb hX hbl hbA hS (vpo (by have f0 := t5; have f1 := hi; have f2 := hL; have f3 := t2; have g0 := rg32 x4; have z1 : (1 : Int32).toInt = 1 := (by decide); have z2 : (2 : Int32).toInt = 2 := (by decide); omega)) dL_law_1952 ?_
  refine lv_topi (fun x6 ex6 => ?_)
  have hSx : va_S (A8 cy g1 s.heap.size) s.heap H locs := by rw [hA8]; exact hS
  refine va_calli (va_runV (As := [.int x3, .int x6]) (rest := []) ⟨hx, hb, hml, hown, hts⟩ (m_X8_tune l D cy g1 σ8 x3 x6 _ hJ8) (cwV 2 hts (gd_V q772 q773 q774 q125 q775) rfl rfl rfl (by decide +kernel) ⟨Nat.le_of_ble_eq_true rfl, Nat.le_of_ble_eq_true rfl⟩) (pv8 hP8 hK hD8 hC8 hSx (rv8_8 hK hP8)) rfl rfl hl.1 rfl (lv_room (Nat.le_of_ble_eq_true rfl)) dL_law_1953 ⟨Nat.le_of_ble_eq_true rfl, Nat.le_of_ble_eq_true rfl⟩) hSx (fun q _ h => up8 hSx q h) (up8 hSx) (fun r7 υ8 tS H1 locs ht hvm hw9 hB hz1 hk1 hSy => ?_)
  have hP8 : va_P D clz (WD8 cy g1 υ8) H1 := by rw [← ht]; exact hB
  have hP9 := kp9 hDD hP9 hk1
  have hS : va_S (lawA s) s.heap H1 locs := by rw [← hA8]; exact hSy
  clear hB hz1 hk1 hvm ht hSx hSy
  generalize H1 = H at hP8 hP9 hS ⊢
  have hJ10 : J8 υ8 := hw9.2.1
  have hR11 : KP υ8 (σ9 9) := KP.fr8 hR (show Fr (fO [0, 1, 2, 3, 4]) σ8 υ8 from hw9.1) (by decide)
  refine lv_pop hx hb dL_law_1956 rfl ?_
  refine lv_aload_n hx hb dL_law_1957 rfl (lv_at hl 1 rfl) ?_
  refine lv_aload_n hx hb dL_law_1958 rfl (lv_at hl 3 rfl) ?_
  refine lv_iload_n hx hb dL_law_1959 rfl (lv_at hl 0 rfl) ?_
  refine lv_iconst (v := 1) hx hb dL_law_1960 (by decide) ?_
  refine lv_iadd hx hb dL_law_1961 ?_
  refine lv_topi (fun x12 ex12 => ?_)
  have t13 := addO ex12 (by have f0 := hi; have f1 := hL; have f2 := t2; have f3 := t5; have z1 : (1 : Int32).toInt = 1 := (by decide); have z2 : (2 : Int32).toInt = 2 := (by decide); omega)
  refine va_sld hx hb hX hbl hbA hS (vpo (by have f0 := t13; have f1 := hi; have f2 := hL; have f3 := t2; have f4 := t5; have g0 := rg32 x12; have z1 : (1 : Int32).toInt = 1 := (by decide); have z2 : (2 : Int32).toInt = 2 := (by decide); omega)) dL_law_1962 ?_
  refine lv_topi (fun x14 ex14 => ?_)
  refine lv_aload_n hx hb dL_law_1963 rfl (lv_at hl 3 rfl) ?_
  refine lv_iload_n hx hb dL_law_1964 rfl (lv_at hl 0 rfl) ?_
  refine lv_iconst (v := 2) hx hb dL_law_1965 (by decide) ?_
  refine lv_iadd hx hb dL_law_1966 ?_
  refine lv_topi (fun x15 ex15 => ?_)
  have t16 := addO ex15 (by have f0 := hi; have f1 := hL; have f2 := t2; have f3 := t5; have f4 := t13; have z1 : (1 : Int32).toInt = 1 := (by decide); have z2 : (2 : Int32).toInt = 2 := (by decide); omega)
  refine va_sld hx hb hX hbl hbA hS (vpo (by have f0 := t16; have f1 := hi; have f2 := hL; have f3 := t2; have f4 := t5; have f5 := t13; have g0 := rg32 x15; have z1 : (1 : Int32).toInt = 1 := (by decide); have z2 : (2 : Int32).toInt = 2 := (by decide); omega)) dL_law_1967 ?_
  refine lv_topi (fun x17 ex17 => ?_)
  have hSx : va_S (A9 cy g2 s.heap.size) s.heap H locs := by rw [hA9]; exact hS
  refine va_calli (va_runV (As := [.int x14, .int x17]) (rest := []) ⟨hx, hb, hml, hown, hts⟩ (m_X9_tune l D cy g2 σ9 x14 x17 _ hJ9 hDK) (cwV 2 hts (gd_V q2112 q2113 q2114 q134 q2115) rfl rfl rfl (by decide +kernel) ⟨Nat.le_of_ble_eq_true rfl, Nat.le_of_ble_eq_true rfl⟩) (pv9 hP9 hK hD9 hC9 hSx (va_recv hK hP9 (ci := 9) (q0 := 0) rfl rfl)) rfl rfl hl.1 rfl (lv_room (Nat.le_of_ble_eq_true rfl)) dL_law_1968 ⟨Nat.le_of_ble_eq_true rfl, Nat.le_of_ble_eq_true rfl⟩) hSx (fun q _ h => up9 hSx q h) (up9 hSx) (fun r18 υ19 tS H1 locs ht hvm hw20 hB hz1 hk1 hSy => ?_)
  have hP9 : va_P D clz (WD9 cy g2 υ19) H1 := by rw [← ht]; exact hB
  have hP8 := kp8 hDD hP8 hk1
  have hS : va_S (lawA s) s.heap H1 locs := by rw [← hA9]; exact hSy
  clear hB hz1 hk1 hvm ht hSx hSy
  generalize H1 = H at hP8 hP9 hS ⊢
  have hF21 : Fr (fL [0, 18]) σ9 υ19 := hw20.1
  have hJ22 : J9 (υ19 9) := hw20.2.1
  have hK23 : DKA (υ19 9) := hw20.2.2.1
  have hR24 : KP υ8 (υ19 9) := KP.fr9 hR11 (hF21 9 22 rfl).2.2.1
  refine lv_pop hx hb dL_law_1971 rfl ?_
  refine lv_goto (tgt := 2411) hx hb dL_law_1972 (by decide) ?_
  exact hnext _ _ _ _ _ hJ10 hJ22 hK23 hR24 hP8 hP9 hS hl

theorem q778 : Cond.methodLink RL 207 yX8_pitch ∈ lw_g := lw_gm (List.mem_of_getElem? (i := 778) (by decide +kernel)) rfl
theorem q779 : Cond.instanceMethod yX8_pitch ∈ lw_g := lw_gm (List.mem_of_getElem? (i := 779) (by decide +kernel)) rfl
theorem q780 : Cond.selects RX8 yX8_pitch yX8_pitch ∈ lw_g := lw_gm (List.mem_of_getElem? (i := 780) (by decide +kernel)) rfl
theorem q2116 : Cond.methodLink RL 210 yX9_pitch ∈ lw_g := lw_gm (List.mem_of_getElem? (i := 2116) (by decide +kernel)) rfl
theorem q2117 : Cond.instanceMethod yX9_pitch ∈ lw_g := lw_gm (List.mem_of_getElem? (i := 2117) (by decide +kernel)) rfl
theorem q2118 : Cond.selects RX9 yX9_pitch yX9_pitch ∈ lw_g := lw_gm (List.mem_of_getElem? (i := 2118) (by decide +kernel)) rfl
theorem dL_law_1975 : decode cL_law 1975 = .ok (.aload_n 1, 1) := by decide +kernel
theorem dL_law_1976 : decode cL_law 1976 = .ok (.aload_n 0, 1) := by decide +kernel
theorem dL_law_1977 : decode cL_law 1977 = .ok (.iload_n 3, 1) := by decide +kernel
theorem dL_law_1978 : decode cL_law 1978 = .ok (.iconst 1, 1) := by decide +kernel
theorem dL_law_1979 : decode cL_law 1979 = .ok (.iadd, 1) := by decide +kernel
theorem dL_law_1980 : decode cL_law 1980 = .ok (.iaload, 1) := by decide +kernel
theorem dL_law_1981 : decode cL_law 1981 = .ok (.aload_n 0, 1) := by decide +kernel
theorem dL_law_1982 : decode cL_law 1982 = .ok (.iload_n 3, 1) := by decide +kernel
theorem dL_law_1983 : decode cL_law 1983 = .ok (.iconst 2, 1) := by decide +kernel
theorem dL_law_1984 : decode cL_law 1984 = .ok (.iadd, 1) := by decide +kernel
theorem dL_law_1985 : decode cL_law 1985 = .ok (.iaload, 1) := by decide +kernel
theorem dL_law_1986 : decode cL_law 1986 = .ok (.aload_n 0, 1) := by decide +kernel
theorem dL_law_1987 : decode cL_law 1987 = .ok (.iload_n 3, 1) := by decide +kernel
theorem dL_law_1988 : decode cL_law 1988 = .ok (.iconst 3, 1) := by decide +kernel
theorem dL_law_1989 : decode cL_law 1989 = .ok (.iadd, 1) := by decide +kernel
theorem dL_law_1990 : decode cL_law 1990 = .ok (.iaload, 1) := by decide +kernel
theorem dL_law_1991 : decode cL_law 1991 = .ok (.invokevirtual 207, 3) := by decide +kernel
theorem dL_law_1994 : decode cL_law 1994 = .ok (.pop, 1) := by decide +kernel
theorem dL_law_1995 : decode cL_law 1995 = .ok (.aload_n 2, 1) := by decide +kernel
theorem dL_law_1996 : decode cL_law 1996 = .ok (.aload_n 0, 1) := by decide +kernel
theorem dL_law_1997 : decode cL_law 1997 = .ok (.iload_n 3, 1) := by decide +kernel
theorem dL_law_1998 : decode cL_law 1998 = .ok (.iconst 1, 1) := by decide +kernel
theorem dL_law_1999 : decode cL_law 1999 = .ok (.iadd, 1) := by decide +kernel
theorem dL_law_2000 : decode cL_law 2000 = .ok (.iaload, 1) := by decide +kernel
theorem dL_law_2001 : decode cL_law 2001 = .ok (.aload_n 0, 1) := by decide +kernel
theorem dL_law_2002 : decode cL_law 2002 = .ok (.iload_n 3, 1) := by decide +kernel
theorem dL_law_2003 : decode cL_law 2003 = .ok (.iconst 2, 1) := by decide +kernel
theorem dL_law_2004 : decode cL_law 2004 = .ok (.iadd, 1) := by decide +kernel
theorem dL_law_2005 : decode cL_law 2005 = .ok (.iaload, 1) := by decide +kernel
theorem dL_law_2006 : decode cL_law 2006 = .ok (.aload_n 0, 1) := by decide +kernel
theorem dL_law_2007 : decode cL_law 2007 = .ok (.iload_n 3, 1) := by decide +kernel
theorem dL_law_2008 : decode cL_law 2008 = .ok (.iconst 3, 1) := by decide +kernel
theorem dL_law_2009 : decode cL_law 2009 = .ok (.iadd, 1) := by decide +kernel
theorem dL_law_2010 : decode cL_law 2010 = .ok (.iaload, 1) := by decide +kernel
theorem dL_law_2011 : decode cL_law 2011 = .ok (.invokevirtual 210, 3) := by decide +kernel
theorem dL_law_2014 : decode cL_law 2014 = .ok (.pop, 1) := by decide +kernel
theorem dL_law_2015 : decode cL_law 2015 = .ok (.goto 396, 3) := by decide +kernel
set_option maxHeartbeats 4000000 in
set_option maxRecDepth 100000 in
theorem lawc_47 {p : Program} {l : Launch} {e : Env} {s : State} {m : MethodId} {below : List Frame} {meth : Method} {c : Code} {b L : Nat} {xs : Nat → Int32} {D : va_G} {cy : Nat → ClassId} {g1 g2 : Nat → Nat} (X : LX p s m meth c b L xs D cy g1 g2) (hL : L ≤ 3072) {i : Int32} (hi : (0 : Int) ≤ i.toInt ∧ i.toInt + 6 ≤ (L : Int)) (hnext : (∀ (σ8 σ9 : ST) (H : Heap) (locs : List Loc) (ls : Array Slot), J8 σ8 → J9 (σ9 9) → DKA (σ9 9) → KP σ8 (σ9 9) → va_P D clz (WD8 cy g1 σ8) H → va_P D clz (WD9 cy g2 σ9) H → va_S (lawA s) s.heap H locs → lv_has ls 4 [(3, .int i), (2, .ref (g2 60)), (1, .ref (gO g1 17)), (0, .ref b)] → W p l e room_1 s m #[Value.ref b] below meth c H locs 200 700000 (lw_Z below #[Value.ref b] s) (F0 m 2411 ls []))) (σ8 σ9 : ST) (H : Heap) (locs : List Loc) (ls : Array Slot) (hJ8 : J8 σ8) (hJ9 : J9 (σ9 9)) (hDK : DKA (σ9 9)) (hR : KP σ8 (σ9 9)) (hP8 : va_P D clz (WD8 cy g1 σ8) H) (hP9 : va_P D clz (WD9 cy g2 σ9) H) (hS : va_S (lawA s) s.heap H locs) (hl : lv_has ls 4 [(3, .int i), (2, .ref (g2 60)), (1, .ref (gO g1 17)), (0, .ref b)]) : W p l e room_1 s m #[Value.ref b] below meth c H locs 200 700000 (lw_Z below #[Value.ref b] s) (F0 m 1975 ls []) := by
  obtain ⟨⟨hx, hb, hr, hml, hown0, hts0, hX, hbl, hlocks, hgv⟩, hK, hDD, hC8, hC9⟩ := X
  have hown : s.vm.findClass RL = some m.cls := hown0
  have hts : ∀ w ∈ lw_g, w.before #[Value.ref b] s = true := fun w h => hts0 w (lw_gt h)
  have hbA : ¬ lawA s b := Nat.not_le.mpr hbl
  have hA8 := A8_law hDD
  have hA9 := A9_law hDD
  have hD8 : ∀ τ : ST, va_D (A8 cy g1 s.heap.size) (WD8 cy g1 τ) := fun τ => by rw [hA8]; exact map_D WD8_m (D_l hDD)
  have hD9 : ∀ τ : ST, va_D (A9 cy g2 s.heap.size) (WD9 cy g2 τ) := fun τ => by rw [hA9]; exact map_D WD9_m (D_r hDD)
  rw [← hA8] at hC8
  rw [← hA9] at hC9
  refine lv_aload_n hx hb dL_law_1975 rfl (lv_at hl 2 rfl) ?_
  refine lv_aload_n hx hb dL_law_1976 rfl (lv_at hl 3 rfl) ?_
  refine lv_iload_n hx hb dL_law_1977 rfl (lv_at hl 0 rfl) ?_
  refine lv_iconst (v := 1) hx hb dL_law_1978 (by decide) ?_
  refine lv_iadd hx hb dL_law_1979 ?_
  refine lv_topi (fun x1 ex1 => ?_)
  have t2 := addO ex1 (by have f0 := hi; have f1 := hL; have z1 : (1 : Int32).toInt = 1 := (by decide); omega)
  refine va_sld hx hb hX hbl hbA hS (vpo (by have f0 := t2; have f1 := hi; have f2 := hL; have g0 := rg32 x1; have z1 : (1 : Int32).toInt = 1 := (by decide); omega)) dL_law_1980 ?_
  refine lv_topi (fun x3 ex3 => ?_)
  refine lv_aload_n hx hb dL_law_1981 rfl (lv_at hl 3 rfl) ?_
  refine lv_iload_n hx hb dL_law_1982 rfl (lv_at hl 0 rfl) ?_
  refine lv_iconst (v := 2) hx hb dL_law_1983 (by decide) ?_
  refine lv_iadd hx hb dL_law_1984 ?_
  refine lv_topi (fun x4 ex4 => ?_)
  have t5 := addO ex4 (by have f0 := hi; have f1 := hL; have f2 := t2; have z1 : (1 : Int32).toInt = 1 := (by decide); have z2 : (2 : Int32).toInt = 2 := (by decide); omega)
  refine va_sld hx hb hX hbl hbA hS (vpo (by have f0 := t5; have f1 := hi; have f2 := hL; have f3 := t2; have g0 := rg32 x4; have z1 : (1 : Int32).toInt = 1 := (by decide); have z2 : (2 : Int32).toInt = 2 := (by decide); omega)) dL_law_1985 ?_
  refine lv_topi (fun x6 ex6 => ?_)
  refine lv_aload_n hx hb dL_law_1986 rfl (lv_at hl 3 rfl) ?_
  refine lv_iload_n hx hb dL_law_1987 rfl (lv_at hl 0 rfl) ?_
  refine lv_iconst (v := 3) hx hb dL_law_1988 (by decide) ?_
  refine lv_iadd hx hb dL_law_1989 ?_
  refine lv_topi (fun x7 ex7 => ?_)
  have t8 := addO ex7 (by have f0 := hi; have f1 := hL; have f2 := t2; have f3 := t5; have z1 : (1 : Int32).toInt = 1 := (by decide); have z2 : (2 : Int32).toInt = 2 := (by decide); have z3 : (3 : Int32).toInt = 3 := (by decide); omega)
  refine va_sld hx hb hX hbl hbA hS (vpo (by have f0 := t8; have f1 := hi; have f2 := hL; have f3 := t2; have f4 := t5; have g0 := rg32 x7; have z1 : (1 : Int32).toInt = 1 := (by decide); have z2 : (2 : Int32).toInt = 2 := (by decide); have z3 : (3 : Int32).toInt = 3 := (by decide); omega)) dL_law_1990 ?_
  refine lv_topi (fun x9 ex9 => ?_)
  have hSx : va_S (A8 cy g1 s.heap.size) s.heap H locs := by rw [hA8]; exact hS
  refine va_calli (va_runV (As := [.int x3, .int x6, .int x9]) (rest := []) ⟨hx, hb, hml, hown, hts⟩ (m_X8_pitch l D cy g1 σ8 x3 x6 x9 _ hJ8) (cwV 3 hts (gd_V q778 q779 q780 q125 q781) rfl rfl rfl (by decide +kernel) ⟨Nat.le_of_ble_eq_true rfl, Nat.le_of_ble_eq_true rfl⟩) (pv8 hP8 hK hD8 hC8 hSx (rv8_8 hK hP8)) rfl rfl hl.1 rfl (lv_room (Nat.le_of_ble_eq_true rfl)) dL_law_1991 ⟨Nat.le_of_ble_eq_true rfl, Nat.le_of_ble_eq_true rfl⟩) hSx (fun q _ h => up8 hSx q h) (up8 hSx) (fun r10 υ11 tS H1 locs ht hvm hw12 hB hz1 hk1 hSy => ?_)
  have hP8 : va_P D clz (WD8 cy g1 υ11) H1 := by rw [← ht]; exact hB
  have hP9 := kp9 hDD hP9 hk1
  have hS : va_S (lawA s) s.heap H1 locs := by rw [← hA8]; exact hSy
  clear hB hz1 hk1 hvm ht hSx hSy
  generalize H1 = H at hP8 hP9 hS ⊢
  have hJ13 : J8 υ11 := hw12.2.1
  have hR14 : KP υ11 (σ9 9) := KP.fr8 hR (show Fr (fO [0, 1, 2, 3, 4]) σ8 υ11 from hw12.1) (by decide)
  refine lv_pop hx hb dL_law_1994 rfl ?_
  refine lv_aload_n hx hb dL_law_1995 rfl (lv_at hl 1 rfl) ?_
  refine lv_aload_n hx hb dL_law_1996 rfl (lv_at hl 3 rfl) ?_
  refine lv_iload_n hx hb dL_law_1997 rfl (lv_at hl 0 rfl) ?_
  refine lv_iconst (v := 1) hx hb dL_law_1998 (by decide) ?_
  refine lv_iadd hx hb dL_law_1999 ?_
  refine lv_topi (fun x15 ex15 => ?_)
  have t16 := addO ex15 (by have f0 := hi; have f1 := hL; have f2 := t2; have f3 := t5; have f4 := t8; have z1 : (1 : Int32).toInt = 1 := (by decide); have z2 : (2 : Int32).toInt = 2 := (by decide); have z3 : (3 : Int32).toInt = 3 := (by decide); omega)
  refine va_sld hx hb hX hbl hbA hS (vpo (by have f0 := t16; have f1 := hi; have f2 := hL; have f3 := t2; have f4 := t5; have f5 := t8; have g0 := rg32 x15; have z1 : (1 : Int32).toInt = 1 := (by decide); have z2 : (2 : Int32).toInt = 2 := (by decide); have z3 : (3 : Int32).toInt = 3 := (by decide); omega)) dL_law_2000 ?_
  refine lv_topi (fun x17 ex17 => ?_)
  refine lv_aload_n hx hb dL_law_2001 rfl (lv_at hl 3 rfl) ?_
  refine lv_iload_n hx hb dL_law_2002 rfl (lv_at hl 0 rfl) ?_
  refine lv_iconst (v := 2) hx hb dL_law_2003 (by decide) ?_
  refine lv_iadd hx hb dL_law_2004 ?_
  refine lv_topi (fun x18 ex18 => ?_)
  have t19 := addO ex18 (by have f0 := hi; have f1 := hL; have f2 := t2; have f3 := t5; have f4 := t8; have f5 := t16; have z1 : (1 : Int32).toInt = 1 := (by decide); have z2 : (2 : Int32).toInt = 2 := (by decide); have z3 : (3 : Int32).toInt = 3 := (by decide); omega)
  refine va_sld hx hb hX hbl hbA hS (vpo (by have f0 := t19; have f1 := hi; have f2 := hL; have f3 := t2; have f4 := t5; have f5 := t8; have f6 := t16; have g0 := rg32 x18; have z1 : (1 : Int32).toInt = 1 := (by decide); have z2 : (2 : Int32).toInt = 2 := (by decide); have z3 : (3 : Int32).toInt = 3 := (by decide); omega)) dL_law_2005 ?_
  refine lv_topi (fun x20 ex20 => ?_)
  refine lv_aload_n hx hb dL_law_2006 rfl (lv_at hl 3 rfl) ?_
  refine lv_iload_n hx hb dL_law_2007 rfl (lv_at hl 0 rfl) ?_
  refine lv_iconst (v := 3) hx hb dL_law_2008 (by decide) ?_
  refine lv_iadd hx hb dL_law_2009 ?_
  refine lv_topi (fun x21 ex21 => ?_)
  have t22 := addO ex21 (by have f0 := hi; have f1 := hL; have f2 := t2; have f3 := t5; have f4 := t8; have f5 := t16; have f6 := t19; have z1 : (1 : Int32).toInt = 1 := (by decide); have z2 : (2 : Int32).toInt = 2 := (by decide); have z3 : (3 : Int32).toInt = 3 := (by decide); omega)
  refine va_sld hx hb hX hbl hbA hS (vpo (by have f0 := t22; have f1 := hi; have f2 := hL; have f3 := t2; have f4 := t5; have f5 := t8; have f6 := t16; have f7 := t19; have g0 := rg32 x21; have z1 : (1 : Int32).toInt = 1 := (by decide); have z2 : (2 : Int32).toInt = 2 := (by decide); have z3 : (3 : Int32).toInt = 3 := (by decide); omega)) dL_law_2010 ?_
  refine lv_topi (fun x23 ex23 => ?_)
  have hSx : va_S (A9 cy g2 s.heap.size) s.heap H locs := by rw [hA9]; exact hS
  refine va_calli (va_runV (As := [.int x17, .int x20, .int x23]) (rest := []) ⟨hx, hb, hml, hown, hts⟩ (m_X9_pitch l D cy g2 σ9 x17 x20 x23 _ hJ9 ) (cwV 3 hts (gd_V q2116 q2117 q2118 q134 q2119) rfl rfl rfl (by decide +kernel) ⟨Nat.le_of_ble_eq_true rfl, Nat.le_of_ble_eq_true rfl⟩) (pv9 hP9 hK hD9 hC9 hSx (va_recv hK hP9 (ci := 9) (q0 := 0) rfl rfl)) rfl rfl hl.1 rfl (lv_room (Nat.le_of_ble_eq_true rfl)) dL_law_2011 ⟨Nat.le_of_ble_eq_true rfl, Nat.le_of_ble_eq_true rfl⟩) hSx (fun q _ h => up9 hSx q h) (up9 hSx) (fun r24 υ25 tS H1 locs ht hvm hw26 hB hz1 hk1 hSy => ?_)
  have hP9 : va_P D clz (WD9 cy g2 υ25) H1 := by rw [← ht]; exact hB
  have hP8 := kp8 hDD hP8 hk1
  have hS : va_S (lawA s) s.heap H1 locs := by rw [← hA9]; exact hSy
  clear hB hz1 hk1 hvm ht hSx hSy
  generalize H1 = H at hP8 hP9 hS ⊢
  have hF27 : Fr (fL [0, 21]) σ9 υ25 := hw26.1
  have hJ28 : J9 (υ25 9) := hw26.2.1
  have hK29 : DKA (υ25 9) := DKA.mv hDK (hF27 9 17 rfl).2.2.1 (hF27 9 18 rfl).2.2.1 (hF27 9 19 rfl).2.2.1
  have hR30 : KP υ11 (υ25 9) := KP.fr9 hR14 (hF27 9 22 rfl).2.2.1
  refine lv_pop hx hb dL_law_2014 rfl ?_
  refine lv_goto (tgt := 2411) hx hb dL_law_2015 (by decide) ?_
  exact hnext _ _ _ _ _ hJ13 hJ28 hK29 hR30 hP8 hP9 hS hl

theorem q788 : Cond.methodLink RL 211 yX8_slur ∈ lw_g := lw_gm (List.mem_of_getElem? (i := 788) (by decide +kernel)) rfl
theorem q789 : Cond.instanceMethod yX8_slur ∈ lw_g := lw_gm (List.mem_of_getElem? (i := 789) (by decide +kernel)) rfl
theorem q790 : Cond.selects RX8 yX8_slur yX8_slur ∈ lw_g := lw_gm (List.mem_of_getElem? (i := 790) (by decide +kernel)) rfl
theorem q2120 : Cond.methodLink RL 214 yX9_slur ∈ lw_g := lw_gm (List.mem_of_getElem? (i := 2120) (by decide +kernel)) rfl
theorem q2121 : Cond.instanceMethod yX9_slur ∈ lw_g := lw_gm (List.mem_of_getElem? (i := 2121) (by decide +kernel)) rfl
theorem q2122 : Cond.selects RX9 yX9_slur yX9_slur ∈ lw_g := lw_gm (List.mem_of_getElem? (i := 2122) (by decide +kernel)) rfl
theorem dL_law_2018 : decode cL_law 2018 = .ok (.aload_n 1, 1) := by decide +kernel
theorem dL_law_2019 : decode cL_law 2019 = .ok (.aload_n 0, 1) := by decide +kernel
theorem dL_law_2020 : decode cL_law 2020 = .ok (.iload_n 3, 1) := by decide +kernel
theorem dL_law_2021 : decode cL_law 2021 = .ok (.iconst 1, 1) := by decide +kernel
theorem dL_law_2022 : decode cL_law 2022 = .ok (.iadd, 1) := by decide +kernel
theorem dL_law_2023 : decode cL_law 2023 = .ok (.iaload, 1) := by decide +kernel
theorem dL_law_2024 : decode cL_law 2024 = .ok (.aload_n 0, 1) := by decide +kernel
theorem dL_law_2025 : decode cL_law 2025 = .ok (.iload_n 3, 1) := by decide +kernel
theorem dL_law_2026 : decode cL_law 2026 = .ok (.iconst 2, 1) := by decide +kernel
theorem dL_law_2027 : decode cL_law 2027 = .ok (.iadd, 1) := by decide +kernel
theorem dL_law_2028 : decode cL_law 2028 = .ok (.iaload, 1) := by decide +kernel
theorem dL_law_2029 : decode cL_law 2029 = .ok (.aload_n 0, 1) := by decide +kernel
theorem dL_law_2030 : decode cL_law 2030 = .ok (.iload_n 3, 1) := by decide +kernel
theorem dL_law_2031 : decode cL_law 2031 = .ok (.iconst 3, 1) := by decide +kernel
theorem dL_law_2032 : decode cL_law 2032 = .ok (.iadd, 1) := by decide +kernel
theorem dL_law_2033 : decode cL_law 2033 = .ok (.iaload, 1) := by decide +kernel
theorem dL_law_2034 : decode cL_law 2034 = .ok (.invokevirtual 211, 3) := by decide +kernel
theorem dL_law_2037 : decode cL_law 2037 = .ok (.pop, 1) := by decide +kernel
theorem dL_law_2038 : decode cL_law 2038 = .ok (.aload_n 2, 1) := by decide +kernel
theorem dL_law_2039 : decode cL_law 2039 = .ok (.aload_n 0, 1) := by decide +kernel
theorem dL_law_2040 : decode cL_law 2040 = .ok (.iload_n 3, 1) := by decide +kernel
theorem dL_law_2041 : decode cL_law 2041 = .ok (.iconst 1, 1) := by decide +kernel
theorem dL_law_2042 : decode cL_law 2042 = .ok (.iadd, 1) := by decide +kernel
theorem dL_law_2043 : decode cL_law 2043 = .ok (.iaload, 1) := by decide +kernel
theorem dL_law_2044 : decode cL_law 2044 = .ok (.aload_n 0, 1) := by decide +kernel
theorem dL_law_2045 : decode cL_law 2045 = .ok (.iload_n 3, 1) := by decide +kernel
theorem dL_law_2046 : decode cL_law 2046 = .ok (.iconst 2, 1) := by decide +kernel
theorem dL_law_2047 : decode cL_law 2047 = .ok (.iadd, 1) := by decide +kernel
theorem dL_law_2048 : decode cL_law 2048 = .ok (.iaload, 1) := by decide +kernel
theorem dL_law_2049 : decode cL_law 2049 = .ok (.aload_n 0, 1) := by decide +kernel
theorem dL_law_2050 : decode cL_law 2050 = .ok (.iload_n 3, 1) := by decide +kernel
theorem dL_law_2051 : decode cL_law 2051 = .ok (.iconst 3, 1) := by decide +kernel
theorem dL_law_2052 : decode cL_law 2052 = .ok (.iadd, 1) := by decide +kernel
theorem dL_law_2053 : decode cL_law 2053 = .ok (.iaload, 1) := by decide +kernel
theorem dL_law_2054 : decode cL_law 2054 = .ok (.invokevirtual 214, 3) := by decide +kernel
theorem dL_law_2057 : decode cL_law 2057 = .ok (.pop, 1) := by decide +kernel
theorem dL_law_2058 : decode cL_law 2058 = .ok (.goto 353, 3) := by decide +kernel
set_option maxHeartbeats 4000000 in
set_option maxRecDepth 100000 in
theorem lawc_48 {p : Program} {l : Launch} {e : Env} {s : State} {m : MethodId} {below : List Frame} {meth : Method} {c : Code} {b L : Nat} {xs : Nat → Int32} {D : va_G} {cy : Nat → ClassId} {g1 g2 : Nat → Nat} (X : LX p s m meth c b L xs D cy g1 g2) (hL : L ≤ 3072) {i : Int32} (hi : (0 : Int) ≤ i.toInt ∧ i.toInt + 6 ≤ (L : Int)) (hnext : (∀ (σ8 σ9 : ST) (H : Heap) (locs : List Loc) (ls : Array Slot), J8 σ8 → J9 (σ9 9) → DKA (σ9 9) → KP σ8 (σ9 9) → va_P D clz (WD8 cy g1 σ8) H → va_P D clz (WD9 cy g2 σ9) H → va_S (lawA s) s.heap H locs → lv_has ls 4 [(3, .int i), (2, .ref (g2 60)), (1, .ref (gO g1 17)), (0, .ref b)] → W p l e room_1 s m #[Value.ref b] below meth c H locs 200 700000 (lw_Z below #[Value.ref b] s) (F0 m 2411 ls []))) (σ8 σ9 : ST) (H : Heap) (locs : List Loc) (ls : Array Slot) (hJ8 : J8 σ8) (hJ9 : J9 (σ9 9)) (hDK : DKA (σ9 9)) (hR : KP σ8 (σ9 9)) (hP8 : va_P D clz (WD8 cy g1 σ8) H) (hP9 : va_P D clz (WD9 cy g2 σ9) H) (hS : va_S (lawA s) s.heap H locs) (hl : lv_has ls 4 [(3, .int i), (2, .ref (g2 60)), (1, .ref (gO g1 17)), (0, .ref b)]) : W p l e room_1 s m #[Value.ref b] below meth c H locs 200 700000 (lw_Z below #[Value.ref b] s) (F0 m 2018 ls []) := by
  obtain ⟨⟨hx, hb, hr, hml, hown0, hts0, hX, hbl, hlocks, hgv⟩, hK, hDD, hC8, hC9⟩ := X
  have hown : s.vm.findClass RL = some m.cls := hown0
  have hts : ∀ w ∈ lw_g, w.before #[Value.ref b] s = true := fun w h => hts0 w (lw_gt h)
  have hbA : ¬ lawA s b := Nat.not_le.mpr hbl
  have hA8 := A8_law hDD
  have hA9 := A9_law hDD
  have hD8 : ∀ τ : ST, va_D (A8 cy g1 s.heap.size) (WD8 cy g1 τ) := fun τ => by rw [hA8]; exact map_D WD8_m (D_l hDD)
  have hD9 : ∀ τ : ST, va_D (A9 cy g2 s.heap.size) (WD9 cy g2 τ) := fun τ => by rw [hA9]; exact map_D WD9_m (D_r hDD)
  rw [← hA8] at hC8
  rw [← hA9] at hC9
  refine lv_aload_n hx hb dL_law_2018 rfl (lv_at hl 2 rfl) ?_
  refine lv_aload_n hx hb dL_law_2019 rfl (lv_at hl 3 rfl) ?_
  refine lv_iload_n hx hb dL_law_2020 rfl (lv_at hl 0 rfl) ?_
  refine lv_iconst (v := 1) hx hb dL_law_2021 (by decide) ?_
  refine lv_iadd hx hb dL_law_2022 ?_
  refine lv_topi (fun x1 ex1 => ?_)
  have t2 := addO ex1 (by have f0 := hi; have f1 := hL; have z1 : (1 : Int32).toInt = 1 := (by decide); omega)
  refine va_sld hx hb hX hbl hbA hS (vpo (by have f0 := t2; have f1 := hi; have f2 := hL; have g0 := rg32 x1; have z1 : (1 : Int32).toInt = 1 := (by decide); omega)) dL_law_2023 ?_
  refine lv_topi (fun x3 ex3 => ?_)
  refine lv_aload_n hx hb dL_law_2024 rfl (lv_at hl 3 rfl) ?_
  refine lv_iload_n hx hb dL_law_2025 rfl (lv_at hl 0 rfl) ?_
  refine lv_iconst (v := 2) hx hb dL_law_2026 (by decide) ?_
  refine lv_iadd hx hb dL_law_2027 ?_
  refine lv_topi (fun x4 ex4 => ?_)
  have t5 := addO ex4 (by have f0 := hi; have f1 := hL; have f2 := t2; have z1 : (1 : Int32).toInt = 1 := (by decide); have z2 : (2 : Int32).toInt = 2 := (by decide); omega)
  refine va_sld hx hb hX hbl hbA hS (vpo (by have f0 := t5; have f1 := hi; have f2 := hL; have f3 := t2; have g0 := rg32 x4; have z1 : (1 : Int32).toInt = 1 := (by decide); have z2 : (2 : Int32).toInt = 2 := (by decide); omega)) dL_law_2028 ?_
  refine lv_topi (fun x6 ex6 => ?_)
  refine lv_aload_n hx hb dL_law_2029 rfl (lv_at hl 3 rfl) ?_
  refine lv_iload_n hx hb dL_law_2030 rfl (lv_at hl 0 rfl) ?_
  refine lv_iconst (v := 3) hx hb dL_law_2031 (by decide) ?_
  refine lv_iadd hx hb dL_law_2032 ?_
  refine lv_topi (fun x7 ex7 => ?_)
  have t8 := addO ex7 (by have f0 := hi; have f1 := hL; have f2 := t2; have f3 := t5; have z1 : (1 : Int32).toInt = 1 := (by decide); have z2 : (2 : Int32).toInt = 2 := (by decide); have z3 : (3 : Int32).toInt = 3 := (by decide); omega)
  refine va_sld hx hb hX hbl hbA hS (vpo (by have f0 := t8; have f1 := hi; have f2 := hL; have f3 := t2; have f4 := t5; have g0 := rg32 x7; have z1 : (1 : Int32).toInt = 1 := (by decide); have z2 : (2 : Int32).toInt = 2 := (by decide); have z3 : (3 : Int32).toInt = 3 := (by decide); omega)) dL_law_2033 ?_
  refine lv_topi (fun x9 ex9 => ?_)
  have hSx : va_S (A8 cy g1 s.heap.size) s.heap H locs := by rw [hA8]; exact hS
  refine va_calli (va_runV (As := [.int x3, .int x6, .int x9]) (rest := []) ⟨hx, hb, hml, hown, hts⟩ (m_X8_slur l D cy g1 σ8 x3 x6 x9 _ hJ8) (cwV 3 hts (gd_V q788 q789 q790 q125 q791) rfl rfl rfl (by decide +kernel) ⟨Nat.le_of_ble_eq_true rfl, Nat.le_of_ble_eq_true rfl⟩) (pv8 hP8 hK hD8 hC8 hSx (rv8_8 hK hP8)) rfl rfl hl.1 rfl (lv_room (Nat.le_of_ble_eq_true rfl)) dL_law_2034 ⟨Nat.le_of_ble_eq_true rfl, Nat.le_of_ble_eq_true rfl⟩) hSx (fun q _ h => up8 hSx q h) (up8 hSx) (fun r10 υ11 tS H1 locs ht hvm hw12 hB hz1 hk1 hSy => ?_)
  have hP8 : va_P D clz (WD8 cy g1 υ11) H1 := by rw [← ht]; exact hB
  have hP9 := kp9 hDD hP9 hk1
  have hS : va_S (lawA s) s.heap H1 locs := by rw [← hA8]; exact hSy
  clear hB hz1 hk1 hvm ht hSx hSy
  generalize H1 = H at hP8 hP9 hS ⊢
  have hJ13 : J8 υ11 := hw12.2.1
  have hR14 : KP υ11 (σ9 9) := KP.fr8 hR (show Fr (fO [0, 1, 2, 3, 4]) σ8 υ11 from hw12.1) (by decide)
  refine lv_pop hx hb dL_law_2037 rfl ?_
  refine lv_aload_n hx hb dL_law_2038 rfl (lv_at hl 1 rfl) ?_
  refine lv_aload_n hx hb dL_law_2039 rfl (lv_at hl 3 rfl) ?_
  refine lv_iload_n hx hb dL_law_2040 rfl (lv_at hl 0 rfl) ?_
  refine lv_iconst (v := 1) hx hb dL_law_2041 (by decide) ?_
  refine lv_iadd hx hb dL_law_2042 ?_
  refine lv_topi (fun x15 ex15 => ?_)
  have t16 := addO ex15 (by have f0 := hi; have f1 := hL; have f2 := t2; have f3 := t5; have f4 := t8; have z1 : (1 : Int32).toInt = 1 := (by decide); have z2 : (2 : Int32).toInt = 2 := (by decide); have z3 : (3 : Int32).toInt = 3 := (by decide); omega)
  refine va_sld hx hb hX hbl hbA hS (vpo (by have f0 := t16; have f1 := hi; have f2 := hL; have f3 := t2; have f4 := t5; have f5 := t8; have g0 := rg32 x15; have z1 : (1 : Int32).toInt = 1 := (by decide); have z2 : (2 : Int32).toInt = 2 := (by decide); have z3 : (3 : Int32).toInt = 3 := (by decide); omega)) dL_law_2043 ?_
  refine lv_topi (fun x17 ex17 => ?_)
  refine lv_aload_n hx hb dL_law_2044 rfl (lv_at hl 3 rfl) ?_
  refine lv_iload_n hx hb dL_law_2045 rfl (lv_at hl 0 rfl) ?_
  refine lv_iconst (v := 2) hx hb dL_law_2046 (by decide) ?_
  refine lv_iadd hx hb dL_law_2047 ?_
  refine lv_topi (fun x18 ex18 => ?_)
  have t19 := addO ex18 (by have f0 := hi; have f1 := hL; have f2 := t2; have f3 := t5; have f4 := t8; have f5 := t16; have z1 : (1 : Int32).toInt = 1 := (by decide); have z2 : (2 : Int32).toInt = 2 := (by decide); have z3 : (3 : Int32).toInt = 3 := (by decide); omega)
  refine va_sld hx hb hX hbl hbA hS (vpo (by have f0 := t19; have f1 := hi; have f2 := hL; have f3 := t2; have f4 := t5; have f5 := t8; have f6 := t16; have g0 := rg32 x18; have z1 : (1 : Int32).toInt = 1 := (by decide); have z2 : (2 : Int32).toInt = 2 := (by decide); have z3 : (3 : Int32).toInt = 3 := (by decide); omega)) dL_law_2048 ?_
  refine lv_topi (fun x20 ex20 => ?_)
  refine lv_aload_n hx hb dL_law_2049 rfl (lv_at hl 3 rfl) ?_
  refine lv_iload_n hx hb dL_law_2050 rfl (lv_at hl 0 rfl) ?_
  refine lv_iconst (v := 3) hx hb dL_law_2051 (by decide) ?_
  refine lv_iadd hx hb dL_law_2052 ?_
  refine lv_topi (fun x21 ex21 => ?_)
  have t22 := addO ex21 (by have f0 := hi; have f1 := hL; have f2 := t2; have f3 := t5; have f4 := t8; have f5 := t16; have f6 := t19; have z1 : (1 : Int32).toInt = 1 := (by decide); have z2 : (2 : Int32).toInt = 2 := (by decide); have z3 : (3 : Int32).toInt = 3 := (by decide); omega)
  refine va_sld hx hb hX hbl hbA hS (vpo (by have f0 := t22; have f1 := hi; have f2 := hL; have f3 := t2; have f4 := t5; have f5 := t8; have f6 := t16; have f7 := t19; have g0 := rg32 x21; have z1 : (1 : Int32).toInt = 1 := (by decide); have z2 : (2 : Int32).toInt = 2 := (by decide); have z3 : (3 : Int32).toInt = 3 := (by decide); omega)) dL_law_2053 ?_
  refine lv_topi (fun x23 ex23 => ?_)
  have hSx : va_S (A9 cy g2 s.heap.size) s.heap H locs := by rw [hA9]; exact hS
  refine va_calli (va_runV (As := [.int x17, .int x20, .int x23]) (rest := []) ⟨hx, hb, hml, hown, hts⟩ (m_X9_slur l D cy g2 σ9 x17 x20 x23 _ hJ9 ) (cwV 3 hts (gd_V q2120 q2121 q2122 q134 q2123) rfl rfl rfl (by decide +kernel) ⟨Nat.le_of_ble_eq_true rfl, Nat.le_of_ble_eq_true rfl⟩) (pv9 hP9 hK hD9 hC9 hSx (va_recv hK hP9 (ci := 9) (q0 := 0) rfl rfl)) rfl rfl hl.1 rfl (lv_room (Nat.le_of_ble_eq_true rfl)) dL_law_2054 ⟨Nat.le_of_ble_eq_true rfl, Nat.le_of_ble_eq_true rfl⟩) hSx (fun q _ h => up9 hSx q h) (up9 hSx) (fun r24 υ25 tS H1 locs ht hvm hw26 hB hz1 hk1 hSy => ?_)
  have hP9 : va_P D clz (WD9 cy g2 υ25) H1 := by rw [← ht]; exact hB
  have hP8 := kp8 hDD hP8 hk1
  have hS : va_S (lawA s) s.heap H1 locs := by rw [← hA9]; exact hSy
  clear hB hz1 hk1 hvm ht hSx hSy
  generalize H1 = H at hP8 hP9 hS ⊢
  have hF27 : Fr (fL [0, 21]) σ9 υ25 := hw26.1
  have hJ28 : J9 (υ25 9) := hw26.2.1
  have hK29 : DKA (υ25 9) := DKA.mv hDK (hF27 9 17 rfl).2.2.1 (hF27 9 18 rfl).2.2.1 (hF27 9 19 rfl).2.2.1
  have hR30 : KP υ11 (υ25 9) := KP.fr9 hR14 (hF27 9 22 rfl).2.2.1
  refine lv_pop hx hb dL_law_2057 rfl ?_
  refine lv_goto (tgt := 2411) hx hb dL_law_2058 (by decide) ?_
  exact hnext _ _ _ _ _ hJ13 hJ28 hK29 hR30 hP8 hP9 hS hl

theorem q740 : Cond.methodLink RL 215 yX8_beats ∈ lw_g := lw_gm (List.mem_of_getElem? (i := 740) (by decide +kernel)) rfl
theorem q741 : Cond.instanceMethod yX8_beats ∈ lw_g := lw_gm (List.mem_of_getElem? (i := 741) (by decide +kernel)) rfl
theorem q742 : Cond.selects RX8 yX8_beats yX8_beats ∈ lw_g := lw_gm (List.mem_of_getElem? (i := 742) (by decide +kernel)) rfl
theorem q2124 : Cond.methodLink RL 218 yX9_beats ∈ lw_g := lw_gm (List.mem_of_getElem? (i := 2124) (by decide +kernel)) rfl
theorem q2125 : Cond.instanceMethod yX9_beats ∈ lw_g := lw_gm (List.mem_of_getElem? (i := 2125) (by decide +kernel)) rfl
theorem q2126 : Cond.selects RX9 yX9_beats yX9_beats ∈ lw_g := lw_gm (List.mem_of_getElem? (i := 2126) (by decide +kernel)) rfl
theorem dL_law_2061 : decode cL_law 2061 = .ok (.aload_n 1, 1) := by decide +kernel
theorem dL_law_2062 : decode cL_law 2062 = .ok (.aload_n 0, 1) := by decide +kernel
theorem dL_law_2063 : decode cL_law 2063 = .ok (.iload_n 3, 1) := by decide +kernel
theorem dL_law_2064 : decode cL_law 2064 = .ok (.iconst 1, 1) := by decide +kernel
theorem dL_law_2065 : decode cL_law 2065 = .ok (.iadd, 1) := by decide +kernel
theorem dL_law_2066 : decode cL_law 2066 = .ok (.iaload, 1) := by decide +kernel
theorem dL_law_2067 : decode cL_law 2067 = .ok (.invokevirtual 215, 3) := by decide +kernel
theorem dL_law_2070 : decode cL_law 2070 = .ok (.pop, 1) := by decide +kernel
theorem dL_law_2071 : decode cL_law 2071 = .ok (.aload_n 2, 1) := by decide +kernel
theorem dL_law_2072 : decode cL_law 2072 = .ok (.aload_n 0, 1) := by decide +kernel
theorem dL_law_2073 : decode cL_law 2073 = .ok (.iload_n 3, 1) := by decide +kernel
theorem dL_law_2074 : decode cL_law 2074 = .ok (.iconst 1, 1) := by decide +kernel
theorem dL_law_2075 : decode cL_law 2075 = .ok (.iadd, 1) := by decide +kernel
theorem dL_law_2076 : decode cL_law 2076 = .ok (.iaload, 1) := by decide +kernel
theorem dL_law_2077 : decode cL_law 2077 = .ok (.invokevirtual 218, 3) := by decide +kernel
theorem dL_law_2080 : decode cL_law 2080 = .ok (.pop, 1) := by decide +kernel
theorem dL_law_2081 : decode cL_law 2081 = .ok (.goto 330, 3) := by decide +kernel
set_option maxHeartbeats 4000000 in
set_option maxRecDepth 100000 in
theorem lawc_49 {p : Program} {l : Launch} {e : Env} {s : State} {m : MethodId} {below : List Frame} {meth : Method} {c : Code} {b L : Nat} {xs : Nat → Int32} {D : va_G} {cy : Nat → ClassId} {g1 g2 : Nat → Nat} (X : LX p s m meth c b L xs D cy g1 g2) (hL : L ≤ 3072) {i : Int32} (hi : (0 : Int) ≤ i.toInt ∧ i.toInt + 6 ≤ (L : Int)) (hnext : (∀ (σ8 σ9 : ST) (H : Heap) (locs : List Loc) (ls : Array Slot), J8 σ8 → J9 (σ9 9) → DKA (σ9 9) → KP σ8 (σ9 9) → va_P D clz (WD8 cy g1 σ8) H → va_P D clz (WD9 cy g2 σ9) H → va_S (lawA s) s.heap H locs → lv_has ls 4 [(3, .int i), (2, .ref (g2 60)), (1, .ref (gO g1 17)), (0, .ref b)] → W p l e room_1 s m #[Value.ref b] below meth c H locs 200 700000 (lw_Z below #[Value.ref b] s) (F0 m 2411 ls []))) (σ8 σ9 : ST) (H : Heap) (locs : List Loc) (ls : Array Slot) (hJ8 : J8 σ8) (hJ9 : J9 (σ9 9)) (hDK : DKA (σ9 9)) (hR : KP σ8 (σ9 9)) (hP8 : va_P D clz (WD8 cy g1 σ8) H) (hP9 : va_P D clz (WD9 cy g2 σ9) H) (hS : va_S (lawA s) s.heap H locs) (hl : lv_has ls 4 [(3, .int i), (2, .ref (g2 60)), (1, .ref (gO g1 17)), (0, .ref b)]) : W p l e room_1 s m #[Value.ref b] below meth c H locs 200 700000 (lw_Z below #[Value.ref b] s) (F0 m 2061 ls []) := by
  obtain ⟨⟨hx, hb, hr, hml, hown0, hts0, hX, hbl, hlocks, hgv⟩, hK, hDD, hC8, hC9⟩ := X
  have hown : s.vm.findClass RL = some m.cls := hown0
  have hts : ∀ w ∈ lw_g, w.before #[Value.ref b] s = true := fun w h => hts0 w (lw_gt h)
  have hbA : ¬ lawA s b := Nat.not_le.mpr hbl
  have hA8 := A8_law hDD
  have hA9 := A9_law hDD
  have hD8 : ∀ τ : ST, va_D (A8 cy g1 s.heap.size) (WD8 cy g1 τ) := fun τ => by rw [hA8]; exact map_D WD8_m (D_l hDD)
  have hD9 : ∀ τ : ST, va_D (A9 cy g2 s.heap.size) (WD9 cy g2 τ) := fun τ => by rw [hA9]; exact map_D WD9_m (D_r hDD)
  rw [← hA8] at hC8
  rw [← hA9] at hC9
  refine lv_aload_n hx hb dL_law_2061 rfl (lv_at hl 2 rfl) ?_
  refine lv_aload_n hx hb dL_law_2062 rfl (lv_at hl 3 rfl) ?_
  refine lv_iload_n hx hb dL_law_2063 rfl (lv_at hl 0 rfl) ?_
  refine lv_iconst (v := 1) hx hb dL_law_2064 (by decide) ?_
  refine lv_iadd hx hb dL_law_2065 ?_
  refine lv_topi (fun x1 ex1 => ?_)
  have t2 := addO ex1 (by have f0 := hi; have f1 := hL; have z1 : (1 : Int32).toInt = 1 := (by decide); omega)
  refine va_sld hx hb hX hbl hbA hS (vpo (by have f0 := t2; have f1 := hi; have f2 := hL; have g0 := rg32 x1; have z1 : (1 : Int32).toInt = 1 := (by decide); omega)) dL_law_2066 ?_
  refine lv_topi (fun x3 ex3 => ?_)
  have hSx : va_S (A8 cy g1 s.heap.size) s.heap H locs := by rw [hA8]; exact hS
  refine va_calli (va_runV (As := [.int x3]) (rest := []) ⟨hx, hb, hml, hown, hts⟩ (m_X8_beats l D cy g1 σ8 x3 _ hJ8) (cwV 1 hts (gd_V q740 q741 q742 q125 q743) rfl rfl rfl (by decide +kernel) ⟨Nat.le_of_ble_eq_true rfl, Nat.le_of_ble_eq_true rfl⟩) (pv8 hP8 hK hD8 hC8 hSx (rv8_8 hK hP8)) rfl rfl hl.1 rfl (lv_room (Nat.le_of_ble_eq_true rfl)) dL_law_2067 ⟨Nat.le_of_ble_eq_true rfl, Nat.le_of_ble_eq_true rfl⟩) hSx (fun q _ h => up8 hSx q h) (up8 hSx) (fun r4 υ5 tS H1 locs ht hvm hw6 hB hz1 hk1 hSy => ?_)
  have hP8 : va_P D clz (WD8 cy g1 υ5) H1 := by rw [← ht]; exact hB
  have hP9 := kp9 hDD hP9 hk1
  have hS : va_S (lawA s) s.heap H1 locs := by rw [← hA8]; exact hSy
  clear hB hz1 hk1 hvm ht hSx hSy
  generalize H1 = H at hP8 hP9 hS ⊢
  have hw6E : σ8 = υ5 := (hw6.1).symm
  subst hw6E
  refine lv_pop hx hb dL_law_2070 rfl ?_
  refine lv_aload_n hx hb dL_law_2071 rfl (lv_at hl 1 rfl) ?_
  refine lv_aload_n hx hb dL_law_2072 rfl (lv_at hl 3 rfl) ?_
  refine lv_iload_n hx hb dL_law_2073 rfl (lv_at hl 0 rfl) ?_
  refine lv_iconst (v := 1) hx hb dL_law_2074 (by decide) ?_
  refine lv_iadd hx hb dL_law_2075 ?_
  refine lv_topi (fun x7 ex7 => ?_)
  have t8 := addO ex7 (by have f0 := hi; have f1 := hL; have f2 := t2; have z1 : (1 : Int32).toInt = 1 := (by decide); omega)
  refine va_sld hx hb hX hbl hbA hS (vpo (by have f0 := t8; have f1 := hi; have f2 := hL; have f3 := t2; have g0 := rg32 x7; have z1 : (1 : Int32).toInt = 1 := (by decide); omega)) dL_law_2076 ?_
  refine lv_topi (fun x9 ex9 => ?_)
  have hSx : va_S (A9 cy g2 s.heap.size) s.heap H locs := by rw [hA9]; exact hS
  refine va_calli (va_runV (As := [.int x9]) (rest := []) ⟨hx, hb, hml, hown, hts⟩ (m_X9_beats l D cy g2 σ9 x9 _ hJ9 ) (cwV 1 hts (gd_V q2124 q2125 q2126 q134 q2127) rfl rfl rfl (by decide +kernel) ⟨Nat.le_of_ble_eq_true rfl, Nat.le_of_ble_eq_true rfl⟩) (pv9 hP9 hK hD9 hC9 hSx (va_recv hK hP9 (ci := 9) (q0 := 0) rfl rfl)) rfl rfl hl.1 rfl (lv_room (Nat.le_of_ble_eq_true rfl)) dL_law_2077 ⟨Nat.le_of_ble_eq_true rfl, Nat.le_of_ble_eq_true rfl⟩) hSx (fun q _ h => up9 hSx q h) (up9 hSx) (fun r10 υ11 tS H1 locs ht hvm hw12 hB hz1 hk1 hSy => ?_)
  have hP9 : va_P D clz (WD9 cy g2 υ11) H1 := by rw [← ht]; exact hB
  have hP8 := kp8 hDD hP8 hk1
  have hS : va_S (lawA s) s.heap H1 locs := by rw [← hA9]; exact hSy
  clear hB hz1 hk1 hvm ht hSx hSy
  generalize H1 = H at hP8 hP9 hS ⊢
  have hF13 : Fr (fL [0]) σ9 υ11 := hw12.1
  have hJ14 : J9 (υ11 9) := hw12.2.1
  have hK15 : DKA (υ11 9) := DKA.mv hDK (hF13 9 17 rfl).2.2.1 (hF13 9 18 rfl).2.2.1 (hF13 9 19 rfl).2.2.1
  have hR16 : KP σ8 (υ11 9) := KP.fr9 hR (hF13 9 22 rfl).2.2.1
  refine lv_pop hx hb dL_law_2080 rfl ?_
  refine lv_goto (tgt := 2411) hx hb dL_law_2081 (by decide) ?_
  exact hnext _ _ _ _ _ hJ8 hJ14 hK15 hR16 hP8 hP9 hS hl

theorem q745 : Cond.methodLink RL 219 yX8_phrase ∈ lw_g := lw_gm (List.mem_of_getElem? (i := 745) (by decide +kernel)) rfl
theorem q746 : Cond.instanceMethod yX8_phrase ∈ lw_g := lw_gm (List.mem_of_getElem? (i := 746) (by decide +kernel)) rfl
theorem q747 : Cond.selects RX8 yX8_phrase yX8_phrase ∈ lw_g := lw_gm (List.mem_of_getElem? (i := 747) (by decide +kernel)) rfl
theorem q2128 : Cond.methodLink RL 222 yX9_phrase ∈ lw_g := lw_gm (List.mem_of_getElem? (i := 2128) (by decide +kernel)) rfl
theorem q2129 : Cond.instanceMethod yX9_phrase ∈ lw_g := lw_gm (List.mem_of_getElem? (i := 2129) (by decide +kernel)) rfl
theorem q2130 : Cond.selects RX9 yX9_phrase yX9_phrase ∈ lw_g := lw_gm (List.mem_of_getElem? (i := 2130) (by decide +kernel)) rfl
theorem dL_law_2084 : decode cL_law 2084 = .ok (.aload_n 1, 1) := by decide +kernel
theorem dL_law_2085 : decode cL_law 2085 = .ok (.aload_n 0, 1) := by decide +kernel
theorem dL_law_2086 : decode cL_law 2086 = .ok (.iload_n 3, 1) := by decide +kernel
theorem dL_law_2087 : decode cL_law 2087 = .ok (.iconst 1, 1) := by decide +kernel
theorem dL_law_2088 : decode cL_law 2088 = .ok (.iadd, 1) := by decide +kernel
theorem dL_law_2089 : decode cL_law 2089 = .ok (.iaload, 1) := by decide +kernel
theorem dL_law_2090 : decode cL_law 2090 = .ok (.aload_n 0, 1) := by decide +kernel
theorem dL_law_2091 : decode cL_law 2091 = .ok (.iload_n 3, 1) := by decide +kernel
theorem dL_law_2092 : decode cL_law 2092 = .ok (.iconst 2, 1) := by decide +kernel
theorem dL_law_2093 : decode cL_law 2093 = .ok (.iadd, 1) := by decide +kernel
theorem dL_law_2094 : decode cL_law 2094 = .ok (.iaload, 1) := by decide +kernel
theorem dL_law_2095 : decode cL_law 2095 = .ok (.invokevirtual 219, 3) := by decide +kernel
theorem dL_law_2098 : decode cL_law 2098 = .ok (.pop, 1) := by decide +kernel
theorem dL_law_2099 : decode cL_law 2099 = .ok (.aload_n 2, 1) := by decide +kernel
theorem dL_law_2100 : decode cL_law 2100 = .ok (.aload_n 0, 1) := by decide +kernel
theorem dL_law_2101 : decode cL_law 2101 = .ok (.iload_n 3, 1) := by decide +kernel
theorem dL_law_2102 : decode cL_law 2102 = .ok (.iconst 1, 1) := by decide +kernel
theorem dL_law_2103 : decode cL_law 2103 = .ok (.iadd, 1) := by decide +kernel
theorem dL_law_2104 : decode cL_law 2104 = .ok (.iaload, 1) := by decide +kernel
theorem dL_law_2105 : decode cL_law 2105 = .ok (.aload_n 0, 1) := by decide +kernel
theorem dL_law_2106 : decode cL_law 2106 = .ok (.iload_n 3, 1) := by decide +kernel
theorem dL_law_2107 : decode cL_law 2107 = .ok (.iconst 2, 1) := by decide +kernel
theorem dL_law_2108 : decode cL_law 2108 = .ok (.iadd, 1) := by decide +kernel
theorem dL_law_2109 : decode cL_law 2109 = .ok (.iaload, 1) := by decide +kernel
theorem dL_law_2110 : decode cL_law 2110 = .ok (.invokevirtual 222, 3) := by decide +kernel
theorem dL_law_2113 : decode cL_law 2113 = .ok (.pop, 1) := by decide +kernel
theorem dL_law_2114 : decode cL_law 2114 = .ok (.goto 297, 3) := by decide +kernel
set_option maxHeartbeats 4000000 in
set_option maxRecDepth 100000 in
theorem lawc_50 {p : Program} {l : Launch} {e : Env} {s : State} {m : MethodId} {below : List Frame} {meth : Method} {c : Code} {b L : Nat} {xs : Nat → Int32} {D : va_G} {cy : Nat → ClassId} {g1 g2 : Nat → Nat} (X : LX p s m meth c b L xs D cy g1 g2) (hL : L ≤ 3072) {i : Int32} (hi : (0 : Int) ≤ i.toInt ∧ i.toInt + 6 ≤ (L : Int)) (hnext : (∀ (σ8 σ9 : ST) (H : Heap) (locs : List Loc) (ls : Array Slot), J8 σ8 → J9 (σ9 9) → DKA (σ9 9) → KP σ8 (σ9 9) → va_P D clz (WD8 cy g1 σ8) H → va_P D clz (WD9 cy g2 σ9) H → va_S (lawA s) s.heap H locs → lv_has ls 4 [(3, .int i), (2, .ref (g2 60)), (1, .ref (gO g1 17)), (0, .ref b)] → W p l e room_1 s m #[Value.ref b] below meth c H locs 200 700000 (lw_Z below #[Value.ref b] s) (F0 m 2411 ls []))) (σ8 σ9 : ST) (H : Heap) (locs : List Loc) (ls : Array Slot) (hJ8 : J8 σ8) (hJ9 : J9 (σ9 9)) (hDK : DKA (σ9 9)) (hR : KP σ8 (σ9 9)) (hP8 : va_P D clz (WD8 cy g1 σ8) H) (hP9 : va_P D clz (WD9 cy g2 σ9) H) (hS : va_S (lawA s) s.heap H locs) (hl : lv_has ls 4 [(3, .int i), (2, .ref (g2 60)), (1, .ref (gO g1 17)), (0, .ref b)]) : W p l e room_1 s m #[Value.ref b] below meth c H locs 200 700000 (lw_Z below #[Value.ref b] s) (F0 m 2084 ls []) := by
  obtain ⟨⟨hx, hb, hr, hml, hown0, hts0, hX, hbl, hlocks, hgv⟩, hK, hDD, hC8, hC9⟩ := X
  have hown : s.vm.findClass RL = some m.cls := hown0
  have hts : ∀ w ∈ lw_g, w.before #[Value.ref b] s = true := fun w h => hts0 w (lw_gt h)
  have hbA : ¬ lawA s b := Nat.not_le.mpr hbl
  have hA8 := A8_law hDD
  have hA9 := A9_law hDD
  have hD8 : ∀ τ : ST, va_D (A8 cy g1 s.heap.size) (WD8 cy g1 τ) := fun τ => by rw [hA8]; exact map_D WD8_m (D_l hDD)
  have hD9 : ∀ τ : ST, va_D (A9 cy g2 s.heap.size) (WD9 cy g2 τ) := fun τ => by rw [hA9]; exact map_D WD9_m (D_r hDD)
  rw [← hA8] at hC8
  rw [← hA9] at hC9
  refine lv_aload_n hx hb dL_law_2084 rfl (lv_at hl 2 rfl) ?_
  refine lv_aload_n hx hb dL_law_2085 rfl (lv_at hl 3 rfl) ?_
  refine lv_iload_n hx hb dL_law_2086 rfl (lv_at hl 0 rfl) ?_
  refine lv_iconst (v := 1) hx hb dL_law_2087 (by decide) ?_
  refine lv_iadd hx hb dL_law_2088 ?_
  refine lv_topi (fun x1 ex1 => ?_)
  have t2 := addO ex1 (by have f0 := hi; have f1 := hL; have z1 : (1 : Int32).toInt = 1 := (by decide); omega)
  refine va_sld hx hb hX hbl hbA hS (vpo (by have f0 := t2; have f1 := hi; have f2 := hL; have g0 := rg32 x1; have z1 : (1 : Int32).toInt = 1 := (by decide); omega)) dL_law_2089 ?_
  refine lv_topi (fun x3 ex3 => ?_)
  refine lv_aload_n hx hb dL_law_2090 rfl (lv_at hl 3 rfl) ?_
  refine lv_iload_n hx hb dL_law_2091 rfl (lv_at hl 0 rfl) ?_
  refine lv_iconst (v := 2) hx hb dL_law_2092 (by decide) ?_
  refine lv_iadd hx hb dL_law_2093 ?_
  refine lv_topi (fun x4 ex4 => ?_)
  have t5 := addO ex4 (by have f0 := hi; have f1 := hL; have f2 := t2; have z1 : (1 : Int32).toInt = 1 := (by decide); have z2 : (2 : Int32).toInt = 2 := (by decide); omega)
  refine va_sld hx hb hX hbl hbA hS (vpo (by have f0 := t5; have f1 := hi; have f2 := hL; have f3 := t2; have g0 := rg32 x4; have z1 : (1 : Int32).toInt = 1 := (by decide); have z2 : (2 : Int32).toInt = 2 := (by decide); omega)) dL_law_2094 ?_
  refine lv_topi (fun x6 ex6 => ?_)
  have hSx : va_S (A8 cy g1 s.heap.size) s.heap H locs := by rw [hA8]; exact hS
  refine va_calli (va_runV (As := [.int x3, .int x6]) (rest := []) ⟨hx, hb, hml, hown, hts⟩ (m_X8_phrase l D cy g1 σ8 x3 x6 _ hJ8) (cwV 2 hts (gd_V q745 q746 q747 q125 q748) rfl rfl rfl (by decide +kernel) ⟨Nat.le_of_ble_eq_true rfl, Nat.le_of_ble_eq_true rfl⟩) (pv8 hP8 hK hD8 hC8 hSx (rv8_8 hK hP8)) rfl rfl hl.1 rfl (lv_room (Nat.le_of_ble_eq_true rfl)) dL_law_2095 ⟨Nat.le_of_ble_eq_true rfl, Nat.le_of_ble_eq_true rfl⟩) hSx (fun q _ h => up8 hSx q h) (up8 hSx) (fun r7 υ8 tS H1 locs ht hvm hw9 hB hz1 hk1 hSy => ?_)
  have hP8 : va_P D clz (WD8 cy g1 υ8) H1 := by rw [← ht]; exact hB
  have hP9 := kp9 hDD hP9 hk1
  have hS : va_S (lawA s) s.heap H1 locs := by rw [← hA8]; exact hSy
  clear hB hz1 hk1 hvm ht hSx hSy
  generalize H1 = H at hP8 hP9 hS ⊢
  have hw9E : σ8 = υ8 := (hw9.1).symm
  subst hw9E
  refine lv_pop hx hb dL_law_2098 rfl ?_
  refine lv_aload_n hx hb dL_law_2099 rfl (lv_at hl 1 rfl) ?_
  refine lv_aload_n hx hb dL_law_2100 rfl (lv_at hl 3 rfl) ?_
  refine lv_iload_n hx hb dL_law_2101 rfl (lv_at hl 0 rfl) ?_
  refine lv_iconst (v := 1) hx hb dL_law_2102 (by decide) ?_
  refine lv_iadd hx hb dL_law_2103 ?_
  refine lv_topi (fun x10 ex10 => ?_)
  have t11 := addO ex10 (by have f0 := hi; have f1 := hL; have f2 := t2; have f3 := t5; have z1 : (1 : Int32).toInt = 1 := (by decide); have z2 : (2 : Int32).toInt = 2 := (by decide); omega)
  refine va_sld hx hb hX hbl hbA hS (vpo (by have f0 := t11; have f1 := hi; have f2 := hL; have f3 := t2; have f4 := t5; have g0 := rg32 x10; have z1 : (1 : Int32).toInt = 1 := (by decide); have z2 : (2 : Int32).toInt = 2 := (by decide); omega)) dL_law_2104 ?_
  refine lv_topi (fun x12 ex12 => ?_)
  refine lv_aload_n hx hb dL_law_2105 rfl (lv_at hl 3 rfl) ?_
  refine lv_iload_n hx hb dL_law_2106 rfl (lv_at hl 0 rfl) ?_
  refine lv_iconst (v := 2) hx hb dL_law_2107 (by decide) ?_
  refine lv_iadd hx hb dL_law_2108 ?_
  refine lv_topi (fun x13 ex13 => ?_)
  have t14 := addO ex13 (by have f0 := hi; have f1 := hL; have f2 := t2; have f3 := t5; have f4 := t11; have z1 : (1 : Int32).toInt = 1 := (by decide); have z2 : (2 : Int32).toInt = 2 := (by decide); omega)
  refine va_sld hx hb hX hbl hbA hS (vpo (by have f0 := t14; have f1 := hi; have f2 := hL; have f3 := t2; have f4 := t5; have f5 := t11; have g0 := rg32 x13; have z1 : (1 : Int32).toInt = 1 := (by decide); have z2 : (2 : Int32).toInt = 2 := (by decide); omega)) dL_law_2109 ?_
  refine lv_topi (fun x15 ex15 => ?_)
  have hSx : va_S (A9 cy g2 s.heap.size) s.heap H locs := by rw [hA9]; exact hS
  refine va_calli (va_runV (As := [.int x12, .int x15]) (rest := []) ⟨hx, hb, hml, hown, hts⟩ (m_X9_phrase l D cy g2 σ9 x12 x15 _ hJ9 ) (cwV 2 hts (gd_V q2128 q2129 q2130 q134 q2131) rfl rfl rfl (by decide +kernel) ⟨Nat.le_of_ble_eq_true rfl, Nat.le_of_ble_eq_true rfl⟩) (pv9 hP9 hK hD9 hC9 hSx (va_recv hK hP9 (ci := 9) (q0 := 0) rfl rfl)) rfl rfl hl.1 rfl (lv_room (Nat.le_of_ble_eq_true rfl)) dL_law_2110 ⟨Nat.le_of_ble_eq_true rfl, Nat.le_of_ble_eq_true rfl⟩) hSx (fun q _ h => up9 hSx q h) (up9 hSx) (fun r16 υ17 tS H1 locs ht hvm hw18 hB hz1 hk1 hSy => ?_)
  have hP9 : va_P D clz (WD9 cy g2 υ17) H1 := by rw [← ht]; exact hB
  have hP8 := kp8 hDD hP8 hk1
  have hS : va_S (lawA s) s.heap H1 locs := by rw [← hA9]; exact hSy
  clear hB hz1 hk1 hvm ht hSx hSy
  generalize H1 = H at hP8 hP9 hS ⊢
  have hF19 : Fr (fL [0]) σ9 υ17 := hw18.1
  have hJ20 : J9 (υ17 9) := hw18.2.1
  have hK21 : DKA (υ17 9) := DKA.mv hDK (hF19 9 17 rfl).2.2.1 (hF19 9 18 rfl).2.2.1 (hF19 9 19 rfl).2.2.1
  have hR22 : KP σ8 (υ17 9) := KP.fr9 hR (hF19 9 22 rfl).2.2.1
  refine lv_pop hx hb dL_law_2113 rfl ?_
  refine lv_goto (tgt := 2411) hx hb dL_law_2114 (by decide) ?_
  exact hnext _ _ _ _ _ hJ8 hJ20 hK21 hR22 hP8 hP9 hS hl

theorem q753 : Cond.methodLink RL 223 yX8_pitches ∈ lw_g := lw_gm (List.mem_of_getElem? (i := 753) (by decide +kernel)) rfl
theorem q754 : Cond.instanceMethod yX8_pitches ∈ lw_g := lw_gm (List.mem_of_getElem? (i := 754) (by decide +kernel)) rfl
theorem q755 : Cond.selects RX8 yX8_pitches yX8_pitches ∈ lw_g := lw_gm (List.mem_of_getElem? (i := 755) (by decide +kernel)) rfl
theorem q2132 : Cond.methodLink RL 226 yX9_pitches ∈ lw_g := lw_gm (List.mem_of_getElem? (i := 2132) (by decide +kernel)) rfl
theorem q2133 : Cond.instanceMethod yX9_pitches ∈ lw_g := lw_gm (List.mem_of_getElem? (i := 2133) (by decide +kernel)) rfl
theorem q2134 : Cond.selects RX9 yX9_pitches yX9_pitches ∈ lw_g := lw_gm (List.mem_of_getElem? (i := 2134) (by decide +kernel)) rfl
theorem dL_law_2117 : decode cL_law 2117 = .ok (.aload_n 1, 1) := by decide +kernel
theorem dL_law_2118 : decode cL_law 2118 = .ok (.aload_n 0, 1) := by decide +kernel
theorem dL_law_2119 : decode cL_law 2119 = .ok (.iload_n 3, 1) := by decide +kernel
theorem dL_law_2120 : decode cL_law 2120 = .ok (.iconst 1, 1) := by decide +kernel
theorem dL_law_2121 : decode cL_law 2121 = .ok (.iadd, 1) := by decide +kernel
theorem dL_law_2122 : decode cL_law 2122 = .ok (.iaload, 1) := by decide +kernel
theorem dL_law_2123 : decode cL_law 2123 = .ok (.invokevirtual 223, 3) := by decide +kernel
theorem dL_law_2126 : decode cL_law 2126 = .ok (.pop, 1) := by decide +kernel
theorem dL_law_2127 : decode cL_law 2127 = .ok (.aload_n 2, 1) := by decide +kernel
theorem dL_law_2128 : decode cL_law 2128 = .ok (.aload_n 0, 1) := by decide +kernel
theorem dL_law_2129 : decode cL_law 2129 = .ok (.iload_n 3, 1) := by decide +kernel
theorem dL_law_2130 : decode cL_law 2130 = .ok (.iconst 1, 1) := by decide +kernel
theorem dL_law_2131 : decode cL_law 2131 = .ok (.iadd, 1) := by decide +kernel
theorem dL_law_2132 : decode cL_law 2132 = .ok (.iaload, 1) := by decide +kernel
theorem dL_law_2133 : decode cL_law 2133 = .ok (.invokevirtual 226, 3) := by decide +kernel
theorem dL_law_2136 : decode cL_law 2136 = .ok (.pop, 1) := by decide +kernel
theorem dL_law_2137 : decode cL_law 2137 = .ok (.goto 274, 3) := by decide +kernel
set_option maxHeartbeats 4000000 in
set_option maxRecDepth 100000 in
theorem lawc_51 {p : Program} {l : Launch} {e : Env} {s : State} {m : MethodId} {below : List Frame} {meth : Method} {c : Code} {b L : Nat} {xs : Nat → Int32} {D : va_G} {cy : Nat → ClassId} {g1 g2 : Nat → Nat} (X : LX p s m meth c b L xs D cy g1 g2) (hL : L ≤ 3072) {i : Int32} (hi : (0 : Int) ≤ i.toInt ∧ i.toInt + 6 ≤ (L : Int)) (hnext : (∀ (σ8 σ9 : ST) (H : Heap) (locs : List Loc) (ls : Array Slot), J8 σ8 → J9 (σ9 9) → DKA (σ9 9) → KP σ8 (σ9 9) → va_P D clz (WD8 cy g1 σ8) H → va_P D clz (WD9 cy g2 σ9) H → va_S (lawA s) s.heap H locs → lv_has ls 4 [(3, .int i), (2, .ref (g2 60)), (1, .ref (gO g1 17)), (0, .ref b)] → W p l e room_1 s m #[Value.ref b] below meth c H locs 200 700000 (lw_Z below #[Value.ref b] s) (F0 m 2411 ls []))) (σ8 σ9 : ST) (H : Heap) (locs : List Loc) (ls : Array Slot) (hJ8 : J8 σ8) (hJ9 : J9 (σ9 9)) (hDK : DKA (σ9 9)) (hR : KP σ8 (σ9 9)) (hP8 : va_P D clz (WD8 cy g1 σ8) H) (hP9 : va_P D clz (WD9 cy g2 σ9) H) (hS : va_S (lawA s) s.heap H locs) (hl : lv_has ls 4 [(3, .int i), (2, .ref (g2 60)), (1, .ref (gO g1 17)), (0, .ref b)]) : W p l e room_1 s m #[Value.ref b] below meth c H locs 200 700000 (lw_Z below #[Value.ref b] s) (F0 m 2117 ls []) := by
  obtain ⟨⟨hx, hb, hr, hml, hown0, hts0, hX, hbl, hlocks, hgv⟩, hK, hDD, hC8, hC9⟩ := X
  have hown : s.vm.findClass RL = some m.cls := hown0
  have hts : ∀ w ∈ lw_g, w.before #[Value.ref b] s = true := fun w h => hts0 w (lw_gt h)
  have hbA : ¬ lawA s b := Nat.not_le.mpr hbl
  have hA8 := A8_law hDD
  have hA9 := A9_law hDD
  have hD8 : ∀ τ : ST, va_D (A8 cy g1 s.heap.size) (WD8 cy g1 τ) := fun τ => by rw [hA8]; exact map_D WD8_m (D_l hDD)
  have hD9 : ∀ τ : ST, va_D (A9 cy g2 s.heap.size) (WD9 cy g2 τ) := fun τ => by rw [hA9]; exact map_D WD9_m (D_r hDD)
  rw [← hA8] at hC8
  rw [← hA9] at hC9
  refine lv_aload_n hx hb dL_law_2117 rfl (lv_at hl 2 rfl) ?_
  refine lv_aload_n hx hb dL_law_2118 rfl (lv_at hl 3 rfl) ?_
  refine lv_iload_n hx hb dL_law_2119 rfl (lv_at hl 0 rfl) ?_
  refine lv_iconst (v := 1) hx hb dL_law_2120 (by decide) ?_
  refine lv_iadd hx hb dL_law_2121 ?_
  refine lv_topi (fun x1 ex1 => ?_)
  have t2 := addO ex1 (by have f0 := hi; have f1 := hL; have z1 : (1 : Int32).toInt = 1 := (by decide); omega)
  refine va_sld hx hb hX hbl hbA hS (vpo (by have f0 := t2; have f1 := hi; have f2 := hL; have g0 := rg32 x1; have z1 : (1 : Int32).toInt = 1 := (by decide); omega)) dL_law_2122 ?_
  refine lv_topi (fun x3 ex3 => ?_)
  have hSx : va_S (A8 cy g1 s.heap.size) s.heap H locs := by rw [hA8]; exact hS
  refine va_calli (va_runV (As := [.int x3]) (rest := []) ⟨hx, hb, hml, hown, hts⟩ (m_X8_pitches l D cy g1 σ8 x3 _ hJ8) (cwV 1 hts (gd_V q753 q754 q755 q125 q756) rfl rfl rfl (by decide +kernel) ⟨Nat.le_of_ble_eq_true rfl, Nat.le_of_ble_eq_true rfl⟩) (pv8 hP8 hK hD8 hC8 hSx (rv8_8 hK hP8)) rfl rfl hl.1 rfl (lv_room (Nat.le_of_ble_eq_true rfl)) dL_law_2123 ⟨Nat.le_of_ble_eq_true rfl, Nat.le_of_ble_eq_true rfl⟩) hSx (fun q _ h => up8 hSx q h) (up8 hSx) (fun r4 υ5 tS H1 locs ht hvm hw6 hB hz1 hk1 hSy => ?_)
  have hP8 : va_P D clz (WD8 cy g1 υ5) H1 := by rw [← ht]; exact hB
  have hP9 := kp9 hDD hP9 hk1
  have hS : va_S (lawA s) s.heap H1 locs := by rw [← hA8]; exact hSy
  clear hB hz1 hk1 hvm ht hSx hSy
  generalize H1 = H at hP8 hP9 hS ⊢
  have hw6E : σ8 = υ5 := (hw6.1).symm
  subst hw6E
  refine lv_pop hx hb dL_law_2126 rfl ?_
  refine lv_aload_n hx hb dL_law_2127 rfl (lv_at hl 1 rfl) ?_
  refine lv_aload_n hx hb dL_law_2128 rfl (lv_at hl 3 rfl) ?_
  refine lv_iload_n hx hb dL_law_2129 rfl (lv_at hl 0 rfl) ?_
  refine lv_iconst (v := 1) hx hb dL_law_2130 (by decide) ?_
  refine lv_iadd hx hb dL_law_2131 ?_
  refine lv_topi (fun x7 ex7 => ?_)
  have t8 := addO ex7 (by have f0 := hi; have f1 := hL; have f2 := t2; have z1 : (1 : Int32).toInt = 1 := (by decide); omega)
  refine va_sld hx hb hX hbl hbA hS (vpo (by have f0 := t8; have f1 := hi; have f2 := hL; have f3 := t2; have g0 := rg32 x7; have z1 : (1 : Int32).toInt = 1 := (by decide); omega)) dL_law_2132 ?_
  refine lv_topi (fun x9 ex9 => ?_)
  have hSx : va_S (A9 cy g2 s.heap.size) s.heap H locs := by rw [hA9]; exact hS
  refine va_calli (va_runV (As := [.int x9]) (rest := []) ⟨hx, hb, hml, hown, hts⟩ (m_X9_pitches l D cy g2 σ9 x9 _ hJ9 ) (cwV 1 hts (gd_V q2132 q2133 q2134 q134 q2135) rfl rfl rfl (by decide +kernel) ⟨Nat.le_of_ble_eq_true rfl, Nat.le_of_ble_eq_true rfl⟩) (pv9 hP9 hK hD9 hC9 hSx (va_recv hK hP9 (ci := 9) (q0 := 0) rfl rfl)) rfl rfl hl.1 rfl (lv_room (Nat.le_of_ble_eq_true rfl)) dL_law_2133 ⟨Nat.le_of_ble_eq_true rfl, Nat.le_of_ble_eq_true rfl⟩) hSx (fun q _ h => up9 hSx q h) (up9 hSx) (fun r10 υ11 tS H1 locs ht hvm hw12 hB hz1 hk1 hSy => ?_)
  have hP9 : va_P D clz (WD9 cy g2 υ11) H1 := by rw [← ht]; exact hB
  have hP8 := kp8 hDD hP8 hk1
  have hS : va_S (lawA s) s.heap H1 locs := by rw [← hA9]; exact hSy
  clear hB hz1 hk1 hvm ht hSx hSy
  generalize H1 = H at hP8 hP9 hS ⊢
  have hF13 : Fr (fL [0]) σ9 υ11 := hw12.1
  have hJ14 : J9 (υ11 9) := hw12.2.1
  have hK15 : DKA (υ11 9) := DKA.mv hDK (hF13 9 17 rfl).2.2.1 (hF13 9 18 rfl).2.2.1 (hF13 9 19 rfl).2.2.1
  have hR16 : KP σ8 (υ11 9) := KP.fr9 hR (hF13 9 22 rfl).2.2.1
  refine lv_pop hx hb dL_law_2136 rfl ?_
  refine lv_goto (tgt := 2411) hx hb dL_law_2137 (by decide) ?_
  exact hnext _ _ _ _ _ hJ8 hJ14 hK15 hR16 hP8 hP9 hS hl

theorem q690 : Cond.methodLink RL 227 yX8_count ∈ lw_g := lw_gm (List.mem_of_getElem? (i := 690) (by decide +kernel)) rfl
theorem q691 : Cond.instanceMethod yX8_count ∈ lw_g := lw_gm (List.mem_of_getElem? (i := 691) (by decide +kernel)) rfl
theorem q692 : Cond.selects RX8 yX8_count yX8_count ∈ lw_g := lw_gm (List.mem_of_getElem? (i := 692) (by decide +kernel)) rfl
theorem q2136 : Cond.methodLink RL 230 yX9_count ∈ lw_g := lw_gm (List.mem_of_getElem? (i := 2136) (by decide +kernel)) rfl
theorem q2137 : Cond.instanceMethod yX9_count ∈ lw_g := lw_gm (List.mem_of_getElem? (i := 2137) (by decide +kernel)) rfl
theorem q2138 : Cond.selects RX9 yX9_count yX9_count ∈ lw_g := lw_gm (List.mem_of_getElem? (i := 2138) (by decide +kernel)) rfl
theorem dL_law_2140 : decode cL_law 2140 = .ok (.aload_n 1, 1) := by decide +kernel
theorem dL_law_2141 : decode cL_law 2141 = .ok (.aload_n 0, 1) := by decide +kernel
theorem dL_law_2142 : decode cL_law 2142 = .ok (.iload_n 3, 1) := by decide +kernel
theorem dL_law_2143 : decode cL_law 2143 = .ok (.iconst 1, 1) := by decide +kernel
theorem dL_law_2144 : decode cL_law 2144 = .ok (.iadd, 1) := by decide +kernel
theorem dL_law_2145 : decode cL_law 2145 = .ok (.iaload, 1) := by decide +kernel
theorem dL_law_2146 : decode cL_law 2146 = .ok (.invokevirtual 227, 3) := by decide +kernel
theorem dL_law_2149 : decode cL_law 2149 = .ok (.pop, 1) := by decide +kernel
theorem dL_law_2150 : decode cL_law 2150 = .ok (.aload_n 2, 1) := by decide +kernel
theorem dL_law_2151 : decode cL_law 2151 = .ok (.aload_n 0, 1) := by decide +kernel
theorem dL_law_2152 : decode cL_law 2152 = .ok (.iload_n 3, 1) := by decide +kernel
theorem dL_law_2153 : decode cL_law 2153 = .ok (.iconst 1, 1) := by decide +kernel
theorem dL_law_2154 : decode cL_law 2154 = .ok (.iadd, 1) := by decide +kernel
theorem dL_law_2155 : decode cL_law 2155 = .ok (.iaload, 1) := by decide +kernel
theorem dL_law_2156 : decode cL_law 2156 = .ok (.invokevirtual 230, 3) := by decide +kernel
theorem dL_law_2159 : decode cL_law 2159 = .ok (.pop, 1) := by decide +kernel
theorem dL_law_2160 : decode cL_law 2160 = .ok (.goto 251, 3) := by decide +kernel
set_option maxHeartbeats 4000000 in
set_option maxRecDepth 100000 in
theorem lawc_52 {p : Program} {l : Launch} {e : Env} {s : State} {m : MethodId} {below : List Frame} {meth : Method} {c : Code} {b L : Nat} {xs : Nat → Int32} {D : va_G} {cy : Nat → ClassId} {g1 g2 : Nat → Nat} (X : LX p s m meth c b L xs D cy g1 g2) (hL : L ≤ 3072) {i : Int32} (hi : (0 : Int) ≤ i.toInt ∧ i.toInt + 6 ≤ (L : Int)) (hnext : (∀ (σ8 σ9 : ST) (H : Heap) (locs : List Loc) (ls : Array Slot), J8 σ8 → J9 (σ9 9) → DKA (σ9 9) → KP σ8 (σ9 9) → va_P D clz (WD8 cy g1 σ8) H → va_P D clz (WD9 cy g2 σ9) H → va_S (lawA s) s.heap H locs → lv_has ls 4 [(3, .int i), (2, .ref (g2 60)), (1, .ref (gO g1 17)), (0, .ref b)] → W p l e room_1 s m #[Value.ref b] below meth c H locs 200 700000 (lw_Z below #[Value.ref b] s) (F0 m 2411 ls []))) (σ8 σ9 : ST) (H : Heap) (locs : List Loc) (ls : Array Slot) (hJ8 : J8 σ8) (hJ9 : J9 (σ9 9)) (hDK : DKA (σ9 9)) (hR : KP σ8 (σ9 9)) (hP8 : va_P D clz (WD8 cy g1 σ8) H) (hP9 : va_P D clz (WD9 cy g2 σ9) H) (hS : va_S (lawA s) s.heap H locs) (hl : lv_has ls 4 [(3, .int i), (2, .ref (g2 60)), (1, .ref (gO g1 17)), (0, .ref b)]) : W p l e room_1 s m #[Value.ref b] below meth c H locs 200 700000 (lw_Z below #[Value.ref b] s) (F0 m 2140 ls []) := by
  obtain ⟨⟨hx, hb, hr, hml, hown0, hts0, hX, hbl, hlocks, hgv⟩, hK, hDD, hC8, hC9⟩ := X
  have hown : s.vm.findClass RL = some m.cls := hown0
  have hts : ∀ w ∈ lw_g, w.before #[Value.ref b] s = true := fun w h => hts0 w (lw_gt h)
  have hbA : ¬ lawA s b := Nat.not_le.mpr hbl
  have hA8 := A8_law hDD
  have hA9 := A9_law hDD
  have hD8 : ∀ τ : ST, va_D (A8 cy g1 s.heap.size) (WD8 cy g1 τ) := fun τ => by rw [hA8]; exact map_D WD8_m (D_l hDD)
  have hD9 : ∀ τ : ST, va_D (A9 cy g2 s.heap.size) (WD9 cy g2 τ) := fun τ => by rw [hA9]; exact map_D WD9_m (D_r hDD)
  rw [← hA8] at hC8
  rw [← hA9] at hC9
  refine lv_aload_n hx hb dL_law_2140 rfl (lv_at hl 2 rfl) ?_
  refine lv_aload_n hx hb dL_law_2141 rfl (lv_at hl 3 rfl) ?_
  refine lv_iload_n hx hb dL_law_2142 rfl (lv_at hl 0 rfl) ?_
  refine lv_iconst (v := 1) hx hb dL_law_2143 (by decide) ?_
  refine lv_iadd hx hb dL_law_2144 ?_
  refine lv_topi (fun x1 ex1 => ?_)
  have t2 := addO ex1 (by have f0 := hi; have f1 := hL; have z1 : (1 : Int32).toInt = 1 := (by decide); omega)
  refine va_sld hx hb hX hbl hbA hS (vpo (by have f0 := t2; have f1 := hi; have f2 := hL; have g0 := rg32 x1; have z1 : (1 : Int32).toInt = 1 := (by decide); omega)) dL_law_2145 ?_
  refine lv_topi (fun x3 ex3 => ?_)
  have hSx : va_S (A8 cy g1 s.heap.size) s.heap H locs := by rw [hA8]; exact hS
  refine va_calli (va_runV (As := [.int x3]) (rest := []) ⟨hx, hb, hml, hown, hts⟩ (m_X8_count l D cy g1 σ8 x3 _ hJ8) (cwV 1 hts (gd_V q690 q691 q692 q125 q693) rfl rfl rfl (by decide +kernel) ⟨Nat.le_of_ble_eq_true rfl, Nat.le_of_ble_eq_true rfl⟩) (pv8 hP8 hK hD8 hC8 hSx (rv8_8 hK hP8)) rfl rfl hl.1 rfl (lv_room (Nat.le_of_ble_eq_true rfl)) dL_law_2146 ⟨Nat.le_of_ble_eq_true rfl, Nat.le_of_ble_eq_true rfl⟩) hSx (fun q _ h => up8 hSx q h) (up8 hSx) (fun r4 υ5 tS H1 locs ht hvm hw6 hB hz1 hk1 hSy => ?_)
  have hP8 : va_P D clz (WD8 cy g1 υ5) H1 := by rw [← ht]; exact hB
  have hP9 := kp9 hDD hP9 hk1
  have hS : va_S (lawA s) s.heap H1 locs := by rw [← hA8]; exact hSy
  clear hB hz1 hk1 hvm ht hSx hSy
  generalize H1 = H at hP8 hP9 hS ⊢
  have hw6E : σ8 = υ5 := (hw6.1).symm
  subst hw6E
  refine lv_pop hx hb dL_law_2149 rfl ?_
  refine lv_aload_n hx hb dL_law_2150 rfl (lv_at hl 1 rfl) ?_
  refine lv_aload_n hx hb dL_law_2151 rfl (lv_at hl 3 rfl) ?_
  refine lv_iload_n hx hb dL_law_2152 rfl (lv_at hl 0 rfl) ?_
  refine lv_iconst (v := 1) hx hb dL_law_2153 (by decide) ?_
  refine lv_iadd hx hb dL_law_2154 ?_
  refine lv_topi (fun x7 ex7 => ?_)
  have t8 := addO ex7 (by have f0 := hi; have f1 := hL; have f2 := t2; have z1 : (1 : Int32).toInt = 1 := (by decide); omega)
  refine va_sld hx hb hX hbl hbA hS (vpo (by have f0 := t8; have f1 := hi; have f2 := hL; have f3 := t2; have g0 := rg32 x7; have z1 : (1 : Int32).toInt = 1 := (by decide); omega)) dL_law_2155 ?_
  refine lv_topi (fun x9 ex9 => ?_)
  have hSx : va_S (A9 cy g2 s.heap.size) s.heap H locs := by rw [hA9]; exact hS
  refine va_calli (va_runV (As := [.int x9]) (rest := []) ⟨hx, hb, hml, hown, hts⟩ (m_X9_count l D cy g2 σ9 x9 _ hJ9 ) (cwV 1 hts (gd_V q2136 q2137 q2138 q134 q2139) rfl rfl rfl (by decide +kernel) ⟨Nat.le_of_ble_eq_true rfl, Nat.le_of_ble_eq_true rfl⟩) (pv9 hP9 hK hD9 hC9 hSx (va_recv hK hP9 (ci := 9) (q0 := 0) rfl rfl)) rfl rfl hl.1 rfl (lv_room (Nat.le_of_ble_eq_true rfl)) dL_law_2156 ⟨Nat.le_of_ble_eq_true rfl, Nat.le_of_ble_eq_true rfl⟩) hSx (fun q _ h => up9 hSx q h) (up9 hSx) (fun r10 υ11 tS H1 locs ht hvm hw12 hB hz1 hk1 hSy => ?_)
  have hP9 : va_P D clz (WD9 cy g2 υ11) H1 := by rw [← ht]; exact hB
  have hP8 := kp8 hDD hP8 hk1
  have hS : va_S (lawA s) s.heap H1 locs := by rw [← hA9]; exact hSy
  clear hB hz1 hk1 hvm ht hSx hSy
  generalize H1 = H at hP8 hP9 hS ⊢
  have hF13 : Fr (fL [0]) σ9 υ11 := hw12.1
  have hJ14 : J9 (υ11 9) := hw12.2.1
  have hK15 : DKA (υ11 9) := DKA.mv hDK (hF13 9 17 rfl).2.2.1 (hF13 9 18 rfl).2.2.1 (hF13 9 19 rfl).2.2.1
  have hR16 : KP σ8 (υ11 9) := KP.fr9 hR (hF13 9 22 rfl).2.2.1
  refine lv_pop hx hb dL_law_2159 rfl ?_
  refine lv_goto (tgt := 2411) hx hb dL_law_2160 (by decide) ?_
  exact hnext _ _ _ _ _ hJ8 hJ14 hK15 hR16 hP8 hP9 hS hl

theorem q734 : Cond.methodLink RL 231 yX8_tones ∈ lw_g := lw_gm (List.mem_of_getElem? (i := 734) (by decide +kernel)) rfl
theorem q735 : Cond.instanceMethod yX8_tones ∈ lw_g := lw_gm (List.mem_of_getElem? (i := 735) (by decide +kernel)) rfl
theorem q736 : Cond.selects RX8 yX8_tones yX8_tones ∈ lw_g := lw_gm (List.mem_of_getElem? (i := 736) (by decide +kernel)) rfl
theorem q2140 : Cond.methodLink RL 234 yX9_tones ∈ lw_g := lw_gm (List.mem_of_getElem? (i := 2140) (by decide +kernel)) rfl
theorem q2141 : Cond.instanceMethod yX9_tones ∈ lw_g := lw_gm (List.mem_of_getElem? (i := 2141) (by decide +kernel)) rfl
theorem q2142 : Cond.selects RX9 yX9_tones yX9_tones ∈ lw_g := lw_gm (List.mem_of_getElem? (i := 2142) (by decide +kernel)) rfl
theorem dL_law_2163 : decode cL_law 2163 = .ok (.aload_n 1, 1) := by decide +kernel
theorem dL_law_2164 : decode cL_law 2164 = .ok (.aload_n 0, 1) := by decide +kernel
theorem dL_law_2165 : decode cL_law 2165 = .ok (.iload_n 3, 1) := by decide +kernel
theorem dL_law_2166 : decode cL_law 2166 = .ok (.iconst 1, 1) := by decide +kernel
theorem dL_law_2167 : decode cL_law 2167 = .ok (.iadd, 1) := by decide +kernel
theorem dL_law_2168 : decode cL_law 2168 = .ok (.iaload, 1) := by decide +kernel
theorem dL_law_2169 : decode cL_law 2169 = .ok (.invokevirtual 231, 3) := by decide +kernel
theorem dL_law_2172 : decode cL_law 2172 = .ok (.pop, 1) := by decide +kernel
theorem dL_law_2173 : decode cL_law 2173 = .ok (.aload_n 2, 1) := by decide +kernel
theorem dL_law_2174 : decode cL_law 2174 = .ok (.aload_n 0, 1) := by decide +kernel
theorem dL_law_2175 : decode cL_law 2175 = .ok (.iload_n 3, 1) := by decide +kernel
theorem dL_law_2176 : decode cL_law 2176 = .ok (.iconst 1, 1) := by decide +kernel
theorem dL_law_2177 : decode cL_law 2177 = .ok (.iadd, 1) := by decide +kernel
theorem dL_law_2178 : decode cL_law 2178 = .ok (.iaload, 1) := by decide +kernel
theorem dL_law_2179 : decode cL_law 2179 = .ok (.invokevirtual 234, 3) := by decide +kernel
theorem dL_law_2182 : decode cL_law 2182 = .ok (.pop, 1) := by decide +kernel
theorem dL_law_2183 : decode cL_law 2183 = .ok (.goto 228, 3) := by decide +kernel
set_option maxHeartbeats 4000000 in
set_option maxRecDepth 100000 in
theorem lawc_53 {p : Program} {l : Launch} {e : Env} {s : State} {m : MethodId} {below : List Frame} {meth : Method} {c : Code} {b L : Nat} {xs : Nat → Int32} {D : va_G} {cy : Nat → ClassId} {g1 g2 : Nat → Nat} (X : LX p s m meth c b L xs D cy g1 g2) (hL : L ≤ 3072) {i : Int32} (hi : (0 : Int) ≤ i.toInt ∧ i.toInt + 6 ≤ (L : Int)) (hnext : (∀ (σ8 σ9 : ST) (H : Heap) (locs : List Loc) (ls : Array Slot), J8 σ8 → J9 (σ9 9) → DKA (σ9 9) → KP σ8 (σ9 9) → va_P D clz (WD8 cy g1 σ8) H → va_P D clz (WD9 cy g2 σ9) H → va_S (lawA s) s.heap H locs → lv_has ls 4 [(3, .int i), (2, .ref (g2 60)), (1, .ref (gO g1 17)), (0, .ref b)] → W p l e room_1 s m #[Value.ref b] below meth c H locs 200 700000 (lw_Z below #[Value.ref b] s) (F0 m 2411 ls []))) (σ8 σ9 : ST) (H : Heap) (locs : List Loc) (ls : Array Slot) (hJ8 : J8 σ8) (hJ9 : J9 (σ9 9)) (hDK : DKA (σ9 9)) (hR : KP σ8 (σ9 9)) (hP8 : va_P D clz (WD8 cy g1 σ8) H) (hP9 : va_P D clz (WD9 cy g2 σ9) H) (hS : va_S (lawA s) s.heap H locs) (hl : lv_has ls 4 [(3, .int i), (2, .ref (g2 60)), (1, .ref (gO g1 17)), (0, .ref b)]) : W p l e room_1 s m #[Value.ref b] below meth c H locs 200 700000 (lw_Z below #[Value.ref b] s) (F0 m 2163 ls []) := by
  obtain ⟨⟨hx, hb, hr, hml, hown0, hts0, hX, hbl, hlocks, hgv⟩, hK, hDD, hC8, hC9⟩ := X
  have hown : s.vm.findClass RL = some m.cls := hown0
  have hts : ∀ w ∈ lw_g, w.before #[Value.ref b] s = true := fun w h => hts0 w (lw_gt h)
  have hbA : ¬ lawA s b := Nat.not_le.mpr hbl
  have hA8 := A8_law hDD
  have hA9 := A9_law hDD
  have hD8 : ∀ τ : ST, va_D (A8 cy g1 s.heap.size) (WD8 cy g1 τ) := fun τ => by rw [hA8]; exact map_D WD8_m (D_l hDD)
  have hD9 : ∀ τ : ST, va_D (A9 cy g2 s.heap.size) (WD9 cy g2 τ) := fun τ => by rw [hA9]; exact map_D WD9_m (D_r hDD)
  rw [← hA8] at hC8
  rw [← hA9] at hC9
  refine lv_aload_n hx hb dL_law_2163 rfl (lv_at hl 2 rfl) ?_
  refine lv_aload_n hx hb dL_law_2164 rfl (lv_at hl 3 rfl) ?_
  refine lv_iload_n hx hb dL_law_2165 rfl (lv_at hl 0 rfl) ?_
  refine lv_iconst (v := 1) hx hb dL_law_2166 (by decide) ?_
  refine lv_iadd hx hb dL_law_2167 ?_
  refine lv_topi (fun x1 ex1 => ?_)
  have t2 := addO ex1 (by have f0 := hi; have f1 := hL; have z1 : (1 : Int32).toInt = 1 := (by decide); omega)
  refine va_sld hx hb hX hbl hbA hS (vpo (by have f0 := t2; have f1 := hi; have f2 := hL; have g0 := rg32 x1; have z1 : (1 : Int32).toInt = 1 := (by decide); omega)) dL_law_2168 ?_
  refine lv_topi (fun x3 ex3 => ?_)
  have hSx : va_S (A8 cy g1 s.heap.size) s.heap H locs := by rw [hA8]; exact hS
  refine va_calli (va_runV (As := [.int x3]) (rest := []) ⟨hx, hb, hml, hown, hts⟩ (m_X8_tones l D cy g1 σ8 x3 _ hJ8) (cwV 1 hts (gd_V q734 q735 q736 q125 q737) rfl rfl rfl (by decide +kernel) ⟨Nat.le_of_ble_eq_true rfl, Nat.le_of_ble_eq_true rfl⟩) (pv8 hP8 hK hD8 hC8 hSx (rv8_8 hK hP8)) rfl rfl hl.1 rfl (lv_room (Nat.le_of_ble_eq_true rfl)) dL_law_2169 ⟨Nat.le_of_ble_eq_true rfl, Nat.le_of_ble_eq_true rfl⟩) hSx (fun q _ h => up8 hSx q h) (up8 hSx) (fun r4 υ5 tS H1 locs ht hvm hw6 hB hz1 hk1 hSy => ?_)
  have hP8 : va_P D clz (WD8 cy g1 υ5) H1 := by rw [← ht]; exact hB
  have hP9 := kp9 hDD hP9 hk1
  have hS : va_S (lawA s) s.heap H1 locs := by rw [← hA8]; exact hSy
  clear hB hz1 hk1 hvm ht hSx hSy
  generalize H1 = H at hP8 hP9 hS ⊢
  have hw6E : σ8 = υ5 := (hw6.1).symm
  subst hw6E
  refine lv_pop hx hb dL_law_2172 rfl ?_
  refine lv_aload_n hx hb dL_law_2173 rfl (lv_at hl 1 rfl) ?_
  refine lv_aload_n hx hb dL_law_2174 rfl (lv_at hl 3 rfl) ?_
  refine lv_iload_n hx hb dL_law_2175 rfl (lv_at hl 0 rfl) ?_
  refine lv_iconst (v := 1) hx hb dL_law_2176 (by decide) ?_
  refine lv_iadd hx hb dL_law_2177 ?_
  refine lv_topi (fun x7 ex7 => ?_)
  have t8 := addO ex7 (by have f0 := hi; have f1 := hL; have f2 := t2; have z1 : (1 : Int32).toInt = 1 := (by decide); omega)
  refine va_sld hx hb hX hbl hbA hS (vpo (by have f0 := t8; have f1 := hi; have f2 := hL; have f3 := t2; have g0 := rg32 x7; have z1 : (1 : Int32).toInt = 1 := (by decide); omega)) dL_law_2178 ?_
  refine lv_topi (fun x9 ex9 => ?_)
  have hSx : va_S (A9 cy g2 s.heap.size) s.heap H locs := by rw [hA9]; exact hS
  refine va_calli (va_runV (As := [.int x9]) (rest := []) ⟨hx, hb, hml, hown, hts⟩ (m_X9_tones l D cy g2 σ9 x9 _ hJ9 ) (cwV 1 hts (gd_V q2140 q2141 q2142 q134 q2143) rfl rfl rfl (by decide +kernel) ⟨Nat.le_of_ble_eq_true rfl, Nat.le_of_ble_eq_true rfl⟩) (pv9 hP9 hK hD9 hC9 hSx (va_recv hK hP9 (ci := 9) (q0 := 0) rfl rfl)) rfl rfl hl.1 rfl (lv_room (Nat.le_of_ble_eq_true rfl)) dL_law_2179 ⟨Nat.le_of_ble_eq_true rfl, Nat.le_of_ble_eq_true rfl⟩) hSx (fun q _ h => up9 hSx q h) (up9 hSx) (fun r10 υ11 tS H1 locs ht hvm hw12 hB hz1 hk1 hSy => ?_)
  have hP9 : va_P D clz (WD9 cy g2 υ11) H1 := by rw [← ht]; exact hB
  have hP8 := kp8 hDD hP8 hk1
  have hS : va_S (lawA s) s.heap H1 locs := by rw [← hA9]; exact hSy
  clear hB hz1 hk1 hvm ht hSx hSy
  generalize H1 = H at hP8 hP9 hS ⊢
  have hF13 : Fr (fL [0]) σ9 υ11 := hw12.1
  have hJ14 : J9 (υ11 9) := hw12.2.1
  have hK15 : DKA (υ11 9) := DKA.mv hDK (hF13 9 17 rfl).2.2.1 (hF13 9 18 rfl).2.2.1 (hF13 9 19 rfl).2.2.1
  have hR16 : KP σ8 (υ11 9) := KP.fr9 hR (hF13 9 22 rfl).2.2.1
  refine lv_pop hx hb dL_law_2182 rfl ?_
  refine lv_goto (tgt := 2411) hx hb dL_law_2183 (by decide) ?_
  exact hnext _ _ _ _ _ hJ8 hJ14 hK15 hR16 hP8 hP9 hS hl

theorem q698 : Cond.methodLink RL 235 yX8_keep ∈ lw_g := lw_gm (List.mem_of_getElem? (i := 698) (by decide +kernel)) rfl
theorem q699 : Cond.instanceMethod yX8_keep ∈ lw_g := lw_gm (List.mem_of_getElem? (i := 699) (by decide +kernel)) rfl
theorem q700 : Cond.selects RX8 yX8_keep yX8_keep ∈ lw_g := lw_gm (List.mem_of_getElem? (i := 700) (by decide +kernel)) rfl
theorem q2144 : Cond.methodLink RL 238 yX9_keep ∈ lw_g := lw_gm (List.mem_of_getElem? (i := 2144) (by decide +kernel)) rfl
theorem q2145 : Cond.instanceMethod yX9_keep ∈ lw_g := lw_gm (List.mem_of_getElem? (i := 2145) (by decide +kernel)) rfl
theorem q2146 : Cond.selects RX9 yX9_keep yX9_keep ∈ lw_g := lw_gm (List.mem_of_getElem? (i := 2146) (by decide +kernel)) rfl
theorem dL_law_2186 : decode cL_law 2186 = .ok (.aload_n 1, 1) := by decide +kernel
theorem dL_law_2187 : decode cL_law 2187 = .ok (.aload_n 0, 1) := by decide +kernel
theorem dL_law_2188 : decode cL_law 2188 = .ok (.iload_n 3, 1) := by decide +kernel
theorem dL_law_2189 : decode cL_law 2189 = .ok (.iconst 1, 1) := by decide +kernel
theorem dL_law_2190 : decode cL_law 2190 = .ok (.iadd, 1) := by decide +kernel
theorem dL_law_2191 : decode cL_law 2191 = .ok (.iaload, 1) := by decide +kernel
theorem dL_law_2192 : decode cL_law 2192 = .ok (.invokevirtual 235, 3) := by decide +kernel
theorem dL_law_2195 : decode cL_law 2195 = .ok (.pop, 1) := by decide +kernel
theorem dL_law_2196 : decode cL_law 2196 = .ok (.aload_n 2, 1) := by decide +kernel
theorem dL_law_2197 : decode cL_law 2197 = .ok (.aload_n 0, 1) := by decide +kernel
theorem dL_law_2198 : decode cL_law 2198 = .ok (.iload_n 3, 1) := by decide +kernel
theorem dL_law_2199 : decode cL_law 2199 = .ok (.iconst 1, 1) := by decide +kernel
theorem dL_law_2200 : decode cL_law 2200 = .ok (.iadd, 1) := by decide +kernel
theorem dL_law_2201 : decode cL_law 2201 = .ok (.iaload, 1) := by decide +kernel
theorem dL_law_2202 : decode cL_law 2202 = .ok (.invokevirtual 238, 3) := by decide +kernel
theorem dL_law_2205 : decode cL_law 2205 = .ok (.pop, 1) := by decide +kernel
theorem dL_law_2206 : decode cL_law 2206 = .ok (.goto 205, 3) := by decide +kernel
set_option maxHeartbeats 4000000 in
set_option maxRecDepth 100000 in
theorem lawc_54 {p : Program} {l : Launch} {e : Env} {s : State} {m : MethodId} {below : List Frame} {meth : Method} {c : Code} {b L : Nat} {xs : Nat → Int32} {D : va_G} {cy : Nat → ClassId} {g1 g2 : Nat → Nat} (X : LX p s m meth c b L xs D cy g1 g2) (hL : L ≤ 3072) {i : Int32} (hi : (0 : Int) ≤ i.toInt ∧ i.toInt + 6 ≤ (L : Int)) (hnext : (∀ (σ8 σ9 : ST) (H : Heap) (locs : List Loc) (ls : Array Slot), J8 σ8 → J9 (σ9 9) → DKA (σ9 9) → KP σ8 (σ9 9) → va_P D clz (WD8 cy g1 σ8) H → va_P D clz (WD9 cy g2 σ9) H → va_S (lawA s) s.heap H locs → lv_has ls 4 [(3, .int i), (2, .ref (g2 60)), (1, .ref (gO g1 17)), (0, .ref b)] → W p l e room_1 s m #[Value.ref b] below meth c H locs 200 700000 (lw_Z below #[Value.ref b] s) (F0 m 2411 ls []))) (σ8 σ9 : ST) (H : Heap) (locs : List Loc) (ls : Array Slot) (hJ8 : J8 σ8) (hJ9 : J9 (σ9 9)) (hDK : DKA (σ9 9)) (hR : KP σ8 (σ9 9)) (hP8 : va_P D clz (WD8 cy g1 σ8) H) (hP9 : va_P D clz (WD9 cy g2 σ9) H) (hS : va_S (lawA s) s.heap H locs) (hl : lv_has ls 4 [(3, .int i), (2, .ref (g2 60)), (1, .ref (gO g1 17)), (0, .ref b)]) : W p l e room_1 s m #[Value.ref b] below meth c H locs 200 700000 (lw_Z below #[Value.ref b] s) (F0 m 2186 ls []) := by
  obtain ⟨⟨hx, hb, hr, hml, hown0, hts0, hX, hbl, hlocks, hgv⟩, hK, hDD, hC8, hC9⟩ := X
  have hown : s.vm.findClass RL = some m.cls := hown0
  have hts : ∀ w ∈ lw_g, w.before #[Value.ref b] s = true := fun w h => hts0 w (lw_gt h)
  have hbA : ¬ lawA s b := Nat.not_le.mpr hbl
  have hA8 := A8_law hDD
  have hA9 := A9_law hDD
  have hD8 : ∀ τ : ST, va_D (A8 cy g1 s.heap.size) (WD8 cy g1 τ) := fun τ => by rw [hA8]; exact map_D WD8_m (D_l hDD)
  have hD9 : ∀ τ : ST, va_D (A9 cy g2 s.heap.size) (WD9 cy g2 τ) := fun τ => by rw [hA9]; exact map_D WD9_m (D_r hDD)
  rw [← hA8] at hC8
  rw [← hA9] at hC9
  refine lv_aload_n hx hb dL_law_2186 rfl (lv_at hl 2 rfl) ?_
  refine lv_aload_n hx hb dL_law_2187 rfl (lv_at hl 3 rfl) ?_
  refine lv_iload_n hx hb dL_law_2188 rfl (lv_at hl 0 rfl) ?_
  refine lv_iconst (v := 1) hx hb dL_law_2189 (by decide) ?_
  refine lv_iadd hx hb dL_law_2190 ?_
  refine lv_topi (fun x1 ex1 => ?_)
  have t2 := addO ex1 (by have f0 := hi; have f1 := hL; have z1 : (1 : Int32).toInt = 1 := (by decide); omega)
  refine va_sld hx hb hX hbl hbA hS (vpo (by have f0 := t2; have f1 := hi; have f2 := hL; have g0 := rg32 x1; have z1 : (1 : Int32).toInt = 1 := (by decide); omega)) dL_law_2191 ?_
  refine lv_topi (fun x3 ex3 => ?_)
  have hSx : va_S (A8 cy g1 s.heap.size) s.heap H locs := by rw [hA8]; exact hS
  refine va_calli (va_runV (As := [.int x3]) (rest := []) ⟨hx, hb, hml, hown, hts⟩ (m_X8_keep l D cy g1 σ8 x3 _ hJ8) (cwV 1 hts (gd_V q698 q699 q700 q125 q701) rfl rfl rfl (by decide +kernel) ⟨Nat.le_of_ble_eq_true rfl, Nat.le_of_ble_eq_true rfl⟩) (pv8 hP8 hK hD8 hC8 hSx (rv8_8 hK hP8)) rfl rfl hl.1 rfl (lv_room (Nat.le_of_ble_eq_true rfl)) dL_law_2192 ⟨Nat.le_of_ble_eq_true rfl, Nat.le_of_ble_eq_true rfl⟩) hSx (fun q _ h => up8 hSx q h) (up8 hSx) (fun r4 υ5 tS H1 locs ht hvm hw6 hB hz1 hk1 hSy => ?_)
  have hP8 : va_P D clz (WD8 cy g1 υ5) H1 := by rw [← ht]; exact hB
  have hP9 := kp9 hDD hP9 hk1
  have hS : va_S (lawA s) s.heap H1 locs := by rw [← hA8]; exact hSy
  clear hB hz1 hk1 hvm ht hSx hSy
  generalize H1 = H at hP8 hP9 hS ⊢
  have hJ7 : J8 υ5 := hw6.2.1
  have b8 : (r4.toInt = 0 ∧ (υ5 17).2.2.1 4 = upd ((σ8 17).2.2.1 4) x3.toInt.toNat 1) ∨ (¬ r4.toInt = 0 ∧ (υ5 17).2.2.1 4 = (σ8 17).2.2.1 4) := hw6.2.2.2.2.1
  have b9 : ((x3.toInt < 0 ∨ 2 < x3.toInt) ∧ r4.toInt = -2) ∨ (0 ≤ x3.toInt ∧ x3.toInt ≤ 2 ∧ r4.toInt = 0) := hw6.2.2.2.1
  refine lv_pop hx hb dL_law_2195 rfl ?_
  refine lv_aload_n hx hb dL_law_2196 rfl (lv_at hl 1 rfl) ?_
  refine lv_aload_n hx hb dL_law_2197 rfl (lv_at hl 3 rfl) ?_
  refine lv_iload_n hx hb dL_law_2198 rfl (lv_at hl 0 rfl) ?_
  refine lv_iconst (v := 1) hx hb dL_law_2199 (by decide) ?_
  refine lv_iadd hx hb dL_law_2200 ?_
  refine lv_topi (fun x10 ex10 => ?_)
  have t11 := addO ex10 (by have f0 := hi; have f1 := hL; have f2 := t2; have z1 : (1 : Int32).toInt = 1 := (by decide); omega)
  refine va_sld hx hb hX hbl hbA hS (vpo (by have f0 := t11; have f1 := hi; have f2 := hL; have f3 := t2; have g0 := rg32 x10; have z1 : (1 : Int32).toInt = 1 := (by decide); omega)) dL_law_2201 ?_
  refine lv_topi (fun x12 ex12 => ?_)
  have t13 : x3 = x12 := by rw [ex3, ex12, show x1 = x10 from by rw [ex1, ex10]]
  subst t13
  have hSx : va_S (A9 cy g2 s.heap.size) s.heap H locs := by rw [hA9]; exact hS
  refine va_calli (va_runV (As := [.int x3]) (rest := []) ⟨hx, hb, hml, hown, hts⟩ (m_X9_keep l D cy g2 σ9 x3 _ hJ9 hDK) (cwV 1 hts (gd_V q2144 q2145 q2146 q134 q2147) rfl rfl rfl (by decide +kernel) ⟨Nat.le_of_ble_eq_true rfl, Nat.le_of_ble_eq_true rfl⟩) (pv9 hP9 hK hD9 hC9 hSx (va_recv hK hP9 (ci := 9) (q0 := 0) rfl rfl)) rfl rfl hl.1 rfl (lv_room (Nat.le_of_ble_eq_true rfl)) dL_law_2202 ⟨Nat.le_of_ble_eq_true rfl, Nat.le_of_ble_eq_true rfl⟩) hSx (fun q _ h => up9 hSx q h) (up9 hSx) (fun r14 υ15 tS H1 locs ht hvm hw16 hB hz1 hk1 hSy => ?_)
  have hP9 : va_P D clz (WD9 cy g2 υ15) H1 := by rw [← ht]; exact hB
  have hP8 := kp8 hDD hP8 hk1
  have hS : va_S (lawA s) s.heap H1 locs := by rw [← hA9]; exact hSy
  clear hB hz1 hk1 hvm ht hSx hSy
  generalize H1 = H at hP8 hP9 hS ⊢
  have hF17 : Fr (fL [0, 16, 17, 18, 19, 20, 21, 22]) σ9 υ15 := hw16.1
  have hJ18 : J9 (υ15 9) := hw16.2.1
  have hK19 : DKA (υ15 9) := hw16.2.2.1
  have b21 : ((x3.toInt < 0 ∨ 2 < x3.toInt) ∧ r14.toInt = -2) ∨ (0 ≤ x3.toInt ∧ x3.toInt ≤ 2 ∧ r14.toInt = 0) := hw16.2.2.2.1
  have b22 : (r14.toInt = 0 ∧ ((υ15 9)).2.2.1 22 = upd (((σ9 9)).2.2.1 22) x3.toInt.toNat (vp_nar .boolean 1)) ∨ (¬ r14.toInt = 0 ∧ ((υ15 9)).2.2.1 22 = ((σ9 9)).2.2.1 22) := hw16.2.2.2.2.1
  have hR20 : KP υ5 (υ15 9) := KP.keep hR b8 b9 b22 b21
  refine lv_pop hx hb dL_law_2205 rfl ?_
  refine lv_goto (tgt := 2411) hx hb dL_law_2206 (by decide) ?_
  exact hnext _ _ _ _ _ hJ7 hJ18 hK19 hR20 hP8 hP9 hS hl

theorem q709 : Cond.methodLink RL 239 yX8_back ∈ lw_g := lw_gm (List.mem_of_getElem? (i := 709) (by decide +kernel)) rfl
theorem q710 : Cond.instanceMethod yX8_back ∈ lw_g := lw_gm (List.mem_of_getElem? (i := 710) (by decide +kernel)) rfl
theorem q711 : Cond.selects RX8 yX8_back yX8_back ∈ lw_g := lw_gm (List.mem_of_getElem? (i := 711) (by decide +kernel)) rfl
theorem q2148 : Cond.methodLink RL 242 yX9_back ∈ lw_g := lw_gm (List.mem_of_getElem? (i := 2148) (by decide +kernel)) rfl
theorem q2149 : Cond.instanceMethod yX9_back ∈ lw_g := lw_gm (List.mem_of_getElem? (i := 2149) (by decide +kernel)) rfl
theorem q2150 : Cond.selects RX9 yX9_back yX9_back ∈ lw_g := lw_gm (List.mem_of_getElem? (i := 2150) (by decide +kernel)) rfl
theorem dL_law_2209 : decode cL_law 2209 = .ok (.aload_n 1, 1) := by decide +kernel
theorem dL_law_2210 : decode cL_law 2210 = .ok (.aload_n 0, 1) := by decide +kernel
theorem dL_law_2211 : decode cL_law 2211 = .ok (.iload_n 3, 1) := by decide +kernel
theorem dL_law_2212 : decode cL_law 2212 = .ok (.iconst 1, 1) := by decide +kernel
theorem dL_law_2213 : decode cL_law 2213 = .ok (.iadd, 1) := by decide +kernel
theorem dL_law_2214 : decode cL_law 2214 = .ok (.iaload, 1) := by decide +kernel
theorem dL_law_2215 : decode cL_law 2215 = .ok (.invokevirtual 239, 3) := by decide +kernel
theorem dL_law_2218 : decode cL_law 2218 = .ok (.aload_n 2, 1) := by decide +kernel
theorem dL_law_2219 : decode cL_law 2219 = .ok (.aload_n 0, 1) := by decide +kernel
theorem dL_law_2220 : decode cL_law 2220 = .ok (.iload_n 3, 1) := by decide +kernel
theorem dL_law_2221 : decode cL_law 2221 = .ok (.iconst 1, 1) := by decide +kernel
theorem dL_law_2222 : decode cL_law 2222 = .ok (.iadd, 1) := by decide +kernel
theorem dL_law_2223 : decode cL_law 2223 = .ok (.iaload, 1) := by decide +kernel
theorem dL_law_2224 : decode cL_law 2224 = .ok (.invokevirtual 242, 3) := by decide +kernel
theorem dL_law_2227 : decode cL_law 2227 = .ok (.if_icmp .eq 184, 3) := by decide +kernel
set_option maxHeartbeats 4000000 in
set_option maxRecDepth 100000 in
theorem lawc_55 {p : Program} {l : Launch} {e : Env} {s : State} {m : MethodId} {below : List Frame} {meth : Method} {c : Code} {b L : Nat} {xs : Nat → Int32} {D : va_G} {cy : Nat → ClassId} {g1 g2 : Nat → Nat} (X : LX p s m meth c b L xs D cy g1 g2) (hL : L ≤ 3072) {i : Int32} (hi : (0 : Int) ≤ i.toInt ∧ i.toInt + 6 ≤ (L : Int)) (hnext : (∀ (σ8 σ9 : ST) (H : Heap) (locs : List Loc) (ls : Array Slot), J8 σ8 → J9 (σ9 9) → DKA (σ9 9) → KP σ8 (σ9 9) → va_P D clz (WD8 cy g1 σ8) H → va_P D clz (WD9 cy g2 σ9) H → va_S (lawA s) s.heap H locs → lv_has ls 4 [(3, .int i), (2, .ref (g2 60)), (1, .ref (gO g1 17)), (0, .ref b)] → W p l e room_1 s m #[Value.ref b] below meth c H locs 200 700000 (lw_Z below #[Value.ref b] s) (F0 m 2411 ls []))) (σ8 σ9 : ST) (H : Heap) (locs : List Loc) (ls : Array Slot) (hJ8 : J8 σ8) (hJ9 : J9 (σ9 9)) (hDK : DKA (σ9 9)) (hR : KP σ8 (σ9 9)) (hP8 : va_P D clz (WD8 cy g1 σ8) H) (hP9 : va_P D clz (WD9 cy g2 σ9) H) (hS : va_S (lawA s) s.heap H locs) (hl : lv_has ls 4 [(3, .int i), (2, .ref (g2 60)), (1, .ref (gO g1 17)), (0, .ref b)]) : W p l e room_1 s m #[Value.ref b] below meth c H locs 200 700000 (lw_Z below #[Value.ref b] s) (F0 m 2209 ls []) := by
  obtain ⟨⟨hx, hb, hr, hml, hown0, hts0, hX, hbl, hlocks, hgv⟩, hK, hDD, hC8, hC9⟩ := X
  have hown : s.vm.findClass RL = some m.cls := hown0
  have hts : ∀ w ∈ lw_g, w.before #[Value.ref b] s = true := fun w h => hts0 w (lw_gt h)
  have hbA : ¬ lawA s b := Nat.not_le.mpr hbl
  have hA8 := A8_law hDD
  have hA9 := A9_law hDD
  have hD8 : ∀ τ : ST, va_D (A8 cy g1 s.heap.size) (WD8 cy g1 τ) := fun τ => by rw [hA8]; exact map_D WD8_m (D_l hDD)
  have hD9 : ∀ τ : ST, va_D (A9 cy g2 s.heap.size) (WD9 cy g2 τ) := fun τ => by rw [hA9]; exact map_D WD9_m (D_r hDD)
  rw [← hA8] at hC8
  rw [← hA9] at hC9
  refine lv_aload_n hx hb dL_law_2209 rfl (lv_at hl 2 rfl) ?_
  refine lv_aload_n hx hb dL_law_2210 rfl (lv_at hl 3 rfl) ?_
  refine lv_iload_n hx hb dL_law_2211 rfl (lv_at hl 0 rfl) ?_
  refine lv_iconst (v := 1) hx hb dL_law_2212 (by decide) ?_
  refine lv_iadd hx hb dL_law_2213 ?_
  refine lv_topi (fun x1 ex1 => ?_)
  have t2 := addO ex1 (by have f0 := hi; have f1 := hL; have z1 : (1 : Int32).toInt = 1 := (by decide); omega)
  refine va_sld hx hb hX hbl hbA hS (vpo (by have f0 := t2; have f1 := hi; have f2 := hL; have g0 := rg32 x1; have z1 : (1 : Int32).toInt = 1 := (by decide); omega)) dL_law_2214 ?_
  refine lv_topi (fun x3 ex3 => ?_)
  have hSx : va_S (A8 cy g1 s.heap.size) s.heap H locs := by rw [hA8]; exact hS
  refine va_calli (va_runV (As := [.int x3]) (rest := []) ⟨hx, hb, hml, hown, hts⟩ (m_X8_back l D cy g1 σ8 x3 _ hJ8) (cwV 1 hts (gd_V q709 q710 q711 q125 q712) rfl rfl rfl (by decide +kernel) ⟨Nat.le_of_ble_eq_true rfl, Nat.le_of_ble_eq_true rfl⟩) (pv8 hP8 hK hD8 hC8 hSx (rv8_8 hK hP8)) rfl rfl hl.1 rfl (lv_room (Nat.le_of_ble_eq_true rfl)) dL_law_2215 ⟨Nat.le_of_ble_eq_true rfl, Nat.le_of_ble_eq_true rfl⟩) hSx (fun q _ h => up8 hSx q h) (up8 hSx) (fun r4 υ5 tS H1 locs ht hvm hw6 hB hz1 hk1 hSy => ?_)
  have hP8 : va_P D clz (WD8 cy g1 υ5) H1 := by rw [← ht]; exact hB
  have hP9 := kp9 hDD hP9 hk1
  have hS : va_S (lawA s) s.heap H1 locs := by rw [← hA8]; exact hSy
  clear hB hz1 hk1 hvm ht hSx hSy
  generalize H1 = H at hP8 hP9 hS ⊢
  have hJ7 : J8 υ5 := hw6.2.1
  have b8 : (¬ (0 ≤ x3.toInt ∧ x3.toInt ≤ 2) ∧ r4.toInt = -2) ∨ (0 ≤ x3.toInt ∧ x3.toInt ≤ 2 ∧ ((σ8 17).2.2.1 4 x3.toInt.toNat).toInt = 0 ∧ r4.toInt = -6) ∨ (0 ≤ x3.toInt ∧ x3.toInt ≤ 2 ∧ ¬ ((σ8 17).2.2.1 4 x3.toInt.toNat).toInt = 0 ∧ r4.toInt = 0) := hw6.2.2.2.1
  have hR9 : KP υ5 (σ9 9) := KP.fr8 hR (show Fr (fO [0, 1, 2, 3, 4]) σ8 υ5 from hw6.1) (by decide)
  refine lv_aload_n hx hb dL_law_2218 rfl (lv_at hl 1 rfl) ?_
  refine lv_aload_n hx hb dL_law_2219 rfl (lv_at hl 3 rfl) ?_
  refine lv_iload_n hx hb dL_law_2220 rfl (lv_at hl 0 rfl) ?_
  refine lv_iconst (v := 1) hx hb dL_law_2221 (by decide) ?_
  refine lv_iadd hx hb dL_law_2222 ?_
  refine lv_topi (fun x10 ex10 => ?_)
  have t11 := addO ex10 (by have f0 := hi; have f1 := hL; have f2 := t2; have z1 : (1 : Int32).toInt = 1 := (by decide); omega)
  refine va_sld hx hb hX hbl hbA hS (vpo (by have f0 := t11; have f1 := hi; have f2 := hL; have f3 := t2; have g0 := rg32 x10; have z1 : (1 : Int32).toInt = 1 := (by decide); omega)) dL_law_2223 ?_
  refine lv_topi (fun x12 ex12 => ?_)
  have t13 : x3 = x12 := by rw [ex3, ex12, show x1 = x10 from by rw [ex1, ex10]]
  subst t13
  have hSx : va_S (A9 cy g2 s.heap.size) s.heap H locs := by rw [hA9]; exact hS
  refine va_calli (va_runV (As := [.int x3]) (rest := [.int r4]) ⟨hx, hb, hml, hown, hts⟩ (m_X9_back l D cy g2 σ9 x3 _ hJ9 hDK) (cwV 1 hts (gd_V q2148 q2149 q2150 q134 q2151) rfl rfl rfl (by decide +kernel) ⟨Nat.le_of_ble_eq_true rfl, Nat.le_of_ble_eq_true rfl⟩) (pv9 hP9 hK hD9 hC9 hSx (va_recv hK hP9 (ci := 9) (q0 := 0) rfl rfl)) rfl rfl hl.1 rfl (lv_room (Nat.le_of_ble_eq_true rfl)) dL_law_2224 ⟨Nat.le_of_ble_eq_true rfl, Nat.le_of_ble_eq_true rfl⟩) hSx (fun q _ h => up9 hSx q h) (up9 hSx) (fun r14 υ15 tS H1 locs ht hvm hw16 hB hz1 hk1 hSy => ?_)
  have hP9 : va_P D clz (WD9 cy g2 υ15) H1 := by rw [← ht]; exact hB
  have hP8 := kp8 hDD hP8 hk1
  have hS : va_S (lawA s) s.heap H1 locs := by rw [← hA9]; exact hSy
  clear hB hz1 hk1 hvm ht hSx hSy
  generalize H1 = H at hP8 hP9 hS ⊢
  have hF17 : Fr (fL [0, 16, 17, 18, 19, 20, 21]) σ9 υ15 := hw16.1
  have hJ18 : J9 (υ15 9) := hw16.2.1
  have hK19 : DKA (υ15 9) := hw16.2.2.1
  have b20 : (¬ (0 ≤ x3.toInt ∧ x3.toInt ≤ 2) ∧ r14.toInt = -2) ∨ ((0 ≤ x3.toInt ∧ x3.toInt ≤ 2) ∧ ((σ9 9).2.2.1 22 (x3.toInt.toNat)).toInt = 0 ∧ r14.toInt = -6) ∨ ((0 ≤ x3.toInt ∧ x3.toInt ≤ 2) ∧ ¬ ((σ9 9).2.2.1 22 (x3.toInt.toNat)).toInt = 0 ∧ r14.toInt = 0) := hw16.2.2.2.1
  have hR21 : KP υ5 (υ15 9) := KP.fr9 hR9 (hF17 9 22 rfl).2.2.1
  refine lv_icmp_eq (tgt := 2411) hx hb dL_law_2227 (by decide) (fun _ => ?_) (fun c9 => absurd (Int32.toInt_inj.mp (bk_eq hR b8 b20)) c9)
  exact hnext _ _ _ _ _ hJ7 hJ18 hK19 hR21 hP8 hP9 hS hl

theorem q1328 : Cond.methodLink RL 243 yX8_row ∈ lw_g := lw_gm (List.mem_of_getElem? (i := 1328) (by decide +kernel)) rfl
theorem q1329 : Cond.instanceMethod yX8_row ∈ lw_g := lw_gm (List.mem_of_getElem? (i := 1329) (by decide +kernel)) rfl
theorem q1330 : Cond.selects RX8 yX8_row yX8_row ∈ lw_g := lw_gm (List.mem_of_getElem? (i := 1330) (by decide +kernel)) rfl
theorem q1542 : Cond.methodLink RL 246 yX9_row ∈ lw_g := lw_gm (List.mem_of_getElem? (i := 1542) (by decide +kernel)) rfl
theorem q1543 : Cond.instanceMethod yX9_row ∈ lw_g := lw_gm (List.mem_of_getElem? (i := 1543) (by decide +kernel)) rfl
theorem q1544 : Cond.selects RX9 yX9_row yX9_row ∈ lw_g := lw_gm (List.mem_of_getElem? (i := 1544) (by decide +kernel)) rfl
theorem dL_law_2232 : decode cL_law 2232 = .ok (.aload_n 1, 1) := by decide +kernel
theorem dL_law_2233 : decode cL_law 2233 = .ok (.aload_n 0, 1) := by decide +kernel
theorem dL_law_2234 : decode cL_law 2234 = .ok (.iload_n 3, 1) := by decide +kernel
theorem dL_law_2235 : decode cL_law 2235 = .ok (.iconst 1, 1) := by decide +kernel
theorem dL_law_2236 : decode cL_law 2236 = .ok (.iadd, 1) := by decide +kernel
theorem dL_law_2237 : decode cL_law 2237 = .ok (.iaload, 1) := by decide +kernel
theorem dL_law_2238 : decode cL_law 2238 = .ok (.aload_n 0, 1) := by decide +kernel
theorem dL_law_2239 : decode cL_law 2239 = .ok (.iload_n 3, 1) := by decide +kernel
theorem dL_law_2240 : decode cL_law 2240 = .ok (.iconst 2, 1) := by decide +kernel
theorem dL_law_2241 : decode cL_law 2241 = .ok (.iadd, 1) := by decide +kernel
theorem dL_law_2242 : decode cL_law 2242 = .ok (.iaload, 1) := by decide +kernel
theorem dL_law_2243 : decode cL_law 2243 = .ok (.aload_n 0, 1) := by decide +kernel
theorem dL_law_2244 : decode cL_law 2244 = .ok (.iload_n 3, 1) := by decide +kernel
theorem dL_law_2245 : decode cL_law 2245 = .ok (.iconst 3, 1) := by decide +kernel
theorem dL_law_2246 : decode cL_law 2246 = .ok (.iadd, 1) := by decide +kernel
theorem dL_law_2247 : decode cL_law 2247 = .ok (.iaload, 1) := by decide +kernel
theorem dL_law_2248 : decode cL_law 2248 = .ok (.invokevirtual 243, 3) := by decide +kernel
theorem dL_law_2251 : decode cL_law 2251 = .ok (.pop, 1) := by decide +kernel
theorem dL_law_2252 : decode cL_law 2252 = .ok (.aload_n 2, 1) := by decide +kernel
theorem dL_law_2253 : decode cL_law 2253 = .ok (.aload_n 0, 1) := by decide +kernel
theorem dL_law_2254 : decode cL_law 2254 = .ok (.iload_n 3, 1) := by decide +kernel
theorem dL_law_2255 : decode cL_law 2255 = .ok (.iconst 1, 1) := by decide +kernel
theorem dL_law_2256 : decode cL_law 2256 = .ok (.iadd, 1) := by decide +kernel
theorem dL_law_2257 : decode cL_law 2257 = .ok (.iaload, 1) := by decide +kernel
theorem dL_law_2258 : decode cL_law 2258 = .ok (.aload_n 0, 1) := by decide +kernel
theorem dL_law_2259 : decode cL_law 2259 = .ok (.iload_n 3, 1) := by decide +kernel
theorem dL_law_2260 : decode cL_law 2260 = .ok (.iconst 2, 1) := by decide +kernel
theorem dL_law_2261 : decode cL_law 2261 = .ok (.iadd, 1) := by decide +kernel
theorem dL_law_2262 : decode cL_law 2262 = .ok (.iaload, 1) := by decide +kernel
theorem dL_law_2263 : decode cL_law 2263 = .ok (.aload_n 0, 1) := by decide +kernel
theorem dL_law_2264 : decode cL_law 2264 = .ok (.iload_n 3, 1) := by decide +kernel
theorem dL_law_2265 : decode cL_law 2265 = .ok (.iconst 3, 1) := by decide +kernel
theorem dL_law_2266 : decode cL_law 2266 = .ok (.iadd, 1) := by decide +kernel
theorem dL_law_2267 : decode cL_law 2267 = .ok (.iaload, 1) := by decide +kernel
theorem dL_law_2268 : decode cL_law 2268 = .ok (.invokevirtual 246, 3) := by decide +kernel
theorem dL_law_2271 : decode cL_law 2271 = .ok (.pop, 1) := by decide +kernel
theorem dL_law_2272 : decode cL_law 2272 = .ok (.goto 139, 3) := by decide +kernel
set_option maxHeartbeats 4000000 in
set_option maxRecDepth 100000 in
theorem lawc_56 {p : Program} {l : Launch} {e : Env} {s : State} {m : MethodId} {below : List Frame} {meth : Method} {c : Code} {b L : Nat} {xs : Nat → Int32} {D : va_G} {cy : Nat → ClassId} {g1 g2 : Nat → Nat} (X : LX p s m meth c b L xs D cy g1 g2) (hL : L ≤ 3072) {i : Int32} (hi : (0 : Int) ≤ i.toInt ∧ i.toInt + 6 ≤ (L : Int)) (hnext : (∀ (σ8 σ9 : ST) (H : Heap) (locs : List Loc) (ls : Array Slot), J8 σ8 → J9 (σ9 9) → DKA (σ9 9) → KP σ8 (σ9 9) → va_P D clz (WD8 cy g1 σ8) H → va_P D clz (WD9 cy g2 σ9) H → va_S (lawA s) s.heap H locs → lv_has ls 4 [(3, .int i), (2, .ref (g2 60)), (1, .ref (gO g1 17)), (0, .ref b)] → W p l e room_1 s m #[Value.ref b] below meth c H locs 200 700000 (lw_Z below #[Value.ref b] s) (F0 m 2411 ls []))) (σ8 σ9 : ST) (H : Heap) (locs : List Loc) (ls : Array Slot) (hJ8 : J8 σ8) (hJ9 : J9 (σ9 9)) (hDK : DKA (σ9 9)) (hR : KP σ8 (σ9 9)) (hP8 : va_P D clz (WD8 cy g1 σ8) H) (hP9 : va_P D clz (WD9 cy g2 σ9) H) (hS : va_S (lawA s) s.heap H locs) (hl : lv_has ls 4 [(3, .int i), (2, .ref (g2 60)), (1, .ref (gO g1 17)), (0, .ref b)]) : W p l e room_1 s m #[Value.ref b] below meth c H locs 200 700000 (lw_Z below #[Value.ref b] s) (F0 m 2232 ls []) := by
  obtain ⟨⟨hx, hb, hr, hml, hown0, hts0, hX, hbl, hlocks, hgv⟩, hK, hDD, hC8, hC9⟩ := X
  have hown : s.vm.findClass RL = some m.cls := hown0
  have hts : ∀ w ∈ lw_g, w.before #[Value.ref b] s = true := fun w h => hts0 w (lw_gt h)
  have hbA : ¬ lawA s b := Nat.not_le.mpr hbl
  have hA8 := A8_law hDD
  have hA9 := A9_law hDD
  have hD8 : ∀ τ : ST, va_D (A8 cy g1 s.heap.size) (WD8 cy g1 τ) := fun τ => by rw [hA8]; exact map_D WD8_m (D_l hDD)
  have hD9 : ∀ τ : ST, va_D (A9 cy g2 s.heap.size) (WD9 cy g2 τ) := fun τ => by rw [hA9]; exact map_D WD9_m (D_r hDD)
  rw [← hA8] at hC8
  rw [← hA9] at hC9
  refine lv_aload_n hx hb dL_law_2232 rfl (lv_at hl 2 rfl) ?_
  refine lv_aload_n hx hb dL_law_2233 rfl (lv_at hl 3 rfl) ?_
  refine lv_iload_n hx hb dL_law_2234 rfl (lv_at hl 0 rfl) ?_
  refine lv_iconst (v := 1) hx hb dL_law_2235 (by decide) ?_
  refine lv_iadd hx hb dL_law_2236 ?_
  refine lv_topi (fun x1 ex1 => ?_)
  have t2 := addO ex1 (by have f0 := hi; have f1 := hL; have z1 : (1 : Int32).toInt = 1 := (by decide); omega)
  refine va_sld hx hb hX hbl hbA hS (vpo (by have f0 := t2; have f1 := hi; have f2 := hL; have g0 := rg32 x1; have z1 : (1 : Int32).toInt = 1 := (by decide); omega)) dL_law_2237 ?_
  refine lv_topi (fun x3 ex3 => ?_)
  refine lv_aload_n hx hb dL_law_2238 rfl (lv_at hl 3 rfl) ?_
  refine lv_iload_n hx hb dL_law_2239 rfl (lv_at hl 0 rfl) ?_
  refine lv_iconst (v := 2) hx hb dL_law_2240 (by decide) ?_
  refine lv_iadd hx hb dL_law_2241 ?_
  refine lv_topi (fun x4 ex4 => ?_)
  have t5 := addO ex4 (by have f0 := hi; have f1 := hL; have f2 := t2; have z1 : (1 : Int32).toInt = 1 := (by decide); have z2 : (2 : Int32).toInt = 2 := (by decide); omega)
  refine va_sld hx hb hX hbl hbA hS (vpo (by have f0 := t5; have f1 := hi; have f2 := hL; have f3 := t2; have g0 := rg32 x4; have z1 : (1 : Int32).toInt = 1 := (by decide); have z2 : (2 : Int32).toInt = 2 := (by decide); omega)) dL_law_2242 ?_
  refine lv_topi (fun x6 ex6 => ?_)
  refine lv_aload_n hx hb dL_law_2243 rfl (lv_at hl 3 rfl) ?_
  refine lv_iload_n hx hb dL_law_2244 rfl (lv_at hl 0 rfl) ?_
  refine lv_iconst (v := 3) hx hb dL_law_2245 (by decide) ?_
  refine lv_iadd hx hb dL_law_2246 ?_
  refine lv_topi (fun x7 ex7 => ?_)
  have t8 := addO ex7 (by have f0 := hi; have f1 := hL; have f2 := t2; have f3 := t5; have z1 : (1 : Int32).toInt = 1 := (by decide); have z2 : (2 : Int32).toInt = 2 := (by decide); have z3 : (3 : Int32).toInt = 3 := (by decide); omega)
  refine va_sld hx hb hX hbl hbA hS (vpo (by have f0 := t8; have f1 := hi; have f2 := hL; have f3 := t2; have f4 := t5; have g0 := rg32 x7; have z1 : (1 : Int32).toInt = 1 := (by decide); have z2 : (2 : Int32).toInt = 2 := (by decide); have z3 : (3 : Int32).toInt = 3 := (by decide); omega)) dL_law_2247 ?_
  refine lv_topi (fun x9 ex9 => ?_)
  have hSx : va_S (A8 cy g1 s.heap.size) s.heap H locs := by rw [hA8]; exact hS
  refine va_calli (va_runV (As := [.int x3, .int x6, .int x9]) (rest := []) ⟨hx, hb, hml, hown, hts⟩ (m_X8_row l D cy g1 σ8 x3 x6 x9 _ hJ8) (cwV 3 hts (gd_V q1328 q1329 q1330 q125 q1331) rfl rfl rfl (by decide +kernel) ⟨Nat.le_of_ble_eq_true rfl, Nat.le_of_ble_eq_true rfl⟩) (pv8 hP8 hK hD8 hC8 hSx (rv8_8 hK hP8)) rfl rfl hl.1 rfl (lv_room (Nat.le_of_ble_eq_true rfl)) dL_law_2248 ⟨Nat.le_of_ble_eq_true rfl, Nat.le_of_ble_eq_true rfl⟩) hSx (fun q _ h => up8 hSx q h) (up8 hSx) (fun r10 υ11 tS H1 locs ht hvm hw12 hB hz1 hk1 hSy => ?_)
  have hP8 : va_P D clz (WD8 cy g1 υ11) H1 := by rw [← ht]; exact hB
  have hP9 := kp9 hDD hP9 hk1
  have hS : va_S (lawA s) s.heap H1 locs := by rw [← hA8]; exact hSy
  clear hB hz1 hk1 hvm ht hSx hSy
  generalize H1 = H at hP8 hP9 hS ⊢
  have hJ13 : J8 υ11 := hw12.2.1
  have hR14 : KP υ11 (σ9 9) := KP.fr8 hR (show Fr (fO [5, 6, 7, 8]) σ8 υ11 from hw12.1) (by decide)
  refine lv_pop hx hb dL_law_2251 rfl ?_
  refine lv_aload_n hx hb dL_law_2252 rfl (lv_at hl 1 rfl) ?_
  refine lv_aload_n hx hb dL_law_2253 rfl (lv_at hl 3 rfl) ?_
  refine lv_iload_n hx hb dL_law_2254 rfl (lv_at hl 0 rfl) ?_
  refine lv_iconst (v := 1) hx hb dL_law_2255 (by decide) ?_
  refine lv_iadd hx hb dL_law_2256 ?_
  refine lv_topi (fun x15 ex15 => ?_)
  have t16 := addO ex15 (by have f0 := hi; have f1 := hL; have f2 := t2; have f3 := t5; have f4 := t8; have z1 : (1 : Int32).toInt = 1 := (by decide); have z2 : (2 : Int32).toInt = 2 := (by decide); have z3 : (3 : Int32).toInt = 3 := (by decide); omega)
  refine va_sld hx hb hX hbl hbA hS (vpo (by have f0 := t16; have f1 := hi; have f2 := hL; have f3 := t2; have f4 := t5; have f5 := t8; have g0 := rg32 x15; have z1 : (1 : Int32).toInt = 1 := (by decide); have z2 : (2 : Int32).toInt = 2 := (by decide); have z3 : (3 : Int32).toInt = 3 := (by decide); omega)) dL_law_2257 ?_
  refine lv_topi (fun x17 ex17 => ?_)
  have t18 : x3 = x17 := by rw [ex3, ex17, show x1 = x15 from by rw [ex1, ex15]]
  subst t18
  refine lv_aload_n hx hb dL_law_2258 rfl (lv_at hl 3 rfl) ?_
  refine lv_iload_n hx hb dL_law_2259 rfl (lv_at hl 0 rfl) ?_
  refine lv_iconst (v := 2) hx hb dL_law_2260 (by decide) ?_
  refine lv_iadd hx hb dL_law_2261 ?_
  refine lv_topi (fun x19 ex19 => ?_)
  have t20 := addO ex19 (by have f0 := hi; have f1 := hL; have f2 := t2; have f3 := t5; have f4 := t8; have f5 := t16; have z1 : (1 : Int32).toInt = 1 := (by decide); have z2 : (2 : Int32).toInt = 2 := (by decide); have z3 : (3 : Int32).toInt = 3 := (by decide); omega)
  refine va_sld hx hb hX hbl hbA hS (vpo (by have f0 := t20; have f1 := hi; have f2 := hL; have f3 := t2; have f4 := t5; have f5 := t8; have f6 := t16; have g0 := rg32 x19; have z1 : (1 : Int32).toInt = 1 := (by decide); have z2 : (2 : Int32).toInt = 2 := (by decide); have z3 : (3 : Int32).toInt = 3 := (by decide); omega)) dL_law_2262 ?_
  refine lv_topi (fun x21 ex21 => ?_)
  have t22 : x6 = x21 := by rw [ex6, ex21, show x4 = x19 from by rw [ex4, ex19]]
  subst t22
  refine lv_aload_n hx hb dL_law_2263 rfl (lv_at hl 3 rfl) ?_
  refine lv_iload_n hx hb dL_law_2264 rfl (lv_at hl 0 rfl) ?_
  refine lv_iconst (v := 3) hx hb dL_law_2265 (by decide) ?_
  refine lv_iadd hx hb dL_law_2266 ?_
  refine lv_topi (fun x23 ex23 => ?_)
  have t24 := addO ex23 (by have f0 := hi; have f1 := hL; have f2 := t2; have f3 := t5; have f4 := t8; have f5 := t16; have f6 := t20; have z1 : (1 : Int32).toInt = 1 := (by decide); have z2 : (2 : Int32).toInt = 2 := (by decide); have z3 : (3 : Int32).toInt = 3 := (by decide); omega)
  refine va_sld hx hb hX hbl hbA hS (vpo (by have f0 := t24; have f1 := hi; have f2 := hL; have f3 := t2; have f4 := t5; have f5 := t8; have f6 := t16; have f7 := t20; have g0 := rg32 x23; have z1 : (1 : Int32).toInt = 1 := (by decide); have z2 : (2 : Int32).toInt = 2 := (by decide); have z3 : (3 : Int32).toInt = 3 := (by decide); omega)) dL_law_2267 ?_
  refine lv_topi (fun x25 ex25 => ?_)
  have t26 : x9 = x25 := by rw [ex9, ex25, show x7 = x23 from by rw [ex7, ex23]]
  subst t26
  have hSx : va_S (A9 cy g2 s.heap.size) s.heap H locs := by rw [hA9]; exact hS
  refine va_calli (va_runV (As := [.int x3, .int x6, .int x9]) (rest := []) ⟨hx, hb, hml, hown, hts⟩ (m_X9_row l D cy g2 σ9 x3 x6 x9 _ hJ9 ) (cwV 3 hts (gd_V q1542 q1543 q1544 q134 q1545) rfl rfl rfl (by decide +kernel) ⟨Nat.le_of_ble_eq_true rfl, Nat.le_of_ble_eq_true rfl⟩) (pv9 hP9 hK hD9 hC9 hSx (va_recv hK hP9 (ci := 9) (q0 := 0) rfl rfl)) rfl rfl hl.1 rfl (lv_room (Nat.le_of_ble_eq_true rfl)) dL_law_2268 ⟨Nat.le_of_ble_eq_true rfl, Nat.le_of_ble_eq_true rfl⟩) hSx (fun q _ h => up9 hSx q h) (up9 hSx) (fun r27 υ28 tS H1 locs ht hvm hw29 hB hz1 hk1 hSy => ?_)
  have hP9 : va_P D clz (WD9 cy g2 υ28) H1 := by rw [← ht]; exact hB
  have hP8 := kp8 hDD hP8 hk1
  have hS : va_S (lawA s) s.heap H1 locs := by rw [← hA9]; exact hSy
  clear hB hz1 hk1 hvm ht hSx hSy
  generalize H1 = H at hP8 hP9 hS ⊢
  have hF30 : Fr (fL [0, 1, 2, 3]) σ9 υ28 := hw29.1
  have hJ31 : J9 (υ28 9) := hw29.2.1
  have hK32 : DKA (υ28 9) := DKA.mv hDK (hF30 9 17 rfl).2.2.1 (hF30 9 18 rfl).2.2.1 (hF30 9 19 rfl).2.2.1
  have hR33 : KP υ11 (υ28 9) := KP.fr9 hR14 (hF30 9 22 rfl).2.2.1
  refine lv_pop hx hb dL_law_2271 rfl ?_
  refine lv_goto (tgt := 2411) hx hb dL_law_2272 (by decide) ?_
  exact hnext _ _ _ _ _ hJ13 hJ31 hK32 hR33 hP8 hP9 hS hl

theorem q2152 : Cond.constantLong RL 247 (4294967295) ∈ lw_g := lw_gm (List.mem_of_getElem? (i := 2152) (by decide +kernel)) rfl
theorem q1336 : Cond.methodLink RL 249 yX8_write ∈ lw_g := lw_gm (List.mem_of_getElem? (i := 1336) (by decide +kernel)) rfl
theorem q1337 : Cond.instanceMethod yX8_write ∈ lw_g := lw_gm (List.mem_of_getElem? (i := 1337) (by decide +kernel)) rfl
theorem q1338 : Cond.selects RX8 yX8_write yX8_write ∈ lw_g := lw_gm (List.mem_of_getElem? (i := 1338) (by decide +kernel)) rfl
theorem q1553 : Cond.methodLink RL 253 yX9_write ∈ lw_g := lw_gm (List.mem_of_getElem? (i := 1553) (by decide +kernel)) rfl
theorem q1554 : Cond.instanceMethod yX9_write ∈ lw_g := lw_gm (List.mem_of_getElem? (i := 1554) (by decide +kernel)) rfl
theorem q1555 : Cond.selects RX9 yX9_write yX9_write ∈ lw_g := lw_gm (List.mem_of_getElem? (i := 1555) (by decide +kernel)) rfl
theorem dL_law_2275 : decode cL_law 2275 = .ok (.aload_n 1, 1) := by decide +kernel
theorem dL_law_2276 : decode cL_law 2276 = .ok (.aload_n 0, 1) := by decide +kernel
theorem dL_law_2277 : decode cL_law 2277 = .ok (.iload_n 3, 1) := by decide +kernel
theorem dL_law_2278 : decode cL_law 2278 = .ok (.iconst 1, 1) := by decide +kernel
theorem dL_law_2279 : decode cL_law 2279 = .ok (.iadd, 1) := by decide +kernel
theorem dL_law_2280 : decode cL_law 2280 = .ok (.iaload, 1) := by decide +kernel
theorem dL_law_2281 : decode cL_law 2281 = .ok (.aload_n 0, 1) := by decide +kernel
theorem dL_law_2282 : decode cL_law 2282 = .ok (.iload_n 3, 1) := by decide +kernel
theorem dL_law_2283 : decode cL_law 2283 = .ok (.iconst 2, 1) := by decide +kernel
theorem dL_law_2284 : decode cL_law 2284 = .ok (.iadd, 1) := by decide +kernel
theorem dL_law_2285 : decode cL_law 2285 = .ok (.iaload, 1) := by decide +kernel
theorem dL_law_2286 : decode cL_law 2286 = .ok (.aload_n 0, 1) := by decide +kernel
theorem dL_law_2287 : decode cL_law 2287 = .ok (.iload_n 3, 1) := by decide +kernel
theorem dL_law_2288 : decode cL_law 2288 = .ok (.iconst 3, 1) := by decide +kernel
theorem dL_law_2289 : decode cL_law 2289 = .ok (.iadd, 1) := by decide +kernel
theorem dL_law_2290 : decode cL_law 2290 = .ok (.iaload, 1) := by decide +kernel
theorem dL_law_2291 : decode cL_law 2291 = .ok (.i2l, 1) := by decide +kernel
theorem dL_law_2292 : decode cL_law 2292 = .ok (.bipush 32, 2) := by decide +kernel
theorem dL_law_2294 : decode cL_law 2294 = .ok (.lshl, 1) := by decide +kernel
theorem dL_law_2295 : decode cL_law 2295 = .ok (.aload_n 0, 1) := by decide +kernel
theorem dL_law_2296 : decode cL_law 2296 = .ok (.iload_n 3, 1) := by decide +kernel
theorem dL_law_2297 : decode cL_law 2297 = .ok (.iconst 4, 1) := by decide +kernel
theorem dL_law_2298 : decode cL_law 2298 = .ok (.iadd, 1) := by decide +kernel
theorem dL_law_2299 : decode cL_law 2299 = .ok (.iaload, 1) := by decide +kernel
theorem dL_law_2300 : decode cL_law 2300 = .ok (.i2l, 1) := by decide +kernel
theorem dL_law_2301 : decode cL_law 2301 = .ok (.ldc2_w 247, 3) := by decide +kernel
theorem dL_law_2304 : decode cL_law 2304 = .ok (.land, 1) := by decide +kernel
theorem dL_law_2305 : decode cL_law 2305 = .ok (.lor, 1) := by decide +kernel
theorem dL_law_2306 : decode cL_law 2306 = .ok (.invokevirtual 249, 3) := by decide +kernel
theorem dL_law_2309 : decode cL_law 2309 = .ok (.pop, 1) := by decide +kernel
theorem dL_law_2310 : decode cL_law 2310 = .ok (.aload_n 2, 1) := by decide +kernel
theorem dL_law_2311 : decode cL_law 2311 = .ok (.aload_n 0, 1) := by decide +kernel
theorem dL_law_2312 : decode cL_law 2312 = .ok (.iload_n 3, 1) := by decide +kernel
theorem dL_law_2313 : decode cL_law 2313 = .ok (.iconst 1, 1) := by decide +kernel
theorem dL_law_2314 : decode cL_law 2314 = .ok (.iadd, 1) := by decide +kernel
theorem dL_law_2315 : decode cL_law 2315 = .ok (.iaload, 1) := by decide +kernel
theorem dL_law_2316 : decode cL_law 2316 = .ok (.aload_n 0, 1) := by decide +kernel
theorem dL_law_2317 : decode cL_law 2317 = .ok (.iload_n 3, 1) := by decide +kernel
theorem dL_law_2318 : decode cL_law 2318 = .ok (.iconst 2, 1) := by decide +kernel
theorem dL_law_2319 : decode cL_law 2319 = .ok (.iadd, 1) := by decide +kernel
theorem dL_law_2320 : decode cL_law 2320 = .ok (.iaload, 1) := by decide +kernel
theorem dL_law_2321 : decode cL_law 2321 = .ok (.aload_n 0, 1) := by decide +kernel
theorem dL_law_2322 : decode cL_law 2322 = .ok (.iload_n 3, 1) := by decide +kernel
theorem dL_law_2323 : decode cL_law 2323 = .ok (.iconst 3, 1) := by decide +kernel
theorem dL_law_2324 : decode cL_law 2324 = .ok (.iadd, 1) := by decide +kernel
theorem dL_law_2325 : decode cL_law 2325 = .ok (.iaload, 1) := by decide +kernel
theorem dL_law_2326 : decode cL_law 2326 = .ok (.i2l, 1) := by decide +kernel
theorem dL_law_2327 : decode cL_law 2327 = .ok (.bipush 32, 2) := by decide +kernel
theorem dL_law_2329 : decode cL_law 2329 = .ok (.lshl, 1) := by decide +kernel
theorem dL_law_2330 : decode cL_law 2330 = .ok (.aload_n 0, 1) := by decide +kernel
theorem dL_law_2331 : decode cL_law 2331 = .ok (.iload_n 3, 1) := by decide +kernel
theorem dL_law_2332 : decode cL_law 2332 = .ok (.iconst 4, 1) := by decide +kernel
theorem dL_law_2333 : decode cL_law 2333 = .ok (.iadd, 1) := by decide +kernel
theorem dL_law_2334 : decode cL_law 2334 = .ok (.iaload, 1) := by decide +kernel
theorem dL_law_2335 : decode cL_law 2335 = .ok (.i2l, 1) := by decide +kernel
theorem dL_law_2336 : decode cL_law 2336 = .ok (.ldc2_w 247, 3) := by decide +kernel
theorem dL_law_2339 : decode cL_law 2339 = .ok (.land, 1) := by decide +kernel
theorem dL_law_2340 : decode cL_law 2340 = .ok (.lor, 1) := by decide +kernel
theorem dL_law_2341 : decode cL_law 2341 = .ok (.invokevirtual 253, 3) := by decide +kernel
theorem dL_law_2344 : decode cL_law 2344 = .ok (.pop, 1) := by decide +kernel
theorem dL_law_2345 : decode cL_law 2345 = .ok (.goto 66, 3) := by decide +kernel
set_option maxHeartbeats 4000000 in
set_option maxRecDepth 100000 in
theorem lawc_57 {p : Program} {l : Launch} {e : Env} {s : State} {m : MethodId} {below : List Frame} {meth : Method} {c : Code} {b L : Nat} {xs : Nat → Int32} {D : va_G} {cy : Nat → ClassId} {g1 g2 : Nat → Nat} (X : LX p s m meth c b L xs D cy g1 g2) (hL : L ≤ 3072) {i : Int32} (hi : (0 : Int) ≤ i.toInt ∧ i.toInt + 6 ≤ (L : Int)) (hnext : (∀ (σ8 σ9 : ST) (H : Heap) (locs : List Loc) (ls : Array Slot), J8 σ8 → J9 (σ9 9) → DKA (σ9 9) → KP σ8 (σ9 9) → va_P D clz (WD8 cy g1 σ8) H → va_P D clz (WD9 cy g2 σ9) H → va_S (lawA s) s.heap H locs → lv_has ls 4 [(3, .int i), (2, .ref (g2 60)), (1, .ref (gO g1 17)), (0, .ref b)] → W p l e room_1 s m #[Value.ref b] below meth c H locs 200 700000 (lw_Z below #[Value.ref b] s) (F0 m 2411 ls []))) (σ8 σ9 : ST) (H : Heap) (locs : List Loc) (ls : Array Slot) (hJ8 : J8 σ8) (hJ9 : J9 (σ9 9)) (hDK : DKA (σ9 9)) (hR : KP σ8 (σ9 9)) (hP8 : va_P D clz (WD8 cy g1 σ8) H) (hP9 : va_P D clz (WD9 cy g2 σ9) H) (hS : va_S (lawA s) s.heap H locs) (hl : lv_has ls 4 [(3, .int i), (2, .ref (g2 60)), (1, .ref (gO g1 17)), (0, .ref b)]) : W p l e room_1 s m #[Value.ref b] below meth c H locs 200 700000 (lw_Z below #[Value.ref b] s) (F0 m 2275 ls []) := by
  obtain ⟨⟨hx, hb, hr, hml, hown0, hts0, hX, hbl, hlocks, hgv⟩, hK, hDD, hC8, hC9⟩ := X
  have hown : s.vm.findClass RL = some m.cls := hown0
  have hts : ∀ w ∈ lw_g, w.before #[Value.ref b] s = true := fun w h => hts0 w (lw_gt h)
  have hbA : ¬ lawA s b := Nat.not_le.mpr hbl
  have hA8 := A8_law hDD
  have hA9 := A9_law hDD
  have hD8 : ∀ τ : ST, va_D (A8 cy g1 s.heap.size) (WD8 cy g1 τ) := fun τ => by rw [hA8]; exact map_D WD8_m (D_l hDD)
  have hD9 : ∀ τ : ST, va_D (A9 cy g2 s.heap.size) (WD9 cy g2 τ) := fun τ => by rw [hA9]; exact map_D WD9_m (D_r hDD)
  rw [← hA8] at hC8
  rw [← hA9] at hC9
  refine lv_aload_n hx hb dL_law_2275 rfl (lv_at hl 2 rfl) ?_
  refine lv_aload_n hx hb dL_law_2276 rfl (lv_at hl 3 rfl) ?_
  refine lv_iload_n hx hb dL_law_2277 rfl (lv_at hl 0 rfl) ?_
  refine lv_iconst (v := 1) hx hb dL_law_2278 (by decide) ?_
  refine lv_iadd hx hb dL_law_2279 ?_
  refine lv_topi (fun x1 ex1 => ?_)
  have t2 := addO ex1 (by have f0 := hi; have f1 := hL; have z1 : (1 : Int32).toInt = 1 := (by decide); omega)
  refine va_sld hx hb hX hbl hbA hS (vpo (by have f0 := t2; have f1 := hi; have f2 := hL; have g0 := rg32 x1; have z1 : (1 : Int32).toInt = 1 := (by decide); omega)) dL_law_2280 ?_
  refine lv_topi (fun x3 ex3 => ?_)
  refine lv_aload_n hx hb dL_law_2281 rfl (lv_at hl 3 rfl) ?_
  refine lv_iload_n hx hb dL_law_2282 rfl (lv_at hl 0 rfl) ?_
  refine lv_iconst (v := 2) hx hb dL_law_2283 (by decide) ?_
  refine lv_iadd hx hb dL_law_2284 ?_
  refine lv_topi (fun x4 ex4 => ?_)
  have t5 := addO ex4 (by have f0 := hi; have f1 := hL; have f2 := t2; have z1 : (1 : Int32).toInt = 1 := (by decide); have z2 : (2 : Int32).toInt = 2 := (by decide); omega)
  refine va_sld hx hb hX hbl hbA hS (vpo (by have f0 := t5; have f1 := hi; have f2 := hL; have f3 := t2; have g0 := rg32 x4; have z1 : (1 : Int32).toInt = 1 := (by decide); have z2 : (2 : Int32).toInt = 2 := (by decide); omega)) dL_law_2285 ?_
  refine lv_topi (fun x6 ex6 => ?_)
  refine lv_aload_n hx hb dL_law_2286 rfl (lv_at hl 3 rfl) ?_
  refine lv_iload_n hx hb dL_law_2287 rfl (lv_at hl 0 rfl) ?_
  refine lv_iconst (v := 3) hx hb dL_law_2288 (by decide) ?_
  refine lv_iadd hx hb dL_law_2289 ?_
  refine lv_topi (fun x7 ex7 => ?_)
  have t8 := addO ex7 (by have f0 := hi; have f1 := hL; have f2 := t2; have f3 := t5; have z1 : (1 : Int32).toInt = 1 := (by decide); have z2 : (2 : Int32).toInt = 2 := (by decide); have z3 : (3 : Int32).toInt = 3 := (by decide); omega)
  refine va_sld hx hb hX hbl hbA hS (vpo (by have f0 := t8; have f1 := hi; have f2 := hL; have f3 := t2; have f4 := t5; have g0 := rg32 x7; have z1 : (1 : Int32).toInt = 1 := (by decide); have z2 : (2 : Int32).toInt = 2 := (by decide); have z3 : (3 : Int32).toInt = 3 := (by decide); omega)) dL_law_2290 ?_
  refine lv_topi (fun x9 ex9 => ?_)
  refine lv_i2l (v := x9.toInt64) hx hb dL_law_2291 rfl ?_
  refine lv_bipush (v := 32) hx hb dL_law_2292 (by decide) ?_
  refine lv_lshl hx hb dL_law_2294 rfl ?_
  refine lv_topl (fun x10 ex10 => ?_)
  refine lv_aload_n hx hb dL_law_2295 rfl (lv_at hl 3 rfl) ?_
  refine lv_iload_n hx hb dL_law_2296 rfl (lv_at hl 0 rfl) ?_
  refine lv_iconst (v := 4) hx hb dL_law_2297 (by decide) ?_
  refine lv_iadd hx hb dL_law_2298 ?_
  refine lv_topi (fun x11 ex11 => ?_)
  have t12 := addO ex11 (by have f0 := hi; have f1 := hL; have f2 := t2; have f3 := t5; have f4 := t8; have z1 : (1 : Int32).toInt = 1 := (by decide); have z2 : (2 : Int32).toInt = 2 := (by decide); have z3 : (3 : Int32).toInt = 3 := (by decide); have z4 : (4 : Int32).toInt = 4 := (by decide); omega)
  refine va_sld hx hb hX hbl hbA hS (vpo (by have f0 := t12; have f1 := hi; have f2 := hL; have f3 := t2; have f4 := t5; have f5 := t8; have g0 := rg32 x11; have z1 : (1 : Int32).toInt = 1 := (by decide); have z2 : (2 : Int32).toInt = 2 := (by decide); have z3 : (3 : Int32).toInt = 3 := (by decide); have z4 : (4 : Int32).toInt = 4 := (by decide); omega)) dL_law_2299 ?_
  refine lv_topi (fun x13 ex13 => ?_)
  refine lv_i2l (v := x13.toInt64) hx hb dL_law_2300 rfl ?_
  refine lv_ldc2 (v := 4294967295) hx hb hown (hts _ q2152) dL_law_2301 ?_
  refine lv_land hx hb dL_law_2304 ?_
  refine lv_topl (fun x14 ex14 => ?_)
  refine lv_lor hx hb dL_law_2305 ?_
  refine lv_topl (fun x15 ex15 => ?_)
  have hSx : va_S (A8 cy g1 s.heap.size) s.heap H locs := by rw [hA8]; exact hS
  refine va_calli (va_runV (As := [.int x3, .int x6, .long x15]) (rest := []) ⟨hx, hb, hml, hown, hts⟩ (m_X8_write l D cy g1 σ8 x3 x6 x15 _ hJ8) (cwV 3 hts (gd_V q1336 q1337 q1338 q125 q1339) rfl rfl rfl (by decide +kernel) ⟨Nat.le_of_ble_eq_true rfl, Nat.le_of_ble_eq_true rfl⟩) (pv8 hP8 hK hD8 hC8 hSx (rv8_8 hK hP8)) rfl rfl hl.1 rfl (lv_room (Nat.le_of_ble_eq_true rfl)) dL_law_2306 ⟨Nat.le_of_ble_eq_true rfl, Nat.le_of_ble_eq_true rfl⟩) hSx (fun q _ h => up8 hSx q h) (up8 hSx) (fun r16 υ17 tS H1 locs ht hvm hw18 hB hz1 hk1 hSy => ?_)
  have hP8 : va_P D clz (WD8 cy g1 υ17) H1 := by rw [← ht]; exact hB
  have hP9 := kp9 hDD hP9 hk1
  have hS : va_S (lawA s) s.heap H1 locs := by rw [← hA8]; exact hSy
  clear hB hz1 hk1 hvm ht hSx hSy
  generalize H1 = H at hP8 hP9 hS ⊢
  have hJ19 : J8 υ17 := hw18.2.1
  have hR20 : KP υ17 (σ9 9) := KP.fr8 hR (show Fr (fO [5, 6, 7, 8]) σ8 υ17 from hw18.1) (by decide)
  refine lv_pop hx hb dL_law_2309 rfl ?_
  refine lv_aload_n hx hb dL_law_2310 rfl (lv_at hl 1 rfl) ?_
  refine lv_aload_n hx hb dL_law_2311 rfl (lv_at hl 3 rfl) ?_
  refine lv_iload_n hx hb dL_law_2312 rfl (lv_at hl 0 rfl) ?_
  refine lv_iconst (v := 1) hx hb dL_law_2313 (by decide) ?_
  refine lv_iadd hx hb dL_law_2314 ?_
  refine lv_topi (fun x21 ex21 => ?_)
  have t22 := addO ex21 (by have f0 := hi; have f1 := hL; have f2 := t2; have f3 := t5; have f4 := t8; have f5 := t12; have z1 : (1 : Int32).toInt = 1 := (by decide); have z2 : (2 : Int32).toInt = 2 := (by decide); have z3 : (3 : Int32).toInt = 3 := (by decide); have z4 : (4 : Int32).toInt = 4 := (by decide); omega)
  refine va_sld hx hb hX hbl hbA hS (vpo (by have f0 := t22; have f1 := hi; have f2 := hL; have f3 := t2; have f4 := t5; have f5 := t8; have f6 := t12; have g0 := rg32 x21; have z1 : (1 : Int32).toInt = 1 := (by decide); have z2 : (2 : Int32).toInt = 2 := (by decide); have z3 : (3 : Int32).toInt = 3 := (by decide); have z4 : (4 : Int32).toInt = 4 := (by decide); omega)) dL_law_2315 ?_
  refine lv_topi (fun x23 ex23 => ?_)
  refine lv_aload_n hx hb dL_law_2316 rfl (lv_at hl 3 rfl) ?_
  refine lv_iload_n hx hb dL_law_2317 rfl (lv_at hl 0 rfl) ?_
  refine lv_iconst (v := 2) hx hb dL_law_2318 (by decide) ?_
  refine lv_iadd hx hb dL_law_2319 ?_
  refine lv_topi (fun x24 ex24 => ?_)
  have t25 := addO ex24 (by have f0 := hi; have f1 := hL; have f2 := t2; have f3 := t5; have f4 := t8; have f5 := t12; have f6 := t22; have z1 : (1 : Int32).toInt = 1 := (by decide); have z2 : (2 : Int32).toInt = 2 := (by decide); have z3 : (3 : Int32).toInt = 3 := (by decide); have z4 : (4 : Int32).toInt = 4 := (by decide); omega)
  refine va_sld hx hb hX hbl hbA hS (vpo (by have f0 := t25; have f1 := hi; have f2 := hL; have f3 := t2; have f4 := t5; have f5 := t8; have f6 := t12; have f7 := t22; have g0 := rg32 x24; have z1 : (1 : Int32).toInt = 1 := (by decide); have z2 : (2 : Int32).toInt = 2 := (by decide); have z3 : (3 : Int32).toInt = 3 := (by decide); have z4 : (4 : Int32).toInt = 4 := (by decide); omega)) dL_law_2320 ?_
  refine lv_topi (fun x26 ex26 => ?_)
  refine lv_aload_n hx hb dL_law_2321 rfl (lv_at hl 3 rfl) ?_
  refine lv_iload_n hx hb dL_law_2322 rfl (lv_at hl 0 rfl) ?_
  refine lv_iconst (v := 3) hx hb dL_law_2323 (by decide) ?_
  refine lv_iadd hx hb dL_law_2324 ?_
  refine lv_topi (fun x27 ex27 => ?_)
  have t28 := addO ex27 (by have f0 := hi; have f1 := hL; have f2 := t2; have f3 := t5; have f4 := t8; have f5 := t12; have f6 := t22; have f7 := t25; have z1 : (1 : Int32).toInt = 1 := (by decide); have z2 : (2 : Int32).toInt = 2 := (by decide); have z3 : (3 : Int32).toInt = 3 := (by decide); have z4 : (4 : Int32).toInt = 4 := (by decide); omega)
  refine va_sld hx hb hX hbl hbA hS (vpo (by have f0 := t28; have f1 := hi; have f2 := hL; have f3 := t2; have f4 := t5; have f5 := t8; have f6 := t12; have f7 := t22; have f8 := t25; have g0 := rg32 x27; have z1 : (1 : Int32).toInt = 1 := (by decide); have z2 : (2 : Int32).toInt = 2 := (by decide); have z3 : (3 : Int32).toInt = 3 := (by decide); have z4 : (4 : Int32).toInt = 4 := (by decide); omega)) dL_law_2325 ?_
  refine lv_topi (fun x29 ex29 => ?_)
  refine lv_i2l (v := x29.toInt64) hx hb dL_law_2326 rfl ?_
  refine lv_bipush (v := 32) hx hb dL_law_2327 (by decide) ?_
  refine lv_lshl hx hb dL_law_2329 rfl ?_
  refine lv_topl (fun x30 ex30 => ?_)
  refine lv_aload_n hx hb dL_law_2330 rfl (lv_at hl 3 rfl) ?_
  refine lv_iload_n hx hb dL_law_2331 rfl (lv_at hl 0 rfl) ?_
  refine lv_iconst (v := 4) hx hb dL_law_2332 (by decide) ?_
  refine lv_iadd hx hb dL_law_2333 ?_
  refine lv_topi (fun x31 ex31 => ?_)
  have t32 := addO ex31 (by have f0 := hi; have f1 := hL; have f2 := t2; have f3 := t5; have f4 := t8; have f5 := t12; have f6 := t22; have f7 := t25; have f8 := t28; have z1 : (1 : Int32).toInt = 1 := (by decide); have z2 : (2 : Int32).toInt = 2 := (by decide); have z3 : (3 : Int32).toInt = 3 := (by decide); have z4 : (4 : Int32).toInt = 4 := (by decide); omega)
  refine va_sld hx hb hX hbl hbA hS (vpo (by have f0 := t32; have f1 := hi; have f2 := hL; have f3 := t2; have f4 := t5; have f5 := t8; have f6 := t12; have f7 := t22; have f8 := t25; have f9 := t28; have g0 := rg32 x31; have z1 : (1 : Int32).toInt = 1 := (by decide); have z2 : (2 : Int32).toInt = 2 := (by decide); have z3 : (3 : Int32).toInt = 3 := (by decide); have z4 : (4 : Int32).toInt = 4 := (by decide); omega)) dL_law_2334 ?_
  refine lv_topi (fun x33 ex33 => ?_)
  refine lv_i2l (v := x33.toInt64) hx hb dL_law_2335 rfl ?_
  refine lv_ldc2 (v := 4294967295) hx hb hown (hts _ q2152) dL_law_2336 ?_
  refine lv_land hx hb dL_law_2339 ?_
  refine lv_topl (fun x34 ex34 => ?_)
  refine lv_lor hx hb dL_law_2340 ?_
  refine lv_topl (fun x35 ex35 => ?_)
  have hSx : va_S (A9 cy g2 s.heap.size) s.heap H locs := by rw [hA9]; exact hS
  refine va_calli (va_runV (As := [.int x23, .int x26, .long x35]) (rest := []) ⟨hx, hb, hml, hown, hts⟩ (m_X9_write l D cy g2 σ9 x23 x26 x35 _ hJ9 ) (cwV 3 hts (gd_V q1553 q1554 q1555 q134 q1556) rfl rfl rfl (by decide +kernel) ⟨Nat.le_of_ble_eq_true rfl, Nat.le_of_ble_eq_true rfl⟩) (pv9 hP9 hK hD9 hC9 hSx (va_recv hK hP9 (ci := 9) (q0 := 0) rfl rfl)) rfl rfl hl.1 rfl (lv_room (Nat.le_of_ble_eq_true rfl)) dL_law_2341 ⟨Nat.le_of_ble_eq_true rfl, Nat.le_of_ble_eq_true rfl⟩) hSx (fun q _ h => up9 hSx q h) (up9 hSx) (fun r36 υ37 tS H1 locs ht hvm hw38 hB hz1 hk1 hSy => ?_)
  have hP9 : va_P D clz (WD9 cy g2 υ37) H1 := by rw [← ht]; exact hB
  have hP8 := kp8 hDD hP8 hk1
  have hS : va_S (lawA s) s.heap H1 locs := by rw [← hA9]; exact hSy
  clear hB hz1 hk1 hvm ht hSx hSy
  generalize H1 = H at hP8 hP9 hS ⊢
  have hF39 : Fr (fL [0, 3]) σ9 υ37 := hw38.1
  have hJ40 : J9 (υ37 9) := hw38.2.1
  have hK41 : DKA (υ37 9) := DKA.mv hDK (hF39 9 17 rfl).2.2.1 (hF39 9 18 rfl).2.2.1 (hF39 9 19 rfl).2.2.1
  have hR42 : KP υ17 (υ37 9) := KP.fr9 hR20 (hF39 9 22 rfl).2.2.1
  refine lv_pop hx hb dL_law_2344 rfl ?_
  refine lv_goto (tgt := 2411) hx hb dL_law_2345 (by decide) ?_
  exact hnext _ _ _ _ _ hJ19 hJ40 hK41 hR42 hP8 hP9 hS hl

theorem q1344 : Cond.methodLink RL 254 yX8_paste ∈ lw_g := lw_gm (List.mem_of_getElem? (i := 1344) (by decide +kernel)) rfl
theorem q1345 : Cond.instanceMethod yX8_paste ∈ lw_g := lw_gm (List.mem_of_getElem? (i := 1345) (by decide +kernel)) rfl
theorem q1346 : Cond.selects RX8 yX8_paste yX8_paste ∈ lw_g := lw_gm (List.mem_of_getElem? (i := 1346) (by decide +kernel)) rfl
theorem q1560 : Cond.methodLink RL 257 yX9_paste ∈ lw_g := lw_gm (List.mem_of_getElem? (i := 1560) (by decide +kernel)) rfl
theorem q1561 : Cond.instanceMethod yX9_paste ∈ lw_g := lw_gm (List.mem_of_getElem? (i := 1561) (by decide +kernel)) rfl
theorem q1562 : Cond.selects RX9 yX9_paste yX9_paste ∈ lw_g := lw_gm (List.mem_of_getElem? (i := 1562) (by decide +kernel)) rfl
theorem dL_law_2348 : decode cL_law 2348 = .ok (.aload_n 1, 1) := by decide +kernel
theorem dL_law_2349 : decode cL_law 2349 = .ok (.aload_n 0, 1) := by decide +kernel
theorem dL_law_2350 : decode cL_law 2350 = .ok (.iload_n 3, 1) := by decide +kernel
theorem dL_law_2351 : decode cL_law 2351 = .ok (.iconst 1, 1) := by decide +kernel
theorem dL_law_2352 : decode cL_law 2352 = .ok (.iadd, 1) := by decide +kernel
theorem dL_law_2353 : decode cL_law 2353 = .ok (.iaload, 1) := by decide +kernel
theorem dL_law_2354 : decode cL_law 2354 = .ok (.aload_n 0, 1) := by decide +kernel
theorem dL_law_2355 : decode cL_law 2355 = .ok (.iload_n 3, 1) := by decide +kernel
theorem dL_law_2356 : decode cL_law 2356 = .ok (.iconst 2, 1) := by decide +kernel
theorem dL_law_2357 : decode cL_law 2357 = .ok (.iadd, 1) := by decide +kernel
theorem dL_law_2358 : decode cL_law 2358 = .ok (.iaload, 1) := by decide +kernel
theorem dL_law_2359 : decode cL_law 2359 = .ok (.aload_n 0, 1) := by decide +kernel
theorem dL_law_2360 : decode cL_law 2360 = .ok (.iload_n 3, 1) := by decide +kernel
theorem dL_law_2361 : decode cL_law 2361 = .ok (.iconst 3, 1) := by decide +kernel
theorem dL_law_2362 : decode cL_law 2362 = .ok (.iadd, 1) := by decide +kernel
theorem dL_law_2363 : decode cL_law 2363 = .ok (.iaload, 1) := by decide +kernel
theorem dL_law_2364 : decode cL_law 2364 = .ok (.aload_n 0, 1) := by decide +kernel
theorem dL_law_2365 : decode cL_law 2365 = .ok (.iload_n 3, 1) := by decide +kernel
theorem dL_law_2366 : decode cL_law 2366 = .ok (.iconst 4, 1) := by decide +kernel
theorem dL_law_2367 : decode cL_law 2367 = .ok (.iadd, 1) := by decide +kernel
theorem dL_law_2368 : decode cL_law 2368 = .ok (.iaload, 1) := by decide +kernel
theorem dL_law_2369 : decode cL_law 2369 = .ok (.aload_n 0, 1) := by decide +kernel
theorem dL_law_2370 : decode cL_law 2370 = .ok (.iload_n 3, 1) := by decide +kernel
theorem dL_law_2371 : decode cL_law 2371 = .ok (.iconst 5, 1) := by decide +kernel
theorem dL_law_2372 : decode cL_law 2372 = .ok (.iadd, 1) := by decide +kernel
theorem dL_law_2373 : decode cL_law 2373 = .ok (.iaload, 1) := by decide +kernel
theorem dL_law_2374 : decode cL_law 2374 = .ok (.invokevirtual 254, 3) := by decide +kernel
theorem dL_law_2377 : decode cL_law 2377 = .ok (.pop, 1) := by decide +kernel
theorem dL_law_2378 : decode cL_law 2378 = .ok (.aload_n 2, 1) := by decide +kernel
theorem dL_law_2379 : decode cL_law 2379 = .ok (.aload_n 0, 1) := by decide +kernel
theorem dL_law_2380 : decode cL_law 2380 = .ok (.iload_n 3, 1) := by decide +kernel
theorem dL_law_2381 : decode cL_law 2381 = .ok (.iconst 1, 1) := by decide +kernel
theorem dL_law_2382 : decode cL_law 2382 = .ok (.iadd, 1) := by decide +kernel
theorem dL_law_2383 : decode cL_law 2383 = .ok (.iaload, 1) := by decide +kernel
theorem dL_law_2384 : decode cL_law 2384 = .ok (.aload_n 0, 1) := by decide +kernel
theorem dL_law_2385 : decode cL_law 2385 = .ok (.iload_n 3, 1) := by decide +kernel
theorem dL_law_2386 : decode cL_law 2386 = .ok (.iconst 2, 1) := by decide +kernel
theorem dL_law_2387 : decode cL_law 2387 = .ok (.iadd, 1) := by decide +kernel
theorem dL_law_2388 : decode cL_law 2388 = .ok (.iaload, 1) := by decide +kernel
theorem dL_law_2389 : decode cL_law 2389 = .ok (.aload_n 0, 1) := by decide +kernel
theorem dL_law_2390 : decode cL_law 2390 = .ok (.iload_n 3, 1) := by decide +kernel
theorem dL_law_2391 : decode cL_law 2391 = .ok (.iconst 3, 1) := by decide +kernel
theorem dL_law_2392 : decode cL_law 2392 = .ok (.iadd, 1) := by decide +kernel
theorem dL_law_2393 : decode cL_law 2393 = .ok (.iaload, 1) := by decide +kernel
theorem dL_law_2394 : decode cL_law 2394 = .ok (.aload_n 0, 1) := by decide +kernel
theorem dL_law_2395 : decode cL_law 2395 = .ok (.iload_n 3, 1) := by decide +kernel
theorem dL_law_2396 : decode cL_law 2396 = .ok (.iconst 4, 1) := by decide +kernel
theorem dL_law_2397 : decode cL_law 2397 = .ok (.iadd, 1) := by decide +kernel
theorem dL_law_2398 : decode cL_law 2398 = .ok (.iaload, 1) := by decide +kernel
theorem dL_law_2399 : decode cL_law 2399 = .ok (.aload_n 0, 1) := by decide +kernel
theorem dL_law_2400 : decode cL_law 2400 = .ok (.iload_n 3, 1) := by decide +kernel
theorem dL_law_2401 : decode cL_law 2401 = .ok (.iconst 5, 1) := by decide +kernel
theorem dL_law_2402 : decode cL_law 2402 = .ok (.iadd, 1) := by decide +kernel
theorem dL_law_2403 : decode cL_law 2403 = .ok (.iaload, 1) := by decide +kernel
theorem dL_law_2404 : decode cL_law 2404 = .ok (.invokevirtual 257, 3) := by decide +kernel
theorem dL_law_2407 : decode cL_law 2407 = .ok (.pop, 1) := by decide +kernel
theorem dL_law_2408 : decode cL_law 2408 = .ok (.goto 3, 3) := by decide +kernel
set_option maxHeartbeats 4000000 in
set_option maxRecDepth 100000 in
theorem lawc_58 {p : Program} {l : Launch} {e : Env} {s : State} {m : MethodId} {below : List Frame} {meth : Method} {c : Code} {b L : Nat} {xs : Nat → Int32} {D : va_G} {cy : Nat → ClassId} {g1 g2 : Nat → Nat} (X : LX p s m meth c b L xs D cy g1 g2) (hL : L ≤ 3072) {i : Int32} (hi : (0 : Int) ≤ i.toInt ∧ i.toInt + 6 ≤ (L : Int)) (hnext : (∀ (σ8 σ9 : ST) (H : Heap) (locs : List Loc) (ls : Array Slot), J8 σ8 → J9 (σ9 9) → DKA (σ9 9) → KP σ8 (σ9 9) → va_P D clz (WD8 cy g1 σ8) H → va_P D clz (WD9 cy g2 σ9) H → va_S (lawA s) s.heap H locs → lv_has ls 4 [(3, .int i), (2, .ref (g2 60)), (1, .ref (gO g1 17)), (0, .ref b)] → W p l e room_1 s m #[Value.ref b] below meth c H locs 200 700000 (lw_Z below #[Value.ref b] s) (F0 m 2411 ls []))) (σ8 σ9 : ST) (H : Heap) (locs : List Loc) (ls : Array Slot) (hJ8 : J8 σ8) (hJ9 : J9 (σ9 9)) (hDK : DKA (σ9 9)) (hR : KP σ8 (σ9 9)) (hP8 : va_P D clz (WD8 cy g1 σ8) H) (hP9 : va_P D clz (WD9 cy g2 σ9) H) (hS : va_S (lawA s) s.heap H locs) (hl : lv_has ls 4 [(3, .int i), (2, .ref (g2 60)), (1, .ref (gO g1 17)), (0, .ref b)]) : W p l e room_1 s m #[Value.ref b] below meth c H locs 200 700000 (lw_Z below #[Value.ref b] s) (F0 m 2348 ls []) := by
  obtain ⟨⟨hx, hb, hr, hml, hown0, hts0, hX, hbl, hlocks, hgv⟩, hK, hDD, hC8, hC9⟩ := X
  have hown : s.vm.findClass RL = some m.cls := hown0
  have hts : ∀ w ∈ lw_g, w.before #[Value.ref b] s = true := fun w h => hts0 w (lw_gt h)
  have hbA : ¬ lawA s b := Nat.not_le.mpr hbl
  have hA8 := A8_law hDD
  have hA9 := A9_law hDD
  have hD8 : ∀ τ : ST, va_D (A8 cy g1 s.heap.size) (WD8 cy g1 τ) := fun τ => by rw [hA8]; exact map_D WD8_m (D_l hDD)
  have hD9 : ∀ τ : ST, va_D (A9 cy g2 s.heap.size) (WD9 cy g2 τ) := fun τ => by rw [hA9]; exact map_D WD9_m (D_r hDD)
  rw [← hA8] at hC8
  rw [← hA9] at hC9
  refine lv_aload_n hx hb dL_law_2348 rfl (lv_at hl 2 rfl) ?_
  refine lv_aload_n hx hb dL_law_2349 rfl (lv_at hl 3 rfl) ?_
  refine lv_iload_n hx hb dL_law_2350 rfl (lv_at hl 0 rfl) ?_
  refine lv_iconst (v := 1) hx hb dL_law_2351 (by decide) ?_
  refine lv_iadd hx hb dL_law_2352 ?_
  refine lv_topi (fun x1 ex1 => ?_)
  have t2 := addO ex1 (by have f0 := hi; have f1 := hL; have z1 : (1 : Int32).toInt = 1 := (by decide); omega)
  refine va_sld hx hb hX hbl hbA hS (vpo (by have f0 := t2; have f1 := hi; have f2 := hL; have g0 := rg32 x1; have z1 : (1 : Int32).toInt = 1 := (by decide); omega)) dL_law_2353 ?_
  refine lv_topi (fun x3 ex3 => ?_)
  refine lv_aload_n hx hb dL_law_2354 rfl (lv_at hl 3 rfl) ?_
  refine lv_iload_n hx hb dL_law_2355 rfl (lv_at hl 0 rfl) ?_
  refine lv_iconst (v := 2) hx hb dL_law_2356 (by decide) ?_
  refine lv_iadd hx hb dL_law_2357 ?_
  refine lv_topi (fun x4 ex4 => ?_)
  have t5 := addO ex4 (by have f0 := hi; have f1 := hL; have f2 := t2; have z1 : (1 : Int32).toInt = 1 := (by decide); have z2 : (2 : Int32).toInt = 2 := (by decide); omega)
  refine va_sld hx hb hX hbl hbA hS (vpo (by have f0 := t5; have f1 := hi; have f2 := hL; have f3 := t2; have g0 := rg32 x4; have z1 : (1 : Int32).toInt = 1 := (by decide); have z2 : (2 : Int32).toInt = 2 := (by decide); omega)) dL_law_2358 ?_
  refine lv_topi (fun x6 ex6 => ?_)
  refine lv_aload_n hx hb dL_law_2359 rfl (lv_at hl 3 rfl) ?_
  refine lv_iload_n hx hb dL_law_2360 rfl (lv_at hl 0 rfl) ?_
  refine lv_iconst (v := 3) hx hb dL_law_2361 (by decide) ?_
  refine lv_iadd hx hb dL_law_2362 ?_
  refine lv_topi (fun x7 ex7 => ?_)
  have t8 := addO ex7 (by have f0 := hi; have f1 := hL; have f2 := t2; have f3 := t5; have z1 : (1 : Int32).toInt = 1 := (by decide); have z2 : (2 : Int32).toInt = 2 := (by decide); have z3 : (3 : Int32).toInt = 3 := (by decide); omega)
  refine va_sld hx hb hX hbl hbA hS (vpo (by have f0 := t8; have f1 := hi; have f2 := hL; have f3 := t2; have f4 := t5; have g0 := rg32 x7; have z1 : (1 : Int32).toInt = 1 := (by decide); have z2 : (2 : Int32).toInt = 2 := (by decide); have z3 : (3 : Int32).toInt = 3 := (by decide); omega)) dL_law_2363 ?_
  refine lv_topi (fun x9 ex9 => ?_)
  refine lv_aload_n hx hb dL_law_2364 rfl (lv_at hl 3 rfl) ?_
  refine lv_iload_n hx hb dL_law_2365 rfl (lv_at hl 0 rfl) ?_
  refine lv_iconst (v := 4) hx hb dL_law_2366 (by decide) ?_
  refine lv_iadd hx hb dL_law_2367 ?_
  refine lv_topi (fun x10 ex10 => ?_)
  have t11 := addO ex10 (by have f0 := hi; have f1 := hL; have f2 := t2; have f3 := t5; have f4 := t8; have z1 : (1 : Int32).toInt = 1 := (by decide); have z2 : (2 : Int32).toInt = 2 := (by decide); have z3 : (3 : Int32).toInt = 3 := (by decide); have z4 : (4 : Int32).toInt = 4 := (by decide); omega)
  refine va_sld hx hb hX hbl hbA hS (vpo (by have f0 := t11; have f1 := hi; have f2 := hL; have f3 := t2; have f4 := t5; have f5 := t8; have g0 := rg32 x10; have z1 : (1 : Int32).toInt = 1 := (by decide); have z2 : (2 : Int32).toInt = 2 := (by decide); have z3 : (3 : Int32).toInt = 3 := (by decide); have z4 : (4 : Int32).toInt = 4 := (by decide); omega)) dL_law_2368 ?_
  refine lv_topi (fun x12 ex12 => ?_)
  refine lv_aload_n hx hb dL_law_2369 rfl (lv_at hl 3 rfl) ?_
  refine lv_iload_n hx hb dL_law_2370 rfl (lv_at hl 0 rfl) ?_
  refine lv_iconst (v := 5) hx hb dL_law_2371 (by decide) ?_
  refine lv_iadd hx hb dL_law_2372 ?_
  refine lv_topi (fun x13 ex13 => ?_)
  have t14 := addO ex13 (by have f0 := hi; have f1 := hL; have f2 := t2; have f3 := t5; have f4 := t8; have f5 := t11; have z1 : (1 : Int32).toInt = 1 := (by decide); have z2 : (2 : Int32).toInt = 2 := (by decide); have z3 : (3 : Int32).toInt = 3 := (by decide); have z4 : (4 : Int32).toInt = 4 := (by decide); have z5 : (5 : Int32).toInt = 5 := (by decide); omega)
  refine va_sld hx hb hX hbl hbA hS (vpo (by have f0 := t14; have f1 := hi; have f2 := hL; have f3 := t2; have f4 := t5; have f5 := t8; have f6 := t11; have g0 := rg32 x13; have z1 : (1 : Int32).toInt = 1 := (by decide); have z2 : (2 : Int32).toInt = 2 := (by decide); have z3 : (3 : Int32).toInt = 3 := (by decide); have z4 : (4 : Int32).toInt = 4 := (by decide); have z5 : (5 : Int32).toInt = 5 := (by decide); omega)) dL_law_2373 ?_
  refine lv_topi (fun x15 ex15 => ?_)
  have hSx : va_S (A8 cy g1 s.heap.size) s.heap H locs := by rw [hA8]; exact hS
  refine va_calli (va_runV (As := [.int x3, .int x6, .int x9, .int x12, .int x15]) (rest := []) ⟨hx, hb, hml, hown, hts⟩ (m_X8_paste l D cy g1 σ8 x3 x6 x9 x12 x15 _ hJ8) (cwV 5 hts (gd_V q1344 q1345 q1346 q125 q1347) rfl rfl rfl (by decide +kernel) ⟨Nat.le_of_ble_eq_true rfl, Nat.le_of_ble_eq_true rfl⟩) (pv8 hP8 hK hD8 hC8 hSx (rv8_8 hK hP8)) rfl rfl hl.1 rfl (lv_room (Nat.le_of_ble_eq_true rfl)) dL_law_2374 ⟨Nat.le_of_ble_eq_true rfl, Nat.le_of_ble_eq_true rfl⟩) hSx (fun q _ h => up8 hSx q h) (up8 hSx) (fun r16 υ17 tS H1 locs ht hvm hw18 hB hz1 hk1 hSy => ?_)
  have hP8 : va_P D clz (WD8 cy g1 υ17) H1 := by rw [← ht]; exact hB
  have hP9 := kp9 hDD hP9 hk1
  have hS : va_S (lawA s) s.heap H1 locs := by rw [← hA8]; exact hSy
  clear hB hz1 hk1 hvm ht hSx hSy
  generalize H1 = H at hP8 hP9 hS ⊢
  have hJ19 : J8 υ17 := hw18.2.1
  have hR20 : KP υ17 (σ9 9) := KP.fr8 hR (show Fr (fO [5, 6, 7, 8]) σ8 υ17 from hw18.1) (by decide)
  refine lv_pop hx hb dL_law_2377 rfl ?_
  refine lv_aload_n hx hb dL_law_2378 rfl (lv_at hl 1 rfl) ?_
  refine lv_aload_n hx hb dL_law_2379 rfl (lv_at hl 3 rfl) ?_
  refine lv_iload_n hx hb dL_law_2380 rfl (lv_at hl 0 rfl) ?_
  refine lv_iconst (v := 1) hx hb dL_law_2381 (by decide) ?_
  refine lv_iadd hx hb dL_law_2382 ?_
  refine lv_topi (fun x21 ex21 => ?_)
  have t22 := addO ex21 (by have f0 := hi; have f1 := hL; have f2 := t2; have f3 := t5; have f4 := t8; have f5 := t11; have f6 := t14; have z1 : (1 : Int32).toInt = 1 := (by decide); have z2 : (2 : Int32).toInt = 2 := (by decide); have z3 : (3 : Int32).toInt = 3 := (by decide); have z4 : (4 : Int32).toInt = 4 := (by decide); have z5 : (5 : Int32).toInt = 5 := (by decide); omega)
  refine va_sld hx hb hX hbl hbA hS (vpo (by have f0 := t22; have f1 := hi; have f2 := hL; have f3 := t2; have f4 := t5; have f5 := t8; have f6 := t11; have f7 := t14; have g0 := rg32 x21; have z1 : (1 : Int32).toInt = 1 := (by decide); have z2 : (2 : Int32).toInt = 2 := (by decide); have z3 : (3 : Int32).toInt = 3 := (by decide); have z4 : (4 : Int32).toInt = 4 := (by decide); have z5 : (5 : Int32).toInt = 5 := (by decide); omega)) dL_law_2383 ?_
  refine lv_topi (fun x23 ex23 => ?_)
  refine lv_aload_n hx hb dL_law_2384 rfl (lv_at hl 3 rfl) ?_
  refine lv_iload_n hx hb dL_law_2385 rfl (lv_at hl 0 rfl) ?_
  refine lv_iconst (v := 2) hx hb dL_law_2386 (by decide) ?_
  refine lv_iadd hx hb dL_law_2387 ?_
  refine lv_topi (fun x24 ex24 => ?_)
  have t25 := addO ex24 (by have f0 := hi; have f1 := hL; have f2 := t2; have f3 := t5; have f4 := t8; have f5 := t11; have f6 := t14; have f7 := t22; have z1 : (1 : Int32).toInt = 1 := (by decide); have z2 : (2 : Int32).toInt = 2 := (by decide); have z3 : (3 : Int32).toInt = 3 := (by decide); have z4 : (4 : Int32).toInt = 4 := (by decide); have z5 : (5 : Int32).toInt = 5 := (by decide); omega)
  refine va_sld hx hb hX hbl hbA hS (vpo (by have f0 := t25; have f1 := hi; have f2 := hL; have f3 := t2; have f4 := t5; have f5 := t8; have f6 := t11; have f7 := t14; have f8 := t22; have g0 := rg32 x24; have z1 : (1 : Int32).toInt = 1 := (by decide); have z2 : (2 : Int32).toInt = 2 := (by decide); have z3 : (3 : Int32).toInt = 3 := (by decide); have z4 : (4 : Int32).toInt = 4 := (by decide); have z5 : (5 : Int32).toInt = 5 := (by decide); omega)) dL_law_2388 ?_
  refine lv_topi (fun x26 ex26 => ?_)
  refine lv_aload_n hx hb dL_law_2389 rfl (lv_at hl 3 rfl) ?_
  refine lv_iload_n hx hb dL_law_2390 rfl (lv_at hl 0 rfl) ?_
  refine lv_iconst (v := 3) hx hb dL_law_2391 (by decide) ?_
  refine lv_iadd hx hb dL_law_2392 ?_
  refine lv_topi (fun x27 ex27 => ?_)
  have t28 := addO ex27 (by have f0 := hi; have f1 := hL; have f2 := t2; have f3 := t5; have f4 := t8; have f5 := t11; have f6 := t14; have f7 := t22; have f8 := t25; have z1 : (1 : Int32).toInt = 1 := (by decide); have z2 : (2 : Int32).toInt = 2 := (by decide); have z3 : (3 : Int32).toInt = 3 := (by decide); have z4 : (4 : Int32).toInt = 4 := (by decide); have z5 : (5 : Int32).toInt = 5 := (by decide); omega)
  refine va_sld hx hb hX hbl hbA hS (vpo (by have f0 := t28; have f1 := hi; have f2 := hL; have f3 := t2; have f4 := t5; have f5 := t8; have f6 := t11; have f7 := t14; have f8 := t22; have f9 := t25; have g0 := rg32 x27; have z1 : (1 : Int32).toInt = 1 := (by decide); have z2 : (2 : Int32).toInt = 2 := (by decide); have z3 : (3 : Int32).toInt = 3 := (by decide); have z4 : (4 : Int32).toInt = 4 := (by decide); have z5 : (5 : Int32).toInt = 5 := (by decide); omega)) dL_law_2393 ?_
  refine lv_topi (fun x29 ex29 => ?_)
  refine lv_aload_n hx hb dL_law_2394 rfl (lv_at hl 3 rfl) ?_
  refine lv_iload_n hx hb dL_law_2395 rfl (lv_at hl 0 rfl) ?_
  refine lv_iconst (v := 4) hx hb dL_law_2396 (by decide) ?_
  refine lv_iadd hx hb dL_law_2397 ?_
  refine lv_topi (fun x30 ex30 => ?_)
  have t31 := addO ex30 (by have f0 := hi; have f1 := hL; have f2 := t2; have f3 := t5; have f4 := t8; have f5 := t11; have f6 := t14; have f7 := t22; have f8 := t25; have f9 := t28; have z1 : (1 : Int32).toInt = 1 := (by decide); have z2 : (2 : Int32).toInt = 2 := (by decide); have z3 : (3 : Int32).toInt = 3 := (by decide); have z4 : (4 : Int32).toInt = 4 := (by decide); have z5 : (5 : Int32).toInt = 5 := (by decide); omega)
  refine va_sld hx hb hX hbl hbA hS (vpo (by have f0 := t31; have f1 := hi; have f2 := hL; have f3 := t2; have f4 := t5; have f5 := t8; have f6 := t11; have f7 := t14; have f8 := t22; have f9 := t25; have f10 := t28; have g0 := rg32 x30; have z1 : (1 : Int32).toInt = 1 := (by decide); have z2 : (2 : Int32).toInt = 2 := (by decide); have z3 : (3 : Int32).toInt = 3 := (by decide); have z4 : (4 : Int32).toInt = 4 := (by decide); have z5 : (5 : Int32).toInt = 5 := (by decide); omega)) dL_law_2398 ?_
  refine lv_topi (fun x32 ex32 => ?_)
  refine lv_aload_n hx hb dL_law_2399 rfl (lv_at hl 3 rfl) ?_
  refine lv_iload_n hx hb dL_law_2400 rfl (lv_at hl 0 rfl) ?_
  refine lv_iconst (v := 5) hx hb dL_law_2401 (by decide) ?_
  refine lv_iadd hx hb dL_law_2402 ?_
  refine lv_topi (fun x33 ex33 => ?_)
  have t34 := addO ex33 (by have f0 := hi; have f1 := hL; have f2 := t2; have f3 := t5; have f4 := t8; have f5 := t11; have f6 := t14; have f7 := t22; have f8 := t25; have f9 := t28; have f10 := t31; have z1 : (1 : Int32).toInt = 1 := (by decide); have z2 : (2 : Int32).toInt = 2 := (by decide); have z3 : (3 : Int32).toInt = 3 := (by decide); have z4 : (4 : Int32).toInt = 4 := (by decide); have z5 : (5 : Int32).toInt = 5 := (by decide); omega)
  refine va_sld hx hb hX hbl hbA hS (vpo (by have f0 := t34; have f1 := hi; have f2 := hL; have f3 := t2; have f4 := t5; have f5 := t8; have f6 := t11; have f7 := t14; have f8 := t22; have f9 := t25; have f10 := t28; have f11 := t31; have g0 := rg32 x33; have z1 : (1 : Int32).toInt = 1 := (by decide); have z2 : (2 : Int32).toInt = 2 := (by decide); have z3 : (3 : Int32).toInt = 3 := (by decide); have z4 : (4 : Int32).toInt = 4 := (by decide); have z5 : (5 : Int32).toInt = 5 := (by decide); omega)) dL_law_2403 ?_
  refine lv_topi (fun x35 ex35 => ?_)
  have hSx : va_S (A9 cy g2 s.heap.size) s.heap H locs := by rw [hA9]; exact hS
  refine va_calli (va_runV (As := [.int x23, .int x26, .int x29, .int x32, .int x35]) (rest := []) ⟨hx, hb, hml, hown, hts⟩ (m_X9_paste l D cy g2 σ9 x23 x26 x29 x32 x35 _ hJ9 ) (cwV 5 hts (gd_V q1560 q1561 q1562 q134 q1563) rfl rfl rfl (by decide +kernel) ⟨Nat.le_of_ble_eq_true rfl, Nat.le_of_ble_eq_true rfl⟩) (pv9 hP9 hK hD9 hC9 hSx (va_recv hK hP9 (ci := 9) (q0 := 0) rfl rfl)) rfl rfl hl.1 rfl (lv_room (Nat.le_of_ble_eq_true rfl)) dL_law_2404 ⟨Nat.le_of_ble_eq_true rfl, Nat.le_of_ble_eq_true rfl⟩) hSx (fun q _ h => up9 hSx q h) (up9 hSx) (fun r36 υ37 tS H1 locs ht hvm hw38 hB hz1 hk1 hSy => ?_)
  have hP9 : va_P D clz (WD9 cy g2 υ37) H1 := by rw [← ht]; exact hB
  have hP8 := kp8 hDD hP8 hk1
  have hS : va_S (lawA s) s.heap H1 locs := by rw [← hA9]; exact hSy
  clear hB hz1 hk1 hvm ht hSx hSy
  generalize H1 = H at hP8 hP9 hS ⊢
  have hF39 : Fr (fL [0, 3, 4]) σ9 υ37 := hw38.1
  have hJ40 : J9 (υ37 9) := hw38.2.1
  have hK41 : DKA (υ37 9) := DKA.mv hDK (hF39 9 17 rfl).2.2.1 (hF39 9 18 rfl).2.2.1 (hF39 9 19 rfl).2.2.1
  have hR42 : KP υ17 (υ37 9) := KP.fr9 hR20 (hF39 9 22 rfl).2.2.1
  refine lv_pop hx hb dL_law_2407 rfl ?_
  refine lv_goto (tgt := 2411) hx hb dL_law_2408 (by decide) ?_
  exact hnext _ _ _ _ _ hJ19 hJ40 hK41 hR42 hP8 hP9 hS hl

