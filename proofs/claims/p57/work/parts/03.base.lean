
def lw_g : List Cond := lw_tbl.filter goodWord
theorem lw_gm {w : Cond} (h : w ∈ lw_tbl) (hg : goodWord w = true) : w ∈ lw_g := List.mem_filter.mpr ⟨h, hg⟩
theorem lw_gt {w : Cond} (h : w ∈ lw_g) : w ∈ lw_tbl := (List.mem_filter.mp h).1
theorem lw_gg {w : Cond} (h : w ∈ lw_g) : goodWord w = true := (List.mem_filter.mp h).2
theorem gd_g {ws : List Cond} (h : ∀ w ∈ ws, w ∈ lw_g) : GoodIn lw_g ws := fun w hw => ⟨h w hw, good_of_word (lw_gg (h w hw))⟩
abbrev ww (y : MethodName) (b : ByteArray) (n : Nat) (r : Option FieldType) : List Cond := Cond.code y b n r :: lw_g
theorem gd_I {y : MethodName} {b : ByteArray} {n : Nat} {r : Option FieldType} (hc : Cond.code y b n r ∈ lw_g) : GoodIn lw_g (ww y b n r) := gd_g (List.forall_mem_cons.mpr ⟨hc, fun _ h => h⟩)
theorem gd_V {own C : String} {i : Nat} {y : MethodName} {b : ByteArray} {n : Nat} {r : Option FieldType} (h1 : Cond.methodLink own i y ∈ lw_g) (h2 : Cond.instanceMethod y ∈ lw_g) (h3 : Cond.selects C y y ∈ lw_g) (h4 : Cond.initialized C ∈ lw_g) (hc : Cond.code y b n r ∈ lw_g) : GoodIn lw_g (wsV own i C y (ww y b n r)) :=
  gd_g (List.forall_mem_cons.mpr ⟨h1, List.forall_mem_cons.mpr ⟨h2, List.forall_mem_cons.mpr ⟨h3, List.forall_mem_cons.mpr ⟨h4, List.forall_mem_cons.mpr ⟨hc, fun _ h => h⟩⟩⟩⟩⟩)
theorem gd_S {own : String} {i : Nat} {y : MethodName} {b : ByteArray} {n : Nat} {r : Option FieldType} (h1 : Cond.methodLink own i y ∈ lw_g) (h2 : Cond.static y ∈ lw_g) (h3 : Cond.initialized y.cls ∈ lw_g) (hc : Cond.code y b n r ∈ lw_g) : GoodIn lw_g (va_wsS own i y (ww y b n r)) :=
  gd_g (List.forall_mem_cons.mpr ⟨h1, List.forall_mem_cons.mpr ⟨h2, List.forall_mem_cons.mpr ⟨h3, List.forall_mem_cons.mpr ⟨hc, fun _ h => h⟩⟩⟩⟩)
theorem hts_g {y : MethodName} {b : ByteArray} {n : Nat} {r : Option FieldType} {args : Array Value} {s : State} (h : ∀ w ∈ ww y b n r, w.before args s = true) : ∀ w ∈ lw_g, w.before args s = true := fun w hw => h w (List.mem_cons_of_mem _ hw)
abbrev tyl (cy : Nat → ClassId) : List (ClassId × FieldType) := [(cy 0, .int), (cy 1, .byte), (cy 2, .long), (cy 3, .boolean), (cy 4, .object RX0), (cy 5, .object RX5)]
abbrev clz : List vw_C := [(RX0, TX0, 10), (RX1, TX1, 9), (RX2, TX2, 2), (RX3, TX3, 20), (RX4, TX4, 8), (RX5, TX5, 4), (RX6, TX6, 3), (RX7, TX7, 7), (RX8, TX8, 12), (RX9, TX9, 60)]
abbrev pre (D : va_G) (cy : Nat → ClassId) (ws : va_W) (sz : Nat) : State → Prop := fun U => U.heap.size = sz ∧ va_P D clz ws U.heap ∧ va_K D clz (tyl cy) U ∧ va_D (fun _ => True) ws
abbrev wrl (D : va_G) (cy : Nat → ClassId) (A : Nat → Prop) (ws : va_W) : State → Prop := fun t => va_P D clz ws t.heap ∧ va_K D clz (tyl cy) t ∧ va_D A ws
abbrev qi (D : va_G) (cy : Nat → ClassId) (A : Nat → Prop) {S : Type} (post : Int32 → S → Prop) (w : S → va_W) : Array Value → State → Outcome → State → Prop := va_Qi post (fun u t => wrl D cy A (w u) t) A
abbrev qv (D : va_G) (cy : Nat → ClassId) (A : Nat → Prop) {S : Type} (post : S → Prop) (w : S → va_W) : Array Value → State → Outcome → State → Prop := va_Qv post (fun u t => wrl D cy A (w u) t) A
theorem bl_pre {As : List Value} {D : va_G} {cy : Nat → ClassId} {ws : va_W} {sz : Nat} : FrameBlind (va_Pc As (pre D cy ws sz)) := fun a U g mk q => by
  obtain ⟨q0, q1, qP, qK, qD⟩ := q
  exact ⟨q0, q1, qP, va_K.moved (u := U) (U := U.calling g mk a) (Vm.Alike.refl U.vm) qK, qD⟩
theorem pr_S {s : State} {H : Heap} {As : List Value} {D : va_G} {cy : Nat → ClassId} {ws : va_W} {A : Nat → Prop} (hP : va_P D clz ws H) (hK : va_K D clz (tyl cy) s) (hD : va_D A ws) : PreS s H (va_Pc As (pre D cy ws H.size)) As :=
  ⟨bl_pre, fun U hU hW => ⟨rfl, by rw [hU], by rw [hU]; exact hP, va_K.moved hW.alike hK, hD.weaken (fun _ _ _ _ => trivial)⟩⟩
theorem pr_V {s : State} {H : Heap} {C : String} {b : Nat} {As : List Value} {D : va_G} {cy : Nat → ClassId} {ws : va_W} {A : Nat → Prop} (hP : va_P D clz ws H) (hK : va_K D clz (tyl cy) s) (hD : va_D A ws) (hc : ∃ cell : Cell, H[b]? = some cell ∧ cell.vm.isStatics = false ∧ s.vm.findClass C = some cell.cls) : PreV s H C b (va_Pc (.ref b :: As) (pre D cy ws H.size)) As :=
  ⟨bl_pre, hc, fun U hU hW => ⟨rfl, by rw [hU], by rw [hU]; exact hP, va_K.moved hW.alike hK, hD.weaken (fun _ _ _ _ => trivial)⟩⟩
theorem ty_eq {D : va_G} {cl : List vw_C} {tys : List (ClassId × FieldType)} {U : State} (hK : va_K D cl tys U) {c1 c2 : ClassId} {ty : FieldType} (i j : Nat) (h1 : tys[i]? = some (c1, ty)) (h2 : tys[j]? = some (c2, ty)) : c1 = c2 := by
  have a := (hK.2 i _ h1).2
  have b := (hK.2 j _ h2).2
  cases ty with
  | object C =>
    obtain ⟨_, _, _, _, _, a4⟩ := a
    obtain ⟨_, _, _, _, _, b4⟩ := b
    exact Option.some.inj (a4.symm.trans b4)
  | _ => exact Option.some.inj (Eq.trans (Eq.symm (show U.vm.findClass _ = some c1 from a)) (show U.vm.findClass _ = some c2 from b))
theorem upd_z {k : Nat} : upd (fun _ => 0) k 0 = (fun _ => 0) := by
  funext j
  simp [upd]
theorem updL_z {k : Nat} : vp_updL (fun _ => 0) k 0 = (fun _ => 0) := by
  funext j
  simp [vp_updL]
theorem nar_b0 : vp_nar .byte 0 = 0 := by decide
theorem nar_z0 : vp_nar .boolean 0 = 0 := by decide
theorem upd_zb {k : Nat} : upd (fun _ => 0) k (vp_nar .byte 0) = (fun _ => 0) := by rw [nar_b0]; exact upd_z
theorem upd_zz {k : Nat} : upd (fun _ => 0) k (vp_nar .boolean 0) = (fun _ => 0) := by rw [nar_z0]; exact upd_z
theorem cpy_z {a b n : Nat} : va_cpy (fun _ => (0 : Int32)) (fun _ => 0) a b n = (fun _ => 0) := by
  funext j
  simp [va_cpy]
theorem plt32 {a b : Int32} (h : a < b) : a.toInt < b.toInt := Int32.lt_iff_toInt_lt.mp h
theorem ple32 {a b : Int32} (h : a ≤ b) : a.toInt ≤ b.toInt := Int32.le_iff_toInt_le.mp h
theorem nlt32 {a b : Int32} (h : ¬ a < b) : b.toInt ≤ a.toInt := Int.not_lt.mp (fun q => h (Int32.lt_iff_toInt_lt.mpr q))
theorem nle32 {a b : Int32} (h : ¬ a ≤ b) : b.toInt < a.toInt := Int.not_le.mp (fun q => h (Int32.le_iff_toInt_le.mpr q))
theorem peq32 {a b : Int32} (h : a = b) : a.toInt = b.toInt := congrArg Int32.toInt h
theorem neq32 {a b : Int32} (h : ¬ a = b) : ¬ a.toInt = b.toInt := fun q => h (Int32.toInt_inj.mp q)
theorem plt64 {a b : Int64} (h : a < b) : a.toInt < b.toInt := Int64.lt_iff_toInt_lt.mp h
theorem ple64 {a b : Int64} (h : a ≤ b) : a.toInt ≤ b.toInt := Int64.le_iff_toInt_le.mp h
theorem nlt64 {a b : Int64} (h : ¬ a < b) : b.toInt ≤ a.toInt := Int.not_lt.mp (fun q => h (Int64.lt_iff_toInt_lt.mpr q))
theorem nle64 {a b : Int64} (h : ¬ a ≤ b) : b.toInt < a.toInt := Int.not_le.mp (fun q => h (Int64.le_iff_toInt_le.mpr q))
theorem peq64 {a b : Int64} (h : a = b) : a.toInt = b.toInt := congrArg Int64.toInt h
theorem neq64 {a b : Int64} (h : ¬ a = b) : ¬ a.toInt = b.toInt := fun q => h (Int64.toInt_inj.mp q)
theorem vpi {i : Int32} {n : Nat} (h : decide (¬ (i < 0 ∨ n ≤ i.toNatClampNeg)) = true) : vp_in i n := by
  have q : ¬ (i < 0 ∨ n ≤ i.toNatClampNeg) := of_decide_eq_true h
  exact q
theorem bp64 {lo v hi : Int64} (h : lo ≤ v ∧ v ≤ hi) : lo.toInt ≤ v.toInt ∧ v.toInt ≤ hi.toInt := ⟨Int64.le_iff_toInt_le.mp h.1, Int64.le_iff_toInt_le.mp h.2⟩
theorem bp64r {lo v hi : Int64} (h : lo.toInt ≤ v.toInt ∧ v.toInt ≤ hi.toInt) : lo ≤ v ∧ v ≤ hi := ⟨Int64.le_iff_toInt_le.mpr h.1, Int64.le_iff_toInt_le.mpr h.2⟩
theorem bn64 {lo v hi : Int64} (h : ¬ (lo ≤ v ∧ v ≤ hi)) : ¬ (lo.toInt ≤ v.toInt ∧ v.toInt ≤ hi.toInt) := fun q => h (bp64r q)
theorem bn64r {lo v hi : Int64} (h : ¬ (lo.toInt ≤ v.toInt ∧ v.toInt ≤ hi.toInt)) : ¬ (lo ≤ v ∧ v ≤ hi) := fun q => h (bp64 q)
theorem bp32 {lo v hi : Int32} (h : lo ≤ v ∧ v ≤ hi) : lo.toInt ≤ v.toInt ∧ v.toInt ≤ hi.toInt := ⟨Int32.le_iff_toInt_le.mp h.1, Int32.le_iff_toInt_le.mp h.2⟩
theorem bp32r {lo v hi : Int32} (h : lo.toInt ≤ v.toInt ∧ v.toInt ≤ hi.toInt) : lo ≤ v ∧ v ≤ hi := ⟨Int32.le_iff_toInt_le.mpr h.1, Int32.le_iff_toInt_le.mpr h.2⟩
theorem bn32 {lo v hi : Int32} (h : ¬ (lo ≤ v ∧ v ≤ hi)) : ¬ (lo.toInt ≤ v.toInt ∧ v.toInt ≤ hi.toInt) := fun q => h (bp32r q)
theorem bn32r {lo v hi : Int32} (h : ¬ (lo.toInt ≤ v.toInt ∧ v.toInt ≤ hi.toInt)) : ¬ (lo ≤ v ∧ v ≤ hi) := fun q => h (bp32 q)
theorem ne_ti {x k : Int32} {n : Int} (h : ¬ x = k) (hk : k.toInt = n) : ¬ x.toInt = n := fun q => h (Int32.toInt_inj.mp (q.trans hk.symm))
theorem sp3 (x : Int32) : x = 0 ∨ x = 1 ∨ x = 2 ∨ (x.toInt < 0 ∨ 2 < x.toInt) := by
  by_cases h0 : x = 0
  · exact Or.inl h0
  by_cases h1 : x = 1
  · exact Or.inr (Or.inl h1)
  by_cases h2 : x = 2
  · exact Or.inr (Or.inr (Or.inl h2))
  have f0 := ne_ti h0 (n := 0) (by decide)
  have f1 := ne_ti h1 (n := 1) (by decide)
  have f2 := ne_ti h2 (n := 2) (by decide)
  exact Or.inr (Or.inr (Or.inr (by omega)))
theorem sp4 (x : Int32) : x = 0 ∨ x = 1 ∨ x = 2 ∨ x = 3 ∨ (x.toInt < 0 ∨ 3 < x.toInt) := by
  rcases sp3 x with h | h | h | h
  · exact Or.inl h
  · exact Or.inr (Or.inl h)
  · exact Or.inr (Or.inr (Or.inl h))
  by_cases h3 : x = 3
  · exact Or.inr (Or.inr (Or.inr (Or.inl h3)))
  have f3 := ne_ti h3 (n := 3) (by decide)
  exact Or.inr (Or.inr (Or.inr (Or.inr (by omega))))
theorem sp8 (x : Int32) : x = 0 ∨ x = 1 ∨ x = 2 ∨ x = 3 ∨ x = 4 ∨ x = 5 ∨ x = 6 ∨ x = 7 ∨ (x.toInt < 0 ∨ 7 < x.toInt) := by
  rcases sp4 x with h | h | h | h | h
  · exact Or.inl h
  · exact Or.inr (Or.inl h)
  · exact Or.inr (Or.inr (Or.inl h))
  · exact Or.inr (Or.inr (Or.inr (Or.inl h)))
  by_cases h4 : x = 4
  · exact Or.inr (Or.inr (Or.inr (Or.inr (Or.inl h4))))
  by_cases h5 : x = 5
  · exact Or.inr (Or.inr (Or.inr (Or.inr (Or.inr (Or.inl h5)))))
  by_cases h6 : x = 6
  · exact Or.inr (Or.inr (Or.inr (Or.inr (Or.inr (Or.inr (Or.inl h6))))))
  by_cases h7 : x = 7
  · exact Or.inr (Or.inr (Or.inr (Or.inr (Or.inr (Or.inr (Or.inr (Or.inl h7)))))))
  have f4 := ne_ti h4 (n := 4) (by decide)
  have f5 := ne_ti h5 (n := 5) (by decide)
  have f6 := ne_ti h6 (n := 6) (by decide)
  have f7 := ne_ti h7 (n := 7) (by decide)
  exact Or.inr (Or.inr (Or.inr (Or.inr (Or.inr (Or.inr (Or.inr (Or.inr (by omega))))))))
def sp_end (n : Int32) : Int32 := if n.toInt = 0 then 0 else -1
def sp_fault (n : Int32) : Int32 := if n.toInt = 0 then 0 else -1
def sp_count (n : Int32) : Int32 := if n.toInt < 0 ∨ 7 < n.toInt then -1 else 0
def sp_keep (n : Int32) : Int32 := if n.toInt < 0 ∨ 2 < n.toInt then -2 else 0
def sp_back (n : Int32) : Int32 := if n.toInt < 0 ∨ 2 < n.toInt then -2 else -6
def sp_write (n : Int32) : Int32 := if n.toInt < 0 ∨ 3 < n.toInt then -2 else -6
def sp_paste (n k : Int32) : Int32 := if n.toInt < 0 ∨ 3 < n.toInt ∨ k.toInt < 0 ∨ 3 < k.toInt then -2 else -6
def sp_row (s w n : Int32) : Int32 := if s.toInt < 0 ∨ 3 < s.toInt ∨ w.toInt < 0 ∨ 3 < w.toInt ∨ 60 < n.toInt then -2 else if n.toInt < 0 then -3 else 0
def nst (U : State) : Prop := va_Nw (.methodLinkNest RX8 9 yX4_init RX8) U ∧ va_Nw (.methodLinkNest RX8 18 yX0_init RX8) U ∧ va_Nw (.methodLinkNest RX8 42 yX7_init RX8) U ∧ va_Nw (.methodLinkNest RX8 52 yX3_init RX8) U ∧ va_Nw (.methodLinkNest RX8 59 yX2_init RX8) U ∧ va_Nw (.methodLinkNest RX8 66 yX1_init RX8) U ∧ va_Nw (.methodLinkNest RX8 73 yX6_init RX8) U ∧ va_Nw (.methodLinkNest RX8 78 yX5_init RX8) U ∧ va_Nw (.methodLinkNest RX3 13 yX7_init RX8) U ∧ va_AO RX0 U ∧ va_AO RX5 U
theorem nst_warm {s U : State} (hW : s.WarmedH U.vm) (h : nst s) : nst U := ⟨va_Nw.warmM hW h.1, va_Nw.warmM hW h.2.1, va_Nw.warmM hW h.2.2.1, va_Nw.warmM hW h.2.2.2.1, va_Nw.warmM hW h.2.2.2.2.1, va_Nw.warmM hW h.2.2.2.2.2.1, va_Nw.warmM hW h.2.2.2.2.2.2.1, va_Nw.warmM hW h.2.2.2.2.2.2.2.1, va_Nw.warmM hW h.2.2.2.2.2.2.2.2.1, va_AO.moved hW.alike h.2.2.2.2.2.2.2.2.2.1, va_AO.moved hW.alike h.2.2.2.2.2.2.2.2.2.2⟩
theorem nst_call {U : State} {g : JFrame} {mk : MethodId} {a : Array Value} (h : nst U) : nst (U.calling g mk a) := ⟨va_Nw.same rfl (u := U) rfl h.1, va_Nw.same rfl (u := U) rfl h.2.1, va_Nw.same rfl (u := U) rfl h.2.2.1, va_Nw.same rfl (u := U) rfl h.2.2.2.1, va_Nw.same rfl (u := U) rfl h.2.2.2.2.1, va_Nw.same rfl (u := U) rfl h.2.2.2.2.2.1, va_Nw.same rfl (u := U) rfl h.2.2.2.2.2.2.1, va_Nw.same rfl (u := U) rfl h.2.2.2.2.2.2.2.1, va_Nw.same rfl (u := U) rfl h.2.2.2.2.2.2.2.2.1, va_AO.moved (u := U) (Vm.Alike.refl U.vm) h.2.2.2.2.2.2.2.2.2.1, va_AO.moved (u := U) (Vm.Alike.refl U.vm) h.2.2.2.2.2.2.2.2.2.2⟩
abbrev preN (D : va_G) (cy : Nat → ClassId) (ws : va_W) (sz : Nat) : State → Prop := fun U => pre D cy ws sz U ∧ nst U
theorem pr_N {s : State} {H : Heap} {As : List Value} {D : va_G} {cy : Nat → ClassId} {ws : va_W} {A : Nat → Prop} (hN : nst s) (hP : va_P D clz ws H) (hK : va_K D clz (tyl cy) s) (hD : va_D A ws) : PreS s H (va_Pc As (preN D cy ws H.size)) As :=
  ⟨fun a U g mk q => by
    obtain ⟨q0, ⟨q1, qP, qK, qD⟩, qN⟩ := q
    exact ⟨q0, ⟨q1, qP, va_K.moved (u := U) (U := U.calling g mk a) (Vm.Alike.refl U.vm) qK, qD⟩, nst_call qN⟩, fun U hU hW => ⟨rfl, ⟨by rw [hU], by rw [hU]; exact hP, va_K.moved hW.alike hK, hD.weaken (fun _ _ _ _ => trivial)⟩, nst_warm hW hN⟩⟩
abbrev xF (g : Nat → Nat) : List Value := [.ref (g 1), .ref (g 3), .ref (g 8), .ref (g 9), .ref (g 25), .ref (g 26), .ref (g 35), .ref (g 36), .ref (g 37), .ref (g 38), .ref (g 39), .ref (g 44)]
abbrev mF (g : Nat → Nat) : List Value := [.int 0, .ref (g 1), .ref (g 2), .ref (g 3), .ref (g 4), .ref (g 5), .int 0, .int 0, .int 0, .int 0, .int 0, .long 0, .int 0, .int 0, .int 0, .int (-1), .ref (g 16), .ref (g 17), .ref (g 18), .ref (g 19), .ref (g 20), .ref (g 21), .ref (g 22), .int 0, .ref (g 24), .ref (g 25), .ref (g 26), .ref (g 27), .int 0, .int 0, .int 0, .int 0, .ref (g 32), .ref (g 33), .ref (g 34), .ref (g 35), .ref (g 36), .ref (g 37), .ref (g 38), .int 0, .int 0, .long 0, .ref (g 42), .ref (g 43), .ref (g 44), .ref (g 45), .ref (g 46), .ref (g 47), .ref (g 48), .ref (g 49), .ref (g 50), .int 0, .int 0, .ref (g 53), .ref (g 54), .ref (g 55), .ref (g 56), .ref (g 57), .int 0, .int 0]
