
def cst (A : Nat → Prop) (U : State) (H : Heap) : Prop :=
  (∃ t : Nat, va_Z "LipsAndSlidesModel" "CENTS" "[I" (.ref t) A U H ∧ va_T .int t 13 (fun j => .int (([0, 0, 1200, 1902, 2400, 2786, 3102, 3369, 3600, 3804, 3986, 4151, 4302] : List Int32).getD j 0)) A U H) ∧
  (∃ t : Nat, va_Z "LipsAndSlides$Tube" "PARTIAL_CENTS" "[I" (.ref t) A U H ∧ va_T .int t 11 (fun j => .int (([1200, 1902, 2400, 2786, 3102, 3369, 3600, 3804, 3986, 4151, 4302] : List Int32).getD j 0)) A U H)
theorem cst.moved {A : Nat → Prop} {u U : State} {H : Heap} (hvm : u.vm.Alike U.vm) (h : cst A u H) : cst A U H := by
  obtain ⟨⟨t, a1, a2⟩, t', b1, b2⟩ := h
  exact ⟨⟨t, va_Z.moved hvm a1, va_T.moved hvm a2⟩, t', va_Z.moved hvm b1, va_T.moved hvm b2⟩
theorem cst.kept {A : Nat → Prop} {U : State} {H H1 : Heap} (h : cst A U H) (hq : ∀ a : Nat, a < H.size → ¬ A a → H1[a]? = H[a]?) : cst A U H1 := by
  obtain ⟨⟨t, a1, a2⟩, t', b1, b2⟩ := h
  exact ⟨⟨t, a1.kept hq, a2.kept hq⟩, t', b1.kept hq, b2.kept hq⟩
theorem cst.narrow {A B : Nat → Prop} {U : State} {H : Heap} (h : cst A U H) (hAB : ∀ q, B q → A q) : cst B U H := by
  obtain ⟨⟨t, a1, a2⟩, t', b1, b2⟩ := h
  exact ⟨⟨t, a1.narrow hAB, a2.narrow hAB⟩, t', b1.narrow hAB, b2.narrow hAB⟩
abbrev LZ : Type := ST × (Nat → Int32) × (Nat → Int64)
def lf (l : List Int32) : Nat → Int32 := fun k => l.getD k 0
def lg (l : List Int64) : Nat → Int64 := fun k => l.getD k 0
theorem fN_L {k : Nat} {l : List Nat} (h : l.contains k = true) : ∀ o' k' : Nat, fN 9 k o' k' = true → (fun (_ : Nat) (q : Nat) => l.contains q) o' k' = true := fun o' k' q => by
  have : k' = k := by simp [fN] at q; exact q.2
  rw [this]; exact h
def fL (l : List Nat) : Nat → Nat → Bool := fun _ k => l.contains k
theorem fL_sub {l1 l2 : List Nat} (h : l1.all (fun k => l2.contains k) = true) : ∀ o k : Nat, fL l1 o k = true → fL l2 o k = true := fun o k q => by
  have := List.all_eq_true.mp h k (by simpa [fL] using q)
  simpa [fL] using this
theorem addO {a b x : Int32} (e : x = a + b) (h : -2147483648 ≤ a.toInt + b.toInt ∧ a.toInt + b.toInt ≤ 2147483647) : x.toInt = a.toInt + b.toInt := by
  rw [e, Int32.toInt_add]; exact Int.bmod_eq_of_le (by omega) (by omega)
theorem subO {a b x : Int32} (e : x = a - b) (h : -2147483648 ≤ a.toInt - b.toInt ∧ a.toInt - b.toInt ≤ 2147483647) : x.toInt = a.toInt - b.toInt := by
  rw [e, Int32.toInt_sub]; exact Int.bmod_eq_of_le (by omega) (by omega)
theorem mulO {a b x : Int32} (e : x = a * b) (h : -2147483648 ≤ a.toInt * b.toInt ∧ a.toInt * b.toInt ≤ 2147483647) : x.toInt = a.toInt * b.toInt := by
  rw [e, Int32.toInt_mul]; exact Int.bmod_eq_of_le (by omega) (by omega)
theorem negO {a x : Int32} (e : x = -a) (h : -2147483647 ≤ a.toInt) : x.toInt = - a.toInt := by
  have h2 := a.toInt_lt
  rw [e, Int32.toInt_neg]; exact Int.bmod_eq_of_le (by omega) (by omega)
theorem mulC {a b x : Int32} {n : Int} (e : x = a * b) (hb : b.toInt = n) (h : -2147483648 ≤ n * a.toInt ∧ n * a.toInt ≤ 2147483647) : x.toInt = n * a.toInt := by
  have c : a.toInt * b.toInt = n * a.toInt := by rw [hb, Int.mul_comm]
  have := mulO e (by omega)
  omega
theorem mulC' {a b x : Int32} {n : Int} (e : x = b * a) (hb : b.toInt = n) (h : -2147483648 ≤ n * a.toInt ∧ n * a.toInt ≤ 2147483647) : x.toInt = n * a.toInt := by
  have c : b.toInt * a.toInt = n * a.toInt := by rw [hb]
  have := mulO e (by omega)
  omega
theorem mulP {a b x : Int32} {l1 h1 l2 h2 : Int} (e : x = a * b) (ba : l1 ≤ a.toInt ∧ a.toInt ≤ h1) (bb : l2 ≤ b.toInt ∧ b.toInt ≤ h2) (k0 : 0 ≤ l1) (k1 : 0 ≤ l2) (k2 : h1 * h2 ≤ 2147483647) : l1 * l2 ≤ x.toInt ∧ x.toInt ≤ h1 * h2 := by
  have p1 : l1 * l2 ≤ a.toInt * b.toInt := Int.mul_le_mul ba.1 bb.1 k1 (Int.le_trans k0 ba.1)
  have p2 : a.toInt * b.toInt ≤ h1 * h2 := Int.mul_le_mul ba.2 bb.2 (Int.le_trans k1 bb.1) (Int.le_trans (Int.le_trans k0 ba.1) ba.2)
  have p0 : 0 ≤ l1 * l2 := Int.mul_nonneg k0 k1
  have := mulO e (by omega)
  omega
theorem divO {a b x : Int32} (e : x = a / b) (h : 0 ≤ a.toInt ∧ 0 < b.toInt) : x.toInt = a.toInt / b.toInt := by
  rw [e, Int32.toInt_div_of_ne_right a b (fun q => by
    have f := peq32 q
    have z : (-1 : Int32).toInt = -1 := by decide
    omega), Int.tdiv_eq_ediv_of_nonneg (by omega)]
theorem divC {a b x : Int32} {n : Int} (e : x = a / b) (hb : b.toInt = n) (h : 0 ≤ a.toInt ∧ 0 < n) : x.toInt = a.toInt / n := by
  rw [← hb]; exact divO e (by omega)
theorem divP {a b x : Int32} (e : x = a / b) (h : 0 ≤ a.toInt ∧ 0 < b.toInt) : 0 ≤ x.toInt ∧ x.toInt ≤ a.toInt := by
  have t := divO e h
  have p0 : 0 ≤ a.toInt / b.toInt := Int.ediv_nonneg (by omega) (by omega)
  have p1 : a.toInt / b.toInt ≤ a.toInt := Int.ediv_le_self _ (by omega)
  omega
theorem remO {a b x : Int32} (e : x = a - a / b * b) (h : 0 ≤ a.toInt ∧ 0 < b.toInt) : x.toInt = a.toInt % b.toInt := by
  have t := divO (x := a / b) rfl h
  have := a.toInt_lt; have := b.toInt_lt
  have q0 : 0 ≤ a.toInt / b.toInt := Int.ediv_nonneg (by omega) (by omega)
  have p0 : 0 ≤ a.toInt % b.toInt := Int.emod_nonneg _ (by omega)
  have p1 : a.toInt % b.toInt < b.toInt := Int.emod_lt_of_pos _ (by omega)
  have d : b.toInt * (a.toInt / b.toInt) + a.toInt % b.toInt = a.toInt := Int.mul_ediv_add_emod _ _
  have m0 : 0 ≤ b.toInt * (a.toInt / b.toInt) := Int.mul_nonneg (by omega) q0
  have c : a.toInt / b.toInt * b.toInt = b.toInt * (a.toInt / b.toInt) := Int.mul_comm _ _
  have m1 : (a / b * b).toInt = b.toInt * (a.toInt / b.toInt) := by
    rw [Int32.toInt_mul, t, c]; exact Int.bmod_eq_of_le (by omega) (by omega)
  rw [e, Int32.toInt_sub, m1, Int.bmod_eq_of_le (by omega) (by omega)]
  omega
theorem remC {a b x : Int32} {n : Int} (e : x = a - a / b * b) (hb : b.toInt = n) (h : 0 ≤ a.toInt ∧ 0 < n) : x.toInt = a.toInt % n := by
  rw [← hb]; exact remO e (by omega)
theorem remP {a b x : Int32} (e : x = a - a / b * b) (h : 0 ≤ a.toInt ∧ 0 < b.toInt) : 0 ≤ x.toInt ∧ x.toInt < b.toInt := by
  have t := remO e h
  have p0 : 0 ≤ a.toInt % b.toInt := Int.emod_nonneg _ (by omega)
  have p1 : a.toInt % b.toInt < b.toInt := Int.emod_lt_of_pos _ (by omega)
  omega
theorem tdivN {a n : Int} (h : -n < a ∧ a < 0) : a.tdiv n = 0 := by
  have : a = -(-a) := by omega
  rw [this, Int.neg_tdiv, Int.tdiv_eq_zero_of_lt (by omega) (by omega)]; rfl
theorem divN {a b x : Int32} {n : Int} (e : x = a / b) (hb : b.toInt = n) (h : -n < a.toInt ∧ 0 < n) : (0 ≤ a.toInt ∧ x.toInt = a.toInt / n) ∨ (a.toInt < 0 ∧ x.toInt = 0) := by
  by_cases h0 : 0 ≤ a.toInt
  · exact Or.inl ⟨h0, divC e hb ⟨h0, h.2⟩⟩
  · refine Or.inr ⟨by omega, ?_⟩
    rw [e, Int32.toInt_div_of_ne_right a b (fun q => by
      have f := peq32 q
      have z : (-1 : Int32).toInt = -1 := by decide
      omega), hb]
    exact tdivN (by omega)
theorem remN {a b x : Int32} {n : Int} (e : x = a - a / b * b) (hb : b.toInt = n) (h : -n < a.toInt ∧ 0 < n) : (0 ≤ a.toInt ∧ x.toInt = a.toInt % n) ∨ (a.toInt < 0 ∧ x.toInt = a.toInt) := by
  by_cases h0 : 0 ≤ a.toInt
  · exact Or.inl ⟨h0, remC e hb ⟨h0, h.2⟩⟩
  · refine Or.inr ⟨by omega, ?_⟩
    have d := divN (x := a / b) rfl hb h
    have d0 : a / b = 0 := Int32.toInt_inj.mp (by
      have z : (0 : Int32).toInt = 0 := by decide
      omega)
    rw [e, d0]
    simp
theorem andM {a b x : Int32} (k : Nat) (e : x = a &&& b) (hm : b.toBitVec.toNat = 2 ^ k - 1) (hk : k ≤ 30) : 0 ≤ x.toInt ∧ x.toInt ≤ ((2 ^ k - 1 : Nat) : Int) := by
  obtain ⟨j, hj, q⟩ := pk_andE a k hm
  have h2 : 2 ^ k ≤ 2 ^ 30 := Nat.pow_le_pow_right (by decide) hk
  rw [e, q, nI_toInt (by omega)]
  omega
theorem shl9 {x y : Int32} (e : x = 1 <<< (y &&& 31)) (b : 0 ≤ y.toInt ∧ y.toInt ≤ 9) : 1 ≤ x.toInt ∧ x.toInt ≤ 512 := by
  have h0 : ¬ y < 0 := fun q => by
    have f := plt32 q
    have z : (0 : Int32).toInt = 0 := by decide
    omega
  obtain ⟨j, hj, ej⟩ := nI_of h0
  have h9 : j ≤ 9 := by
    have := b.2
    rw [ej, nI_toInt hj] at this
    omega
  rw [e, ej]
  match j, h9 with
  | 0, _ => decide
  | 1, _ => decide
  | 2, _ => decide
  | 3, _ => decide
  | 4, _ => decide
  | 5, _ => decide
  | 6, _ => decide
  | 7, _ => decide
  | 8, _ => decide
  | 9, _ => decide
  | n + 10, h => exact absurd h (by omega)
theorem minO {a b x : Int32} (e : x = if b < a then b else a) : (x.toInt = a.toInt ∧ a.toInt ≤ b.toInt) ∨ (x.toInt = b.toInt ∧ b.toInt < a.toInt) := by
  by_cases h : b < a
  · rw [if_pos h] at e; have := plt32 h; rw [e]; omega
  · rw [if_neg h] at e; have := nlt32 h; rw [e]; omega
theorem maxO {a b x : Int32} (e : x = if a < b then b else a) : (x.toInt = a.toInt ∧ b.toInt ≤ a.toInt) ∨ (x.toInt = b.toInt ∧ a.toInt < b.toInt) := by
  by_cases h : a < b
  · rw [if_pos h] at e; have := plt32 h; rw [e]; omega
  · rw [if_neg h] at e; have := nlt32 h; rw [e]; omega
theorem ne0 {x : Int32} (h : ¬ x.toInt = 0) : ¬ x = 0 := fun q => h (by rw [q]; decide)
theorem vpo {x : Int32} {n : Nat} (h : 0 ≤ x.toInt ∧ x.toInt < n) : vp_in x n := vp_in_iff.mpr h
theorem nrZ {x : Int32} (b : 0 ≤ x.toInt ∧ x.toInt ≤ 1) : narrow .boolean (.int x) = .int x := by
  have h : x = 0 ∨ x = 1 := by
    by_cases h0 : x = 0
    · exact Or.inl h0
    · have f0 := ne_ti h0 (n := 0) (by decide)
      have f1 : (1 : Int32).toInt = 1 := by decide
      exact Or.inr (Int32.toInt_inj.mp (by omega))
  rcases h with rfl | rfl <;> rfl
theorem t64 {a : Int32} : a.toInt64.toInt = a.toInt := Int32.toInt_toInt64 a
def ph (a t : Int32) : Int := if t.toInt = 3 then a.toInt - 1 else a.toInt
theorem ph3 {a t : Int32} (h : t.toInt = 3) : ph a t = a.toInt - 1 := by
  unfold ph
  rw [if_pos h]
theorem ph_le {a t : Int32} : a.toInt - 1 ≤ ph a t ∧ ph a t ≤ a.toInt := by
  unfold ph
  split <;> omega
theorem rg32 (x : Int32) : -2147483648 ≤ x.toInt ∧ x.toInt ≤ 2147483647 := ⟨x.le_toInt, Int.le_of_lt_add_one x.toInt_lt⟩
theorem rg64 (x : Int64) : -9223372036854775808 ≤ x.toInt ∧ x.toInt ≤ 9223372036854775807 := ⟨x.le_toInt, Int.le_of_lt_add_one x.toInt_lt⟩
theorem addL {a b x : Int64} (e : x = a + b) (h : -9223372036854775808 ≤ a.toInt + b.toInt ∧ a.toInt + b.toInt ≤ 9223372036854775807) : x.toInt = a.toInt + b.toInt := by
  rw [e, Int64.toInt_add]; exact Int.bmod_eq_of_le (by omega) (by omega)
theorem subL {a b x : Int64} (e : x = a - b) (h : -9223372036854775808 ≤ a.toInt - b.toInt ∧ a.toInt - b.toInt ≤ 9223372036854775807) : x.toInt = a.toInt - b.toInt := by
  rw [e, Int64.toInt_sub]; exact Int.bmod_eq_of_le (by omega) (by omega)
theorem l2iO {a : Int64} {x : Int32} (e : x = a.toInt32) (h : -2147483648 ≤ a.toInt ∧ a.toInt ≤ 2147483647) : x.toInt = a.toInt := by
  rw [e, Int64.toInt_toInt32]; exact Int.bmod_eq_of_le (by omega) (by omega)

abbrev pr9 (D : va_G) (cy : Nat → ClassId) (g : Nat → Nat) (σ : ST) (sz : Nat) : State → Prop := fun U => U.heap.size = sz ∧ va_P D clz (WD9 cy g σ) U.heap ∧ va_K D clz (tyl cy) U ∧ va_D (fun _ => True) (WD9 cy g σ) ∧ cst (A9 cy g sz) U U.heap
theorem bl9 {As : List Value} {D : va_G} {cy : Nat → ClassId} {g : Nat → Nat} {σ : ST} {sz : Nat} : FrameBlind (va_Pc As (pr9 D cy g σ sz)) := fun a U g' mk q => by
  obtain ⟨q0, q1, qP, qK, qD, qC⟩ := q
  exact ⟨q0, q1, qP, va_K.moved (u := U) (U := U.calling g' mk a) (Vm.Alike.refl U.vm) qK, qD, cst.moved (u := U) (U := U.calling g' mk a) (Vm.Alike.refl U.vm) qC⟩
theorem ps9 {s : State} {H : Heap} {locs : List Loc} {As : List Value} {D : va_G} {cy : Nat → ClassId} {g : Nat → Nat} {σ : ST} (hP : va_P D clz (WD9 cy g σ) H) (hK : va_K D clz (tyl cy) s) (hD : ∀ τ : ST, va_D (A9 cy g s.heap.size) (WD9 cy g τ)) (hC : cst (A9 cy g s.heap.size) s s.heap) (hS : va_S (A9 cy g s.heap.size) s.heap H locs) : PreS s H (va_Pc As (pr9 D cy g σ H.size)) As :=
  ⟨bl9, fun U hU hW => ⟨rfl, by rw [hU], by rw [hU]; exact hP, va_K.moved hW.alike hK, (hD σ).weaken (fun _ _ _ _ => trivial), by rw [hU]; exact ((hC.kept hS.2.1).moved hW.alike).narrow (fun q h => A9_mono hS.1 h)⟩⟩
theorem pv9 {s : State} {H : Heap} {locs : List Loc} {C : String} {b : Nat} {As : List Value} {D : va_G} {cy : Nat → ClassId} {g : Nat → Nat} {σ : ST} (hP : va_P D clz (WD9 cy g σ) H) (hK : va_K D clz (tyl cy) s) (hD : ∀ τ : ST, va_D (A9 cy g s.heap.size) (WD9 cy g τ)) (hC : cst (A9 cy g s.heap.size) s s.heap) (hS : va_S (A9 cy g s.heap.size) s.heap H locs) (hc : ∃ cell : Cell, H[b]? = some cell ∧ cell.vm.isStatics = false ∧ s.vm.findClass C = some cell.cls) : PreV s H C b (va_Pc (.ref b :: As) (pr9 D cy g σ H.size)) As :=
  ⟨bl9, hc, fun U hU hW => ⟨rfl, by rw [hU], by rw [hU]; exact hP, va_K.moved hW.alike hK, (hD σ).weaken (fun _ _ _ _ => trivial), by rw [hU]; exact ((hC.kept hS.2.1).moved hW.alike).narrow (fun q h => A9_mono hS.1 h)⟩⟩
theorem up9 {s : State} {H : Heap} {locs : List Loc} {cy : Nat → ClassId} {g : Nat → Nat} (hS : va_S (A9 cy g s.heap.size) s.heap H locs) : ∀ q : Nat, A9 cy g H.size q → A9 cy g s.heap.size q := fun _ h => A9_mono hS.1 h
abbrev qi9 (D : va_G) (cy : Nat → ClassId) (g : Nat → Nat) (sz : Nat) (post : Int32 → ST → Prop) : Array Value → State → Outcome → State → Prop := va_Qi post (fun (u : ST) t => va_P D clz (WD9 cy g u) t.heap) (A9 cy g sz)
abbrev ql9 (D : va_G) (cy : Nat → ClassId) (g : Nat → Nat) (sz : Nat) (post : Int64 → ST → Prop) : Array Value → State → Outcome → State → Prop := va_Ql post (fun (u : ST) t => va_P D clz (WD9 cy g u) t.heap) (A9 cy g sz)
abbrev qv9 (D : va_G) (cy : Nat → ClassId) (g : Nat → Nat) (sz : Nat) (post : ST → Prop) : Array Value → State → Outcome → State → Prop := va_Qv post (fun (u : ST) t => va_P D clz (WD9 cy g u) t.heap) (A9 cy g sz)
section Loops9
variable {p : Program} {l : Launch} {e : Env} {R : Room} {s : State} {m : MethodId} {args : Array Value} {below : List Frame} {meth : Method} {c : Code} {cells slots : Nat} {Q : State → Prop} {D : va_G} {A : Nat → Prop} {H0 : Heap} {cy : Nat → ClassId} {g : Nat → Nat}
theorem cut9 {g0 : JFrame} {Hg : Heap} {locsg : List Loc} (nL pc : Nat) (lv : LZ → List (Nat × Value)) (stk : LZ → List Value) (I : LZ → Prop)
    (hJ : ∀ x : LZ, I x → ∀ (H : Heap) (locs : List Loc) (ls : Array Slot), va_P D clz (WD9 cy g x.1) H → va_S A H0 H locs → lv_has ls nL (lv x) → W p l e R s m args below meth c H locs cells slots Q (F0 m pc ls (stk x)))
    (k : (∀ x : LZ, I x → ∀ (H : Heap) (locs : List Loc) (ls : Array Slot), va_P D clz (WD9 cy g x.1) H → va_S A H0 H locs → lv_has ls nL (lv x) → W p l e R s m args below meth c H locs cells slots Q (F0 m pc ls (stk x))) → W p l e R s m args below meth c Hg locsg cells slots Q g0) : W p l e R s m args below meth c Hg locsg cells slots Q g0 := k hJ
theorem loop9 (nL pc : Nat) (lv : LZ → List (Nat × Value)) (I : LZ → Prop) (μ : LZ → Nat)
    (hstep : ∀ x : LZ, I x → (∀ y : LZ, I y → μ y < μ x → ∀ (H : Heap) (locs : List Loc) (ls : Array Slot), va_P D clz (WD9 cy g y.1) H → va_S A H0 H locs → lv_has ls nL (lv y) → W p l e R s m args below meth c H locs cells slots Q (F0 m pc ls [])) → ∀ (H : Heap) (locs : List Loc) (ls : Array Slot), va_P D clz (WD9 cy g x.1) H → va_S A H0 H locs → lv_has ls nL (lv x) → W p l e R s m args below meth c H locs cells slots Q (F0 m pc ls [])) :
    ∀ x : LZ, I x → ∀ (H : Heap) (locs : List Loc) (ls : Array Slot), va_P D clz (WD9 cy g x.1) H → va_S A H0 H locs → lv_has ls nL (lv x) → W p l e R s m args below meth c H locs cells slots Q (F0 m pc ls []) := by
  have h : ∀ (n : Nat) (x : LZ), μ x < n → I x → ∀ (H : Heap) (locs : List Loc) (ls : Array Slot), va_P D clz (WD9 cy g x.1) H → va_S A H0 H locs → lv_has ls nL (lv x) → W p l e R s m args below meth c H locs cells slots Q (F0 m pc ls []) := by
    intro n
    induction n with
    | zero => intro x hx; exact absurd hx (Nat.not_lt_zero _)
    | succ n ih =>
      intro x hx hI
      exact hstep x hI (fun y hy hm => ih y (by omega) hy)
  intro x hI
  exact h (μ x + 1) x (Nat.lt_succ_self _) hI
end Loops9
def JI9 (k : Nat) (x : Int32) : Prop := match k with | 6 => (0 : Int) ≤ x.toInt ∧ x.toInt ≤ 2000 | 7 => (0 : Int) ≤ x.toInt ∧ x.toInt ≤ 2000 | 28 => (0 : Int) ≤ x.toInt ∧ x.toInt ≤ 3 | 29 => (0 : Int) ≤ x.toInt ∧ x.toInt ≤ 2 | 31 => (0 : Int) ≤ x.toInt ∧ x.toInt ≤ 16 | 51 => (0 : Int) ≤ x.toInt ∧ x.toInt ≤ 3 | 52 => (0 : Int) ≤ x.toInt ∧ x.toInt ≤ 2 | _ => True
def PA9 (k j : Nat) (x : Int32) : Prop := match k with | 2 => (0 : Int) ≤ x.toInt ∧ x.toInt ≤ 60 | 17 => (0 : Int) ≤ x.toInt ∧ x.toInt ≤ 60 ∧ (j % 5 = 1 → x.toInt ≤ 12) ∧ (j % 5 = 2 → x.toInt ≤ 4) ∧ (j % 5 = 3 → x.toInt ≤ 9) ∧ (j % 5 = 4 → x.toInt ≤ 3) | 18 => (0 : Int) ≤ x.toInt ∧ x.toInt ≤ 999 | 19 => (0 : Int) ≤ x.toInt ∧ x.toInt ≤ 999 ∧ (j % 4 = 0 → x.toInt ≤ 3) ∧ (j % 4 = 2 → x.toInt ≤ 30) | 20 => (0 : Int) ≤ x.toInt ∧ x.toInt ≤ 16 | 21 => (-1 : Int) ≤ x.toInt ∧ x.toInt ≤ 60 ∧ (j % 4 = 1 → 0 ≤ x.toInt) | 24 => (0 : Int) ≤ x.toInt ∧ x.toInt ≤ 88 | 26 => (0 : Int) ≤ x.toInt ∧ x.toInt ≤ 7 | 32 => (0 : Int) ≤ x.toInt ∧ x.toInt ≤ 15 | 38 => (0 : Int) ≤ x.toInt ∧ x.toInt ≤ 87 | 43 => (0 : Int) ≤ x.toInt ∧ x.toInt ≤ 88 | 45 => (0 : Int) ≤ x.toInt ∧ x.toInt ≤ 7 | 48 => (-1 : Int) ≤ x.toInt ∧ x.toInt ≤ 2 | 53 => (0 : Int) ≤ x.toInt ∧ x.toInt ≤ 8 | 54 => (0 : Int) ≤ x.toInt ∧ x.toInt ≤ 30 | 57 => (0 : Int) ≤ x.toInt ∧ x.toInt ≤ 8 | 56 => (0 : Int) ≤ x.toInt ∧ x.toInt ≤ 8 | _ => True
def J9 (w : SG) : Prop := (∀ k : Nat, JI9 k (w.1 k)) ∧ ∀ k j : Nat, PA9 k j (w.2.2.1 k j)
theorem J9.I {σ τ : ST} {o k : Nat} {v : Int32} (h : J9 (σ o)) (e : τ = sI σ o k v) (hv : JI9 k v) : J9 (τ o) := by
  rw [e]
  simp only [sI, if_true]
  refine ⟨fun j => ?_, h.2⟩
  by_cases q : j = k
  · subst q; simp only [va_up, if_true]; exact hv
  · simp only [va_up, q, if_false]; exact h.1 j
theorem J9.L {σ τ : ST} {o k : Nat} {v : Int64} (h : J9 (σ o)) (e : τ = sL σ o k v) : J9 (τ o) := by
  rw [e]
  simp only [sL, if_true]
  exact h
theorem J9.B {σ τ : ST} {o k : Nat} {v : Nat → Int64} (h : J9 (σ o)) (e : τ = sB σ o k v) : J9 (τ o) := by
  rw [e]
  simp only [sB, if_true]
  exact h
theorem J9.A {σ τ : ST} {o k i : Nat} {v : Int32} (h : J9 (σ o)) (e : τ = sA σ o k (upd ((σ o).2.2.1 k) i v)) (hv : PA9 k i v) : J9 (τ o) := by
  rw [e]
  simp only [sA, if_true]
  refine ⟨h.1, fun k' j => ?_⟩
  by_cases q : k' = k
  · subst q
    simp only [va_up, if_true]
    by_cases r : j = i
    · subst r; rw [pk_us]; exact hv
    · rw [pk_un r]; exact h.2 k' j
  · simp only [va_up, q, if_false]; exact h.2 k' j
theorem J9.M {σ τ : ST} {o k : Nat} {f : Nat → Int32} (h : J9 (σ o)) (e : τ = sA σ o k f) (hv : ∀ j : Nat, PA9 k j (f j)) : J9 (τ o) := by
  rw [e]
  simp only [sA, if_true]
  refine ⟨h.1, fun k' j => ?_⟩
  by_cases q : k' = k
  · subst q; simp only [va_up, if_true]; exact hv j
  · simp only [va_up, q, if_false]; exact h.2 k' j
theorem j9_6 {w : SG} (h : J9 w) {x : Int32} (e : w.1 6 = x) : (0 : Int) ≤ x.toInt ∧ x.toInt ≤ 2000 := by
  subst e
  exact h.1 6
theorem j9_7 {w : SG} (h : J9 w) {x : Int32} (e : w.1 7 = x) : (0 : Int) ≤ x.toInt ∧ x.toInt ≤ 2000 := by
  subst e
  exact h.1 7
theorem j9_28 {w : SG} (h : J9 w) {x : Int32} (e : w.1 28 = x) : (0 : Int) ≤ x.toInt ∧ x.toInt ≤ 3 := by
  subst e
  exact h.1 28
theorem j9_29 {w : SG} (h : J9 w) {x : Int32} (e : w.1 29 = x) : (0 : Int) ≤ x.toInt ∧ x.toInt ≤ 2 := by
  subst e
  exact h.1 29
theorem j9_31 {w : SG} (h : J9 w) {x : Int32} (e : w.1 31 = x) : (0 : Int) ≤ x.toInt ∧ x.toInt ≤ 16 := by
  subst e
  exact h.1 31
theorem j9_51 {w : SG} (h : J9 w) {x : Int32} (e : w.1 51 = x) : (0 : Int) ≤ x.toInt ∧ x.toInt ≤ 3 := by
  subst e
  exact h.1 51
theorem j9_52 {w : SG} (h : J9 w) {x : Int32} (e : w.1 52 = x) : (0 : Int) ≤ x.toInt ∧ x.toInt ≤ 2 := by
  subst e
  exact h.1 52
theorem a9_2 {w : SG} (h : J9 w) {j : Nat} {x : Int32} (e : w.2.2.1 2 j = x) : (0 : Int) ≤ x.toInt ∧ x.toInt ≤ 60 := by
  subst e
  exact h.2 2 j
theorem a9_17 {w : SG} (h : J9 w) {j : Nat} {x : Int32} (e : w.2.2.1 17 j = x) : (0 : Int) ≤ x.toInt ∧ x.toInt ≤ 60 ∧ (j % 5 = 1 → x.toInt ≤ 12) ∧ (j % 5 = 2 → x.toInt ≤ 4) ∧ (j % 5 = 3 → x.toInt ≤ 9) ∧ (j % 5 = 4 → x.toInt ≤ 3) := by
  subst e
  exact h.2 17 j
theorem a9_18 {w : SG} (h : J9 w) {j : Nat} {x : Int32} (e : w.2.2.1 18 j = x) : (0 : Int) ≤ x.toInt ∧ x.toInt ≤ 999 := by
  subst e
  exact h.2 18 j
theorem a9_19 {w : SG} (h : J9 w) {j : Nat} {x : Int32} (e : w.2.2.1 19 j = x) : (0 : Int) ≤ x.toInt ∧ x.toInt ≤ 999 ∧ (j % 4 = 0 → x.toInt ≤ 3) ∧ (j % 4 = 2 → x.toInt ≤ 30) := by
  subst e
  exact h.2 19 j
theorem a9_20 {w : SG} (h : J9 w) {j : Nat} {x : Int32} (e : w.2.2.1 20 j = x) : (0 : Int) ≤ x.toInt ∧ x.toInt ≤ 16 := by
  subst e
  exact h.2 20 j
theorem a9_21 {w : SG} (h : J9 w) {j : Nat} {x : Int32} (e : w.2.2.1 21 j = x) : (-1 : Int) ≤ x.toInt ∧ x.toInt ≤ 60 ∧ (j % 4 = 1 → 0 ≤ x.toInt) := by
  subst e
  exact h.2 21 j
theorem a9_24 {w : SG} (h : J9 w) {j : Nat} {x : Int32} (e : w.2.2.1 24 j = x) : (0 : Int) ≤ x.toInt ∧ x.toInt ≤ 88 := by
  subst e
  exact h.2 24 j
theorem a9_26 {w : SG} (h : J9 w) {j : Nat} {x : Int32} (e : w.2.2.1 26 j = x) : (0 : Int) ≤ x.toInt ∧ x.toInt ≤ 7 := by
  subst e
  exact h.2 26 j
theorem a9_32 {w : SG} (h : J9 w) {j : Nat} {x : Int32} (e : w.2.2.1 32 j = x) : (0 : Int) ≤ x.toInt ∧ x.toInt ≤ 15 := by
  subst e
  exact h.2 32 j
theorem a9_38 {w : SG} (h : J9 w) {j : Nat} {x : Int32} (e : w.2.2.1 38 j = x) : (0 : Int) ≤ x.toInt ∧ x.toInt ≤ 87 := by
  subst e
  exact h.2 38 j
theorem a9_43 {w : SG} (h : J9 w) {j : Nat} {x : Int32} (e : w.2.2.1 43 j = x) : (0 : Int) ≤ x.toInt ∧ x.toInt ≤ 88 := by
  subst e
  exact h.2 43 j
theorem a9_45 {w : SG} (h : J9 w) {j : Nat} {x : Int32} (e : w.2.2.1 45 j = x) : (0 : Int) ≤ x.toInt ∧ x.toInt ≤ 7 := by
  subst e
  exact h.2 45 j
theorem a9_48 {w : SG} (h : J9 w) {j : Nat} {x : Int32} (e : w.2.2.1 48 j = x) : (-1 : Int) ≤ x.toInt ∧ x.toInt ≤ 2 := by
  subst e
  exact h.2 48 j
theorem a9_53 {w : SG} (h : J9 w) {j : Nat} {x : Int32} (e : w.2.2.1 53 j = x) : (0 : Int) ≤ x.toInt ∧ x.toInt ≤ 8 := by
  subst e
  exact h.2 53 j
theorem a9_54 {w : SG} (h : J9 w) {j : Nat} {x : Int32} (e : w.2.2.1 54 j = x) : (0 : Int) ≤ x.toInt ∧ x.toInt ≤ 30 := by
  subst e
  exact h.2 54 j
theorem a9_57 {w : SG} (h : J9 w) {j : Nat} {x : Int32} (e : w.2.2.1 57 j = x) : (0 : Int) ≤ x.toInt ∧ x.toInt ≤ 8 := by
  subst e
  exact h.2 57 j
theorem a9_56 {w : SG} (h : J9 w) {j : Nat} {x : Int32} (e : w.2.2.1 56 j = x) : (0 : Int) ≤ x.toInt ∧ x.toInt ≤ 8 := by
  subst e
  exact h.2 56 j
