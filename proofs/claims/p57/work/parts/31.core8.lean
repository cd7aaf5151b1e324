
def sLen : List Nat := [4, 5, 7, 5, 4, 5, 6, 4, 4, 4, 4, 4, 6, 5, 4, 5, 3, 4, 3, 7, 6]
def sByt : List (List Int32) := [[100, 101, 115, 107], [99, 101, 110, 116, 115], [104, 105, 103, 104, 101, 115, 116], [98, 117, 103, 108, 101], [104, 111, 114, 110], [115, 108, 105, 100, 101], [112, 108, 97, 121, 101, 114], [112, 97, 114, 116], [116, 111, 110, 101], [114, 101, 115, 116], [98, 97, 115, 101], [108, 111, 110, 103], [118, 97, 108, 118, 101, 115], [100, 114, 97, 119, 115], [115, 116, 101, 112], [113, 117, 105, 99, 107], [97, 105, 114], [108, 105, 112, 115], [102, 111, 114], [115, 108, 117, 114, 114, 101, 100], [98, 114, 101, 97, 116, 104]]
def sIx : List Nat := [46, 56, 64, 70, 76, 78, 80, 85, 95, 103, 130, 136, 138, 140, 142, 153, 155, 157, 159, 161, 167]
def sTx : List String := ["desk", "cents", "highest", "bugle", "horn", "slide", "player", "part", "tone", "rest", "base", "long", "valves", "draws", "step", "quick", "air", "lips", "for", "slurred", "breath"]
def cst8 (g : Nat → Nat) (A : Nat → Prop) (U : State) (H : Heap) : Prop :=
  (∃ t : Nat, va_Z "LipsAndSlides$Tube" "PARTIAL_CENTS" "[I" (.ref t) A U H ∧ va_T .int t 11 (fun j => .int (([1200, 1902, 2400, 2786, 3102, 3369, 3600, 3804, 3986, 4151, 4302] : List Int32).getD j 0)) A U H) ∧
  vk_S 21 sLen sByt (gS g) (gV g) A U H ∧ (∀ i : Nat, i < 21 → vk_R RX4 (sIx.getD i 0) (sTx.getD i "") (gS g i) U) ∧
  va_Z "java/lang/String" "COMPACT_STRINGS" "Z" (.int 1) A U H ∧ va_Nw (.methodLinkNest RX3 94 yX8_isPitch RX8) U ∧ ∃ v : Value, va_Z "jdk/internal/util/Preconditions" "SIOOBE_FORMATTER" "Ljava/util/function/BiFunction;" v A U H ∧ (v = .null ∨ ∃ t : Nat, v = .ref t)
theorem cst8.warm {g : Nat → Nat} {A : Nat → Prop} {u U : State} {H : Heap} (hW : u.WarmedH U.vm) (h : cst8 g A u H) : cst8 g A U H := by
  obtain ⟨⟨t, a1, a2⟩, b1, b2, b3, bn, t', b4, b5⟩ := h
  exact ⟨⟨t, va_Z.moved hW.alike a1, va_T.moved hW.alike a2⟩, vk_S.moved hW.alike b1, fun i hi => vk_R.warm hW (b2 i hi), va_Z.moved hW.alike b3, va_Nw.warmM hW bn, t', va_Z.moved hW.alike b4, b5⟩
theorem cst8.same {g : Nat → Nat} {A : Nat → Prop} {u U : State} {H : Heap} (hv : U.vm = u.vm) (h : cst8 g A u H) : cst8 g A U H := by
  have ha : u.vm.Alike U.vm := by rw [hv]; exact Vm.Alike.refl _
  obtain ⟨⟨t, a1, a2⟩, b1, b2, b3, bn, t', b4, b5⟩ := h
  exact ⟨⟨t, va_Z.moved ha a1, va_T.moved ha a2⟩, vk_S.moved ha b1, fun i hi => vk_R.same hv (b2 i hi), va_Z.moved ha b3, va_Nw.same rfl hv.symm bn, t', va_Z.moved ha b4, b5⟩
theorem cst8.kept {g : Nat → Nat} {A : Nat → Prop} {U : State} {H H1 : Heap} (h : cst8 g A U H) (hq : ∀ a : Nat, a < H.size → ¬ A a → H1[a]? = H[a]?) : cst8 g A U H1 := by
  obtain ⟨⟨t, a1, a2⟩, b1, b2, b3, bn, t', b4, b5⟩ := h
  exact ⟨⟨t, a1.kept hq, a2.kept hq⟩, b1.kept hq, b2, b3.kept hq, bn, t', b4.kept hq, b5⟩
theorem cst8.narrow {g : Nat → Nat} {A B : Nat → Prop} {U : State} {H : Heap} (h : cst8 g A U H) (hAB : ∀ q, B q → A q) : cst8 g B U H := by
  obtain ⟨⟨t, a1, a2⟩, b1, b2, b3, bn, t', b4, b5⟩ := h
  exact ⟨⟨t, a1.narrow hAB, a2.narrow hAB⟩, b1.narrow hAB, b2, b3.narrow hAB, bn, t', b4.narrow hAB, b5⟩

abbrev pr8 (D : va_G) (cy : Nat → ClassId) (g : Nat → Nat) (σ : ST) (sz : Nat) : State → Prop := fun U => U.heap.size = sz ∧ va_P D clz (WD8 cy g σ) U.heap ∧ va_K D clz (tyl cy) U ∧ va_D (fun _ => True) (WD8 cy g σ) ∧ cst8 g (A8 cy g sz) U U.heap
theorem bl8 {As : List Value} {D : va_G} {cy : Nat → ClassId} {g : Nat → Nat} {σ : ST} {sz : Nat} : FrameBlind (va_Pc As (pr8 D cy g σ sz)) := fun a U g' mk q => by
  obtain ⟨q0, q1, qP, qK, qD, qC⟩ := q
  exact ⟨q0, q1, qP, va_K.moved (u := U) (U := U.calling g' mk a) (Vm.Alike.refl U.vm) qK, qD, cst8.same (u := U) (U := U.calling g' mk a) rfl qC⟩
theorem ps8 {s : State} {H : Heap} {locs : List Loc} {As : List Value} {D : va_G} {cy : Nat → ClassId} {g : Nat → Nat} {σ : ST} (hP : va_P D clz (WD8 cy g σ) H) (hK : va_K D clz (tyl cy) s) (hD : ∀ τ : ST, va_D (A8 cy g s.heap.size) (WD8 cy g τ)) (hC : cst8 g (A8 cy g s.heap.size) s s.heap) (hS : va_S (A8 cy g s.heap.size) s.heap H locs) : PreS s H (va_Pc As (pr8 D cy g σ H.size)) As :=
  ⟨bl8, fun U hU hW => ⟨rfl, by rw [hU], by rw [hU]; exact hP, va_K.moved hW.alike hK, (hD σ).weaken (fun _ _ _ _ => trivial), by rw [hU]; exact ((hC.kept hS.2.1).warm hW).narrow (fun q h => A8_mono hS.1 h)⟩⟩
theorem pv8 {s : State} {H : Heap} {locs : List Loc} {C : String} {b : Nat} {As : List Value} {D : va_G} {cy : Nat → ClassId} {g : Nat → Nat} {σ : ST} (hP : va_P D clz (WD8 cy g σ) H) (hK : va_K D clz (tyl cy) s) (hD : ∀ τ : ST, va_D (A8 cy g s.heap.size) (WD8 cy g τ)) (hC : cst8 g (A8 cy g s.heap.size) s s.heap) (hS : va_S (A8 cy g s.heap.size) s.heap H locs) (hc : ∃ cell : Cell, H[b]? = some cell ∧ cell.vm.isStatics = false ∧ s.vm.findClass C = some cell.cls) : PreV s H C b (va_Pc (.ref b :: As) (pr8 D cy g σ H.size)) As :=
  ⟨bl8, hc, fun U hU hW => ⟨rfl, by rw [hU], by rw [hU]; exact hP, va_K.moved hW.alike hK, (hD σ).weaken (fun _ _ _ _ => trivial), by rw [hU]; exact ((hC.kept hS.2.1).warm hW).narrow (fun q h => A8_mono hS.1 h)⟩⟩
theorem up8 {s : State} {H : Heap} {locs : List Loc} {cy : Nat → ClassId} {g : Nat → Nat} (hS : va_S (A8 cy g s.heap.size) s.heap H locs) : ∀ q : Nat, A8 cy g H.size q → A8 cy g s.heap.size q := fun _ h => A8_mono hS.1 h
abbrev qi8 (D : va_G) (cy : Nat → ClassId) (g : Nat → Nat) (sz : Nat) (post : Int32 → ST → Prop) : Array Value → State → Outcome → State → Prop := va_Qi post (fun (u : ST) t => va_P D clz (WD8 cy g u) t.heap) (A8 cy g sz)
abbrev ql8 (D : va_G) (cy : Nat → ClassId) (g : Nat → Nat) (sz : Nat) (post : Int64 → ST → Prop) : Array Value → State → Outcome → State → Prop := va_Ql post (fun (u : ST) t => va_P D clz (WD8 cy g u) t.heap) (A8 cy g sz)
abbrev qv8 (D : va_G) (cy : Nat → ClassId) (g : Nat → Nat) (sz : Nat) (post : ST → Prop) : Array Value → State → Outcome → State → Prop := va_Qv post (fun (u : ST) t => va_P D clz (WD8 cy g u) t.heap) (A8 cy g sz)
section Loops8
variable {p : Program} {l : Launch} {e : Env} {R : Room} {s : State} {m : MethodId} {args : Array Value} {below : List Frame} {meth : Method} {c : Code} {cells slots : Nat} {Q : State → Prop} {D : va_G} {A : Nat → Prop} {H0 : Heap} {cy : Nat → ClassId} {g : Nat → Nat}
theorem cut8 {g0 : JFrame} {Hg : Heap} {locsg : List Loc} (nL pc : Nat) (lv : LZ → List (Nat × Value)) (stk : LZ → List Value) (I : LZ → Prop)
    (hJ : ∀ x : LZ, I x → ∀ (H : Heap) (locs : List Loc) (ls : Array Slot), va_P D clz (WD8 cy g x.1) H → va_S A H0 H locs → lv_has ls nL (lv x) → W p l e R s m args below meth c H locs cells slots Q (F0 m pc ls (stk x)))
    (k : (∀ x : LZ, I x → ∀ (H : Heap) (locs : List Loc) (ls : Array Slot), va_P D clz (WD8 cy g x.1) H → va_S A H0 H locs → lv_has ls nL (lv x) → W p l e R s m args below meth c H locs cells slots Q (F0 m pc ls (stk x))) → W p l e R s m args below meth c Hg locsg cells slots Q g0) : W p l e R s m args below meth c Hg locsg cells slots Q g0 := k hJ
theorem loop8 (nL pc : Nat) (lv : LZ → List (Nat × Value)) (I : LZ → Prop) (μ : LZ → Nat)
    (hstep : ∀ x : LZ, I x → (∀ y : LZ, I y → μ y < μ x → ∀ (H : Heap) (locs : List Loc) (ls : Array Slot), va_P D clz (WD8 cy g y.1) H → va_S A H0 H locs → lv_has ls nL (lv y) → W p l e R s m args below meth c H locs cells slots Q (F0 m pc ls [])) → ∀ (H : Heap) (locs : List Loc) (ls : Array Slot), va_P D clz (WD8 cy g x.1) H → va_S A H0 H locs → lv_has ls nL (lv x) → W p l e R s m args below meth c H locs cells slots Q (F0 m pc ls [])) :
    ∀ x : LZ, I x → ∀ (H : Heap) (locs : List Loc) (ls : Array Slot), va_P D clz (WD8 cy g x.1) H → va_S A H0 H locs → lv_has ls nL (lv x) → W p l e R s m args below meth c H locs cells slots Q (F0 m pc ls []) := by
  have h : ∀ (n : Nat) (x : LZ), μ x < n → I x → ∀ (H : Heap) (locs : List Loc) (ls : Array Slot), va_P D clz (WD8 cy g x.1) H → va_S A H0 H locs → lv_has ls nL (lv x) → W p l e R s m args below meth c H locs cells slots Q (F0 m pc ls []) := by
    intro n
    induction n with
    | zero => intro x hx; exact absurd hx (Nat.not_lt_zero _)
    | succ n ih =>
      intro x hx hI
      exact hstep x hI (fun y hy hm => ih y (by omega) hy)
  intro x hI
  exact h (μ x + 1) x (Nat.lt_succ_self _) hI
end Loops8

def fO (L : List Nat) : Nat → Nat → Bool := fun o _ => decide (o ∈ L)
theorem fO_n {L : List Nat} {o k : Nat} (h : o ∉ L) : fO L o k = false := by simp [fO, h]
theorem fO_sub {L L' : List Nat} (h : ∀ x : Nat, x ∈ L → x ∈ L') : ∀ o k : Nat, fO L o k = true → fO L' o k = true := fun o k q => by
  simp only [fO, decide_eq_true_eq] at q ⊢
  exact h o q
theorem fN_O {L : List Nat} {a b : Nat} (h : a ∈ L) : ∀ o k : Nat, fN a b o k = true → fO L o k = true := fun o k q => by
  simp only [fN, Bool.and_eq_true, beq_iff_eq] at q
  simp only [fO, decide_eq_true_eq]
  rw [q.1]; exact h
theorem fN_k {a b o k : Nat} (h : (k == b) = false) : fN a b o k = false := by simp only [fN, h, Bool.and_false]
theorem fN_o {a b o k : Nat} (h : o ≠ a) : fN a b o k = false := by simp [fN, h]
theorem nm0 {o : Nat} : o ∉ ([] : List Nat) := by simp
theorem nmc {o a : Nat} {l : List Nat} (h : o ≠ a) (h2 : o ∉ l) : o ∉ a :: l := by simp [h, h2]
theorem nel {d lo hi c : Nat} (hd : lo ≤ d ∧ d < hi) (h : ¬ (lo ≤ c ∧ c < hi)) : d ≠ c := fun q => h (q ▸ hd)
theorem ner {d lo hi c : Nat} (hd : lo ≤ d ∧ d < hi) (h : ¬ (lo ≤ c ∧ c < hi)) : c ≠ d := fun q => h (q ▸ hd)
theorem ne2 {d lo hi t lo' hi' : Nat} (hd : lo ≤ d ∧ d < hi) (ht : lo' ≤ t ∧ t < hi') (h : hi ≤ lo' ∨ hi' ≤ lo) : d ≠ t := by omega
theorem mne {a b : Nat} {l : List Nat} (h : a ∈ l) : a ∈ b :: l := List.mem_cons_of_mem _ h
theorem mem0 {a : Nat} {l : List Nat} : a ∈ a :: l := List.mem_cons_self
theorem mnow {x : Int32} {d : Nat} (h : (0 : Int) ≤ x.toInt ∧ x.toInt ≤ 1) (e : x.toInt.toNat = d) : 0 ≤ d ∧ d < 5 := by omega
theorem mrow {x : Int32} {d f n hi : Nat} (h : (0 : Int) ≤ x.toInt ∧ x.toInt < n) (e : f + x.toInt.toNat = d) (hh : f + n = hi) : f ≤ d ∧ d < hi := by omega
theorem absO {a x : Int32} (e : x = if 0 ≤ a then a else 0 - a) (h : -2147483648 < a.toInt) : (0 ≤ a.toInt ∧ x.toInt = a.toInt) ∨ (a.toInt < 0 ∧ x.toInt = -a.toInt) := by
  have z : (0 : Int32).toInt = 0 := by decide
  by_cases h0 : 0 ≤ a
  · rw [if_pos h0] at e; have := ple32 h0; rw [e]; omega
  · rw [if_neg h0] at e
    have := nle32 h0
    refine Or.inr ⟨by omega, ?_⟩
    rw [e, Int32.toInt_sub, z, Int.bmod_eq_of_le (by omega) (by omega)]
    omega
theorem mulUp {a b x : Int32} {n hi : Int} (e : x = a * b) : -2147483648 ≤ x.toInt ∧ x.toInt ≤ 2147483647 := rg32 x
def sLn (i : Nat) : Int32 := Int32.ofNat (sLen.getD i 0)
theorem sLn_b0 : ∀ i : Nat, i < 21 → ((1 : Int) ≤ (sLn i).toInt ∧ (sLn i).toInt ≤ 7) := by decide +kernel
theorem sLn_b {i : Nat} (h : i < 21) : (1 : Int) ≤ (sLn i).toInt ∧ (sLn i).toInt ≤ 7 := sLn_b0 i h
theorem sLn_e0 : ∀ i : Nat, i < 21 → (sLn i).toInt = ((sLen.getD i 0 : Nat) : Int) := by decide +kernel
theorem sIn {i : Nat} {x : Int32} (hi : i < 21) (h : (0 : Int) ≤ x.toInt ∧ x.toInt < (sLn i).toInt) : vp_in x (sLen.getD i 0) := vpo (by rw [sLn_e0 i hi] at h; exact h)
theorem sh0 {i : Nat} {y : Int32} (h : y = 0) (hi : i < 21) : (sLn i >>> (y &&& 31)).toInt = (sLn i).toInt := by
  subst h
  have q : ∀ i : Nat, i < 21 → (sLn i >>> ((0 : Int32) &&& 31)).toInt = (sLn i).toInt := by decide +kernel
  exact q i hi
theorem ncp {x : Int32} (h : (0 : Int) ≤ x.toInt) : ¬ x < 0 := fun q => by
  have f := plt32 q
  have z : (0 : Int32).toInt = 0 := by decide
  omega
theorem ncs {x n : Int32} {N : Nat} (h : (0 : Int) ≤ x.toInt ∧ (0 : Int) ≤ n.toInt ∧ x.toInt + n.toInt ≤ (N : Int)) : x.toNatClampNeg + n.toNatClampNeg ≤ N := by
  have a : x.toNatClampNeg = x.toInt.toNat := rfl
  have b : n.toNatClampNeg = n.toInt.toNat := rfl
  omega
theorem cpyz {f : Nat → Int32} : va_cpy f f 0 0 0 = f := by
  funext j
  simp [va_cpy]
def clO (o : Nat) : Nat := if o < 5 then 0 else if o < 9 then 5 else if o < 12 then 7 else match o with | 12 => 4 | 13 => 3 | 14 => 2 | 15 => 1 | 16 => 6 | 17 => 8 | _ => 99
def JI8 (c k : Nat) (x : Int32) : Prop := match c, k with | 0, 1 => (-2147483648 : Int) ≤ x.toInt ∧ x.toInt ≤ 1000000 | 0, 3 => (0 : Int) ≤ x.toInt ∧ x.toInt ≤ 4 | 0, 4 => (0 : Int) ≤ x.toInt ∧ x.toInt ≤ 9 | 0, 5 => (0 : Int) ≤ x.toInt ∧ x.toInt ≤ 3 | 4, 1 => (0 : Int) ≤ x.toInt ∧ x.toInt ≤ 2000 | 4, 2 => (0 : Int) ≤ x.toInt ∧ x.toInt ≤ 3 | 4, 6 => (0 : Int) ≤ x.toInt ∧ x.toInt ≤ 5 | 4, 7 => (-2147483648 : Int) ≤ x.toInt ∧ x.toInt ≤ 1000000 | 5, 0 => (0 : Int) ≤ x.toInt ∧ x.toInt ≤ 1 | 5, 2 => (0 : Int) ≤ x.toInt ∧ x.toInt ≤ 60 | 7, 0 => (0 : Int) ≤ x.toInt ∧ x.toInt ≤ 8 | 7, 1 => (-2147483648 : Int) ≤ x.toInt ∧ x.toInt ≤ 1000000 | 7, 5 => (-2147483648 : Int) ≤ x.toInt ∧ x.toInt ≤ 1000000 | 3, 0 => (0 : Int) ≤ x.toInt ∧ x.toInt ≤ 16 | 1, 0 => (0 : Int) ≤ x.toInt ∧ x.toInt ≤ 3 | 1, 1 => (0 : Int) ≤ x.toInt ∧ x.toInt ≤ 16 | 8, 1 => (0 : Int) ≤ x.toInt ∧ x.toInt ≤ 1 | 8, 2 => (0 : Int) ≤ x.toInt ∧ x.toInt ≤ 1 | _, _ => True
def PA8 (c k : Nat) (x : Int32) : Prop := match c, k with | 0, 6 => (-2147483648 : Int) ≤ x.toInt ∧ x.toInt ≤ 1000000 | 0, 9 => (0 : Int) ≤ x.toInt ∧ x.toInt ≤ 16 | 3, 12 => (0 : Int) ≤ x.toInt ∧ x.toInt ≤ 1408 | 3, 13 => (0 : Int) ≤ x.toInt ∧ x.toInt ≤ 1407 | 3, 15 => (0 : Int) ≤ x.toInt ∧ x.toInt ≤ 7 | 3, 8 => (0 : Int) ≤ x.toInt ∧ x.toInt ≤ 15 | 6, 1 => (0 : Int) ≤ x.toInt ∧ x.toInt ≤ 8 | _, _ => True
def J8 (σ : ST) : Prop := ∀ o : Nat, (∀ k : Nat, JI8 (clO o) k ((σ o).1 k)) ∧ ∀ k j : Nat, PA8 (clO o) k ((σ o).2.2.1 k j)
theorem clO_0 {d : Nat} (hd : 0 ≤ d ∧ d < 5) : clO d = 0 := by
  rcases (by omega : d = 0 ∨ d = 1 ∨ d = 2 ∨ d = 3 ∨ d = 4) with rfl | rfl | rfl | rfl | rfl <;> rfl
theorem clO_5 {d : Nat} (hd : 5 ≤ d ∧ d < 9) : clO d = 5 := by
  rcases (by omega : d = 5 ∨ d = 6 ∨ d = 7 ∨ d = 8) with rfl | rfl | rfl | rfl <;> rfl
theorem clO_7 {d : Nat} (hd : 9 ≤ d ∧ d < 12) : clO d = 7 := by
  rcases (by omega : d = 9 ∨ d = 10 ∨ d = 11) with rfl | rfl | rfl <;> rfl
theorem clO_4 : clO 12 = 4 := rfl
theorem clO_3 : clO 13 = 3 := rfl
theorem clO_2 : clO 14 = 2 := rfl
theorem clO_1 : clO 15 = 1 := rfl
theorem clO_6 : clO 16 = 6 := rfl
theorem clO_8 : clO 17 = 8 := rfl
theorem J8.I {σ τ : ST} {o k c : Nat} {v : Int32} (h : J8 σ) (e : τ = sI σ o k v) (hc : clO o = c) (hv : JI8 c k v) : J8 τ := by
  intro q
  rw [e]
  by_cases hq : q = o
  · subst hq
    simp only [sI, if_true]
    refine ⟨fun j => ?_, (h q).2⟩
    by_cases r : j = k
    · subst r; simp only [va_up, if_true]; rw [hc]; exact hv
    · simp only [va_up, r, if_false]; exact (h q).1 j
  · simp only [sI, hq, if_false]; exact h q
theorem J8.L {σ τ : ST} {o k : Nat} {v : Int64} (h : J8 σ) (e : τ = sL σ o k v) : J8 τ := by
  intro q
  rw [e]
  by_cases hq : q = o
  · subst hq; simp only [sL, if_true]; exact h q
  · simp only [sL, hq, if_false]; exact h q
theorem J8.B {σ τ : ST} {o k : Nat} {v : Nat → Int64} (h : J8 σ) (e : τ = sB σ o k v) : J8 τ := by
  intro q
  rw [e]
  by_cases hq : q = o
  · subst hq; simp only [sB, if_true]; exact h q
  · simp only [sB, hq, if_false]; exact h q
theorem J8.M {σ τ : ST} {o k c : Nat} {f : Nat → Int32} (h : J8 σ) (e : τ = sA σ o k f) (hc : clO o = c) (hv : ∀ j : Nat, PA8 c k (f j)) : J8 τ := by
  intro q
  rw [e]
  by_cases hq : q = o
  · subst hq
    simp only [sA, if_true]
    refine ⟨(h q).1, fun k' j => ?_⟩
    by_cases r : k' = k
    · subst r; simp only [va_up, if_true]; rw [hc]; exact hv j
    · simp only [va_up, r, if_false]; exact (h q).2 k' j
  · simp only [sA, hq, if_false]; exact h q
theorem J8.A {σ τ : ST} {o k c i : Nat} {v : Int32} (h : J8 σ) (e : τ = sA σ o k (upd ((σ o).2.2.1 k) i v)) (hc : clO o = c) (hv : PA8 c k v) : J8 τ :=
  h.M e hc (fun j => by
    by_cases r : j = i
    · subst r; rw [pk_us]; exact hv
    · rw [pk_un r, ← hc]; exact (h o).2 k j)
theorem J8.C {σ τ : ST} {o o' k k' c a b n : Nat} (h : J8 σ) (e : τ = sA σ o k (va_cpy ((σ o').2.2.1 k') ((σ o).2.2.1 k) a b n)) (hc : clO o = c) (hv : ∀ j : Nat, PA8 c k ((σ o').2.2.1 k' j)) : J8 τ :=
  h.M e hc (fun j => by
    unfold va_cpy
    split
    · exact hv _
    · rw [← hc]; exact (h o).2 k j)
theorem j8_0_1 {σ : ST} (h : J8 σ) {d : Nat} (hd : 0 ≤ d ∧ d < 5) {x : Int32} (e : (σ d).1 1 = x) : (-2147483648 : Int) ≤ x.toInt ∧ x.toInt ≤ 1000000 := by
  subst e
  have q := (h d).1 1
  rw [clO_0 hd] at q
  exact q
theorem j8_0_3 {σ : ST} (h : J8 σ) {d : Nat} (hd : 0 ≤ d ∧ d < 5) {x : Int32} (e : (σ d).1 3 = x) : (0 : Int) ≤ x.toInt ∧ x.toInt ≤ 4 := by
  subst e
  have q := (h d).1 3
  rw [clO_0 hd] at q
  exact q
theorem j8_0_4 {σ : ST} (h : J8 σ) {d : Nat} (hd : 0 ≤ d ∧ d < 5) {x : Int32} (e : (σ d).1 4 = x) : (0 : Int) ≤ x.toInt ∧ x.toInt ≤ 9 := by
  subst e
  have q := (h d).1 4
  rw [clO_0 hd] at q
  exact q
theorem j8_0_5 {σ : ST} (h : J8 σ) {d : Nat} (hd : 0 ≤ d ∧ d < 5) {x : Int32} (e : (σ d).1 5 = x) : (0 : Int) ≤ x.toInt ∧ x.toInt ≤ 3 := by
  subst e
  have q := (h d).1 5
  rw [clO_0 hd] at q
  exact q
theorem j8_4_1 {σ : ST} (h : J8 σ) {x : Int32} (e : (σ 12).1 1 = x) : (0 : Int) ≤ x.toInt ∧ x.toInt ≤ 2000 := by
  subst e
  exact (h 12).1 1
theorem j8_4_2 {σ : ST} (h : J8 σ) {x : Int32} (e : (σ 12).1 2 = x) : (0 : Int) ≤ x.toInt ∧ x.toInt ≤ 3 := by
  subst e
  exact (h 12).1 2
theorem j8_4_6 {σ : ST} (h : J8 σ) {x : Int32} (e : (σ 12).1 6 = x) : (0 : Int) ≤ x.toInt ∧ x.toInt ≤ 5 := by
  subst e
  exact (h 12).1 6
theorem j8_4_7 {σ : ST} (h : J8 σ) {x : Int32} (e : (σ 12).1 7 = x) : (-2147483648 : Int) ≤ x.toInt ∧ x.toInt ≤ 1000000 := by
  subst e
  exact (h 12).1 7
theorem j8_5_0 {σ : ST} (h : J8 σ) {d : Nat} (hd : 5 ≤ d ∧ d < 9) {x : Int32} (e : (σ d).1 0 = x) : (0 : Int) ≤ x.toInt ∧ x.toInt ≤ 1 := by
  subst e
  have q := (h d).1 0
  rw [clO_5 hd] at q
  exact q
theorem j8_5_2 {σ : ST} (h : J8 σ) {d : Nat} (hd : 5 ≤ d ∧ d < 9) {x : Int32} (e : (σ d).1 2 = x) : (0 : Int) ≤ x.toInt ∧ x.toInt ≤ 60 := by
  subst e
  have q := (h d).1 2
  rw [clO_5 hd] at q
  exact q
theorem j8_7_0 {σ : ST} (h : J8 σ) {d : Nat} (hd : 9 ≤ d ∧ d < 12) {x : Int32} (e : (σ d).1 0 = x) : (0 : Int) ≤ x.toInt ∧ x.toInt ≤ 8 := by
  subst e
  have q := (h d).1 0
  rw [clO_7 hd] at q
  exact q
theorem j8_7_1 {σ : ST} (h : J8 σ) {d : Nat} (hd : 9 ≤ d ∧ d < 12) {x : Int32} (e : (σ d).1 1 = x) : (-2147483648 : Int) ≤ x.toInt ∧ x.toInt ≤ 1000000 := by
  subst e
  have q := (h d).1 1
  rw [clO_7 hd] at q
  exact q
theorem j8_7_5 {σ : ST} (h : J8 σ) {d : Nat} (hd : 9 ≤ d ∧ d < 12) {x : Int32} (e : (σ d).1 5 = x) : (-2147483648 : Int) ≤ x.toInt ∧ x.toInt ≤ 1000000 := by
  subst e
  have q := (h d).1 5
  rw [clO_7 hd] at q
  exact q
theorem j8_3_0 {σ : ST} (h : J8 σ) {x : Int32} (e : (σ 13).1 0 = x) : (0 : Int) ≤ x.toInt ∧ x.toInt ≤ 16 := by
  subst e
  exact (h 13).1 0
theorem j8_1_0 {σ : ST} (h : J8 σ) {x : Int32} (e : (σ 15).1 0 = x) : (0 : Int) ≤ x.toInt ∧ x.toInt ≤ 3 := by
  subst e
  exact (h 15).1 0
theorem j8_1_1 {σ : ST} (h : J8 σ) {x : Int32} (e : (σ 15).1 1 = x) : (0 : Int) ≤ x.toInt ∧ x.toInt ≤ 16 := by
  subst e
  exact (h 15).1 1
theorem j8_8_1 {σ : ST} (h : J8 σ) {x : Int32} (e : (σ 17).1 1 = x) : (0 : Int) ≤ x.toInt ∧ x.toInt ≤ 1 := by
  subst e
  exact (h 17).1 1
theorem j8_8_2 {σ : ST} (h : J8 σ) {x : Int32} (e : (σ 17).1 2 = x) : (0 : Int) ≤ x.toInt ∧ x.toInt ≤ 1 := by
  subst e
  exact (h 17).1 2
theorem a8_0_6 {σ : ST} (h : J8 σ) {d : Nat} (hd : 0 ≤ d ∧ d < 5) {j : Nat} {x : Int32} (e : (σ d).2.2.1 6 j = x) : (-2147483648 : Int) ≤ x.toInt ∧ x.toInt ≤ 1000000 := by
  subst e
  have q := (h d).2 6 j
  rw [clO_0 hd] at q
  exact q
theorem a8_0_9 {σ : ST} (h : J8 σ) {d : Nat} (hd : 0 ≤ d ∧ d < 5) {j : Nat} {x : Int32} (e : (σ d).2.2.1 9 j = x) : (0 : Int) ≤ x.toInt ∧ x.toInt ≤ 16 := by
  subst e
  have q := (h d).2 9 j
  rw [clO_0 hd] at q
  exact q
theorem a8_3_12 {σ : ST} (h : J8 σ) {j : Nat} {x : Int32} (e : (σ 13).2.2.1 12 j = x) : (0 : Int) ≤ x.toInt ∧ x.toInt ≤ 1408 := by
  subst e
  exact (h 13).2 12 j
theorem a8_3_13 {σ : ST} (h : J8 σ) {j : Nat} {x : Int32} (e : (σ 13).2.2.1 13 j = x) : (0 : Int) ≤ x.toInt ∧ x.toInt ≤ 1407 := by
  subst e
  exact (h 13).2 13 j
theorem a8_3_15 {σ : ST} (h : J8 σ) {j : Nat} {x : Int32} (e : (σ 13).2.2.1 15 j = x) : (0 : Int) ≤ x.toInt ∧ x.toInt ≤ 7 := by
  subst e
  exact (h 13).2 15 j
theorem a8_3_8 {σ : ST} (h : J8 σ) {j : Nat} {x : Int32} (e : (σ 13).2.2.1 8 j = x) : (0 : Int) ≤ x.toInt ∧ x.toInt ≤ 15 := by
  subst e
  exact (h 13).2 8 j
theorem a8_6_1 {σ : ST} (h : J8 σ) {j : Nat} {x : Int32} (e : (σ 16).2.2.1 1 j = x) : (0 : Int) ≤ x.toInt ∧ x.toInt ≤ 8 := by
  subst e
  exact (h 16).2 1 j
