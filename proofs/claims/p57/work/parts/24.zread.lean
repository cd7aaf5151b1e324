
def DKd (w : SG) (d : Nat) : Prop := (∀ b : Nat, (b : Int) < (w.2.2.1 17 (5 * d + 2)).toInt → 100 ≤ (w.2.2.1 18 (28 * d + 7 * b + 2)).toInt) ∧ ∀ q : Nat, (q : Int) < (w.2.2.1 17 (5 * d + 3)).toInt → (w.2.2.1 19 (36 * d + 4 * q)).toInt < (w.2.2.1 17 (5 * d + 2)).toInt
def DKA (w : SG) : Prop := ∀ d : Nat, d ≤ 3 → DKd w d
theorem DKA.mv {w v : SG} (h : DKA w) (e1 : v.2.2.1 17 = w.2.2.1 17) (e2 : v.2.2.1 18 = w.2.2.1 18) (e3 : v.2.2.1 19 = w.2.2.1 19) : DKA v := by
  unfold DKA DKd
  rw [e1, e2, e3]
  exact h
theorem DKA.pl {w v : SG} {i : Nat} {x : Int32} (h : DKA w) (e1 : v.2.2.1 17 = w.2.2.1 17) (e2 : v.2.2.1 18 = w.2.2.1 18) (e3 : v.2.2.1 19 = upd (w.2.2.1 19) i x) (hi : ¬ i % 4 = 0) : DKA v := by
  intro d hd
  have q := h d hd
  unfold DKd at q ⊢
  rw [e1, e2, e3]
  refine ⟨q.1, fun p hp => ?_⟩
  rw [pk_un (by omega)]
  exact q.2 p hp
theorem DKA.br {w v : SG} {i : Nat} {x : Int32} (h : DKA w) (e1 : v.2.2.1 17 = w.2.2.1 17) (e2 : v.2.2.1 19 = w.2.2.1 19) (e3 : v.2.2.1 18 = upd (w.2.2.1 18) i x) (hi : 100 ≤ x.toInt) : DKA v := by
  intro d hd
  have q := h d hd
  unfold DKd at q ⊢
  rw [e1, e2, e3]
  refine ⟨fun b hb => ?_, q.2⟩
  by_cases z : 28 * d + 7 * b + 2 = i
  · rw [z, pk_us]; exact hi
  · rw [pk_un z]; exact q.1 b hb
theorem DKA.zero {w : SG} (h : DKA w) : DK0 w := by
  have q := h 0 (by omega)
  unfold DKd at q
  unfold DK0
  simpa using q
theorem DKA.ofRows {w v : SG} (h : DKA w) (j : J9 w) (e1 : ∀ i : Nat, i < 20 → v.2.2.1 17 i = w.2.2.1 17 i) (e2 : ∀ i : Nat, i < 112 → v.2.2.1 18 i = w.2.2.1 18 i) (e3 : ∀ i : Nat, i < 144 → v.2.2.1 19 i = w.2.2.1 19 i) : DKA v := by
  intro d hd
  have q := h d hd
  have b2 := a9_17 j (j := 5 * d + 2) rfl
  have b3 := a9_17 j (j := 5 * d + 3) rfl
  unfold DKd
  rw [e1 (5 * d + 2) (by omega), e1 (5 * d + 3) (by omega)]
  refine ⟨fun b hb => ?_, fun p hp => ?_⟩
  · rw [e2 _ (by omega)]; exact q.1 b hb
  · rw [e3 _ (by omega)]; exact q.2 p hp
theorem DKA.s17 {σ τ : ST} {i : Nat} {v : Int32} (h : DKA (σ 9)) (j : J9 (σ 9)) (e : τ = sA σ 9 17 (upd ((σ 9).2.2.1 17) i v)) (hi : 20 ≤ i) : DKA (τ 9) :=
  h.ofRows j (fun q hq => by rw [sA_s e, pk_un (by omega)]) (fun q _ => by rw [sAo e rfl]) (fun q _ => by rw [sAo e rfl])
theorem DKA.s18 {σ τ : ST} {i : Nat} {v : Int32} (h : DKA (σ 9)) (j : J9 (σ 9)) (e : τ = sA σ 9 18 (upd ((σ 9).2.2.1 18) i v)) (hi : 112 ≤ i) : DKA (τ 9) :=
  h.ofRows j (fun q _ => by rw [sAo e rfl]) (fun q hq => by rw [sA_s e, pk_un (by omega)]) (fun q _ => by rw [sAo e rfl])
theorem DKA.s19 {σ τ : ST} {i : Nat} {v : Int32} (h : DKA (σ 9)) (j : J9 (σ 9)) (e : τ = sA σ 9 19 (upd ((σ 9).2.2.1 19) i v)) (hi : 144 ≤ i) : DKA (τ 9) :=
  h.ofRows j (fun q _ => by rw [sAo e rfl]) (fun q _ => by rw [sAo e rfl]) (fun q hq => by rw [sA_s e, pk_un (by omega)])
theorem h17_0 {w : SG} (h : J9 w) {j : Nat} (hj : j % 5 = 0) : 0 ≤ (w.2.2.1 17 j).toInt ∧ (w.2.2.1 17 j).toInt ≤ 60 := by
  have q := a9_17 h (j := j) rfl
  omega
theorem h17_1 {w : SG} (h : J9 w) {j : Nat} (hj : j % 5 = 1) : 0 ≤ (w.2.2.1 17 j).toInt ∧ (w.2.2.1 17 j).toInt ≤ 12 := by
  have q := a9_17 h (j := j) rfl
  omega
theorem h17_2 {w : SG} (h : J9 w) {j : Nat} (hj : j % 5 = 2) : 0 ≤ (w.2.2.1 17 j).toInt ∧ (w.2.2.1 17 j).toInt ≤ 4 := by
  have q := a9_17 h (j := j) rfl
  omega
theorem h17_3 {w : SG} (h : J9 w) {j : Nat} (hj : j % 5 = 3) : 0 ≤ (w.2.2.1 17 j).toInt ∧ (w.2.2.1 17 j).toInt ≤ 9 := by
  have q := a9_17 h (j := j) rfl
  omega
theorem h17_4 {w : SG} (h : J9 w) {j : Nat} (hj : j % 5 = 4) : 0 ≤ (w.2.2.1 17 j).toInt ∧ (w.2.2.1 17 j).toInt ≤ 3 := by
  have q := a9_17 h (j := j) rfl
  omega
def RD (w : SG) : Prop := (∀ b : Nat, (b : Int) < (w.2.2.1 17 22).toInt → 100 ≤ (w.2.2.1 18 (112 + 7 * b + 2)).toInt) ∧ ((w.1 12).toInt = 0 → ∀ q : Nat, (q : Int) < (w.2.2.1 17 23).toInt → (w.2.2.1 19 (144 + 4 * q)).toInt < (w.2.2.1 17 22).toInt)
theorem RD.mv {w v : SG} (h : RD w) (e0 : v.1 12 = w.1 12) (e1 : v.2.2.1 17 = w.2.2.1 17) (e2 : v.2.2.1 18 = w.2.2.1 18) (e3 : v.2.2.1 19 = w.2.2.1 19) : RD v := by
  unfold RD
  rw [e0, e1, e2, e3]
  exact h
theorem RD.call {w v : SG} (h : RD w) (hb : ¬ (v.1 12).toInt = 0 ∨ (w.1 12).toInt = 0) (e1 : v.2.2.1 17 = w.2.2.1 17) (e2 : v.2.2.1 18 = w.2.2.1 18) (e3 : v.2.2.1 19 = w.2.2.1 19) : RD v := by
  unfold RD
  rw [e1, e2, e3]
  exact ⟨h.1, fun z => h.2 (hb.resolve_left (fun n => n z))⟩
theorem RD.s18 {σ τ : ST} {i : Nat} {v : Int32} (h : RD (σ 9)) (e : τ = sA σ 9 18 (upd ((σ 9).2.2.1 18) i v)) (hi : 112 + 7 * ((σ 9).2.2.1 17 22).toInt ≤ (i : Int)) : RD (τ 9) := by
  unfold RD
  rw [sA1 e, sAo (r := 17) e rfl, sAo (r := 19) e rfl, sA_s e]
  refine ⟨fun b hb => ?_, h.2⟩
  rw [pk_un (by omega)]
  exact h.1 b hb
theorem RD.s19 {σ τ : ST} {i : Nat} {v : Int32} (h : RD (σ 9)) (e : τ = sA σ 9 19 (upd ((σ 9).2.2.1 19) i v)) (hi : 144 + 4 * ((σ 9).2.2.1 17 23).toInt ≤ (i : Int)) : RD (τ 9) := by
  unfold RD
  rw [sA1 e, sAo (r := 17) e rfl, sAo (r := 18) e rfl, sA_s e]
  refine ⟨h.1, fun z q hq => ?_⟩
  rw [pk_un (by omega)]
  exact h.2 z q hq
theorem RD.s17o {σ τ : ST} {i : Nat} {v : Int32} (h : RD (σ 9)) (e : τ = sA σ 9 17 (upd ((σ 9).2.2.1 17) i v)) (h2 : ¬ i = 22) (h3 : ¬ i = 23) : RD (τ 9) := by
  unfold RD
  rw [sA1 e, sAo (r := 18) e rfl, sAo (r := 19) e rfl, sA_s e, pk_un (fun q => h2 q.symm), pk_un (fun q => h3 q.symm)]
  exact h
def LV (w : SG) : Prop := 100 ≤ (w.2.2.1 18 (112 + 7 * (w.2.2.1 17 22).toInt.toNat + 2)).toInt
theorem LV.mv {w v : SG} (h : LV w) (e1 : v.2.2.1 17 = w.2.2.1 17) (e2 : v.2.2.1 18 = w.2.2.1 18) : LV v := by
  unfold LV
  rw [e1, e2]
  exact h
theorem LV.s18 {σ τ : ST} {i : Nat} {v : Int32} (h : LV (σ 9)) (e : τ = sA σ 9 18 (upd ((σ 9).2.2.1 18) i v)) (hi : ¬ (i : Int) = 112 + 7 * ((σ 9).2.2.1 17 22).toInt + 2) (h0 : 0 ≤ ((σ 9).2.2.1 17 22).toInt) : LV (τ 9) := by
  unfold LV
  rw [sAo (r := 17) e rfl, sA_s e, pk_un (by omega)]
  exact h
theorem LV.new {σ τ : ST} {i : Nat} {v : Int32} (e : τ = sA σ 9 18 (upd ((σ 9).2.2.1 18) i v)) (hi : (i : Int) = 112 + 7 * ((σ 9).2.2.1 17 22).toInt + 2) (h0 : 0 ≤ ((σ 9).2.2.1 17 22).toInt) (hv : 100 ≤ v.toInt) : LV (τ 9) := by
  unfold LV
  rw [sAo (r := 17) e rfl, sA_s e, show 112 + 7 * ((σ 9).2.2.1 17 22).toInt.toNat + 2 = i by omega, pk_us]
  exact hv
theorem RD.h22 {σ τ : ST} {v : Int32} {i : Nat} (h : RD (σ 9)) (l : LV (σ 9)) (e : τ = sA σ 9 17 (upd ((σ 9).2.2.1 17) i v)) (hi : i = 22) (h0 : 0 ≤ ((σ 9).2.2.1 17 22).toInt) (hv : v.toInt = ((σ 9).2.2.1 17 22).toInt + 1) : RD (τ 9) := by
  subst hi
  unfold RD
  rw [sA1 e, sAo (r := 18) e rfl, sAo (r := 19) e rfl, sA_s e, pk_us, pk_un (by decide)]
  refine ⟨fun b hb => ?_, fun z q hq => ?_⟩
  · by_cases c : (b : Int) < ((σ 9).2.2.1 17 22).toInt
    · exact h.1 b c
    · rw [show b = ((σ 9).2.2.1 17 22).toInt.toNat by omega]; exact l
  · have := h.2 z q hq
    omega
def PV (w : SG) : Prop := (w.1 12).toInt = 0 → (w.2.2.1 19 (144 + 4 * (w.2.2.1 17 23).toInt.toNat)).toInt < (w.2.2.1 17 22).toInt
theorem PV.mv {w v : SG} (h : PV w) (e0 : v.1 12 = w.1 12) (e1 : v.2.2.1 17 = w.2.2.1 17) (e2 : v.2.2.1 19 = w.2.2.1 19) : PV v := by
  unfold PV
  rw [e0, e1, e2]
  exact h
theorem PV.call {w v : SG} (h : PV w) (hb : ¬ (v.1 12).toInt = 0 ∨ (w.1 12).toInt = 0) (e1 : v.2.2.1 17 = w.2.2.1 17) (e2 : v.2.2.1 19 = w.2.2.1 19) : PV v := by
  unfold PV
  rw [e1, e2]
  exact fun z => h (hb.resolve_left (fun n => n z))
theorem PV.s19 {σ τ : ST} {i : Nat} {v : Int32} (h : PV (σ 9)) (e : τ = sA σ 9 19 (upd ((σ 9).2.2.1 19) i v)) (hi : ¬ (i : Int) = 144 + 4 * ((σ 9).2.2.1 17 23).toInt) (h0 : 0 ≤ ((σ 9).2.2.1 17 23).toInt) : PV (τ 9) := by
  unfold PV
  rw [sA1 e, sAo (r := 17) e rfl, sA_s e, pk_un (by omega)]
  exact h
theorem PV.new {σ τ : ST} {i : Nat} {v : Int32} (e : τ = sA σ 9 19 (upd ((σ 9).2.2.1 19) i v)) (hi : (i : Int) = 144 + 4 * ((σ 9).2.2.1 17 23).toInt) (h0 : 0 ≤ ((σ 9).2.2.1 17 23).toInt) (hv : ¬ ((σ 9).1 12).toInt = 0 ∨ v.toInt < ((σ 9).2.2.1 17 22).toInt) : PV (τ 9) := by
  unfold PV
  rw [sA1 e, sAo (r := 17) e rfl, sA_s e, show 144 + 4 * ((σ 9).2.2.1 17 23).toInt.toNat = i by omega, pk_us]
  exact fun z => hv.resolve_left (fun n => n z)
theorem RD.h23 {σ τ : ST} {v : Int32} {i : Nat} (h : RD (σ 9)) (l : PV (σ 9)) (e : τ = sA σ 9 17 (upd ((σ 9).2.2.1 17) i v)) (hi : i = 23) (h0 : 0 ≤ ((σ 9).2.2.1 17 23).toInt) (hv : v.toInt = ((σ 9).2.2.1 17 23).toInt + 1) : RD (τ 9) := by
  subst hi
  unfold RD
  rw [sA1 e, sAo (r := 18) e rfl, sAo (r := 19) e rfl, sA_s e, pk_us, pk_un (by decide)]
  refine ⟨h.1, fun z q hq => ?_⟩
  by_cases c : (q : Int) < ((σ 9).2.2.1 17 23).toInt
  · exact h.2 z q c
  · rw [show q = ((σ 9).2.2.1 17 23).toInt.toNat by omega]; exact l z
theorem RD.zero {w : SG} (h2 : (w.2.2.1 17 22).toInt = 0) (h3 : (w.2.2.1 17 23).toInt = 0) : RD w := by
  refine ⟨fun b hb => absurd hb (by omega), fun _ q hq => absurd hq (by omega)⟩
theorem RD.dk {w : SG} (h : RD w) (hb : (w.1 12).toInt = 0) : DKd w 4 := ⟨h.1, h.2 hb⟩
def TH (w : SG) : Prop := 1 ≤ (w.2.2.1 17 24).toInt ∧ (w.2.2.1 20 (11 + (w.2.2.1 17 24).toInt.toNat)).toInt ≤ 15
theorem TH.mv {w v : SG} (h : TH w) (e1 : v.2.2.1 17 = w.2.2.1 17) (e2 : v.2.2.1 20 = w.2.2.1 20) : TH v := by
  unfold TH
  rw [e1, e2]
  exact h
theorem updc {σ τ : ST} {k i : Nat} {v : Int32} (e : τ = sA σ 9 k (upd ((σ 9).2.2.1 k) i v)) (c : Nat) : (i = c ∧ ((τ 9).2.2.1 k c).toInt = v.toInt) ∨ (¬ i = c ∧ ((τ 9).2.2.1 k c).toInt = ((σ 9).2.2.1 k c).toInt) := by
  rw [sA_s e]
  by_cases h : i = c
  · subst h; exact Or.inl ⟨rfl, by rw [pk_us]⟩
  · exact Or.inr ⟨h, by rw [pk_un (fun q => h q.symm)]⟩
def mz (b : Int32) (n : Int) : Nat := if b.toInt = 0 then (n + 2).toNat + 1 else 0
theorem mz_lt {b b' : Int32} {n n' : Int} (h0 : b.toInt = 0) (h : ¬ b'.toInt = 0 ∨ n' < n) (hn : 0 ≤ n) : mz b' n' < mz b n := by
  unfold mz
  rw [if_pos h0]
  split
  · rcases h with h | h
    · omega
    · omega
  · omega
theorem pa17 {p q : Nat} {x : Int32} (h : PA9 17 q x) (e : p % 5 = q % 5) : PA9 17 p x := ⟨h.1, h.2.1, fun z => h.2.2.1 (by omega), fun z => h.2.2.2.1 (by omega), fun z => h.2.2.2.2.1 (by omega), fun z => h.2.2.2.2.2 (by omega)⟩
theorem pa19 {p q : Nat} {x : Int32} (h : PA9 19 q x) (e : p % 4 = q % 4) : PA9 19 p x := ⟨h.1, h.2.1, fun z => h.2.2.1 (by omega), fun z => h.2.2.2 (by omega)⟩
theorem pa21 {p q : Nat} {x : Int32} (h : PA9 21 q x) (e : p % 4 = q % 4) : PA9 21 p x := ⟨h.1, h.2.1, fun z => h.2.2 (by omega)⟩
def CR (f f0 : Nat → Int32) (m a b i : Nat) : Prop := ∀ j : Nat, f j = if m * b ≤ j ∧ j < m * b + i then f0 (j - m * b + m * a) else f0 j
theorem CR.nil {f : Nat → Int32} {m a b : Nat} : CR f f m a b 0 := fun j => by rw [if_neg (by omega)]
theorem CR.step {f g f0 : Nat → Int32} {m a b i i' p q : Nat} {x : Int32} (h : CR f f0 m a b i) (hi : i < m) (hab : ¬ a = b) (hp : p = m * b + i) (hq : q = m * a + i) (hx : f q = x) (hg : g = upd f p x) (hi' : i' = i + 1) : CR g f0 m a b i' := by
  have dis : m * a + i < m * b ∨ m * b + m ≤ m * a + i := by
    rcases Nat.lt_or_gt_of_ne hab with z | z
    · have := Nat.mul_le_mul_left m (show a + 1 ≤ b from z)
      rw [Nat.mul_add] at this
      exact Or.inl (by omega)
    · have := Nat.mul_le_mul_left m (show b + 1 ≤ a from z)
      rw [Nat.mul_add] at this
      exact Or.inr (by omega)
  intro j
  rw [hg]
  by_cases c : j = p
  · rw [c, pk_us, ← hx, h q, if_neg (by omega), if_pos (by omega)]
    congr 1
    omega
  · rw [pk_un c, h j]
    by_cases z : m * b ≤ j ∧ j < m * b + i
    · rw [if_pos z, if_pos (by omega)]
    · rw [if_neg z, if_neg (by omega)]
theorem CR.inn {f f0 : Nat → Int32} {m a b t : Nat} (h : CR f f0 m a b m) (ht : t < m) : f (m * b + t) = f0 (m * a + t) := by
  rw [h, if_pos (by omega)]
  congr 1
  omega
theorem CR.out {f f0 : Nat → Int32} {m a b j : Nat} (h : CR f f0 m a b m) (hj : j < m * b ∨ m * b + m ≤ j) : f j = f0 j := by
  rw [h, if_neg (by omega)]
theorem DKA.copy {w v : SG} {a b : Nat} (h : DKA w) (j : J9 w) (ha : DKd w a) (h17 : CR (v.2.2.1 17) (w.2.2.1 17) 5 a b 5) (h18 : CR (v.2.2.1 18) (w.2.2.1 18) 28 a b 28) (h19 : CR (v.2.2.1 19) (w.2.2.1 19) 36 a b 36) : DKA v := by
  intro d hd
  by_cases c : d = b
  · subst c
    have b2 := a9_17 j (j := 5 * a + 2) rfl
    have b3 := a9_17 j (j := 5 * a + 3) rfl
    unfold DKd
    rw [h17.inn (t := 2) (by omega), h17.inn (t := 3) (by omega)]
    refine ⟨fun k hk => ?_, fun q hq => ?_⟩
    · rw [show 28 * d + 7 * k + 2 = 28 * d + (7 * k + 2) by omega, h18.inn (t := 7 * k + 2) (by omega)]
      have := ha.1 k hk
      rw [show 28 * a + 7 * k + 2 = 28 * a + (7 * k + 2) by omega] at this
      exact this
    · rw [h19.inn (t := 4 * q) (by omega)]
      exact ha.2 q hq
  · have q := h d hd
    have b2 := a9_17 j (j := 5 * d + 2) rfl
    have b3 := a9_17 j (j := 5 * d + 3) rfl
    unfold DKd
    rw [h17.out (by omega), h17.out (by omega)]
    refine ⟨fun k hk => ?_, fun p hp => ?_⟩
    · rw [h18.out (by omega)]; exact q.1 k hk
    · rw [h19.out (by omega)]; exact q.2 p hp
