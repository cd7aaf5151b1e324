
def CJ (w : SG) (s k : Nat) : Prop := ∀ j : Nat, j < k → 0 ≤ (w.2.2.2 3 (60 * s + j)).toInt ∧ (w.2.2.2 3 (60 * s + j)).toInt ≤ 87
theorem CJ.step {w : SG} {s k k' : Nat} (h : CJ w s k) (hk : k' = k + 1) (h1 : 0 ≤ (w.2.2.2 3 (60 * s + k)).toInt ∧ (w.2.2.2 3 (60 * s + k)).toInt ≤ 87) : CJ w s k' := by
  intro j hj
  by_cases q : j = k
  · rw [q]; exact h1
  · exact h j (by omega)
theorem CJ.back {w : SG} {s k : Nat} (h : CJ w s k) (hk : 0 < k) : 0 ≤ (w.2.2.2 3 (60 * s + k - 1)).toInt ∧ (w.2.2.2 3 (60 * s + k - 1)).toInt ≤ 87 := by
  have := h (k - 1) (by omega)
  rw [show 60 * s + (k - 1) = 60 * s + k - 1 by omega] at this
  exact this
theorem DK0.pl {w v : SG} {i : Nat} {x : Int32} (h : DK0 w) (e1 : v.2.2.1 17 = w.2.2.1 17) (e2 : v.2.2.1 18 = w.2.2.1 18) (e3 : v.2.2.1 19 = upd (w.2.2.1 19) i x) (hi : ¬ i % 4 = 0) : DK0 v := by
  unfold DK0
  rw [e1, e2, e3]
  refine ⟨h.1, fun q hq => ?_⟩
  rw [pk_un (by omega)]
  exact h.2 q hq
theorem DK0.br {w v : SG} {i : Nat} {x : Int32} (h : DK0 w) (e1 : v.2.2.1 17 = w.2.2.1 17) (e2 : v.2.2.1 19 = w.2.2.1 19) (e3 : v.2.2.1 18 = upd (w.2.2.1 18) i x) (hi : 100 ≤ x.toInt) : DK0 v := by
  unfold DK0
  rw [e1, e2, e3]
  refine ⟨fun b hb => ?_, h.2⟩
  by_cases q : 7 * b + 2 = i
  · rw [q, pk_us]; exact hi
  · rw [pk_un q]; exact h.1 b hb
def GKb (w : SG) (k a b : Nat) : Prop := (b : Int) < (w.2.2.1 24 (k + 1)).toInt ∧ ¬ w.2.2.1 35 (88 * (k + 1) + b) = 1000000 ∧ ¬ goW w k a b = 0 ∧ w.2.2.1 35 (88 * (k + 1) + b) + mvW w k a b = w.2.2.1 35 (88 * k + a) ∧ w.2.2.1 36 (88 * (k + 1) + b) + w.2.2.1 27 (88 * k + a) = w.2.2.1 36 (88 * k + a)
def GK (w : SG) (k a : Nat) : Prop := ¬ w.2.2.1 35 (88 * k + a) = 1000000 → ∃ b : Nat, GKb w k a b
def GI (w : SG) (k a0 : Nat) : Prop := ∀ kk a : Nat, (k < kk ∨ (kk = k ∧ a < a0)) → (kk : Int) + 1 < (w.1 31).toInt → (a : Int) < (w.2.2.1 24 kk).toInt → GK w kk a
def GO (w : SG) (n : Int) : Prop := ∀ kk a : Nat, n ≤ kk → (kk : Int) + 1 < (w.1 31).toInt → (a : Int) < (w.2.2.1 24 kk).toInt → GK w kk a
def GB (w : SG) : Prop := ∀ kk a : Nat, (kk : Int) + 1 < (w.1 31).toInt → (a : Int) < (w.2.2.1 24 kk).toInt → GK w kk a
def CI (w : SG) (k a v : Nat) : Prop := (k : Int) + 1 < (w.1 31).toInt → (w.2.2.1 35 (88 * k + a) = 1000000 ∨ ∃ b : Nat, b < v ∧ GKb w k a b)
theorem goW_e {w v : SG} (e1 : v.1 = w.1) (eo : ∀ r : Nat, (r == 35) = false → (r == 36) = false → v.2.2.1 r = w.2.2.1 r) (k a b : Nat) : goW v k a b = goW w k a b := by
  unfold goW
  rw [e1, eo 18 rfl rfl, eo 33 rfl rfl, eo 34 rfl rfl, eo 26 rfl rfl, eo 25 rfl rfl]
theorem mvW_e {w v : SG} (e1 : v.1 = w.1) (eo : ∀ r : Nat, (r == 35) = false → (r == 36) = false → v.2.2.1 r = w.2.2.1 r) (k a b : Nat) : mvW v k a b = mvW w k a b := by
  unfold mvW
  rw [e1, eo 18 rfl rfl, eo 26 rfl rfl]
theorem GKb.tr {w v : SG} {k a b : Nat} (e1 : v.1 = w.1) (eo : ∀ r : Nat, (r == 35) = false → (r == 36) = false → v.2.2.1 r = w.2.2.1 r) (h1 : v.2.2.1 35 (88 * k + a) = w.2.2.1 35 (88 * k + a)) (h2 : v.2.2.1 36 (88 * k + a) = w.2.2.1 36 (88 * k + a)) (h3 : v.2.2.1 35 (88 * (k + 1) + b) = w.2.2.1 35 (88 * (k + 1) + b)) (h4 : v.2.2.1 36 (88 * (k + 1) + b) = w.2.2.1 36 (88 * (k + 1) + b)) (h : GKb w k a b) : GKb v k a b := by
  unfold GKb
  rw [goW_e e1 eo, mvW_e e1 eo, eo 24 rfl rfl, eo 27 rfl rfl, h1, h2, h3, h4]
  exact h
theorem GI.up {w v : SG} {k a0 : Nat} (h : GI w k a0) (ha : a0 ≤ 87) (e1 : v.1 = w.1) (eo : ∀ r : Nat, (r == 35) = false → (r == 36) = false → v.2.2.1 r = w.2.2.1 r) (e5 : ∀ j : Nat, ¬ j = 88 * k + a0 → v.2.2.1 35 j = w.2.2.1 35 j) (e6 : ∀ j : Nat, ¬ j = 88 * k + a0 → v.2.2.1 36 j = w.2.2.1 36 j) : GI v k a0 := by
  intro kk a hk h1 h2 h3
  rw [e1] at h1
  rw [eo 24 rfl rfl] at h2
  have n1 : ¬ 88 * kk + a = 88 * k + a0 := by omega
  rw [e5 _ n1] at h3
  obtain ⟨b, hb⟩ := h kk a hk h1 h2 h3
  have n2 : ¬ 88 * (kk + 1) + b = 88 * k + a0 := by omega
  exact ⟨b, hb.tr e1 eo (e5 _ n1) (e6 _ n1) (e5 _ n2) (e6 _ n2)⟩
theorem sA1 {σ τ : ST} {o k : Nat} {f : Nat → Int32} (e : τ = sA σ o k f) : (τ o).1 = (σ o).1 := by rw [e]; simp [sA]
theorem sAo {σ τ : ST} {o k r : Nat} {f : Nat → Int32} (e : τ = sA σ o k f) (h : (r == k) = false) : (τ o).2.2.1 r = (σ o).2.2.1 r := by
  have : ¬ r = k := by simpa using h
  rw [e]; simp [sA, va_up, this]
theorem sB1 {σ τ : ST} {o k : Nat} {f : Nat → Int64} (e : τ = sB σ o k f) : (τ o).1 = (σ o).1 := by rw [e]; simp [sB]
theorem sBa {σ τ : ST} {o k : Nat} {f : Nat → Int64} (e : τ = sB σ o k f) : (τ o).2.2.1 = (σ o).2.2.1 := by rw [e]; simp [sB]
theorem GI.s35 {σ τ : ST} {k a0 i : Nat} {v : Int32} (h : GI (σ 9) k a0) (e : τ = sA σ 9 35 (upd ((σ 9).2.2.1 35) i v)) (hi : i = 88 * k + a0) (ha : a0 ≤ 87) : GI (τ 9) k a0 :=
  h.up ha (sA1 e) (fun r h1 _ => sAo e h1) (fun j hj => by rw [sA_s e, pk_un (by omega)]) (fun j _ => by rw [sAo e rfl])
theorem GI.s36 {σ τ : ST} {k a0 i : Nat} {v : Int32} (h : GI (σ 9) k a0) (e : τ = sA σ 9 36 (upd ((σ 9).2.2.1 36) i v)) (hi : i = 88 * k + a0) (ha : a0 ≤ 87) : GI (τ 9) k a0 :=
  h.up ha (sA1 e) (fun r _ h1 => sAo e h1) (fun j _ => by rw [sAo e rfl]) (fun j hj => by rw [sA_s e, pk_un (by omega)])
theorem GI.s37 {σ τ : ST} {k a0 : Nat} {f : Nat → Int64} (h : GI (σ 9) k a0) (e : τ = sB σ 9 37 f) : GI (τ 9) k a0 := by
  unfold GI GK GKb goW mvW
  rw [sB1 e, sBa e]
  exact h
theorem CI.s37 {σ τ : ST} {k a n : Nat} {f : Nat → Int64} (h : CI (σ 9) k a n) (e : τ = sB σ 9 37 f) : CI (τ 9) k a n := by
  unfold CI GKb goW mvW
  rw [sB1 e, sBa e]
  exact h
theorem CI.stay {w : SG} {k a n n' : Nat} (h : CI w k a n) (hn : n ≤ n') : CI w k a n' := fun hk => (h hk).imp id (fun ⟨b, h1, h2⟩ => ⟨b, by omega, h2⟩)
theorem CI.init {σ τ υ : ST} {k a i n : Nat} {v : Int32} (e : τ = sA σ 9 35 (upd ((σ 9).2.2.1 35) i v)) (hi : i = 88 * k + a) (e5 : (υ 9).2.2.1 35 = (τ 9).2.2.1 35) (hv : (k : Int) + 1 < ((υ 9).1 31).toInt → v.toInt = 1000000) : CI (υ 9) k a n := fun hk => Or.inl (by
  rw [e5, sA_s e, ← hi, pk_us]
  exact Int32.toInt_inj.mp ((hv hk).trans (by decide)))
theorem CI.put {σh σ τ υ : ST} {k a b i to : Nat} {c o xt xs xo wm : Int32} {f : Nat → Int64} (e0 : σ = sB σh 9 37 f) (e1 : τ = sA σ 9 35 (upd ((σ 9).2.2.1 35) i c)) (e2 : υ = sA τ 9 36 (upd ((τ 9).2.2.1 36) i o)) (hi : i = 88 * k + a) (ha : a ≤ 87) (ht : to = 88 * (k + 1) + b)
    (h1 : (σh 9).2.2.1 35 to = xt) (h2 : (σh 9).2.2.1 36 to = xs) (h3 : (σh 9).2.2.1 27 i = xo) (h4 : (σh 9).2.2.1 24 (k + 1) = wm) (hb : (b : Int) < wm.toInt) (hne : ¬ xt = 1000000) (hg : ¬ goW (σh 9) k a b = 0) (hc : c = xt + mvW (σh 9) k a b) (ho : o = xs + xo) : CI (υ 9) k a (b + 1) := fun _ => Or.inr ⟨b, by omega, by
  have f1 : (υ 9).1 = (σh 9).1 := by rw [sA1 e2, sA1 e1, sB1 e0]
  have fo : ∀ r : Nat, (r == 35) = false → (r == 36) = false → (υ 9).2.2.1 r = (σh 9).2.2.1 r := fun r q1 q2 => by rw [sAo e2 q2, sAo e1 q1, sBa e0]
  have g5 : (υ 9).2.2.1 35 = upd ((σh 9).2.2.1 35) i c := by rw [sAo e2 rfl, sA_s e1, sBa e0]
  have g6 : (υ 9).2.2.1 36 = upd ((σh 9).2.2.1 36) i o := by rw [sA_s e2, sAo e1 rfl, sBa e0]
  have nt : ¬ to = i := by omega
  unfold GKb
  rw [goW_e f1 fo, mvW_e f1 fo, fo 24 rfl rfl, fo 27 rfl rfl, g5, g6, ← hi, ← ht, pk_us, pk_us, pk_un nt, pk_un nt, h1, h2, h3, h4]
  exact ⟨hb, hne, hg, hc.symm, ho.symm⟩⟩
theorem GI.next {w : SG} {k a n a' : Nat} (h : GI w k a) (c : CI w k a n) (ha : a' = a + 1) : GI w k a' := by
  intro kk q hk h1 h2 h3
  by_cases hq : kk = k ∧ q = a
  · obtain ⟨rfl, rfl⟩ := hq
    rcases c h1 with z | ⟨b, _, hb⟩
    · exact absurd z h3
    · exact ⟨b, hb⟩
  · exact h kk q (by omega) h1 h2 h3
theorem GI.begin {w : SG} {k : Nat} {n : Int} {a : Nat} (h : GO w n) (hn : n = k + 1) (ha : a = 0) : GI w k a := fun kk q hk h1 h2 => h kk q (by omega) h1 h2
theorem GI.done {w : SG} {k a : Nat} {n : Int} (h : GI w k a) (hn : n = k) (ha : (w.2.2.1 24 k).toInt ≤ a) : GO w n := fun kk q hk h1 h2 => by
  by_cases hq : kk = k
  · subst hq; exact h kk q (Or.inr ⟨rfl, by omega⟩) h1 h2
  · exact h kk q (Or.inl (by omega)) h1 h2
theorem GO.nil {w : SG} {n : Int} (h : (w.1 31).toInt ≤ n) : GO w n := fun kk q hk h1 _ => absurd h1 (by omega)
theorem GO.all {w : SG} {n : Int} (h : GO w n) (hn : n ≤ 0) : GB w := fun kk q h1 h2 => h kk q (by omega) h1 h2
theorem GB.mv {w v : SG} (h : GB w) (e28 : v.1 28 = w.1 28) (e30 : v.1 30 = w.1 30) (e31 : v.1 31 = w.1 31) (r18 : v.2.2.1 18 = w.2.2.1 18) (r24 : v.2.2.1 24 = w.2.2.1 24) (r25 : v.2.2.1 25 = w.2.2.1 25) (r26 : v.2.2.1 26 = w.2.2.1 26) (r27 : v.2.2.1 27 = w.2.2.1 27) (r33 : v.2.2.1 33 = w.2.2.1 33) (r34 : v.2.2.1 34 = w.2.2.1 34) (r35 : v.2.2.1 35 = w.2.2.1 35) (r36 : v.2.2.1 36 = w.2.2.1 36) : GB v := by
  unfold GB GK GKb goW mvW
  rw [e28, e30, e31, r18, r24, r25, r26, r27, r33, r34, r35, r36]
  exact h
def CH (w : SG) (k : Nat) : Prop := (w.2.2.1 38 k).toInt < (w.2.2.1 24 k).toInt ∧ ¬ w.2.2.1 35 (88 * k + (w.2.2.1 38 k).toInt.toNat) = 1000000
def BP (w : SG) : Prop := (w.1 39).toInt = 1000000 ∨ (w.1 31).toInt = 0 ∨ CH w 0
theorem BP.mv {w v : SG} (h : BP w) (e39 : v.1 39 = w.1 39) (e31 : v.1 31 = w.1 31) (r38 : v.2.2.1 38 = w.2.2.1 38) (r24 : v.2.2.1 24 = w.2.2.1 24) (r35 : v.2.2.1 35 = w.2.2.1 35) : BP v := by
  unfold BP CH
  rw [e39, e31, r38, r24, r35]
  exact h
theorem CH.of {w : SG} {k : Nat} {x : Int32} (e : w.2.2.1 38 k = x) (h1 : x.toInt < (w.2.2.1 24 k).toInt) (h2 : ¬ w.2.2.1 35 (88 * k + x.toInt.toNat) = 1000000) : CH w k := by
  unfold CH
  rw [e]
  exact ⟨h1, h2⟩
def CS (w : SG) (k : Nat) : Prop := (w.1 31).toInt = 0 ∨ CH w k
