
def CBQ (w : SG) (k : Int32) (m : Nat) (left some n : Int32) : Prop := k.toInt = 0 → some.toInt = 0 → ∀ v : Nat, (v : Int) < n.toInt → ¬ w.2.2.1 46 (88 * m + v) = left
theorem CBQ.nil {w : SG} {k : Int32} {m : Nat} {left some n : Int32} (h : n.toInt ≤ 0) : CBQ w k m left some n := fun _ _ v hv => absurd hv (by omega)
theorem CBQ.one {w : SG} {k : Int32} {m : Nat} {left some n : Int32} (h : ¬ some.toInt = 0) : CBQ w k m left some n := fun _ hs => absurd hs h
theorem CBQ.step {w : SG} {k : Int32} {m : Nat} {left some some' n n' : Int32} (h : CBQ w k m left some n) (hs : some.toInt = 0) (hn : n'.toInt = n.toInt + 1 ∧ 0 ≤ n.toInt) (hx : k.toInt = 0 → ¬ w.2.2.1 46 (88 * m + n.toInt.toNat) = left) : CBQ w k m left some' n' := fun hk _ v hv => by
  by_cases q : (v : Int) = n.toInt
  · have e : v = n.toInt.toNat := by omega
    rw [e]; exact hx hk
  · exact h hk hs v (by omega)
def CBP (w : SG) (k : Int32) (m : Nat) (left r : Int32) : Prop := k.toInt = 0 → r.toInt = 0 → ∀ v : Nat, (v : Int) < (w.2.2.1 43 m).toInt → ¬ w.2.2.1 46 (88 * m + v) = left
theorem CBQ.done {w : SG} {k : Int32} {m i : Nat} {left some n x : Int32} (h : CBQ w k m left some n) (e : w.2.2.1 43 i = x) (hi : k.toInt = 0 → i = m) (hn : x.toInt ≤ n.toInt) : CBP w k m left some := fun hk hs v hv => h hk hs v (by
  rw [← hi hk, e] at hv
  omega)
def LM (w : SG) (x : Int32) : Prop := (w.1 31).toInt = 0 ∨ x.toInt = 1000000 ∨ ∃ m v : Nat, m < 3 ∧ (v : Int) < (w.2.2.1 43 m).toInt ∧ w.2.2.1 46 (88 * m + v) = x
theorem LM.of {w : SG} {x y : Int32} {m v i : Nat} (hm : m < 3) (e1 : w.2.2.1 43 m = y) (hv : (v : Int) < y.toInt) (e2 : w.2.2.1 46 i = x) (hi : i = 88 * m + v) : LM w x := Or.inr (Or.inr ⟨m, v, hm, by rw [e1]; exact hv, by rw [← hi]; exact e2⟩)
theorem LM.get {w : SG} {x : Int32} (h : LM w x) (hx : ¬ x.toInt = 1000000) : ∃ m v : Nat, m < 3 ∧ ((w.1 31).toInt = 0 ∨ ((v : Int) < (w.2.2.1 43 m).toInt ∧ w.2.2.1 46 (88 * m + v) = x)) := by
  rcases h with h | h | ⟨m, v, h1, h2, h3⟩
  · exact ⟨0, 0, by omega, Or.inl h⟩
  · exact absurd h hx
  · exact ⟨m, v, h1, Or.inr ⟨h2, h3⟩⟩
theorem CBP.not {w w0 : SG} {k m least left r : Int32} {m0 v0 : Nat} (h : CBP w k m.toInt.toNat left r) (hr : r.toInt = 0) (e1 : w.2.2.1 43 = w0.2.2.1 43) (e2 : w.2.2.1 46 = w0.2.2.1 46) (h0 : (v0 : Int) < (w0.2.2.1 43 m0).toInt ∧ w0.2.2.1 46 (88 * m0 + v0) = least) : ¬ k.toInt = 0 ∨ ¬ left.toInt = least.toInt ∨ ¬ m.toInt = (m0 : Int) := by
  by_cases hk : k.toInt = 0
  · by_cases hl : left.toInt = least.toInt
    · refine Or.inr (Or.inr (fun hm => ?_))
      have hl' : left = least := Int32.toInt_inj.mp hl
      have hm' : m.toInt.toNat = m0 := by omega
      have q := h hk hr v0
      rw [hm', e1, e2, hl'] at q
      exact q h0.1 h0.2
    · exact Or.inr (Or.inl hl)
  · exact Or.inl hk
theorem upk {σ τ : ST} {k i : Nat} {v : Int32} (e : τ = sA σ 9 k (upd ((σ 9).2.2.1 k) i v)) (c : Nat) : (i = c ∧ ((τ 9).2.2.1 k c).toInt = v.toInt) ∨ (¬ i = c ∧ ((τ 9).2.2.1 k c).toInt = ((σ 9).2.2.1 k c).toInt) := by
  rw [sA_s e]
  by_cases h : i = c
  · exact Or.inl ⟨h, by rw [h, pk_us]⟩
  · exact Or.inr ⟨h, by rw [pk_un (fun q => h q.symm)]⟩
theorem upz {σ τ : ST} {k i : Nat} {v x : Int32} (e : τ = sA σ 9 k (upd ((σ 9).2.2.1 k) i (vp_nar .boolean v))) (b : 0 ≤ v.toInt ∧ v.toInt ≤ 1) (hx : (τ 9).2.2.1 k i = x) : x.toInt = v.toInt := by
  rw [← hx, sA_s e, pk_us]
  have h : v = 0 ∨ v = 1 := by
    by_cases h0 : v = 0
    · exact Or.inl h0
    · have f0 := ne_ti h0 (n := 0) (by decide)
      have f1 : (1 : Int32).toInt = 1 := by decide
      exact Or.inr (Int32.toInt_inj.mp (by omega))
  rcases h with rfl | rfl <;> decide
theorem at0 {f : Nat → Int32} {i x : Int32} (e : f i.toInt.toNat = x) : ¬ i.toInt = 0 ∨ x.toInt = (f 0).toInt := by
  by_cases h : i.toInt = 0
  · exact Or.inr (by rw [← e, h]; rfl)
  · exact Or.inl h
