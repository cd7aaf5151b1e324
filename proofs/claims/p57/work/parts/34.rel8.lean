
def FrI (σ τ : ST) : Prop := ∀ o k : Nat, (τ o).1 k = (σ o).1 k
theorem FrI.tr {σ τ υ : ST} (h1 : FrI σ τ) (h2 : FrI τ υ) : FrI σ υ := fun o k => (h2 o k).trans (h1 o k)
theorem FrI.B {σ τ : ST} {o k : Nat} {f : Nat → Int64} (e : τ = sB σ o k f) : FrI σ τ := fun q j => by
  rw [e]
  by_cases h : q = o
  · subst h; simp only [sB, if_true]
  · simp only [sB, h, if_false]
def RWN (σ τ : ST) (o : Nat) (w n : Int32) : Prop := (τ o).1 0 = 1 ∧ (τ o).1 1 = w ∧ (τ o).1 2 = n ∧ ∀ q k : Nat, q ≠ o → (τ q).1 k = (σ q).1 k
theorem RWN.mk {σ τ1 τ2 τ3 τ : ST} {o : Nat} {w n : Int32} (e1 : τ1 = sI σ o 0 1) (e2 : τ2 = sI τ1 o 1 w) (e3 : τ3 = sI τ2 o 2 n) (h : FrI τ3 τ) : RWN σ τ o w n := by
  refine ⟨?_, ?_, ?_, fun q k hq => ?_⟩
  · rw [h, e3, e2, e1]; simp [sI, va_up]
  · rw [h, e3, e2]; simp [sI, va_up]
  · rw [h, e3]; simp [sI, va_up]
  · rw [h, e3, e2, e1]; simp [sI, hq]
