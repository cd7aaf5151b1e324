
/-- a loop that leaves its cells as they are: from round i to round N -/
theorem loopW {p : Program} {l : Launch} {e : Env} {R : Room} {s : State} {m : MethodId} {args : Array Value} {below : List Frame} {meth : Method} {c : Code} {cells slots : Nat} {Q : State → Prop} {pc nL : Nat} {D : va_G} {ws : va_W} {A : Nat → Prop} {H0 : Heap} (lvf : Nat → List (Nat × Value)) (N : Nat)
    (hstep : ∀ i, i ≤ N → (∀ (H : Heap) (locs : List Loc) (ls : Array Slot), va_P D clz ws H → va_S A H0 H locs → lv_has ls nL (lvf (i + 1)) → i + 1 ≤ N → W p l e R s m args below meth c H locs cells slots Q (F0 m pc ls [])) → ∀ (H : Heap) (locs : List Loc) (ls : Array Slot), va_P D clz ws H → va_S A H0 H locs → lv_has ls nL (lvf i) → W p l e R s m args below meth c H locs cells slots Q (F0 m pc ls [])) :
    ∀ (k i : Nat), i + k = N → ∀ (H : Heap) (locs : List Loc) (ls : Array Slot), va_P D clz ws H → va_S A H0 H locs → lv_has ls nL (lvf i) → W p l e R s m args below meth c H locs cells slots Q (F0 m pc ls []) := by
  intro k
  induction k with
  | zero =>
    intro i hi
    exact hstep i (by omega) (fun _ _ _ _ _ _ h => absurd h (by omega))
  | succ k ih =>
    intro i hi
    exact hstep i (by omega) (fun H locs ls hP hS hl _ => ih (i + 1) (by omega) H locs ls hP hS hl)
theorem lt_nle {a b : Nat} (h : ¬ nI b ≤ nI a) (ha : a < 2 ^ 31) : a < b := Nat.lt_of_not_le (fun q => h (nI_le q ha))
theorem ix_add {x y z : Int32} {a b n : Nat} (hz : z = x + y) (hx : x = nI a) (hy : y = nI b) (h : a + b < n) (hn : n < 2 ^ 31) : vp_in z n := by
  rw [hz, hx, hy, nI_add]
  exact vp_in_nI h hn
theorem to_nI {x : Int32} {N : Nat} (h0 : 0 ≤ x.toInt) (h1 : x.toInt ≤ N) : ∃ n : Nat, n ≤ N ∧ x = nI n := by
  have h : ¬ x < 0 := fun q => by
    have := plt32 q
    have z : (0 : Int32).toInt = 0 := by decide
    omega
  obtain ⟨j, hj, e⟩ := nI_of h
  refine ⟨j, ?_, e⟩
  rw [e, nI_toInt hj] at h1
  omega
