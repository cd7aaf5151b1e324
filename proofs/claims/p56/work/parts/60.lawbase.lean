
def lawA (s : State) : Nat → Prop := fun q => s.heap.size ≤ q
def LX (p : Program) (s : State) (m : MethodId) (meth : Method) (c : Code) (b L : Nat) (xs : Nat → Int32) (D : va_G) (cy : Nat → ClassId) (g1 g2 : Nat → Nat) : Prop :=
  lw_At p s m meth c b L xs ∧ va_K D clz (tyl cy) s ∧ va_D (lawA s) (WD8 cy g1 z0 ++ WD9 cy g2 z0) ∧ cst8 g1 (lawA s) s s.heap ∧ cst (lawA s) s s.heap
theorem app_l {w1 w2 : va_W} {k : Nat} {q : Nat × va_E} (h : w1[k]? = some q) : (w1 ++ w2)[k]? = some q := by
  have hk : k < w1.length := (List.getElem?_eq_some_iff.mp h).1
  rw [List.getElem?_append_left hk]; exact h
theorem app_r {w1 w2 : va_W} {k : Nat} {q : Nat × va_E} (h : w2[k]? = some q) : (w1 ++ w2)[w1.length + k]? = some q := by
  rw [List.getElem?_append_right (by omega), Nat.add_sub_cancel_left]; exact h
theorem P_l {D : va_G} {w1 w2 : va_W} {H : Heap} (h : va_P D clz (w1 ++ w2) H) : va_P D clz w1 H := fun k q hk => h k q (app_l hk)
theorem P_r {D : va_G} {w1 w2 : va_W} {H : Heap} (h : va_P D clz (w1 ++ w2) H) : va_P D clz w2 H := fun k q hk => h _ q (app_r hk)
theorem D_l {A : Nat → Prop} {w1 w2 : va_W} (h : va_D A (w1 ++ w2)) : va_D A w1 := ⟨fun i j p q hi hj e => h.1 i j p q (app_l hi) (app_l hj) e, fun k q hk => h.2 k q (app_l hk)⟩
theorem D_r {A : Nat → Prop} {w1 w2 : va_W} (h : va_D A (w1 ++ w2)) : va_D A w2 := ⟨fun i j p q hi hj e => by
  have := h.1 _ _ p q (app_r hi) (app_r hj) e
  omega, fun k q hk => h.2 _ q (app_r hk)⟩
theorem apart {A : Nat → Prop} {w1 w2 : va_W} (h : va_D A (w1 ++ w2)) {i j : Nat} {p q : Nat × va_E} (hi : w1[i]? = some p) (hj : w2[j]? = some q) : p.1 ≠ q.1 := fun e => by
  have := h.1 _ _ p q (app_l hi) (app_r hj) e
  have hk : i < w1.length := (List.getElem?_eq_some_iff.mp hi).1
  omega
theorem kp9 {D : va_G} {A : Nat → Prop} {cy : Nat → ClassId} {g1 g2 : Nat → Nat} {σ : ST} {H H1 : Heap} (hDD : va_D A (WD8 cy g1 z0 ++ WD9 cy g2 z0)) (hP : va_P D clz (WD9 cy g2 σ) H) (hk : ∀ q : Nat, q < H.size → ¬ A8 cy g1 H.size q → H1[q]? = H[q]?) : va_P D clz (WD9 cy g2 σ) H1 :=
  hP.kept (fun k q h => hk q.1 ((hP k q h).lt) (fun hA => by
    rcases hA with ⟨k', e, h'⟩ | h'
    · obtain ⟨e2, h2⟩ := map_at (WD9_m (σ := z0) (τ := σ)) h
      exact apart hDD h' h2 rfl
    · have := (hP k q h).lt
      omega))
theorem kp8 {D : va_G} {A : Nat → Prop} {cy : Nat → ClassId} {g1 g2 : Nat → Nat} {σ : ST} {H H1 : Heap} (hDD : va_D A (WD8 cy g1 z0 ++ WD9 cy g2 z0)) (hP : va_P D clz (WD8 cy g1 σ) H) (hk : ∀ q : Nat, q < H.size → ¬ A9 cy g2 H.size q → H1[q]? = H[q]?) : va_P D clz (WD8 cy g1 σ) H1 :=
  hP.kept (fun k q h => hk q.1 ((hP k q h).lt) (fun hA => by
    rcases hA with ⟨k', e, h'⟩ | h'
    · obtain ⟨e2, h2⟩ := map_at (WD8_m (σ := z0) (τ := σ)) h
      exact apart hDD h2 h' rfl
    · have := (hP k q h).lt
      omega))
theorem A8_law {s : State} {cy : Nat → ClassId} {g1 : Nat → Nat} {w2 : va_W} (hDD : va_D (lawA s) (WD8 cy g1 z0 ++ w2)) : A8 cy g1 s.heap.size = lawA s := funext (fun q => propext ⟨fun h => by
  rcases h with ⟨k, e, h⟩ | h
  · exact hDD.2 k (q, e) (app_l h)
  · exact h, fun h => Or.inr h⟩)
theorem A9_law {s : State} {cy : Nat → ClassId} {g2 : Nat → Nat} {w1 : va_W} (hDD : va_D (lawA s) (w1 ++ WD9 cy g2 z0)) : A9 cy g2 s.heap.size = lawA s := funext (fun q => propext ⟨fun h => by
  rcases h with ⟨k, e, h⟩ | h
  · exact hDD.2 _ (q, e) (app_r h)
  · exact h, fun h => Or.inr h⟩)
