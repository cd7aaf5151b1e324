
def lawA (s : State) : Nat → Prop := fun q => s.heap.size ≤ q
def LX (p : Program) (s : State) (m : MethodId) (meth : Method) (c : Code) (b L : Nat) (xs : Nat → Int32) (D : va_G) (cy : Nat → ClassId) (g1 g2 : Nat → Nat) : Prop :=
  lw_At p s m meth c b L xs ∧ va_K D clz (tyl cy) s ∧ va_D (lawA s) (WD8 cy g1 z0 ++ WD9 cy g2 z0) ∧ cst8 g1 (lawA s) s s.heap ∧ cst (lawA s) s s.heap
theorem app_l {w1 w2 : va_W} {k : Nat} {q : Nat × va_E} (h : w1[k]? = some q) : (w1 ++ w2)[k]? = some q := by
  have hk : k < w1.length := (List.getElem?_eq_some_iff.mp h).1
  rw [List.getElem?_append_left hk]; exact h
theorem app_r {w1 w2 : va_W} {k : Nat} {q : Nat × va_E} (h : w2[k]? = some q) : (w1 ++ w2)[w1.length + k]? = some q := by
  rw [List.getElem?_append_right (by omega), Nat.add_sub_cancel_left]; exact h
theorem P_l {D : va_G} {w1 w2 : va_W} {H : Heap} (h : va_P D clz (w1 ++ w2) H) : va_P D clz w1 H := fun k q hk => h k q (app_l hk)
theorem P_r {D : va_G} {w1 w2 : va_W} {H : Heap} (h : va_P D clz (w1 ++ w2) H) : va_P D clz w2 H := fun k q hk => h _ q (app_r hk)
theorem D_l {A : Nat → Prop} {w1 w2 : va_W} (h : va_D A (w1 ++ w2)) : va_D A w1 := ⟨fun i j p q hi hj e => h.1 i j p q (app_l hi) (app_l hj) e, fun k q hk => h.2 k q (app_l hk)⟩
theorem D_r {A : Nat → Prop} {w1 w2 : va_W} (h : va_D A (w1 ++ w2)) : va_D A w2 := ⟨fun i j p q hi hj e => by
  have := h.1 _ _ p q (app_r hi) (app_r hj) e
  omega, fun k q hk => h.2 _ q (app_r hk)⟩
theorem apart {A : Nat → Prop} {w1 w2 : va_W} (h : va_D A (w1 ++ w2)) {i j : Nat} {p q : Nat × va_E} (hi : w1[i]? = some p) (hj : w2[j]? = some q) : p.1 ≠ q.1 := fun e => by
  have := h.1 _ _ p q (app_l hi) (app_r hj) e
  have hk : i < w1.length := (List.getElem?_eq_some_iff.mp hi).1
  omega
theorem kp9 {D : va_G} {A : Nat → Prop} {cy : Nat → ClassId} {g1 g2 : Nat → Nat} {σ : ST} {H H1 : Heap} (hDD : va_D A (WD8 cy g1 z0 ++ WD9 cy g2 z0)) (hP : va_P D clz (WD9 cy g2 σ) H) (hk : ∀ q : Nat, q < H.size → ¬ A8 cy g1 H.size q → H1[q]? = H[q]?) : va_P D clz (WD9 cy g2 σ) H1 :=
  hP.kept (fun k q h => hk q.1 ((hP k q h).lt) (fun hA => by
    rcases hA with ⟨k', e, h'⟩ | h'
    · obtain ⟨e2, h2⟩ := map_at (WD9_m (σ := z0) (τ := σ)) h
      exact apart hDD h' h2 rfl
    · have := (hP k q h).lt
      omega))
theorem kp8 {D : va_G} {A : Nat → Prop} {cy : Nat → ClassId} {g1 g2 : Nat → Nat} {σ : ST} {H H1 : Heap} (hDD : va_D A (WD8 cy g1 z0 ++ WD9 cy g2 z0)) (hP : va_P D clz (WD8 cy g1 σ) H) (hk : ∀ q : Nat, q < H.size → ¬ A9 cy g2 H.size q → H1[q]? = H[q]?) : va_P D clz (WD8 cy g1 σ) H1 :=
  hP.kept (fun k q h => hk q.1 ((hP k q h).lt) (fun hA => by
    rcases hA with ⟨k', e, h'⟩ | h'
    · obtain ⟨e2, h2⟩ := map_at (WD8_m (σ := z0) (τ := σ)) h
      exact apart hDD h2 h' rfl
    · have := (hP k q h).lt
      omega))
theorem A8_law {s : State} {cy : Nat → ClassId} {g1 : Nat → Nat} {w2 : va_W} (hDD : va_D (lawA s) (WD8 cy g1 z0 ++ w2)) : A8 cy g1 s.heap.size = lawA s := funext (fun q => propext ⟨fun h => by
  rcases h with ⟨k, e, h⟩ | h
  · exact hDD.2 k (q, e) (app_l h)
  · exact h, fun h => Or.inr h⟩)
theorem A9_law {s : State} {cy : Nat → ClassId} {g2 : Nat → Nat} {w1 : va_W} (hDD : va_D (lawA s) (w1 ++ WD9 cy g2 z0)) : A9 cy g2 s.heap.size = lawA s := funext (fun q => propext ⟨fun h => by
  rcases h with ⟨k, e, h⟩ | h
  · exact hDD.2 _ (q, e) (app_r h)
  · exact h, fun h => Or.inr h⟩)
def RQ (σ : ST) (w : SG) : Prop := ∀ q : Nat, q < 4 → (((σ (5 + q)).1 0).toInt = 0 ∧ (w.2.2.1 1 q).toInt = -1) ∨ (¬ ((σ (5 + q)).1 0).toInt = 0 ∧ ¬ (w.2.2.1 1 q).toInt = -1 ∧ ((σ (5 + q)).1 1).toInt = (w.2.2.1 1 q).toInt ∧ ((σ (5 + q)).1 2).toInt = (w.2.2.1 2 q).toInt)
theorem RQ.fri {σ τ : ST} {w : SG} (h : RQ σ w) (e : FrI σ τ) : RQ τ w := fun q hq => by
  rw [e (5 + q) 0, e (5 + q) 1, e (5 + q) 2]; exact h q hq
theorem RQ.fr8 {L : List Nat} {σ τ : ST} {w : SG} (h : RQ σ w) (hF : Fr (fO L) σ τ) (hL : L.all (fun x => decide (x < 5) || decide (9 ≤ x)) = true) : RQ τ w := fun q hq => by
  have n : (5 + q) ∉ L := fun hm => by
    have := List.all_eq_true.mp hL _ hm
    simp at this
    omega
  rw [(hF (5 + q) 0 (fO_n n)).1, (hF (5 + q) 1 (fO_n n)).1, (hF (5 + q) 2 (fO_n n)).1]; exact h q hq
theorem RQ.fr9 {σ : ST} {w v : SG} (h : RQ σ w) (e1 : v.2.2.1 1 = w.2.2.1 1) (e2 : v.2.2.1 2 = w.2.2.1 2) : RQ σ v := fun q hq => by
  rw [e1, e2]; exact h q hq
theorem RQ.row {σ τ : ST} {w v : SG} {p1 p2 p3 r8 r9 : Int32} (h : RQ σ w) (h8 : (r8.toInt = 0 ∧ RWN σ τ (5 + p1.toInt.toNat) p2 p3) ∨ (¬ r8.toInt = 0 ∧ FrI σ τ)) (a8 : ((p1.toInt < 0 ∨ 3 < p1.toInt ∨ p2.toInt < 0 ∨ 3 < p2.toInt ∨ 60 < p3.toInt) ∧ r8.toInt = -2) ∨ (¬ (p1.toInt < 0 ∨ 3 < p1.toInt ∨ p2.toInt < 0 ∨ 3 < p2.toInt ∨ 60 < p3.toInt) ∧ p3.toInt < 0 ∧ r8.toInt = -3) ∨ (¬ (p1.toInt < 0 ∨ 3 < p1.toInt ∨ p2.toInt < 0 ∨ 3 < p2.toInt ∨ 60 < p3.toInt) ∧ 0 ≤ p3.toInt ∧ r8.toInt = 0)) (h9 : (r9.toInt = 0 ∧ v.2.2.1 1 = upd (w.2.2.1 1) p1.toInt.toNat p2 ∧ v.2.2.1 2 = upd (w.2.2.1 2) p1.toInt.toNat p3) ∨ (¬ r9.toInt = 0 ∧ v.2.2.1 1 = w.2.2.1 1 ∧ v.2.2.1 2 = w.2.2.1 2)) (a9 : ((p1.toInt < 0 ∨ 3 < p1.toInt ∨ p2.toInt < 0 ∨ 3 < p2.toInt ∨ 60 < p3.toInt) ∧ r9.toInt = -2) ∨ (¬ (p1.toInt < 0 ∨ 3 < p1.toInt ∨ p2.toInt < 0 ∨ 3 < p2.toInt ∨ 60 < p3.toInt) ∧ p3.toInt < 0 ∧ r9.toInt = -3) ∨ (¬ (p1.toInt < 0 ∨ 3 < p1.toInt ∨ p2.toInt < 0 ∨ 3 < p2.toInt ∨ 60 < p3.toInt) ∧ 0 ≤ p3.toInt ∧ r9.toInt = 0)) : RQ τ v := by
  rcases h8 with ⟨z8, t1, t2, t3, t4⟩ | ⟨z8, f8⟩
  · rcases h9 with ⟨z9, u1, u2⟩ | ⟨z9, u1, u2⟩
    · intro q hq
      have hp : 0 ≤ p1.toInt ∧ p1.toInt ≤ 3 ∧ 0 ≤ p2.toInt ∧ p2.toInt ≤ 3 := by omega
      by_cases hx : q = p1.toInt.toNat
      · subst hx
        rw [t1, t2, t3, u1, u2, pk_us, pk_us]
        have z : (1 : Int32).toInt = 1 := by decide
        exact Or.inr ⟨by omega, by omega, rfl, rfl⟩
      · rw [t4 _ _ (by omega), t4 _ _ (by omega), t4 _ _ (by omega), u1, u2, pk_un hx, pk_un hx]; exact h q hq
    · clear u1 u2 t1 t2 t3 t4
      omega
  · rcases h9 with ⟨z9, u1, u2⟩ | ⟨z9, u1, u2⟩
    · clear u1 u2 f8
      omega
    · exact (h.fri f8).fr9 u1 u2
theorem RQ_z : RQ z8 (z9 9) := fun q hq => by
  rcases (by omega : q = 0 ∨ q = 1 ∨ q = 2 ∨ q = 3) with rfl | rfl | rfl | rfl <;> exact Or.inl ⟨by decide, by decide⟩
def KP (σ : ST) (w : SG) : Prop := ∀ q : Nat, q < 3 → (((σ 17).2.2.1 4 q).toInt = 0 ↔ (w.2.2.1 22 q).toInt = 0)
theorem KP.eq8 {σ τ : ST} {w : SG} (h : KP σ w) (e : (τ 17).2.2.1 4 = (σ 17).2.2.1 4) : KP τ w := fun q hq => by
  rw [e]; exact h q hq
theorem KP.fr8 {L : List Nat} {σ τ : ST} {w : SG} (h : KP σ w) (hF : Fr (fO L) σ τ) (hL : L.all (fun x => !(x == 17)) = true) : KP τ w := by
  have n : 17 ∉ L := fun hm => by
    have := List.all_eq_true.mp hL _ hm
    simp at this
  exact h.eq8 (hF 17 4 (fO_n n)).2.2.1
theorem KP.fr9 {σ : ST} {w v : SG} (h : KP σ w) (e : v.2.2.1 22 = w.2.2.1 22) : KP σ v := fun q hq => by
  rw [e]; exact h q hq
theorem KP.keep {σ τ : ST} {w v : SG} {p1 r8 r9 : Int32} (h : KP σ w) (h8 : (r8.toInt = 0 ∧ (τ 17).2.2.1 4 = upd ((σ 17).2.2.1 4) p1.toInt.toNat 1) ∨ (¬ r8.toInt = 0 ∧ (τ 17).2.2.1 4 = (σ 17).2.2.1 4)) (a8 : ((p1.toInt < 0 ∨ 2 < p1.toInt) ∧ r8.toInt = -2) ∨ (0 ≤ p1.toInt ∧ p1.toInt ≤ 2 ∧ r8.toInt = 0)) (h9 : (r9.toInt = 0 ∧ v.2.2.1 22 = upd (w.2.2.1 22) p1.toInt.toNat (vp_nar .boolean 1)) ∨ (¬ r9.toInt = 0 ∧ v.2.2.1 22 = w.2.2.1 22)) (a9 : ((p1.toInt < 0 ∨ 2 < p1.toInt) ∧ r9.toInt = -2) ∨ (0 ≤ p1.toInt ∧ p1.toInt ≤ 2 ∧ r9.toInt = 0)) : KP τ v := by
  rcases h8 with ⟨z8, t1⟩ | ⟨z8, t1⟩
  · rcases h9 with ⟨z9, u1⟩ | ⟨z9, u1⟩
    · intro q hq
      rw [t1, u1]
      by_cases hx : q = p1.toInt.toNat
      · rw [hx, pk_us, pk_us]
        decide
      · rw [pk_un hx, pk_un hx]; exact h q hq
    · clear u1 t1
      omega
  · rcases h9 with ⟨z9, u1⟩ | ⟨z9, u1⟩
    · clear u1 t1
      omega
    · exact (h.eq8 t1).fr9 u1
theorem KP_z : KP z8 (z9 9) := fun q hq => Iff.rfl
theorem bk_eq {σ : ST} {w : SG} {p1 r8 r9 : Int32} (h : KP σ w) (a : (¬ (0 ≤ p1.toInt ∧ p1.toInt ≤ 2) ∧ r8.toInt = -2) ∨ (0 ≤ p1.toInt ∧ p1.toInt ≤ 2 ∧ ((σ 17).2.2.1 4 p1.toInt.toNat).toInt = 0 ∧ r8.toInt = -6) ∨ (0 ≤ p1.toInt ∧ p1.toInt ≤ 2 ∧ ¬ ((σ 17).2.2.1 4 p1.toInt.toNat).toInt = 0 ∧ r8.toInt = 0)) (b : (¬ (0 ≤ p1.toInt ∧ p1.toInt ≤ 2) ∧ r9.toInt = -2) ∨ ((0 ≤ p1.toInt ∧ p1.toInt ≤ 2) ∧ ((w).2.2.1 22 (p1.toInt.toNat)).toInt = 0 ∧ r9.toInt = -6) ∨ ((0 ≤ p1.toInt ∧ p1.toInt ≤ 2) ∧ ¬ ((w).2.2.1 22 (p1.toInt.toNat)).toInt = 0 ∧ r9.toInt = 0)) : r8.toInt = r9.toInt := by
  by_cases hi : 0 ≤ p1.toInt ∧ p1.toInt ≤ 2
  · have q0 := h p1.toInt.toNat (by omega)
    rcases a with a | a | a <;> rcases b with b | b | b <;> omega
  · rcases a with a | a | a <;> rcases b with b | b | b <;> omega
