
abbrev SG : Type := (Nat → Int32) × (Nat → Int64) × (Nat → Nat → Int32) × (Nat → Nat → Int64)
abbrev ST : Type := Nat → SG
def sI (σ : ST) (o k : Nat) (v : Int32) : ST := fun q => if q = o then (va_up (σ o).1 k v, (σ o).2) else σ q
def sL (σ : ST) (o k : Nat) (v : Int64) : ST := fun q => if q = o then ((σ o).1, va_up (σ o).2.1 k v, (σ o).2.2) else σ q
def sA (σ : ST) (o k : Nat) (v : Nat → Int32) : ST := fun q => if q = o then ((σ o).1, (σ o).2.1, va_up (σ o).2.2.1 k v, (σ o).2.2.2) else σ q
def sB (σ : ST) (o k : Nat) (v : Nat → Int64) : ST := fun q => if q = o then ((σ o).1, (σ o).2.1, (σ o).2.2.1, va_up (σ o).2.2.2 k v) else σ q
def z0 : ST := fun _ => (fun _ => 0, fun _ => 0, fun _ _ => 0, fun _ _ => 0)
theorem up_s {α : Type} {f : Nat → α} {k : Nat} {v : α} : va_up f k v k = v := by simp [va_up]
theorem up_n {α : Type} {f : Nat → α} {k j : Nat} {v : α} (h : (j == k) = false) : va_up f k v j = f j := by
  have : ¬ j = k := by simpa using h
  simp [va_up, this]
/-- what may change -/
def Fr (F : Nat → Nat → Bool) (σ τ : ST) : Prop := ∀ o k : Nat, F o k = false → (τ o).1 k = (σ o).1 k ∧ (τ o).2.1 k = (σ o).2.1 k ∧ (τ o).2.2.1 k = (σ o).2.2.1 k ∧ (τ o).2.2.2 k = (σ o).2.2.2 k
theorem Fr.rf {F : Nat → Nat → Bool} {σ : ST} : Fr F σ σ := fun _ _ _ => ⟨rfl, rfl, rfl, rfl⟩
theorem Fr.tr {F G : Nat → Nat → Bool} {σ τ υ : ST} (h1 : Fr F σ τ) (h2 : Fr G τ υ) (h : ∀ o k : Nat, G o k = true → F o k = true) : Fr F σ υ := fun o k q => by
  have g : G o k = false := by
    cases e : G o k with
    | false => rfl
    | true => rw [h o k e] at q; cases q
  obtain ⟨a1, a2, a3, a4⟩ := h1 o k q
  obtain ⟨b1, b2, b3, b4⟩ := h2 o k g
  exact ⟨b1.trans a1, b2.trans a2, b3.trans a3, b4.trans a4⟩
theorem Fr.I {F : Nat → Nat → Bool} {σ τ υ : ST} {o k : Nat} {v : Int32} (h1 : Fr F σ τ) (e : υ = sI τ o k v) (h : F o k = true) : Fr F σ υ := fun o' k' q => by
  obtain ⟨a1, a2, a3, a4⟩ := h1 o' k' q
  by_cases ho : o' = o
  · subst ho
    by_cases hk : k' = k
    · subst hk; rw [h] at q; cases q
    · rw [e]; simp only [sI, if_true]; refine ⟨?_, a2, a3, a4⟩; simp only [va_up, hk, if_false]; exact a1
  · rw [e]; simp only [sI, ho, if_false]; exact ⟨a1, a2, a3, a4⟩
theorem Fr.L {F : Nat → Nat → Bool} {σ τ υ : ST} {o k : Nat} {v : Int64} (h1 : Fr F σ τ) (e : υ = sL τ o k v) (h : F o k = true) : Fr F σ υ := fun o' k' q => by
  obtain ⟨a1, a2, a3, a4⟩ := h1 o' k' q
  by_cases ho : o' = o
  · subst ho
    by_cases hk : k' = k
    · subst hk; rw [h] at q; cases q
    · rw [e]; simp only [sL, if_true]; refine ⟨a1, ?_, a3, a4⟩; simp only [va_up, hk, if_false]; exact a2
  · rw [e]; simp only [sL, ho, if_false]; exact ⟨a1, a2, a3, a4⟩
theorem Fr.A {F : Nat → Nat → Bool} {σ τ υ : ST} {o k : Nat} {v : Nat → Int32} (h1 : Fr F σ τ) (e : υ = sA τ o k v) (h : F o k = true) : Fr F σ υ := fun o' k' q => by
  obtain ⟨a1, a2, a3, a4⟩ := h1 o' k' q
  by_cases ho : o' = o
  · subst ho
    by_cases hk : k' = k
    · subst hk; rw [h] at q; cases q
    · rw [e]; simp only [sA, if_true]; refine ⟨a1, a2, ?_, a4⟩; simp only [va_up, hk, if_false]; exact a3
  · rw [e]; simp only [sA, ho, if_false]; exact ⟨a1, a2, a3, a4⟩
theorem Fr.B {F : Nat → Nat → Bool} {σ τ υ : ST} {o k : Nat} {v : Nat → Int64} (h1 : Fr F σ τ) (e : υ = sB τ o k v) (h : F o k = true) : Fr F σ υ := fun o' k' q => by
  obtain ⟨a1, a2, a3, a4⟩ := h1 o' k' q
  by_cases ho : o' = o
  · subst ho
    by_cases hk : k' = k
    · subst hk; rw [h] at q; cases q
    · rw [e]; simp only [sB, if_true]; refine ⟨a1, a2, a3, ?_⟩; simp only [va_up, hk, if_false]; exact a4
  · rw [e]; simp only [sB, ho, if_false]; exact ⟨a1, a2, a3, a4⟩
theorem sI_s {σ τ : ST} {o k : Nat} {v : Int32} (e : τ = sI σ o k v) : (τ o).1 k = v := by rw [e]; simp [sI, va_up]
theorem sL_s {σ τ : ST} {o k : Nat} {v : Int64} (e : τ = sL σ o k v) : (τ o).2.1 k = v := by rw [e]; simp [sL, va_up]
theorem sA_s {σ τ : ST} {o k : Nat} {v : Nat → Int32} (e : τ = sA σ o k v) : (τ o).2.2.1 k = v := by rw [e]; simp [sA, va_up]
theorem sB_s {σ τ : ST} {o k : Nat} {v : Nat → Int64} (e : τ = sB σ o k v) : (τ o).2.2.2 k = v := by rw [e]; simp [sB, va_up]
def fN (a b : Nat) : Nat → Nat → Bool := fun o k => o == a && k == b
theorem sI_f {σ τ : ST} {o k : Nat} {v : Int32} (e : τ = sI σ o k v) : Fr (fN o k) σ τ := Fr.I Fr.rf e (by simp [fN])
theorem sL_f {σ τ : ST} {o k : Nat} {v : Int64} (e : τ = sL σ o k v) : Fr (fN o k) σ τ := Fr.L Fr.rf e (by simp [fN])
theorem sA_f {σ τ : ST} {o k : Nat} {v : Nat → Int32} (e : τ = sA σ o k v) : Fr (fN o k) σ τ := Fr.A Fr.rf e (by simp [fN])
theorem sB_f {σ τ : ST} {o k : Nat} {v : Nat → Int64} (e : τ = sB σ o k v) : Fr (fN o k) σ τ := Fr.B Fr.rf e (by simp [fN])
theorem map_A {ws ws' : va_W} {sz : Nat} (h : ws.map Prod.fst = ws'.map Prod.fst) (q : Nat) (hq : va_A ws sz q) : va_A ws' sz q := by
  rcases hq with ⟨k, e, hk⟩ | h'
  · have h1 : (ws.map Prod.fst)[k]? = some q := by rw [List.getElem?_map, hk]; rfl
    rw [h, List.getElem?_map] at h1
    cases hw : ws'[k]? with
    | none => rw [hw] at h1; cases h1
    | some x =>
      obtain ⟨y, e'⟩ := x
      rw [hw] at h1
      cases h1
      exact Or.inl ⟨k, e', hw⟩
  · exact Or.inr h'
theorem map_at {ws ws' : va_W} (h : ws.map Prod.fst = ws'.map Prod.fst) {k : Nat} {q : Nat × va_E} (hk : ws'[k]? = some q) : ∃ e : va_E, ws[k]? = some (q.1, e) := by
  have h1 : (ws'.map Prod.fst)[k]? = some q.1 := by rw [List.getElem?_map, hk]; rfl
  rw [← h, List.getElem?_map] at h1
  cases hw : ws[k]? with
  | none => rw [hw] at h1; cases h1
  | some x =>
    obtain ⟨y, e'⟩ := x
    rw [hw] at h1
    have h2 : y = q.1 := Option.some.inj h1
    exact ⟨e', by rw [h2]⟩
theorem map_D {A : Nat → Prop} {ws ws' : va_W} (h : ws.map Prod.fst = ws'.map Prod.fst) (hD : va_D A ws) : va_D A ws' := by
  refine ⟨fun i j p q hi hj e => ?_, fun k q hk => ?_⟩
  · obtain ⟨e1, h1⟩ := map_at h hi
    obtain ⟨e2, h2⟩ := map_at h hj
    exact hD.1 i j _ _ h1 h2 e
  · obtain ⟨e1, h1⟩ := map_at h hk
    exact (hD.2 k (q.1, e1) h1 : A q.1)
theorem A_mono {ws : va_W} {a b q : Nat} (h : a ≤ b) (hq : va_A ws b q) : va_A ws a q := hq.elim Or.inl (fun z => Or.inr (Nat.le_trans h z))
