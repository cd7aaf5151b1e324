
def DK0 (w : SG) : Prop := (∀ b : Nat, (b : Int) < (w.2.2.1 17 2).toInt → 100 ≤ (w.2.2.1 18 (7 * b + 2)).toInt) ∧ ∀ q : Nat, (q : Int) < (w.2.2.1 17 3).toInt → (w.2.2.1 19 (4 * q)).toInt < (w.2.2.1 17 2).toInt
theorem DK0.mv {w v : SG} (h : DK0 w) (e1 : v.2.2.1 17 = w.2.2.1 17) (e2 : v.2.2.1 18 = w.2.2.1 18) (e3 : v.2.2.1 19 = w.2.2.1 19) : DK0 v := by
  unfold DK0
  rw [e1, e2, e3]
  exact h
def HK (w : SG) : Prop := 100 ≤ (w.2.2.1 18 (7 * (w.1 28).toInt.toNat + 2)).toInt
theorem HK.mv {w v : SG} (h : HK w) (e1 : v.2.2.1 18 = w.2.2.1 18) (e2 : v.1 28 = w.1 28) : HK v := by
  unfold HK
  rw [e1, e2]
  exact h
theorem HK.to {w : SG} (h : HK w) {x : Int32} (e : w.1 28 = x) {j : Nat} (hj : j = 7 * x.toInt.toNat + 2) : 100 ≤ (w.2.2.1 18 j).toInt := by
  rw [hj, ← e]; exact h
theorem DK0.hk {w v : SG} (h : DK0 w) {q : Nat} (hq : (q : Int) < (w.2.2.1 17 3).toInt) {x : Int32} (ex : w.2.2.1 19 (4 * q) = x) (h0 : 0 ≤ x.toInt) (e1 : v.2.2.1 18 = w.2.2.1 18) (e2 : v.1 28 = x) : HK v := by
  unfold HK
  rw [e1, e2]
  refine h.1 _ ?_
  have := h.2 q hq
  rw [ex] at this
  omega
def bitF : Nat → Int32 → Int32 → Int32
  | 0, n, _ => n
  | k + 1, n, v => if v = 0 then n else bitF k (n + 1) (v &&& (v - 1))
def bitT (v : Int32) : Int32 := bitF v.toBitVec.toNat 0 v
def bitI (n v t : Int32) : Prop := ∃ k : Nat, v.toBitVec.toNat ≤ k ∧ bitF k n v = t
theorem bitI.start {v : Int32} : bitI 0 v (bitT v) := ⟨_, Nat.le_refl _, rfl⟩
theorem bit_lt {v y x : Int32} (h : ¬ v = 0) (ey : y = v - 1) (ex : x = v &&& y) : x.toBitVec.toNat < v.toBitVec.toNat := by
  have hv : v.toBitVec.toNat ≠ 0 := fun q => h (Int32.toBitVec_inj.mp (BitVec.eq_of_toNat_eq (by rw [q]; rfl)))
  have h1 : y.toBitVec.toNat = v.toBitVec.toNat - 1 := by
    rw [ey, Int32.toBitVec_sub, BitVec.toNat_sub]
    have := v.toBitVec.isLt
    have e1 : (1 : Int32).toBitVec.toNat = 1 := by decide
    rw [e1]
    omega
  have h2 : x.toBitVec.toNat ≤ y.toBitVec.toNat := by
    rw [ex, Int32.toBitVec_and, BitVec.toNat_and]
    exact Nat.and_le_right
  omega
theorem bitI.step {n v t y x n' : Int32} (h : bitI n v t) (hv : ¬ v = 0) (ey : y = v - 1) (ex : x = v &&& y) (en : n' = n + 1) : bitI n' x t := by
  obtain ⟨k, hk, e⟩ := h
  have hl := bit_lt hv ey ex
  cases k with
  | zero => omega
  | succ k =>
    refine ⟨k, by omega, ?_⟩
    rw [bitF, if_neg hv] at e
    rw [en, ex, ey]
    exact e
theorem bitI.stop {n t : Int32} (h : bitI n 0 t) : n = t := by
  obtain ⟨k, hk, e⟩ := h
  cases k with
  | zero => exact e
  | succ k => rw [bitF, if_pos rfl] at e; exact e
def cl (s : Nat) : Nat → Int
  | 0 => 0
  | p + 1 => cl s p + (if s.testBit p then 1 else 0)
theorem cl_a : ∀ s, s < 512 → (bitT (nI s)).toInt ≤ 3 → ∀ p, p < 10 → cl s p ≤ 3 := by decide +kernel
theorem cl_b : ∀ s, s < 512 → ∀ p, p < 9 → (((nI s >>> (nI p &&& 31)) &&& 1 = 0 ∧ s.testBit p = false) ∨ ((nI s >>> (nI p &&& 31)) &&& 1 = 1 ∧ s.testBit p = true)) := by decide +kernel
theorem toNI {x : Int32} {N : Nat} (h0 : 0 ≤ x.toInt) (h1 : x.toInt ≤ N) : ∃ n : Nat, n ≤ N ∧ x = nI n ∧ x.toInt.toNat = n := by
  have h : ¬ x < 0 := fun q => by
    have := plt32 q
    have z : (0 : Int32).toInt = 0 := by decide
    omega
  obtain ⟨j, hj, e⟩ := nI_of h
  refine ⟨j, ?_, e, ?_⟩
  · rw [e, nI_toInt hj] at h1
    omega
  · rw [e, nI_toInt hj]; rfl
theorem cl_le {st : Int32} (h : 0 ≤ st.toInt ∧ st.toInt ≤ 511) (hb : (bitT st).toInt ≤ 3) {p : Nat} (hp : p ≤ 9) : cl st.toInt.toNat p ≤ 3 := by
  obtain ⟨n, hn, e, e2⟩ := toNI (N := 511) h.1 (by omega)
  rw [e2]
  rw [e] at hb
  exact cl_a n (by omega) hb p (by omega)
theorem cl_step {st p x y : Int32} (h : 0 ≤ st.toInt ∧ st.toInt ≤ 511) (hp : 0 ≤ p.toInt ∧ p.toInt ≤ 8) (ex : x = st >>> (p &&& 31)) (ey : y = x &&& 1) : (y.toInt = 0 ∧ cl st.toInt.toNat (p.toInt.toNat + 1) = cl st.toInt.toNat p.toInt.toNat) ∨ (y.toInt = 1 ∧ cl st.toInt.toNat (p.toInt.toNat + 1) = cl st.toInt.toNat p.toInt.toNat + 1) := by
  obtain ⟨n, hn, e, e2⟩ := toNI (N := 511) h.1 (by omega)
  obtain ⟨q, hq, e3, e4⟩ := toNI (N := 8) hp.1 (by omega)
  rw [e2, e4]
  have z0 : (0 : Int32).toInt = 0 := by decide
  have z1 : (1 : Int32).toInt = 1 := by decide
  rcases cl_b n (by omega) q (by omega) with ⟨a, b⟩ | ⟨a, b⟩
  · refine Or.inl ⟨by rw [ey, ex, e, e3, a]; exact z0, ?_⟩
    show cl n q + (if n.testBit q then 1 else 0) = cl n q
    rw [b]; simp
  · refine Or.inr ⟨by rw [ey, ex, e, e3, a]; exact z1, ?_⟩
    show cl n q + (if n.testBit q then 1 else 0) = cl n q + 1
    rw [b]; simp
def sizeF (n : Int32) : Int32 := if n < 0 then -n else n
def moveF (kind s o : Int32) : Int32 := if kind = 2 then sizeF (s - o) else bitT (s ^^^ o)
def goV (mv hw slr d kind p q : Int32) : Int32 := if hw < mv then 0 else if slr = 0 then 1 else if 1 < d then 0 else if kind = 2 then (if p = q then 1 else if 1 < mv then 0 else 1) else 1
def goF (kind hand wt slr s p o q : Int32) : Int32 := goV (moveF kind s o) (hand * wt) slr (sizeF (p - q)) kind p q
def goW (w : SG) (k a b : Nat) : Int32 := goF (w.2.2.1 18 (7 * (w.1 28).toInt.toNat)) (w.1 30) (w.2.2.1 33 k) (w.2.2.1 34 k) (w.2.2.1 26 (88 * k + a)) (w.2.2.1 25 (88 * k + a)) (w.2.2.1 26 (88 * (k + 1) + b)) (w.2.2.1 25 (88 * (k + 1) + b))
def goO (w : SG) (k a b : Nat) : Int32 := goF (w.2.2.1 18 (7 * (w.1 28).toInt.toNat)) (w.1 30) (w.2.2.1 33 k) (w.2.2.1 34 k) (w.2.2.1 45 a) (w.2.2.1 44 a) (w.2.2.1 45 b) (w.2.2.1 44 b)
def mvW (w : SG) (k a b : Nat) : Int32 := moveF (w.2.2.1 18 (7 * (w.1 28).toInt.toNat)) (w.2.2.1 26 (88 * k + a)) (w.2.2.1 26 (88 * (k + 1) + b))
