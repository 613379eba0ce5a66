/-- the model's row of numbers -/
def rV (v : Nat → Int32) (g : Sg) : Prop := (∀ i, i < 4 → v i = gc g i) ∧ v 4 = gc g 4 ∧ v 5 = nI (nK g) ∧ (∀ i, 6 ≤ i → i ≤ 10 → v i = gc g i) ∧ v 11 = nI (nT g) ∧ (∀ j, j < nT g → v (12 + j) = nI (gT g j)) ∧ v 24 = nI (nW g) ∧ (∀ j, j < nW g → v (25 + j) = nI (gW g j)) ∧
  ∀ k, k < 24 → v (49 + 7 * k) = nI (gC g k) ∧ v (49 + 7 * k + 1) = nI (gA g k) ∧ v (49 + 7 * k + 2) = gX g 0 k ∧ v (49 + 7 * k + 3) = nI (gD g k) ∧ v (49 + 7 * k + 4) = gX g 1 k ∧ v (49 + 7 * k + 5) = gX g 2 k ∧ v (49 + 7 * k + 6) = gX g 3 k
section RV
variable {v : Nat → Int32} {g : Sg}
theorem rV.c (h : rV v g) {i : Nat} (hi : i < 4) : v i = gc g i := h.1 i hi
theorem rV.m (h : rV v g) : v 4 = gc g 4 := h.2.1
theorem rV.k (h : rV v g) : v 5 = nI (nK g) := h.2.2.1
theorem rV.a (h : rV v g) {i : Nat} (h6 : 6 ≤ i) (h10 : i ≤ 10) : v i = gc g i := h.2.2.2.1 i h6 h10
theorem rV.t (h : rV v g) : v 11 = nI (nT g) := h.2.2.2.2.1
theorem rV.s (h : rV v g) {j : Nat} (hj : j < nT g) : v (12 + j) = nI (gT g j) := h.2.2.2.2.2.1 j hj
theorem rV.w (h : rV v g) : v 24 = nI (nW g) := h.2.2.2.2.2.2.1
theorem rV.u (h : rV v g) {j : Nat} (hj : j < nW g) : v (25 + j) = nI (gW g j) := h.2.2.2.2.2.2.2.1 j hj
theorem rV.f (h : rV v g) {k : Nat} (hk : k < 24) : v (49 + 7 * k) = nI (gC g k) ∧ v (49 + 7 * k + 1) = nI (gA g k) ∧ v (49 + 7 * k + 2) = gX g 0 k ∧ v (49 + 7 * k + 3) = nI (gD g k) ∧ v (49 + 7 * k + 4) = gX g 1 k ∧ v (49 + 7 * k + 5) = gX g 2 k ∧ v (49 + 7 * k + 6) = gX g 3 k := h.2.2.2.2.2.2.2.2 k hk
end RV
def inL (x lo hi : Int64) : Bool := decide (¬ x < lo ∧ ¬ hi < x)
theorem inL_32 (x : Int32) (lo hi : Int64) : inL x.toInt64 lo hi = decide (¬ x.toInt < lo.toInt ∧ ¬ hi.toInt < x.toInt) := by
  unfold inL
  have h1 : x.toInt64 < lo ↔ x.toInt < lo.toInt := by rw [Int64.lt_iff_toInt_lt, Int32.toInt_toInt64]
  have h2 : hi < x.toInt64 ↔ hi.toInt < x.toInt := by rw [Int64.lt_iff_toInt_lt, Int32.toInt_toInt64]
  simp only [h1, h2]
theorem isIn_I (x : Int32) (lo hi : Nat) : isIn x lo hi = decide (¬ x.toInt < (nI lo).toInt ∧ ¬ (nI hi).toInt < x.toInt) := by
  unfold isIn
  simp only [Int32.lt_iff_toInt_lt]
theorem kIs_I (x : Int32) (n : Nat) : kIs n x = decide (¬ x.toInt < (nI 0).toInt ∧ x.toInt < (nI n).toInt) := by
  unfold kIs
  simp only [Int32.lt_iff_toInt_lt]
theorem inL_kIs {x : Int32} {n : Nat} (hn : n ≤ 24) : inL x.toInt64 (lN 0) ((nI n).toInt64 - lN 1) = kIs n x := by
  rw [inL_32, kIs_I]
  have e : ((nI n).toInt64 - lN 1).toInt = (nI n).toInt - 1 := by
    have : ∀ k : Fin 25, ((nI k.val).toInt64 - lN 1).toInt = (nI k.val).toInt - 1 := by decide
    exact this ⟨n, by omega⟩
  rw [e, show (lN 0).toInt = (nI 0).toInt from by decide]
  congr 1
  apply propext
  constructor <;> rintro ⟨a, b⟩ <;> exact ⟨a, by omega⟩
