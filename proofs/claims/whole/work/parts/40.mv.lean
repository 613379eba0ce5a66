/-- the model's row of numbers -/
def rV (v : Nat → Int32) (g : Sg) : Prop := (∀ i, i < 4 → v i = gc g i) ∧ v 4 = gc g 4 ∧ v 5 = nI (nK g) ∧ (∀ i, 6 ≤ i → i ≤ 10 → v i = gc g i) ∧ v 11 = nI (nT g) ∧ (∀ j, j < nT g → v (12 + j) = nI (gT g j)) ∧ v 24 = nI (nW g) ∧ (∀ j, j < nW g → v (25 + j) = nI (gW g j)) ∧
  ∀ k, k < 24 → v (49 + 7 * k) = nI (gC g k) ∧ v (49 + 7 * k + 1) = nI (gA g k) ∧ v (49 + 7 * k + 2) = gX g 0 k ∧ v (49 + 7 * k + 3) = nI (gD g k) ∧ v (49 + 7 * k + 4) = gX g 1 k ∧ v (49 + 7 * k + 5) = gX g 2 k ∧ v (49 + 7 * k + 6) = gX g 3 k
section RV
variable {v : Nat → Int32} {g : Sg}
theorem rV.c (h : rV v g) {i : Nat} (hi : i < 4) : v i = gc g i := h.1 i hi
theorem rV.m (h : rV v g) : v 4 = gc g 4 := h.2.1
theorem rV.k (h : rV v g) : v 5 = nI (nK g) := h.2.2.1
theorem rV.a (h : rV v g) {i : Nat} (h6 : 6 ≤ i) (h10 : i ≤ 10) : v i = gc g i := h.2.2.2.1 i h6 h10
theorem rV.t (h : rV v g) : v 11 = nI (nT g) := h.2.2.2.2.1
theorem rV.s (h : rV v g) {j : Nat} (hj : j < nT g) : v (12 + j) = nI (gT g j) := h.2.2.2.2.2.1 j hj
theorem rV.w (h : rV v g) : v 24 = nI (nW g) := h.2.2.2.2.2.2.1
theorem rV.u (h : rV v g) {j : Nat} (hj : j < nW g) : v (25 + j) = nI (gW g j) := h.2.2.2.2.2.2.2.1 j hj
theorem rV.f (h : rV v g) {k : Nat} (hk : k < 24) : v (49 + 7 * k) = nI (gC g k) ∧ v (49 + 7 * k + 1) = nI (gA g k) ∧ v (49 + 7 * k + 2) = gX g 0 k ∧ v (49 + 7 * k + 3) = nI (gD g k) ∧ v (49 + 7 * k + 4) = gX g 1 k ∧ v (49 + 7 * k + 5) = gX g 2 k ∧ v (49 + 7 * k + 6) = gX g 3 k := h.2.2.2.2.2.2.2.2 k hk
end RV
def inL (x lo hi : Int64) : Bool := decide (¬ x < lo ∧ ¬ hi < x)
theorem inL_32 (x : Int32) (lo hi : Int64) : inL x.toInt64 lo hi = decide (¬ x.toInt < lo.toInt ∧ ¬ hi.toInt < x.toInt) := by
  unfold inL
  have h1 : x.toInt64 < lo ↔ x.toInt < lo.toInt := by rw [Int64.lt_iff_toInt_lt, Int32.toInt_toInt64]
  have h2 : hi < x.toInt64 ↔ hi.toInt < x.toInt := by rw [Int64.lt_iff_toInt_lt, Int32.toInt_toInt64]
  simp only [h1, h2]
theorem isIn_I (x : Int32) (lo hi : Nat) : isIn x lo hi = decide (¬ x.toInt < (nI lo).toInt ∧ ¬ (nI hi).toInt < x.toInt) := by
  unfold isIn
  simp only [Int32.lt_iff_toInt_lt]
theorem kIs_I (x : Int32) (n : Nat) : kIs n x = decide (¬ x.toInt < (nI 0).toInt ∧ x.toInt < (nI n).toInt) := by
  unfold kIs
  simp only [Int32.lt_iff_toInt_lt]
theorem inL_kIs {x : Int32} {n : Nat} (hn : n ≤ 24) : inL x.toInt64 (lN 0) ((nI n).toInt64 - lN 1) = kIs n x := by
  rw [inL_32, kIs_I]
  have e : ((nI n).toInt64 - lN 1).toInt = (nI n).toInt - 1 := by
    have : ∀ k : Fin 25, ((nI k.val).toInt64 - lN 1).toInt = (nI k.val).toInt - 1 := by decide
    exact this ⟨n, by omega⟩
  rw [e, show (lN 0).toInt = (nI 0).toInt from by decide]
  congr 1
  apply propext
  constructor <;> rintro ⟨a, b⟩ <;> exact ⟨a, by omega⟩
theorem nI_sub_i {a b : Nat} (ha : a < 2 ^ 30) (hb : b < 2 ^ 30) : (nI a - nI b).toInt = (a : Int) - b := by
  have h1 : (nI a).toInt = a := nI_toInt (by omega)
  have h2 : (nI b).toInt = b := nI_toInt (by omega)
  rw [Int32.toInt_sub, h1, h2]
  exact Int.bmod_eq_of_le (by omega) (by omega)
theorem sub_pos {a b : Nat} (ha : a < 2 ^ 30) (hb : b < 2 ^ 30) : 0 < nI a - nI b ↔ b < a := by
  rw [Int32.lt_iff_toInt_lt, nI_sub_i ha hb, show (0 : Int32).toInt = 0 from by decide]; omega
theorem sub_zero {a b : Nat} (ha : a < 2 ^ 30) (hb : b < 2 ^ 30) : nI a - nI b = 0 ↔ a = b := by
  rw [← Int32.toInt_inj, nI_sub_i ha hb, show (0 : Int32).toInt = 0 from by decide]; omega
/-- greater by crown, by age, by coming earlier in the list -/
def gtr (g : Sg) (x y : Nat) : Bool := decide (key g y < key g x)
theorem gtr_1 {g : Sg} {x y : Nat} (hx : gA g x ≤ 120) (hy : gA g y ≤ 120) (h2 : x < 24) (h3 : y < 24) (h : gC g y < gC g x) : gtr g x y = true := by
  unfold gtr key; exact decide_eq_true (by omega)
theorem gtr_2 {g : Sg} {x y : Nat} (hx : gA g x ≤ 120) (hy : gA g y ≤ 120) (h2 : x < 24) (h3 : y < 24) (h : gC g x < gC g y) : gtr g x y = false := by
  unfold gtr key; exact decide_eq_false (by omega)
theorem gtr_3 {g : Sg} {x y : Nat} (h2 : x < 24) (h3 : y < 24) (h : gC g x = gC g y) (ha : gA g y < gA g x) : gtr g x y = true := by
  unfold gtr key; exact decide_eq_true (by rw [h]; omega)
theorem gtr_4 {g : Sg} {x y : Nat} (h2 : x < 24) (h3 : y < 24) (h : gC g x = gC g y) (ha : gA g x < gA g y) : gtr g x y = false := by
  unfold gtr key; exact decide_eq_false (by rw [h]; omega)
theorem gtr_5 {g : Sg} {x y : Nat} (h2 : x < 24) (h3 : y < 24) (h : gC g x = gC g y) (ha : gA g x = gA g y) : gtr g x y = decide (x < y) := by
  unfold gtr key
  rw [h, ha]
  congr 1
  apply propext
  omega
theorem pl_0 {v : Nat → Int32} {o n : Nat} {x : Int32} {i : Nat} (h : ∀ j, j < i → v (o + j) ≠ x) (h2 : v (o + i) = x) (h3 : i < n) : nI i = rFind (fun j => v (o + j)) n x := (rFind_in (m := fun j => v (o + j)) h h2 h3).symm
theorem pl_1 {v : Nat → Int32} {o n : Nat} {x : Int32} (h : ∀ j, j < n → v (o + j) ≠ x) : (-5 : Int32) = rFind (fun j => v (o + j)) n x := (rFind_out (m := fun j => v (o + j)) h).symm
theorem pl_s {v : Nat → Int32} {o : Nat} {x : Int32} {i : Nat} (h : ∀ j, j < i → v (o + j) ≠ x) (h2 : v (o + i) ≠ x) : ∀ j, j < i + 1 → v (o + j) ≠ x := fun j hj => by
  by_cases q : j = i
  · subst q; exact h2
  · exact h j (by omega)
section GT
variable {g : Sg} {x y : Nat}
theorem gti_1 (h1 : gD g x ≤ 3 ∧ 1 ≤ gC g x ∧ gC g x ≤ 9 ∧ gA g x ≤ 120) (h2 : gD g y ≤ 3 ∧ 1 ≤ gC g y ∧ gC g y ≤ 9 ∧ gA g y ≤ 120) (hx : x < 24) (hy : y < 24) (c : 0 < nI (gC g x) - nI (gC g y)) : gtr g x y = true := gtr_1 h1.2.2.2 h2.2.2.2 hx hy ((sub_pos (by omega) (by omega)).mp c)
theorem gti_2 (h1 : gD g x ≤ 3 ∧ 1 ≤ gC g x ∧ gC g x ≤ 9 ∧ gA g x ≤ 120) (h2 : gD g y ≤ 3 ∧ 1 ≤ gC g y ∧ gC g y ≤ 9 ∧ gA g y ≤ 120) (hx : x < 24) (hy : y < 24) (c : ¬ 0 < nI (gC g x) - nI (gC g y)) (d : ¬ nI (gC g x) - nI (gC g y) = 0) : gtr g x y = false := by
  have e1 : ¬ gC g y < gC g x := fun q => c ((sub_pos (by omega) (by omega)).mpr q)
  have e2 : ¬ gC g x = gC g y := fun q => d ((sub_zero (by omega) (by omega)).mpr q)
  exact gtr_2 h1.2.2.2 h2.2.2.2 hx hy (by omega)
theorem gti_3 (h1 : gD g x ≤ 3 ∧ 1 ≤ gC g x ∧ gC g x ≤ 9 ∧ gA g x ≤ 120) (h2 : gD g y ≤ 3 ∧ 1 ≤ gC g y ∧ gC g y ≤ 9 ∧ gA g y ≤ 120) (hx : x < 24) (hy : y < 24) (d : nI (gC g x) - nI (gC g y) = 0) (c : 0 < nI (gA g x) - nI (gA g y)) : gtr g x y = true := gtr_3 hx hy ((sub_zero (by omega) (by omega)).mp d) ((sub_pos (by omega) (by omega)).mp c)
theorem gti_4 (h1 : gD g x ≤ 3 ∧ 1 ≤ gC g x ∧ gC g x ≤ 9 ∧ gA g x ≤ 120) (h2 : gD g y ≤ 3 ∧ 1 ≤ gC g y ∧ gC g y ≤ 9 ∧ gA g y ≤ 120) (hx : x < 24) (hy : y < 24) (d : nI (gC g x) - nI (gC g y) = 0) (c : ¬ 0 < nI (gA g x) - nI (gA g y)) (c2 : ¬ nI (gA g x) - nI (gA g y) = 0) : gtr g x y = false := by
  have e1 : ¬ gA g y < gA g x := fun q => c ((sub_pos (by omega) (by omega)).mpr q)
  have e2 : ¬ gA g x = gA g y := fun q => c2 ((sub_zero (by omega) (by omega)).mpr q)
  exact gtr_4 hx hy ((sub_zero (by omega) (by omega)).mp d) (by omega)
theorem gti_5 (h1 : gD g x ≤ 3 ∧ 1 ≤ gC g x ∧ gC g x ≤ 9 ∧ gA g x ≤ 120) (h2 : gD g y ≤ 3 ∧ 1 ≤ gC g y ∧ gC g y ≤ 9 ∧ gA g y ≤ 120) (hx : x < 24) (hy : y < 24) (d : nI (gC g x) - nI (gC g y) = 0) (c : nI (gA g x) - nI (gA g y) = 0) : gtr g x y = decide (x < y) := gtr_5 hx hy ((sub_zero (by omega) (by omega)).mp d) ((sub_zero (by omega) (by omega)).mp c)
end GT
