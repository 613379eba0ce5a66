theorem inL_n {a lo hi : Nat} (ha : a < 2 ^ 31) (hl : lo < 2 ^ 31) (hh : hi < 2 ^ 31) : inL (nI a).toInt64 (nI lo).toInt64 (nI hi).toInt64 = decide (lo ≤ a ∧ a ≤ hi) := by
  rw [inL_32, Int32.toInt_toInt64, Int32.toInt_toInt64, nI_toInt ha, nI_toInt hl, nI_toInt hh]
  congr 1
  apply propext
  omega
def hre (tx : Nat → Nat) (n i lo hi : Nat) : Bool := decide (i < n ∧ lo ≤ tx i ∧ tx i ≤ hi)
theorem hre_1 {tx : Nat → Nat} {n i lo hi : Nat} (h : i < n) (c : decide (lo ≤ tx i ∧ tx i ≤ hi) = true) : nI 1 = kb_b (hre tx n i lo hi) := kb_d1 ⟨h, of_decide_eq_true c⟩
theorem hre_0 {tx : Nat → Nat} {n i lo hi : Nat} (c : decide (lo ≤ tx i ∧ tx i ≤ hi) = false) : nI 0 = kb_b (hre tx n i lo hi) := kb_d0 (fun q => of_decide_eq_false c q.2)
theorem hre_n {tx : Nat → Nat} {n i lo hi : Nat} (h : n ≤ i) : nI 0 = kb_b (hre tx n i lo hi) := kb_d0 (fun q => absurd q.1 (Nat.not_lt.mpr h))
