theorem wAt_1 {g : Sg} {j : Nat} (h : j < nW g) (hb : nW g ≤ 24) : wAt g (nI j) = nI (gW g j) := by
  unfold wAt; rw [if_pos (kIs_tn (by omega) h), nI_clamp (by omega)]
theorem wAt_0 {g : Sg} {j : Nat} (h : ¬ j < nW g) (hj : j < 2 ^ 31) (hb : nW g ≤ 24) : wAt g (nI j) = -5 := by
  unfold wAt; rw [if_neg (by rw [kIs_fn (by omega) hj h]; decide)]
theorem sAt_1 {g : Sg} {j : Nat} (h : j < nT g) (hb : nT g ≤ 12) : sAt g (nI j) = nI (gT g j) := by
  unfold sAt; rw [if_pos (kIs_tn (by omega) h), nI_clamp (by omega)]
theorem sAt_0 {g : Sg} {j : Nat} (h : ¬ j < nT g) (hj : j < 2 ^ 31) (hb : nT g ≤ 12) : sAt g (nI j) = -5 := by
  unfold sAt; rw [if_neg (by rw [kIs_fn (by omega) hj h]; decide)]
theorem sei {x : Int32} (h : isIn x 0 11 = false) : kIs 12 x = false := by
  cases q : kIs 12 x with
  | false => rfl
  | true =>
    obtain ⟨j, hj, rfl⟩ := kIs_ex q (by decide)
    rw [isIn_i (nI_nlt (Nat.zero_le _) (by omega)) (nI_nlt (by omega) (by decide))] at h
    cases h
