theorem hre_cd {tx : Nat → Nat} {n i x : Nat} (hx : x < 65536) : hre tx n i x x = decide (cd tx n i = x) := by
  unfold hre cd
  congr 1
  apply propext
  by_cases h : i < n
  · rw [if_pos h]; omega
  · rw [if_neg h]; omega
