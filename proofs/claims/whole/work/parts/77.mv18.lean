theorem rV_I : rV (upd (upd (upd (upd (fun _ => nI 0) 0 (nI 8)) 1 (nI 10)) 2 (nI 3)) 3 (nI 4)) gI := by
  have key : ∀ i, 4 ≤ i → upd (upd (upd (upd (fun _ => nI 0) 0 (nI 8)) 1 (nI 10)) 2 (nI 3)) 3 (nI 4) i = nI 0 := fun i a => by rw [up_n (by omega), up_n (by omega), up_n (by omega), up_n (by omega)]
  have e : ∀ i, 4 ≤ i → gc gI i = nI 0 := fun i a => by
    show (if i = 0 then nI 8 else if i = 1 then nI 10 else if i = 2 then nI 3 else if i = 3 then nI 4 else nI 0) = nI 0
    rw [if_neg (by omega), if_neg (by omega), if_neg (by omega), if_neg (by omega)]
  refine ⟨fun j hj => ?_, ?_, ?_, fun j h6 h10 => ?_, ?_, fun j hj => absurd hj (Nat.not_lt_zero j), ?_, fun j hj => absurd hj (Nat.not_lt_zero j), fun k hk => ?_⟩
  · rcases (by omega : j = 0 ∨ j = 1 ∨ j = 2 ∨ j = 3) with rfl | rfl | rfl | rfl <;> rfl
  · rw [key _ (by omega), e _ (by omega)]
  · exact key _ (by omega)
  · rw [key _ (by omega), e _ (by omega)]
  · exact key _ (by omega)
  · exact key _ (by omega)
  · exact ⟨key _ (by omega), key _ (by omega), key _ (by omega), key _ (by omega), key _ (by omega), key _ (by omega), key _ (by omega)⟩
