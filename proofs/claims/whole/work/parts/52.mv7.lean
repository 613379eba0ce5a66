theorem rV_tick {v : Nat → Int32} {g : Sg} (h : rV v g) (ht : nT g ≤ 12) (hw : nW g ≤ 24) : rV (upd v 4 (v 4 + nI 1)) (oTick g) := by
  have key : ∀ x, x ≠ 4 → upd v 4 (v 4 + nI 1) x = v x := fun x a => up_n a
  refine ⟨fun j hj => ?_, ?_, ?_, fun j h6 h10 => ?_, ?_, fun j hj => ?_, ?_, fun j hj => ?_, fun x hx => ?_⟩
  · rw [key _ (by omega)]; exact (h.c hj).trans (up_n (by omega)).symm
  · rw [up_s, h.m]; rfl
  · rw [key _ (by omega)]; exact h.k
  · rw [key _ (by omega)]; exact (h.a h6 h10).trans (up_n (by omega)).symm
  · rw [key _ (by omega)]; exact h.t
  · rw [key _ (by omega)]; exact h.s hj
  · rw [key _ (by omega)]; exact h.w
  · rw [key _ (by omega)]; exact h.u hj
  · rw [key _ (by omega), key _ (by omega), key _ (by omega), key (49 + 7 * x + 3) (by omega), key (49 + 7 * x + 4) (by omega), key (49 + 7 * x + 5) (by omega), key (49 + 7 * x + 6) (by omega)]
    exact h.f hx
