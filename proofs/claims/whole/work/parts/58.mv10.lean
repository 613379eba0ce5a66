theorem rV_lv0 {v : Nat → Int32} {g : Sg} {k : Nat} (h : rV v g) (hk : k < 24) (ht : nT g ≤ 12) (hw : nW g ≤ 24) : rV (upd v (49 + 7 * k + 3) (nI 3)) (oLv0 g k) := by
  have key : ∀ x, x ≠ 49 + 7 * k + 3 → upd v (49 + 7 * k + 3) (nI 3) x = v x := fun x a => up_n a
  refine ⟨fun j hj => ?_, ?_, ?_, fun j h6 h10 => ?_, ?_, fun j hj => ?_, ?_, fun j hj => ?_, fun x hx => ?_⟩
  · rw [key _ (by omega)]; exact h.c hj
  · rw [key _ (by omega)]; exact h.m
  · rw [key _ (by omega)]; exact h.k
  · rw [key _ (by omega)]; exact h.a h6 h10
  · rw [key _ (by omega)]; exact h.t
  · have hj : j < nT g := hj
    rw [key _ (by omega)]; exact h.s hj
  · rw [key _ (by omega)]; exact h.w
  · have hj : j < nW g := hj
    rw [key _ (by omega)]; exact h.u hj
  · have f := h.f hx
    rw [key (49 + 7 * x) (by omega), key (49 + 7 * x + 1) (by omega), key (49 + 7 * x + 2) (by omega), key (49 + 7 * x + 4) (by omega), key (49 + 7 * x + 5) (by omega), key (49 + 7 * x + 6) (by omega)]
    refine ⟨f.1, f.2.1, f.2.2.1, ?_, f.2.2.2.2⟩
    show _ = nI (un (gD g) k 3 x)
    by_cases q : x = k
    · subst q; rw [up_s, un_s]
    · rw [key _ (by omega), un_n q]; exact f.2.2.2.1
/-- one taken off the seats, nothing else -/
theorem rV_tkT {v vo : Nat → Int32} {g : Sg} {i : Nat} (h : rV v g) (ht : nT g ≤ 12) (hw : nW g ≤ 24) (tk : tkO v vo 12 11 i (nT g)) : rV vo ((nK g, nT g - 1, nW g), nDel (gT g) i, gW g, gC g, gA g, gD g, gX g, gc g) := by
  obtain ⟨t1, t2, t3⟩ := tk
  have key : ∀ x, x ≠ 11 → (x < 12 ∨ 12 + nT g ≤ x) → vo x = v x := t3
  refine ⟨fun j hj => ?_, ?_, ?_, fun j h6 h10 => ?_, t2, fun j hj => ?_, ?_, fun j hj => ?_, fun x hx => ?_⟩
  · rw [key _ (by omega) (by omega)]; exact h.c hj
  · rw [key _ (by omega) (by omega)]; exact h.m
  · rw [key _ (by omega) (by omega)]; exact h.k
  · rw [key _ (by omega) (by omega)]; exact h.a h6 h10
  · have hj : j < nT g - 1 := hj
    rw [t1 j hj]
    show _ = nI (nDel (gT g) i j)
    unfold nDel
    by_cases q : j < i
    · rw [if_pos q, if_neg (by omega)]; exact h.s (by omega)
    · rw [if_neg q, if_pos (by omega)]; exact h.s (j := j + 1) (by omega)
  · rw [key _ (by omega) (by omega)]; exact h.w
  · have hj : j < nW g := hj
    rw [key _ (by omega) (by omega)]; exact h.u hj
  · rw [key (49 + 7 * x) (by omega) (by omega), key (49 + 7 * x + 1) (by omega) (by omega), key (49 + 7 * x + 2) (by omega) (by omega), key (49 + 7 * x + 3) (by omega) (by omega), key (49 + 7 * x + 4) (by omega) (by omega), key (49 + 7 * x + 5) (by omega) (by omega), key (49 + 7 * x + 6) (by omega) (by omega)]
    exact h.f hx
theorem rV_tkW {v vo : Nat → Int32} {g : Sg} {i : Nat} (h : rV v g) (ht : nT g ≤ 12) (hw : nW g ≤ 24) (tk : tkO v vo 25 24 i (nW g)) : rV vo ((nK g, nT g, nW g - 1), gT g, nDel (gW g) i, gC g, gA g, gD g, gX g, gc g) := by
  obtain ⟨t1, t2, t3⟩ := tk
  have key : ∀ x, x ≠ 24 → (x < 25 ∨ 25 + nW g ≤ x) → vo x = v x := t3
  refine ⟨fun j hj => ?_, ?_, ?_, fun j h6 h10 => ?_, ?_, fun j hj => ?_, t2, fun j hj => ?_, fun x hx => ?_⟩
  · rw [key _ (by omega) (by omega)]; exact h.c hj
  · rw [key _ (by omega) (by omega)]; exact h.m
  · rw [key _ (by omega) (by omega)]; exact h.k
  · rw [key _ (by omega) (by omega)]; exact h.a h6 h10
  · rw [key _ (by omega) (by omega)]; exact h.t
  · have hj : j < nT g := hj
    rw [key _ (by omega) (by omega)]; exact h.s hj
  · have hj : j < nW g - 1 := hj
    rw [t1 j hj]
    show _ = nI (nDel (gW g) i j)
    unfold nDel
    by_cases q : j < i
    · rw [if_pos q, if_neg (by omega)]; exact h.u (by omega)
    · rw [if_neg q, if_pos (by omega)]; exact h.u (j := j + 1) (by omega)
  · rw [key (49 + 7 * x) (by omega) (by omega), key (49 + 7 * x + 1) (by omega) (by omega), key (49 + 7 * x + 2) (by omega) (by omega), key (49 + 7 * x + 3) (by omega) (by omega), key (49 + 7 * x + 4) (by omega) (by omega), key (49 + 7 * x + 5) (by omega) (by omega), key (49 + 7 * x + 6) (by omega) (by omega)]
    exact h.f hx
