theorem rV_ar1 {v : Nat → Int32} {g : Sg} {k : Nat} (h : rV v g) (hk : k < 24) (hw : nW g < 24) (ht : nT g ≤ 12) : rV (upd (upd (upd v (49 + 7 * k + 3) (nI 1)) (25 + nW g) (nI k)) 24 (nI (nW g + 1))) (oAr1 g k) := by
  have key : ∀ x, x ≠ 49 + 7 * k + 3 → x ≠ 25 + nW g → x ≠ 24 → upd (upd (upd v (49 + 7 * k + 3) (nI 1)) (25 + nW g) (nI k)) 24 (nI (nW g + 1)) x = v x := fun x a b c => by rw [up_n c, up_n b, up_n a]
  refine ⟨fun j hj => ?_, ?_, ?_, fun j h6 h10 => ?_, ?_, fun j hj => ?_, ?_, fun j hj => ?_, fun x hx => ?_⟩
  · rw [key _ (by omega) (by omega) (by omega)]; exact h.c hj
  · rw [key _ (by omega) (by omega) (by omega)]; exact h.m
  · rw [key _ (by omega) (by omega) (by omega)]; exact h.k
  · rw [key _ (by omega) (by omega) (by omega)]; exact h.a h6 h10
  · rw [key _ (by omega) (by omega) (by omega)]; exact h.t
  · have hj : j < nT g := hj
    rw [key _ (by omega) (by omega) (by omega)]; exact h.s hj
  · rw [up_s]; rfl
  · have hj : j < nW g + 1 := hj
    show _ = nI (un (gW g) (nW g) k j)
    rw [up_n (by omega)]
    by_cases q : j = nW g
    · subst q; rw [up_s, un_s]
    · rw [up_n (by omega), up_n (by omega), un_n q]; exact h.u (by omega)
  · have f := h.f hx
    rw [key _ (by omega) (by omega) (by omega), key _ (by omega) (by omega) (by omega), key _ (by omega) (by omega) (by omega), key (49 + 7 * x + 4) (by omega) (by omega) (by omega), key (49 + 7 * x + 5) (by omega) (by omega) (by omega), key (49 + 7 * x + 6) (by omega) (by omega) (by omega)]
    refine ⟨f.1, f.2.1, f.2.2.1, ?_, f.2.2.2.2.1, f.2.2.2.2.2.1, f.2.2.2.2.2.2⟩
    show _ = nI (un (gD g) k 1 x)
    by_cases q : x = k
    · subst q; rw [up_n (by omega), up_n (by omega), up_s, un_s]
    · rw [key _ (by omega) (by omega) (by omega), un_n q]; exact f.2.2.2.1
theorem rV_si1 {v vo : Nat → Int32} {g : Sg} (h : rV v g) (hk : gW g 0 < 24) (hw : 0 < nW g) (hw4 : nW g ≤ 24) (ht : nT g < 12) (tk : tkO v vo 25 24 0 (nW g)) : rV (upd (upd (upd vo (49 + 7 * gW g 0 + 3) (nI 2)) (12 + nT g) (nI (gW g 0))) 11 (nI (nT g + 1))) (oSi1 g) := by
  obtain ⟨t1, t2, t3⟩ := tk
  have key0 : ∀ x, x ≠ 49 + 7 * gW g 0 + 3 → x ≠ 12 + nT g → x ≠ 11 → upd (upd (upd vo (49 + 7 * gW g 0 + 3) (nI 2)) (12 + nT g) (nI (gW g 0))) 11 (nI (nT g + 1)) x = vo x := fun x a b c => by rw [up_n c, up_n b, up_n a]
  have key : ∀ x, x ≠ 49 + 7 * gW g 0 + 3 → x ≠ 12 + nT g → x ≠ 11 → (x < 24 ∨ 49 ≤ x) → upd (upd (upd vo (49 + 7 * gW g 0 + 3) (nI 2)) (12 + nT g) (nI (gW g 0))) 11 (nI (nT g + 1)) x = v x := fun x a b c d => by rw [key0 x a b c, t3 x (by omega) (by omega)]
  refine ⟨fun j hj => ?_, ?_, ?_, fun j h6 h10 => ?_, ?_, fun j hj => ?_, ?_, fun j hj => ?_, fun x hx => ?_⟩
  · rw [key _ (by omega) (by omega) (by omega) (by omega)]; exact h.c hj
  · rw [key _ (by omega) (by omega) (by omega) (by omega)]; exact h.m
  · rw [key _ (by omega) (by omega) (by omega) (by omega)]; exact h.k
  · rw [key _ (by omega) (by omega) (by omega) (by omega)]; exact h.a h6 h10
  · rw [up_s]; rfl
  · have hj : j < nT g + 1 := hj
    show _ = nI (un (gT g) (nT g) (gW g 0) j)
    rw [up_n (by omega)]
    by_cases q : j = nT g
    · subst q; rw [up_s, un_s]
    · rw [up_n (by omega), up_n (by omega), un_n q, t3 _ (by omega) (by omega)]; exact h.s (by omega)
  · rw [key0 _ (by omega) (by omega) (by omega)]; exact t2
  · have hj : j < nW g - 1 := hj
    show _ = nI (nDel (gW g) 0 j)
    rw [key0 _ (by omega) (by omega) (by omega), t1 j hj, if_neg (Nat.not_lt_zero j)]
    unfold nDel
    rw [if_pos (Nat.zero_le j)]
    exact h.u (j := j + 1) (by omega)
  · have f := h.f hx
    rw [key _ (by omega) (by omega) (by omega) (by omega), key _ (by omega) (by omega) (by omega) (by omega), key _ (by omega) (by omega) (by omega) (by omega), key (49 + 7 * x + 4) (by omega) (by omega) (by omega) (by omega), key (49 + 7 * x + 5) (by omega) (by omega) (by omega) (by omega), key (49 + 7 * x + 6) (by omega) (by omega) (by omega) (by omega)]
    refine ⟨f.1, f.2.1, f.2.2.1, ?_, f.2.2.2.2.1, f.2.2.2.2.2.1, f.2.2.2.2.2.2⟩
    show _ = nI (un (gD g) (gW g 0) 2 x)
    by_cases q : x = gW g 0
    · rw [q, up_n (by omega), up_n (by omega), up_s, un_s]
    · rw [key _ (by omega) (by omega) (by omega) (by omega), un_n q]; exact f.2.2.2.1
theorem oArr_m {g h : Sg} {m : Nat} (hh : Ok h) (he : oArr' g = oArr m h) (hc : cA h ≤ m) (hx : nx h ≠ 24) : oArr' g = oArr (m - 1) (oAr1 h (nx h)) ∧ cA (oAr1 h (nx h)) ≤ m - 1 ∧ 1 ≤ m := by
  have := cA_1 hh hx
  refine ⟨?_, by omega, by omega⟩
  rw [he, show m = m - 1 + 1 by omega, oArr, if_neg hx]; rfl
