theorem rV_to0 {v : Nat → Int32} {g : Sg} (h : rV v g) (ht : nT g ≤ 12) : rV (upd v 7 (v 7 + nI 1)) (oTo g 0 0) := by
  have key : ∀ x, x ≠ 7 → upd v 7 (v 7 + nI 1) x = v x := fun x a => up_n a
  refine ⟨fun j hj => ?_, ?_, ?_, fun j h6 h10 => ?_, ?_, fun j hj => ?_, ?_, fun j hj => ?_, fun x hx => ?_⟩
  · rw [key _ (by omega), h.c hj]
    show _ = if j = 7 then _ else if j = 8 then _ else if j = 9 then _ else gc g j
    rw [if_neg (by omega), if_neg (by omega), if_neg (by omega)]
  · rw [key _ (by omega)]; exact h.m
  · rw [key _ (by omega)]; exact h.k
  · show _ = if j = 7 then gc g 7 + nI 1 else if j = 8 then gc g 8 + nI 0 else if j = 9 then gc g 9 + nI (cnt (sl g) 0) else gc g j
    by_cases q7 : j = 7
    · subst q7; rw [up_s, if_pos rfl, h.a (by omega) (by omega)]
    · rw [key _ q7, if_neg q7, h.a h6 h10]
      by_cases q8 : j = 8
      · subst q8; rw [if_pos rfl]; exact (Int32.add_zero _).symm
      · rw [if_neg q8]
        by_cases q9 : j = 9
        · subst q9; rw [if_pos rfl]; exact (Int32.add_zero _).symm
        · rw [if_neg q9]
  · rw [key _ (by omega)]; exact h.t
  · have hj : j < nT g := hj
    rw [key _ (by omega)]; exact h.s hj
  · rw [key _ (by omega)]; exact h.w
  · rw [key _ (by omega)]; exact h.u hj
  · have f := h.f hx
    rw [key _ (by omega), key _ (by omega), key _ (by omega), key (49 + 7 * x + 3) (by omega), key (49 + 7 * x + 4) (by omega), key (49 + 7 * x + 5) (by omega), key (49 + 7 * x + 6) (by omega)]
    have z : ∀ w, gX (oTo g 0 0) w x = gX g w x := fun w => by
      show (if w = 1 ∧ plT g x < 0 ∧ plT g x < nT g then gX g w x + nI 1 else if w = 2 ∧ plT g x < 0 ∧ plT g x < nT g ∧ sl g (plT g x) = true then gX g w x + nI 1 else gX g w x) = _
      rw [if_neg (fun q => absurd q.2.1 (Nat.not_lt_zero _)), if_neg (fun q => absurd q.2.1 (Nat.not_lt_zero _))]
    rw [z, z, z, z]; exact f
theorem toX {g : Sg} {t s w x : Nat} : gX (oTo g t s) w x = if w = 1 ∧ plT g x < t ∧ plT g x < nT g then gX g w x + nI 1 else if w = 2 ∧ plT g x < s ∧ plT g x < nT g ∧ sl g (plT g x) = true then gX g w x + nI 1 else gX g w x := rfl
theorem toC {g : Sg} {t s j : Nat} : gc (oTo g t s) j = if j = 7 then gc g 7 + nI 1 else if j = 8 then gc g 8 + nI t else if j = 9 then gc g 9 + nI (cnt (sl g) s) else gc g j := rfl
theorem rV_to1 {v : Nat → Int32} {g : Sg} {y : Nat} (h : rV v (oTo g y y)) (ho : Ok g) (hy : y < nT g) : rV (upd (upd v (49 + 7 * gT g y + 4) (v (49 + 7 * gT g y + 4) + nI 1)) 8 (v 8 + nI 1)) (oTo g (y + 1) y) := by
  have hn := ho.n
  have hk := (ho.t y hy).1
  have hp := plT_of ho hy
  have key : ∀ x, x ≠ 8 → x ≠ 49 + 7 * gT g y + 4 → upd (upd v (49 + 7 * gT g y + 4) (v (49 + 7 * gT g y + 4) + nI 1)) 8 (v 8 + nI 1) x = v x := fun x a b => by rw [up_n a, up_n b]
  have hc : ∀ j, j ≠ 8 → gc (oTo g y y) j = gc (oTo g (y + 1) y) j := fun j a => by rw [toC, toC, if_neg a, if_neg a]
  refine ⟨fun j hj => ?_, ?_, ?_, fun j h6 h10 => ?_, ?_, fun j hj => ?_, ?_, fun j hj => ?_, fun x hx => ?_⟩
  · rw [key _ (by omega) (by omega), h.c hj]; exact hc j (by omega)
  · rw [key _ (by omega) (by omega), h.m]; exact hc 4 (by omega)
  · rw [key _ (by omega) (by omega)]; exact h.k
  · by_cases q : j = 8
    · subst q
      rw [up_s, h.a (by omega) (by omega), toC, toC]
      show gc g 8 + nI y + nI 1 = gc g 8 + nI (y + 1)
      rw [Int32.add_assoc, nI_add]
    · rw [key _ q (by omega), h.a h6 h10]; exact hc j q
  · rw [key _ (by omega) (by omega)]; exact h.t
  · have hj : j < nT g := hj
    rw [key _ (by omega) (by omega)]; exact h.s hj
  · rw [key _ (by omega) (by omega)]; exact h.w
  · have hj : j < nW g := hj
    rw [key _ (by omega) (by omega)]; exact h.u hj
  · have f := h.f hx
    rw [key (49 + 7 * x) (by omega) (by omega), key (49 + 7 * x + 1) (by omega) (by omega), key (49 + 7 * x + 2) (by omega) (by omega), key (49 + 7 * x + 3) (by omega) (by omega), key (49 + 7 * x + 5) (by omega) (by omega), key (49 + 7 * x + 6) (by omega) (by omega)]
    have z : ∀ w, w ≠ 1 → gX (oTo g y y) w x = gX (oTo g (y + 1) y) w x := fun w a => by
      rw [toX, toX, if_neg (fun q : w = 1 ∧ plT g x < y ∧ plT g x < nT g => a q.1), if_neg (fun q : w = 1 ∧ plT g x < y + 1 ∧ plT g x < nT g => a q.1)]
    refine ⟨f.1, f.2.1, f.2.2.1.trans (z 0 (by decide)), f.2.2.2.1, ?_, f.2.2.2.2.2.1.trans (z 2 (by decide)), f.2.2.2.2.2.2.trans (z 3 (by decide))⟩
    by_cases q : x = gT g y
    · rw [q, up_n (by omega), up_s, (h.f (k := gT g y) (by omega)).2.2.2.2.1, toX, toX, hp, if_neg (fun a => absurd a.2.1 (Nat.lt_irrefl _)), if_neg (fun a => absurd a.1 (by decide)), if_pos ⟨rfl, by omega, hy⟩]
    · rw [key _ (by omega) (by omega), f.2.2.2.2.1, toX, toX]
      have e : (1 = 1 ∧ plT g x < y ∧ plT g x < nT g) ↔ (1 = 1 ∧ plT g x < y + 1 ∧ plT g x < nT g) := by
        constructor
        · intro a; exact ⟨rfl, by omega, a.2.2⟩
        · intro a
          refine ⟨rfl, ?_, a.2.2⟩
          have : plT g x ≠ y := fun b => q (by have c := plT_in a.2.2; rw [b] at c; exact c.symm)
          omega
      by_cases a : (1 = 1 ∧ plT g x < y ∧ plT g x < nT g)
      · rw [if_pos a, if_pos (e.mp a)]
      · rw [if_neg a, if_neg (fun b => a (e.mpr b)), if_neg (fun c => absurd c.1 (by decide))]
theorem rV_to2 {v : Nat → Int32} {g : Sg} {y : Nat} (h : rV v (oTo g (y + 1) y)) (ho : Ok g) (hy : y < nT g) (hs : sl g y = true) : rV (upd (upd v (49 + 7 * gT g y + 5) (v (49 + 7 * gT g y + 5) + nI 1)) 9 (v 9 + nI 1)) (oTo g (y + 1) (y + 1)) := by
  have hn := ho.n
  have hk := (ho.t y hy).1
  have hp := plT_of ho hy
  have key : ∀ x, x ≠ 9 → x ≠ 49 + 7 * gT g y + 5 → upd (upd v (49 + 7 * gT g y + 5) (v (49 + 7 * gT g y + 5) + nI 1)) 9 (v 9 + nI 1) x = v x := fun x a b => by rw [up_n a, up_n b]
  have hc : ∀ j, j ≠ 9 → gc (oTo g (y + 1) y) j = gc (oTo g (y + 1) (y + 1)) j := fun j a => by rw [toC, toC, if_neg a, if_neg a]
  refine ⟨fun j hj => ?_, ?_, ?_, fun j h6 h10 => ?_, ?_, fun j hj => ?_, ?_, fun j hj => ?_, fun x hx => ?_⟩
  · rw [key _ (by omega) (by omega), h.c hj]; exact hc j (by omega)
  · rw [key _ (by omega) (by omega), h.m]; exact hc 4 (by omega)
  · rw [key _ (by omega) (by omega)]; exact h.k
  · by_cases q : j = 9
    · subst q
      rw [up_s, h.a (by omega) (by omega), toC, toC]
      show gc g 9 + nI (cnt (sl g) y) + nI 1 = gc g 9 + nI (cnt (sl g) (y + 1))
      rw [Int32.add_assoc, nI_add, cnt_s, if_pos hs]
    · rw [key _ q (by omega), h.a h6 h10]; exact hc j q
  · rw [key _ (by omega) (by omega)]; exact h.t
  · have hj : j < nT g := hj
    rw [key _ (by omega) (by omega)]; exact h.s hj
  · rw [key _ (by omega) (by omega)]; exact h.w
  · have hj : j < nW g := hj
    rw [key _ (by omega) (by omega)]; exact h.u hj
  · have f := h.f hx
    rw [key (49 + 7 * x) (by omega) (by omega), key (49 + 7 * x + 1) (by omega) (by omega), key (49 + 7 * x + 2) (by omega) (by omega), key (49 + 7 * x + 3) (by omega) (by omega), key (49 + 7 * x + 4) (by omega) (by omega), key (49 + 7 * x + 6) (by omega) (by omega)]
    have z : ∀ w, w ≠ 2 → gX (oTo g (y + 1) y) w x = gX (oTo g (y + 1) (y + 1)) w x := fun w a => by
      rw [toX, toX, if_neg (c := w = 2 ∧ plT g x < y ∧ plT g x < nT g ∧ sl g (plT g x) = true) (fun q => a q.1), if_neg (c := w = 2 ∧ plT g x < y + 1 ∧ plT g x < nT g ∧ sl g (plT g x) = true) (fun q => a q.1)]
    refine ⟨f.1, f.2.1, f.2.2.1.trans (z 0 (by decide)), f.2.2.2.1, f.2.2.2.2.1.trans (z 1 (by decide)), ?_, f.2.2.2.2.2.2.trans (z 3 (by decide))⟩
    by_cases q : x = gT g y
    · rw [q, up_n (by omega), up_s, (h.f (k := gT g y) (by omega)).2.2.2.2.2.1, toX, toX, hp, if_neg (c := 2 = 1 ∧ _) (fun a => absurd a.1 (by decide)), if_neg (c := 2 = 2 ∧ y < y ∧ _) (fun a => absurd a.2.1 (Nat.lt_irrefl _)), if_neg (c := 2 = 1 ∧ _) (fun a => absurd a.1 (by decide)), if_pos ⟨rfl, by omega, hy, hs⟩]
    · rw [key _ (by omega) (by omega), f.2.2.2.2.2.1, toX, toX]
      have e : (2 = 2 ∧ plT g x < y ∧ plT g x < nT g ∧ sl g (plT g x) = true) ↔ (2 = 2 ∧ plT g x < y + 1 ∧ plT g x < nT g ∧ sl g (plT g x) = true) := by
        constructor
        · intro a; exact ⟨rfl, by omega, a.2.2⟩
        · intro a
          refine ⟨rfl, ?_, a.2.2⟩
          have : plT g x ≠ y := fun b => q (by have c := plT_in a.2.2.1; rw [b] at c; exact c.symm)
          omega
      rw [if_neg (c := 2 = 1 ∧ plT g x < y + 1 ∧ plT g x < nT g) (fun a => absurd a.1 (by decide))]
      by_cases a : (2 = 2 ∧ plT g x < y ∧ plT g x < nT g ∧ sl g (plT g x) = true)
      · rw [if_pos a, if_pos (e.mp a), if_neg (c := 2 = 1 ∧ plT g x < y + 1 ∧ plT g x < nT g) (fun a => absurd a.1 (by decide))]
      · rw [if_neg a, if_neg (fun b => a (e.mpr b)), if_neg (c := 2 = 1 ∧ plT g x < y + 1 ∧ plT g x < nT g) (fun a => absurd a.1 (by decide))]
theorem oTo_n {g : Sg} {y : Nat} (hs : sl g y = false) : oTo g (y + 1) (y + 1) = oTo g (y + 1) y := by
  have e1 : cnt (sl g) (y + 1) = cnt (sl g) y := by rw [cnt_s, if_neg (by rw [hs]; decide)]; rfl
  unfold oTo
  rw [e1]
  refine congrArg (fun z => ((nK g, nT g, nW g), gT g, gW g, gC g, gA g, gD g, z, _)) ?_
  funext w k
  have e : (w = 2 ∧ plT g k < y + 1 ∧ plT g k < nT g ∧ sl g (plT g k) = true) ↔ (w = 2 ∧ plT g k < y ∧ plT g k < nT g ∧ sl g (plT g k) = true) := by
    constructor
    · intro a
      refine ⟨a.1, ?_, a.2.2⟩
      have : plT g k ≠ y := fun b => by have c := a.2.2.2; rw [b, hs] at c; cases c
      omega
    · intro a; exact ⟨a.1, by omega, a.2.2⟩
  by_cases q : w = 1 ∧ plT g k < y + 1 ∧ plT g k < nT g
  · rw [if_pos q, if_pos q]
  · rw [if_neg q, if_neg q]
    by_cases a : (w = 2 ∧ plT g k < y ∧ plT g k < nT g ∧ sl g (plT g k) = true)
    · rw [if_pos a, if_pos (e.mpr a)]
    · rw [if_neg a, if_neg (fun b => a (e.mp b))]
theorem rV_to3 {v : Nat → Int32} {g : Sg} {y : Nat} (h : rV v (oTo g (y + 1) y)) (hs : sl g y = false) : rV v (oTo g (y + 1) (y + 1)) := by rw [oTo_n hs]; exact h
