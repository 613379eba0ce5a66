/-- what holds of a banquet up to the minute M -/
def MI (M : Nat) (m : Mo) : Prop := Iv M (mo_g m) ∧ Iv M (mo_gs m) ∧ mo_hn m ≤ 4 ∧ ∀ k, k < mo_hn m → Iv M (mo_h m k)
/-- two banquets, the second one's kings twice as old -/
def PR (M : Nat) (m m2 : Mo) : Prop := MI M m ∧ mo_g m2 = dbl (mo_g m) ∧ mo_hn m2 = mo_hn m ∧ (∀ k, mo_h m2 k = dbl (mo_h m k)) ∧ mo_kp m2 = mo_kp m ∧ mo_gs m2 = dbl (mo_gs m)
theorem MI.mono {M M' : Nat} {m : Mo} (h : MI M m) (q : M ≤ M') : MI M' m := ⟨h.1.mono q, h.2.1.mono q, h.2.2.1, fun k hk => (h.2.2.2 k hk).mono q⟩
theorem PR.mono {M M' : Nat} {m m2 : Mo} (h : PR M m m2) (q : M ≤ M') : PR M' m m2 := ⟨h.1.mono q, h.2⟩
theorem pH_all {P : Sg → Prop} {h : Nat → Sg} {hn : Nat} {g : Sg} (h4 : hn ≤ 4) (hg : P g) (hh : ∀ k, k < hn → P (h k)) : pM hn ≤ 4 ∧ ∀ k, k < pM hn → P (pH h hn g k) := by
  unfold pM pH
  by_cases q : hn < 4
  · rw [if_pos q, if_pos q]
    refine ⟨by omega, fun k hk => ?_⟩
    show P (if k = hn then g else h k)
    by_cases z : k = hn
    · rw [if_pos z]; exact hg
    · rw [if_neg z]; exact hh k (by omega)
  · rw [if_neg q, if_neg q]
    refine ⟨Nat.le_refl _, fun k hk => ?_⟩
    show P (if k = 3 then g else h (k + 1))
    by_cases z : k = 3
    · rw [if_pos z]; exact hg
    · rw [if_neg z]; exact hh (k + 1) (by omega)
theorem pH_dbl {h h2 : Nat → Sg} (hh : ∀ k, h2 k = dbl (h k)) (hn : Nat) (g : Sg) (k : Nat) : pH h2 hn (dbl g) k = dbl (pH h hn g k) := by
  unfold pH
  by_cases q : hn < 4
  · rw [if_pos q, if_pos q]
    show (if k = hn then dbl g else h2 k) = dbl (if k = hn then g else h k)
    by_cases z : k = hn
    · rw [if_pos z, if_pos z]
    · rw [if_neg z, if_neg z]; exact hh k
  · rw [if_neg q, if_neg q]
    show (if k = 3 then dbl g else h2 (k + 1)) = dbl (if k = 3 then g else h (k + 1))
    by_cases z : k = 3
    · rw [if_pos z, if_pos z]
    · rw [if_neg z, if_neg z]; exact hh (k + 1)
theorem moA_n {m : Mo} {r : Int32} {g1 : Sg} (h : r < nI 0) : moA m r g1 = m := by
  unfold moA
  rw [if_pos h, if_pos h, if_pos h]
theorem moA_y {m : Mo} {r : Int32} {g1 : Sg} (h : ¬ r < nI 0) : moA m r g1 = (g1, (pM (mo_hn m), pH (mo_h m) (mo_hn m) (mo_g m)), m.2.2) := by
  unfold moA
  rw [if_neg h, if_neg h, if_neg h]
theorem MI_act {M M' : Nat} {m : Mo} (h : MI M m) (r : Int32) {g1 : Sg} (hM : M ≤ M') (h1 : Iv M' g1) : MI M' (moA m r g1) := by
  by_cases q : r < nI 0
  · rw [moA_n q]; exact h.mono hM
  · rw [moA_y q]
    have h0 := h.mono hM
    have hp := pH_all (P := Iv M') h0.2.2.1 h0.1 h0.2.2.2
    exact ⟨h1, h0.2.1, hp.1, hp.2⟩
theorem PR_act2 {M M' : Nat} {m m2 : Mo} (h : PR M m m2) (r r2 : Int32) {g1 : Sg} (hr : r < nI 0 ↔ r2 < nI 0) (hM : M ≤ M') (h1 : Iv M' g1) : PR M' (moA m r g1) (moA m2 r2 (dbl g1)) := by
  refine ⟨MI_act h.1 r hM h1, ?_⟩
  obtain ⟨h0, a1, a2, a3, a4, a5⟩ := h
  by_cases q : r < nI 0
  · rw [moA_n q, moA_n (hr.mp q)]
    exact ⟨a1, a2, a3, a4, a5⟩
  · rw [moA_y q, moA_y (fun z => q (hr.mpr z))]
    refine ⟨rfl, ?_, fun k => ?_, a4, a5⟩
    · show pM (mo_hn m2) = pM (mo_hn m)
      rw [a2]
    · show pH (mo_h m2) (mo_hn m2) (mo_g m2) k = dbl (pH (mo_h m) (mo_hn m) (mo_g m) k)
      rw [a1, a2]
      exact pH_dbl a3 _ _ k
theorem PR_act {M M' : Nat} {m m2 : Mo} (h : PR M m m2) (o : Int32 × Sg) (hM : M ≤ M') (h1 : Iv M' o.2) : PR M' (moA m o.1 o.2) (moA m2 (dbo o).1 (dbo o).2) :=
  PR_act2 h o.1 o.1 Iff.rfl hM h1
theorem PR_undo {M : Nat} {m m2 : Mo} (h : PR M m m2) : PR M (moU m) (moU m2) := by
  obtain ⟨⟨i1, i2, i3, i4⟩, a1, a2, a3, a4, a5⟩ := h
  by_cases q : mo_hn m = 0
  · have q2 : mo_hn m2 = 0 := a2.trans q
    have e1 : moU m = (mo_g m, (mo_hn m - 1, mo_h m), m.2.2) := by unfold moU; rw [if_pos q]
    have e2 : moU m2 = (mo_g m2, (mo_hn m2 - 1, mo_h m2), m2.2.2) := by unfold moU; rw [if_pos q2]
    rw [e1, e2]
    refine ⟨⟨i1, i2, ?_, fun k hk => ?_⟩, a1, ?_, a3, a4, a5⟩
    · show mo_hn m - 1 ≤ 4
      omega
    · have hk : k < mo_hn m - 1 := hk
      exact i4 k (by omega)
    · show mo_hn m2 - 1 = mo_hn m - 1
      rw [a2]
  · have q2 : ¬ mo_hn m2 = 0 := fun z => q (a2.symm.trans z)
    have e1 : moU m = (mo_h m (mo_hn m - 1), (mo_hn m - 1, mo_h m), m.2.2) := by unfold moU; rw [if_neg q]
    have e2 : moU m2 = (mo_h m2 (mo_hn m2 - 1), (mo_hn m2 - 1, mo_h m2), m2.2.2) := by unfold moU; rw [if_neg q2]
    rw [e1, e2]
    refine ⟨⟨i4 _ (by omega), i2, ?_, fun k hk => ?_⟩, ?_, ?_, a3, a4, a5⟩
    · show mo_hn m - 1 ≤ 4
      omega
    · have hk : k < mo_hn m - 1 := hk
      exact i4 k (by omega)
    · show mo_h m2 (mo_hn m2 - 1) = dbl (mo_h m (mo_hn m - 1))
      rw [a2]
      exact a3 _
    · show mo_hn m2 - 1 = mo_hn m - 1
      rw [a2]
theorem PR_keep {M : Nat} {m m2 : Mo} (h : PR M m m2) : PR M (moKp m) (moKp m2) := by
  obtain ⟨⟨i1, i2, i3, i4⟩, a1, a2, a3, a4, a5⟩ := h
  exact ⟨⟨i1, i1, i3, i4⟩, a1, a2, a3, rfl, a1⟩
theorem PR_restore {M : Nat} {m m2 : Mo} (h : PR M m m2) : PR M (moA m (rsA (mo_kp m) (mo_gs m)) (mo_gs m)) (moA m2 (rsA (mo_kp m2) (mo_gs m2)) (mo_gs m2)) := by
  have e : rsA (mo_kp m2) (mo_gs m2) = rsA (mo_kp m) (mo_gs m) := by
    rw [h.2.2.2.2.1, h.2.2.2.2.2]
    rfl
  rw [e, h.2.2.2.2.2]
  exact PR_act2 h _ _ Iff.rfl (Nat.le_refl _) h.1.2.1
/-- the text alone differs -/
def moX (m m' : Mo) : Prop := mo_g m' = mo_g m ∧ mo_hn m' = mo_hn m ∧ mo_h m' = mo_h m ∧ mo_kp m' = mo_kp m ∧ mo_gs m' = mo_gs m
theorem moX_r (m : Mo) : moX m m := ⟨rfl, rfl, rfl, rfl, rfl⟩
theorem moX.tr {a b c : Mo} (h : moX a b) (q : moX b c) : moX a c := ⟨q.1.trans h.1, q.2.1.trans h.2.1, q.2.2.1.trans h.2.2.1, q.2.2.2.1.trans h.2.2.2.1, q.2.2.2.2.trans h.2.2.2.2⟩
theorem moX_C (m : Mo) : moX m (moC m) := ⟨rfl, rfl, rfl, rfl, rfl⟩
theorem moX_T (m : Mo) (x : Nat) : moX m (moT m x) := ⟨rfl, rfl, rfl, rfl, rfl⟩
theorem PR.tx {M : Nat} {m m2 m3 : Mo} (h : PR M m m2) (q : moX m2 m3) : PR M m m3 := by
  obtain ⟨h0, a1, a2, a3, a4, a5⟩ := h
  obtain ⟨b1, b2, b3, b4, b5⟩ := q
  exact ⟨h0, b1.trans a1, b2.trans a2, fun k => by rw [b3]; exact a3 k, b4.trans a4, b5.trans a5⟩
theorem MI_start (M : Nat) (h : Nat → Sg) (tx : Nat → Nat) (n : Nat) : MI M (gI, (0, h), (false, gI), (n, tx)) := by
  have hI : Iv M gI := ⟨gI_ok, fun _ => Nat.zero_le _, 0, Nat.zero_le _, rfl, fun k hk => absurd hk (Nat.not_lt_zero k)⟩
  exact ⟨hI, hI, Nat.zero_le _, fun k hk => absurd hk (Nat.not_lt_zero k)⟩
theorem PR_start (M : Nat) (tx tx2 : Nat → Nat) (n n2 : Nat) : PR M (gI, (0, fun _ => gI), (false, gI), (n, tx)) (gI, (0, fun _ => gI), (false, gI), (n2, tx2)) :=
  ⟨MI_start M _ _ _, rfl, rfl, fun _ => rfl, rfl, rfl⟩
/-- a text typed behind the one that is there -/
def moTs (m : Mo) : List Nat → Mo
  | [] => m
  | x :: xs => moTs (moT m x) xs
theorem moTs_app (xs : List Nat) : ∀ (m : Mo) (ys : List Nat), moTs m (xs ++ ys) = moTs (moTs m xs) ys := by
  induction xs with
  | nil => intro m ys; rfl
  | cons x xs ih => intro m ys; exact ih (moT m x) ys
theorem moX_Ts : ∀ (xs : List Nat) (m : Mo), moX m (moTs m xs)
  | [], m => moX_r m
  | x :: xs, m => (moX_T m x).tr (moX_Ts xs (moT m x))
theorem moTs_n : ∀ (xs : List Nat) (m : Mo), mo_n m + xs.length ≤ 60 → mo_n (moTs m xs) = mo_n m + xs.length ∧ (∀ i, i < mo_n m → mo_tx (moTs m xs) i = mo_tx m i) ∧ ∀ i x, xs[i]? = some x → mo_tx (moTs m xs) (mo_n m + i) = x
  | [], m, _ => ⟨rfl, fun _ _ => rfl, fun i x h => by simp at h⟩
  | x :: xs, m, h => by
    rw [List.length_cons] at h
    have e1 : mo_n (moT m x) = mo_n m + 1 := if_pos (by omega)
    have e2 : mo_tx (moT m x) = un (mo_tx m) (mo_n m) x := if_pos (by omega)
    obtain ⟨a1, a2, a3⟩ := moTs_n xs (moT m x) (by omega)
    rw [e1] at a1 a2 a3
    rw [e2] at a2
    refine ⟨?_, fun i hi => ?_, fun i y hy => ?_⟩
    · show mo_n (moTs (moT m x) xs) = _
      rw [a1, List.length_cons]
      omega
    · show mo_tx (moTs (moT m x) xs) i = _
      rw [a2 i (by omega)]
      exact un_n (by omega)
    · show mo_tx (moTs (moT m x) xs) (mo_n m + i) = y
      cases i with
      | zero =>
        rw [List.getElem?_cons_zero] at hy
        rw [Nat.add_zero, a2 _ (by omega)]
        exact (un_s _ _ _).trans (Option.some.inj hy)
      | succ i =>
        rw [List.getElem?_cons_succ] at hy
        rw [show mo_n m + (i + 1) = mo_n m + 1 + i by omega]
        exact a3 i y hy
