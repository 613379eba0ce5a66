theorem pTs_z {tx : Nat → Nat} {n i : Nat} (h : i = 0) : pTs tx n i = pTh tx n i := by
  subst h
  exact pTs_0
theorem pF_1 {tx : Nat → Nat} {n f i : Nat} (h : ¬ (pTs tx n i).1 = true) : pF tx n (f + 1) i = (false, (pTs tx n i).2.1) := if_neg h
theorem pF_2 {tx : Nat → Nat} {n f i : Nat} (h : (pTs tx n i).1 = true) (h2 : n ≤ (pTs tx n i).2.1) : pF tx n (f + 1) i = (true, 1) := by
  unfold pF
  rw [if_pos h, if_pos h2]
theorem pF_3 {tx : Nat → Nat} {n f i : Nat} (h : (pTs tx n i).1 = true) (h2 : ¬ n ≤ (pTs tx n i).2.1) (h3 : (pF tx n f (pTs tx n i).2.1).1 = true) : pF tx n (f + 1) i = (true, (pF tx n f (pTs tx n i).2.1).2 + 1) := (if_pos h).trans ((if_neg h2).trans (if_pos h3))
theorem pF_4 {tx : Nat → Nat} {n f i : Nat} (h : (pTs tx n i).1 = true) (h2 : ¬ n ≤ (pTs tx n i).2.1) (h3 : ¬ (pF tx n f (pTs tx n i).2.1).1 = true) : pF tx n (f + 1) i = (false, (pF tx n f (pTs tx n i).2.1).2) := (if_pos h).trans ((if_neg h2).trans (if_neg h3))
/-- the whole from the first place, told by the rest from the place i, behind k things -/
def pRe (tx : Nat → Nat) (n k f i : Nat) : Prop := (pF tx n 61 0).1 = (pF tx n f i).1 ∧ ((pF tx n f i).1 = true → (pF tx n 61 0).2 = (pF tx n f i).2 + k) ∧ ((pF tx n f i).1 = false → (pF tx n 61 0).2 = (pF tx n f i).2)
theorem pRe_0 (tx : Nat → Nat) (n : Nat) : pRe tx n 0 61 0 := ⟨rfl, fun _ => rfl, fun _ => rfl⟩
theorem pRe_s {tx : Nat → Nat} {n k f i : Nat} (hp : pRe tx n k (f + 1) i) (h : (pTs tx n i).1 = true) (h2 : ¬ n ≤ (pTs tx n i).2.1) : pRe tx n (k + 1) f (pTs tx n i).2.1 := by
  unfold pRe at hp ⊢
  cases h3 : (pF tx n f (pTs tx n i).2.1).1 with
  | true =>
    rw [pF_3 h h2 h3] at hp
    exact ⟨hp.1, fun _ => (hp.2.1 rfl).trans (by omega), (fun q => by cases q)⟩
  | false =>
    rw [pF_4 h h2 (by rw [h3]; decide)] at hp
    exact ⟨hp.1, (fun q => by cases q), fun _ => hp.2.2 rfl⟩
theorem pRe_f {tx : Nat → Nat} {n k f i : Nat} (hp : pRe tx n k (f + 1) i) (h : (pTs tx n i).1 = false) : (pF tx n 61 0).1 = false ∧ (pF tx n 61 0).2 = (pTs tx n i).2.1 := by
  unfold pRe at hp
  rw [pF_1 (f := f) (i := i) (by rw [h]; decide)] at hp
  exact ⟨hp.1, hp.2.2 rfl⟩
theorem pRe_e {tx : Nat → Nat} {n k f i : Nat} (hp : pRe tx n k (f + 1) i) (h : (pTs tx n i).1 = true) (h2 : n ≤ (pTs tx n i).2.1) : (pF tx n 61 0).1 = true ∧ (pF tx n 61 0).2 = k + 1 := by
  unfold pRe at hp
  rw [pF_2 h h2] at hp
  exact ⟨hp.1, (hp.2.1 rfl).trans (Nat.add_comm _ _)⟩
theorem kb_cast {cc : ByteArray} {rest : List Value} {p : Program} {l : Launch} {e : Env} {R : Room} {s : State} {m : MethodId} {args : Array Value} {below : List Frame} {meth : Method} {c : Code} {H H0 : Heap} {locs : List Loc} {cells slots : Nat} {pc : Nat} {ls : Array Slot} {Q : State → Prop} {D : va_G} {A : Nat → Prop} {tys : List (ClassId × FieldType)} {ws : va_W}
    (hx : p.tables.exec = Jvm.exec) (hb : c.code = cc) (hK : va_K D vwCl tys s) (hP : va_P D vwCl ws H) (hD : va_D A ws) (hS : va_S A H0 H locs) (q0 t0 : Nat) {a : Nat} {cA : ClassId} {n : Nat} {f : Nat → Int32} (ha : ws[q0]? = some (a, .inl (cA, n, .inl f))) (ht : tys[t0]? = some (cA, .char)) {i x : Nat} (hn : n ≤ 2 ^ 30) (hi : i < n) (hx6 : x < 65536) (hdg : decode cc pc = .ok (.castore, 1))
    (kk : ∀ (H1 : Heap) (locs1 : List Loc), va_P D vwCl (ws.set q0 (a, .inl (cA, n, .inl (upd f i (nI x))))) H1 → va_D A (ws.set q0 (a, .inl (cA, n, .inl (upd f i (nI x))))) → va_S A H0 H1 locs1 → W p l e R s m args below meth c H1 locs1 cells slots Q (F0 m (pc + 1) ls rest)) : W p l e R s m args below meth c H locs cells slots Q (F0 m pc ls (.int (nI x) :: .int (nI i) :: .ref a :: rest)) := by
  refine va_cast hx hb hK hP hD hS q0 t0 ha ht (vp_in_nI hi (by omega)) hdg ?_
  have h1 := (pk_charN hx6).1
  have h2 : vp_nar .char (nI x) = nI x := by
    unfold vp_nar
    rw [h1]
  rw [nI_clamp (by omega), h2]
  exact kk
theorem tOk_add {t : Nat → Int32} {tx : Nat → Nat} {n x : Nat} (h : tOk t tx n) (hn : n < 60) (hx : x < 65536) : tOk (upd t n (nI x)) (un tx n x) (n + 1) := by
  refine ⟨by omega, fun i hi => ?_⟩
  by_cases q : i = n
  · rw [q, up_s, un_s]
    exact ⟨rfl, hx⟩
  · rw [up_n q, un_n q]
    exact h.2 i (by omega)
