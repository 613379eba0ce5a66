def kIs (n : Nat) (x : Int32) : Bool := decide (¬ x < nI 0 ∧ x < nI n)
theorem kIs_n {n j : Nat} (hn : n < 2 ^ 31) (hj : j < 2 ^ 31) : kIs n (nI j) = decide (j < n) := by
  unfold kIs
  by_cases h : j < n
  · rw [decide_eq_true h, decide_eq_true ⟨nI_nlt (Nat.zero_le j) hj, nI_lt h hn⟩]
  · rw [decide_eq_false h, decide_eq_false (fun q => nI_nlt (by omega) hj q.2)]
theorem kIs_neg {n : Nat} {x : Int32} (h : x < 0) : kIs n x = false := decide_eq_false (fun q => q.1 h)
theorem kIs_1 {n j : Nat} (h : j < n) (hn : n < 2 ^ 31) : kb_b (kIs n (nI j)) = nI 1 := by
  rw [kIs_n hn (by omega), decide_eq_true h]
  rfl
theorem kIs_ex {n : Nat} {x : Int32} (h : kIs n x = true) (hn : n < 2 ^ 31) : ∃ j, j < n ∧ x = nI j := by
  have := of_decide_eq_true h
  exact kb_le_in this.1 this.2 hn
/-- what a state's cells hold -/
def rF (F : Nat → Int32) (g : Sg) : Prop := ∀ k, k < 24 → F (k * 9) = nI (gC g k) ∧ F (k * 9 + 1) = nI (gA g k) ∧ F (k * 9 + 2) = gX g 0 k ∧ F (k * 9 + 3) = nI (gD g k) ∧ F (k * 9 + 6) = gX g 1 k ∧ F (k * 9 + 7) = gX g 2 k ∧ F (k * 9 + 8) = gX g 3 k
def rW (W : Nat → Int32) (g : Sg) : Prop := ∀ k, k < nK g → W k = nI (key g k)
def rC (S : Nat → Int32) (g : Sg) : Prop := ∀ i, i < 4 → S i = gc g i
def rT (T : Nat → Int32) (g : Sg) : Prop := ∀ j, j < nT g → T j = nI (gT g j)
def rM (M : Nat → Int32) (g : Sg) : Prop := ∀ j, j < nW g → M j = nI (gW g j)
def rS (f : Nat → Nat → Int32) (g : Sg) : Prop := rF (f 0) g ∧ rW (f 1) g ∧ rC (f 2) g ∧ rT (f 3) g ∧ rM (f 4) g
theorem key_lt {g : Sg} (h : Ok g) {k : Nat} (hk : k < nK g) : key g k < 2 ^ 30 := by
  have := h.k k hk
  unfold key
  omega
theorem ok_t {g : Sg} (h : Ok g) {j : Nat} (hj : j < nT g) : gT g j < 24 := by
  have := (h.t j hj).1
  have := h.n.1
  omega
theorem ok_w {g : Sg} (h : Ok g) {j : Nat} (hj : j < nW g) : gW g j < 24 := by
  have := (h.w j hj).1
  have := h.n.1
  omega
def oI (b : Bool) (n : Nat) : Int32 := if b = true then nI n else -5
theorem rT_find {T : Nat → Int32} {g : Sg} (h : Ok g) (hT : rT T g) {k : Nat} (hk : k < 24) : rFind T (nT g) (nI k) = oI (decide (plT g k < nT g)) (plT g k) := by
  by_cases q : plT g k < nT g
  · rw [decide_eq_true q]
    refine rFind_in (fun j hj e => ?_) (by rw [hT _ q, plT_in q]) q
    rw [hT j (by omega)] at e
    have e := (nI_eq (by have := ok_t h (j := j) (by omega); omega) (by omega)).mp e
    have := plT_of h (j := j) (by omega)
    rw [e] at this
    omega
  · rw [decide_eq_false q]
    refine rFind_out (fun j hj e => q ?_)
    rw [hT j hj] at e
    have e := (nI_eq (by have := ok_t h hj; omega) (by omega)).mp e
    rw [← e, plT_of h hj]
    exact hj
theorem rM_find {T : Nat → Int32} {g : Sg} (h : Ok g) (hT : rM T g) {k : Nat} (hk : k < 24) : rFind T (nW g) (nI k) = oI (decide (plW g k < nW g)) (plW g k) := by
  by_cases q : plW g k < nW g
  · rw [decide_eq_true q]
    refine rFind_in (fun j hj e => ?_) (by rw [hT _ q, plW_in q]) q
    rw [hT j (by omega)] at e
    have e := (nI_eq (by have := ok_w h (j := j) (by omega); omega) (by omega)).mp e
    have := plW_of h (j := j) (by omega)
    rw [e] at this
    omega
  · rw [decide_eq_false q]
    refine rFind_out (fun j hj e => q ?_)
    rw [hT j hj] at e
    have e := (nI_eq (by have := ok_w h hj; omega) (by omega)).mp e
    rw [← e, plW_of h hj]
    exact hj
def fwI (g : Sg) : Int32 := oI (decide (fw g < nT g - 1)) (fw g)
theorem fwI_1 {g : Sg} (h : fw g < nT g - 1) : fwI g = nI (fw g) := by
  unfold fwI
  rw [decide_eq_true h]
  rfl
theorem fwI_0 {g : Sg} (h : ¬ fw g < nT g - 1) : fwI g = -5 := by
  unfold fwI
  rw [decide_eq_false h]
  rfl
theorem nI_ne5 {n : Nat} (h : n < 2 ^ 31) : nI n ≠ -5 := fun e => by
  have := nI_pos h
  rw [e] at this
  exact this (by decide)
theorem fwI_ex {g : Sg} (h : Ok g) (q : fwI g ≠ -5) : fw g < nT g - 1 := by
  rcases Nat.lt_or_ge (fw g) (nT g - 1) with z | z
  · exact z
  · exact absurd (fwI_0 (by omega)) q
theorem fwI_n5 {g : Sg} (h : Ok g) (q : fwI g = -5) : ¬ fw g < nT g - 1 := fun z => by
  rw [fwI_1 z] at q
  exact nI_ne5 (by have := h.n; omega) q
theorem rSw_T {T : Nat → Int32} {g : Sg} {i : Nat} (h : rT T g) (hi : i + 1 < nT g) : rT (rSw T i) (oSw g i) := by
  intro j hj
  have hj : j < nT g := hj
  show rSw T i j = nI (un (un (gT g) i (gT g (i + 1))) (i + 1) (gT g i) j)
  unfold rSw
  by_cases h1 : j = i + 1
  · rw [h1, up_s, un_s, h i (by omega)]
  · rw [up_n h1, un_n h1]
    by_cases h2 : j = i
    · rw [h2, up_s, un_s, h (i + 1) hi]
    · rw [up_n h2, un_n h2, h j hj]
theorem oEnv_key : ∀ (n : Nat) (g : Sg) (k : Nat), key (oEnv n g) k = key g k
  | 0, _, _ => rfl
  | n + 1, g, k => by
    unfold oEnv
    split
    · rw [oEnv_key n]; rfl
    · rfl
theorem oEnv_s1 {g : Sg} {n : Nat} (h : fw g < nT g - 1) : oEnv (n + 1) g = oEnv n (oSw g (fw g)) := if_pos h
theorem oEnvN_s1 {g : Sg} {n : Nat} (h : fw g < nT g - 1) : oEnvN (n + 1) g = oEnvN n (oSw g (fw g)) + 1 := if_pos h
theorem pm1_lt {a b : Nat} (ha : a < 2 ^ 31) (hb : b < 2 ^ 30) : nI a < nI b - nI 1 ↔ a + 1 < b := by
  rw [Int32.lt_iff_toInt_lt, nI_toInt (by omega), pk_sub_toInt hb (by decide)]
  omega
theorem pm1_le {a b : Nat} (ha : a < 2 ^ 31) (hb : b < 2 ^ 30) : nI b - nI 1 ≤ nI a ↔ b ≤ a + 1 := by
  rw [Int32.le_iff_toInt_le, nI_toInt (by omega), pk_sub_toInt hb (by decide)]
  omega
section KBQ
variable {cc : ByteArray} {rest : List Value}
variable {p : Program} {l : Launch} {e : Env} {R : Room} {s : State} {m : MethodId} {args : Array Value} {below : List Frame} {meth : Method} {c : Code} {H : Heap} {locs : List Loc} {cells slots : Nat} {pc : Nat} {ls : Array Slot} {Q : State → Prop}
theorem kb_pcmp_ge (hx : p.tables.exec = Jvm.exec) (hb : c.code = cc) {a b : Nat} {off : Int} {tgt : Nat} (hdg : decode cc pc = .ok (.if_icmp .ge off, 3)) (ht : (pc : Int) + off = (tgt : Int)) (ha : a < 2 ^ 31) (hb2 : b < 2 ^ 30)
    (k1 : b ≤ a + 1 → W p l e R s m args below meth c H locs cells slots Q (F0 m tgt ls rest)) (k2 : a + 1 < b → W p l e R s m args below meth c H locs cells slots Q (F0 m (pc + 3) ls rest)) : W p l e R s m args below meth c H locs cells slots Q (F0 m pc ls (.int (nI b - nI 1) :: .int (nI a) :: rest)) :=
  lv_icmp_ge hx hb hdg ht (fun z => k1 ((pm1_le ha hb2).mp z)) (fun z => k2 (Nat.lt_of_not_le (fun q => z ((pm1_le ha hb2).mpr q))))
theorem kb_pcmp_lt (hx : p.tables.exec = Jvm.exec) (hb : c.code = cc) {a b : Nat} {off : Int} {tgt : Nat} (hdg : decode cc pc = .ok (.if_icmp .lt off, 3)) (ht : (pc : Int) + off = (tgt : Int)) (ha : a < 2 ^ 31) (hb2 : b < 2 ^ 30)
    (k1 : a + 1 < b → W p l e R s m args below meth c H locs cells slots Q (F0 m tgt ls rest)) (k2 : b ≤ a + 1 → W p l e R s m args below meth c H locs cells slots Q (F0 m (pc + 3) ls rest)) : W p l e R s m args below meth c H locs cells slots Q (F0 m pc ls (.int (nI b - nI 1) :: .int (nI a) :: rest)) :=
  lv_icmp_lt hx hb hdg ht (fun z => k1 ((pm1_lt ha hb2).mp z)) (fun z => k2 (Nat.le_of_not_lt (fun q => z ((pm1_lt ha hb2).mpr q))))
end KBQ
