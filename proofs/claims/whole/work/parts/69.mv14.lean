/-- the model's histories, oldest first -/
def mH (hs : Nat → Int32) (hn : Nat) (h : Nat → Sg) : Prop := hn ≤ 4 ∧ ∀ i, i < hn → rV (fun j => hs (217 * i + j)) (h i) ∧ Ok (h i)
/-- what an act of the model leaves -/
def mQ (a : Int32) (gd g : Sg) (h : Nat → Sg) (hn : Nat) (vo hso : Nat → Int32) (hno : Nat) : Prop := rV vo (if a < nI 0 then g else gd) ∧ hno = (if a < nI 0 then hn else pM hn) ∧ mH hso hno (if a < nI 0 then h else pH h hn g)
section MQ
variable {a : Int32} {gd g : Sg} {h : Nat → Sg} {hn hno : Nat} {vo hs hso v kv hc : Nat → Int32}
theorem mQ_n (ha : a < nI 0) (hv : rV vo g) (hm : mH hs hn h) : mQ a gd g h hn vo hs hn := ⟨by rw [if_pos ha]; exact hv, (if_pos ha).symm, by rw [if_pos ha]; exact hm⟩
theorem mQ_y (ha : ¬ a < nI 0) (hv : rV vo gd) (e : hno = pM hn) (hm : mH hso hno (pH h hn g)) : mQ a gd g h hn vo hso hno := ⟨by rw [if_neg ha]; exact hv, e.trans (if_neg ha).symm, by rw [if_neg ha]; exact hm⟩
theorem sh_A {i : Nat} (hA : ∀ j, j < i → hc j = hs (j + 217)) (hB : ∀ j, i ≤ j → hc j = hs j) : ∀ j, j < i + 1 → upd hc i (hc (i + 217)) j = hs (j + 217) := fun j hj => by
  by_cases q : j = i
  · subst q; rw [up_s]; exact hB _ (by omega)
  · rw [up_n q]; exact hA j (by omega)
theorem sh_B {i : Nat} {x : Int32} (hB : ∀ j, i ≤ j → hc j = hs j) : ∀ j, i + 1 ≤ j → upd hc i x j = hs j := fun j hj => by
  rw [up_n (by omega)]; exact hB j (by omega)
theorem sh_0 (hm : mH hs hn h) (e : ¬ hn = 4) : ∀ i, i < hn → rV (fun j => hs (217 * i + j)) (pH h hn g i) ∧ Ok (pH h hn g i) := fun i hi => by
  have e2 : pH h hn g i = h i := by
    unfold pH
    rw [if_pos (by have := hm.1; omega)]
    exact if_neg (by omega)
  rw [e2]
  exact hm.2 i hi
theorem sh_1 (hm : mH hs hn h) (e : hn = 4) (hA : ∀ j, j < 651 → hc j = hs (j + 217)) : ∀ i, i < hn - 1 → rV (fun j => hc (217 * i + j)) (pH h hn g i) ∧ Ok (pH h hn g i) := fun i hi => by
  have e2 : pH h hn g i = h (i + 1) := by
    unfold pH
    rw [if_neg (by omega)]
    exact if_neg (by omega)
  rw [e2]
  have q := hm.2 (i + 1) (by omega)
  refine ⟨q.1.of (fun j hj => ?_) q.2.n.2.1 q.2.n.2.2, q.2⟩
  show hc (217 * i + j) = hs (217 * (i + 1) + j)
  rw [hA _ (by omega)]
  exact congrArg hs (by omega)
theorem sh_m0 (hm : mH hs hn h) (e : ¬ hn = 4) : hn + 1 = pM hn ∧ pH h hn g hn = g ∧ hn < 4 := by
  have := hm.1
  unfold pM pH
  rw [if_pos (by omega), if_pos (by omega)]
  exact ⟨rfl, if_pos rfl, by omega⟩
theorem sh_m1 (e : hn = 4) : hn - 1 + 1 = pM hn ∧ pH h hn g (hn - 1) = g ∧ hn - 1 < 4 := by
  subst e
  exact ⟨rfl, rfl, by decide⟩
theorem sh_r {m i : Nat} {x : Int32} (hr : ∀ i, i < m → rV (fun j => hc (217 * i + j)) (pH h hn g i) ∧ Ok (pH h hn g i)) : ∀ k, k < m → rV (fun j => upd hc (217 * m + i) x (217 * k + j)) (pH h hn g k) ∧ Ok (pH h hn g k) := fun k hk => by
  have q := hr k hk
  refine ⟨q.1.of (fun j hj => ?_) q.2.n.2.1 q.2.n.2.2, q.2⟩
  show upd hc (217 * m + i) x (217 * k + j) = hc (217 * k + j)
  rw [up_n (by omega)]
theorem sh_k {m i : Nat} (hk : ∀ j, j < i → hc (217 * m + j) = kv j) : ∀ j, j < i + 1 → upd hc (217 * m + i) (kv i) (217 * m + j) = kv j := fun j hj => by
  by_cases q : j = i
  · subst q; exact up_s _ _ _
  · rw [up_n (by omega)]; exact hk j (by omega)
theorem sh_e {m i : Nat} (e : m + 1 = pM hn ∧ pH h hn g m = g ∧ m < 4) (ho : Ok g) (hr : ∀ i, i < m → rV (fun j => hc (217 * i + j)) (pH h hn g i) ∧ Ok (pH h hn g i)) (hk : ∀ j, j < i → hc (217 * m + j) = kv j) (hi : 217 ≤ i) (hkv : rV kv g) : mH hc (m + 1) (pH h hn g) := by
  refine ⟨by omega, fun k hk2 => ?_⟩
  by_cases q : k = m
  · rw [q, e.2.1]
    exact ⟨hkv.of (fun j hj => hk j (by omega)) ho.n.2.1 ho.n.2.2, ho⟩
  · exact hr k (by omega)
end MQ
theorem ng1 : (-1 : Int32) < nI 0 := by decide
theorem ng2 : (-2 : Int32) < nI 0 := by decide
theorem ng3 : (-3 : Int32) < nI 0 := by decide
theorem ng4 : (-4 : Int32) < nI 0 := by decide
theorem ng5 : (-5 : Int32) < nI 0 := by decide
theorem isIn_kIs (x : Int32) (n : Nat) (h : (nI n).toInt + 1 = (nI (n + 1)).toInt) : isIn x 0 n = kIs (n + 1) x := by
  rw [isIn_I, kIs_I, ← h]
  congr 1
  apply propext
  constructor <;> rintro ⟨a, b⟩ <;> exact ⟨a, by omega⟩
theorem inL_k4 {x : Int32} : inL x.toInt64 (lN 0) (lN 3) = kIs 4 x := (inL_c (by decide) (by decide)).trans (isIn_kIs x 3 (by decide))
theorem inL_k2 {x : Int32} : inL x.toInt64 (lN 0) (lN 1) = kIs 2 x := (inL_c (by decide) (by decide)).trans (isIn_kIs x 1 (by decide))
theorem inL_kIs2 {x : Int32} {n : Nat} (hn : n ≤ 12) : inL x.toInt64 (lN 0) ((nI n).toInt64 - lN 2) = kIs (n - 1) x := by
  rw [inL_32, kIs_I]
  have e : ((nI n).toInt64 - lN 2).toInt = (nI n).toInt - 2 := by
    have : ∀ k : Fin 13, ((nI k.val).toInt64 - lN 2).toInt = (nI k.val).toInt - 2 := by decide
    exact this ⟨n, by omega⟩
  have e1 : (nI n).toInt = n := nI_toInt (by omega)
  have e2 : (nI (n - 1)).toInt = (n - 1 : Nat) := nI_toInt (by omega)
  rw [e, e1, e2, show (lN 0).toInt = 0 from by decide, show (nI 0).toInt = 0 from by decide]
  congr 1
  apply propext
  constructor <;> rintro ⟨a, b⟩ <;> exact ⟨a, by omega⟩
theorem oSw_T {g : Sg} {i : Nat} : gT (oSw g i) i = gT g (i + 1) := by
  show un (un (gT g) i (gT g (i + 1))) (i + 1) (gT g i) i = _
  rw [un_n (by omega), un_s]
theorem rV_set {v : Nat → Int32} {g : Sg} {k : Nat} {x : Int32} (h : rV v g) (hk : k < 4) (ht : nT g ≤ 12) (hw : nW g ≤ 24) : rV (upd v k x) (oSet g k x) := by
  have key : ∀ i, i ≠ k → upd v k x i = v i := fun i a => up_n a
  refine ⟨fun j hj => ?_, ?_, ?_, fun j h6 h10 => ?_, ?_, fun j hj => ?_, ?_, fun j hj => ?_, fun i hi => ?_⟩
  · show _ = upd (gc g) k x j
    by_cases q : j = k
    · rw [q, up_s, up_s]
    · rw [up_n q, up_n q]; exact h.c hj
  · rw [key _ (by omega)]; exact h.m.trans (up_n (by omega)).symm
  · rw [key _ (by omega)]; exact h.k
  · rw [key _ (by omega)]; exact (h.a h6 h10).trans (up_n (by omega)).symm
  · rw [key _ (by omega)]; exact h.t
  · rw [key _ (by omega)]; exact h.s hj
  · rw [key _ (by omega)]; exact h.w
  · rw [key _ (by omega)]; exact h.u hj
  · rw [key _ (by omega), key _ (by omega), key _ (by omega), key (49 + 7 * i + 3) (by omega), key (49 + 7 * i + 4) (by omega), key (49 + 7 * i + 5) (by omega), key (49 + 7 * i + 6) (by omega)]
    exact h.f hi
/-- the latest stop, told in two ways -/
def mS (iS sN sR sT sE : Int32) : Prop := (iS = 0 ∧ sT = -1) ∨ (¬ iS = 0 ∧ ¬ sT = -1 ∧ sN = sT ∧ sR = sE)
theorem mS_0 {iS sN sR sT sE : Int32} (h : mS iS sN sR sT sE) (c : iS = 0) : sT = -1 := by
  rcases h with q | q
  · exact q.2
  · exact absurd c q.1
theorem mS_1 {iS sN sR sT sE : Int32} (h : mS iS sN sR sT sE) (c : ¬ iS = 0) : ¬ sT = -1 ∧ sN = sT ∧ sR = sE := by
  rcases h with q | q
  · exact absurd q.1 c
  · exact q.2
