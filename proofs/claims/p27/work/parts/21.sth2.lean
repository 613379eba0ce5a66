def opA (g : Sg) (x y m : Int32) : Int32 × Sg := if (isIn x 1 9 && isIn y 0 120 && isIn m 0 9999) = true then if m < gc g 4 then (-4, g) else if nK g = 24 then (-3, g) else (nI (nK g), oAnn g x.toNatClampNeg y.toNatClampNeg m) else (-2, g)
def opL (g : Sg) (x : Int32) : Int32 × Sg := if kIs (nK g) x = true then if gD g x.toNatClampNeg = 3 then (-4, g) else (nI (gD g x.toNatClampNeg), oLv g x.toNatClampNeg) else (-1, g)
def opE (g : Sg) (x : Int32) : Int32 × Sg := if kIs (nT g - 1) x = true then if wrg g x.toNatClampNeg = true then (nI (gT g (x.toNatClampNeg + 1)), oSw g x.toNatClampNeg) else (-4, g) else (-1, g)
def isR (w : Nat) (v : Int32) : Bool := if w = 0 then isIn v 1 12 else if w = 1 then isIn v 1 60 else if w = 2 then isIn v 0 9 else isIn v 1 9
def opS (g : Sg) (x v : Int32) : Int32 × Sg := if kIs 4 x = true then if isR x.toNatClampNeg v = true then if x.toNatClampNeg = 0 ∧ v < nI (nT g) then (-4, g) else if gc g x.toNatClampNeg = v then (-5, g) else (gc g x.toNatClampNeg, oSet g x.toNatClampNeg v) else (-2, g) else (-1, g)
def tellV (g : Sg) (k : Nat) : Nat → Int32
  | 0 => nI (gC g k)
  | 1 => nI (gA g k)
  | 2 => gX g 0 k
  | 3 => nI (gD g k)
  | 4 => oI (decide (plT g k < nT g)) (plT g k)
  | 5 => oI (decide (plW g k < nW g)) (plW g k)
  | 6 => gX g 1 k
  | 7 => gX g 2 k
  | _ => gX g 3 k
def sAt (g : Sg) (x : Int32) : Int32 := if kIs (nT g) x = true then nI (gT g x.toNatClampNeg) else -5
def wAt (g : Sg) (x : Int32) : Int32 := if kIs (nW g) x = true then nI (gW g x.toNatClampNeg) else -5
theorem rAt_T {T : Nat → Int32} {g : Sg} (ho : Ok g) (hT : rT T g) (x : Int32) : rAt T (nT g) x = sAt g x := by
  have := ho.n
  unfold sAt
  by_cases h : kIs (nT g) x = true
  · obtain ⟨j, hj, rfl⟩ := kIs_ex h (by omega)
    rw [if_pos h, rAt_in hj (by omega), hT j hj, nI_clamp (by omega)]
  · rw [if_neg h]
    unfold rAt
    rw [if_neg (fun q => h (decide_eq_true q))]
theorem rAt_M {T : Nat → Int32} {g : Sg} (ho : Ok g) (hT : rM T g) (x : Int32) : rAt T (nW g) x = wAt g x := by
  have := ho.n
  unfold wAt
  by_cases h : kIs (nW g) x = true
  · obtain ⟨j, hj, rfl⟩ := kIs_ex h (by omega)
    rw [if_pos h, rAt_in hj (by omega), hT j hj, nI_clamp (by omega)]
  · rw [if_neg h]
    unfold rAt
    rw [if_neg (fun q => h (decide_eq_true q))]
def why (g : Sg) (k o : Nat) : Int32 := if plT g k < nT g ∧ plT g o < nT g ∧ ¬ plT g o < plT g k then (if key g k < key g o then nI 2 else if gC g o < gC g k then nI 0 else if gA g o < gA g k then nI 3 else nI 4) else nI 1
theorem why_1 {g : Sg} {k o : Nat} (h : ¬ (plT g k < nT g ∧ plT g o < nT g ∧ ¬ plT g o < plT g k)) : why g k o = nI 1 := if_neg h
theorem why_2 {g : Sg} {k o : Nat} (h : plT g k < nT g ∧ plT g o < nT g ∧ ¬ plT g o < plT g k) : why g k o = if key g k < key g o then nI 2 else if gC g o < gC g k then nI 0 else if gA g o < gA g k then nI 3 else nI 4 := if_pos h
theorem oI_n5 {n : Nat} {P : Prop} [Decidable P] (h : ¬ oI (decide P) n = -5) : P := by
  by_cases q : P
  · exact q
  · exact absurd (by rw [decide_eq_false q]; rfl) h
theorem oI_y5 {n : Nat} {P : Prop} [Decidable P] (hn : n < 2 ^ 31) (h : oI (decide P) n = -5) : ¬ P := fun q => by
  rw [decide_eq_true q] at h
  exact nI_ne5 hn h
theorem plT_le (g : Sg) (k : Nat) : plT g k ≤ nT g := ff_le _ _
theorem plW_le (g : Sg) (k : Nat) : plW g k ≤ nW g := ff_le _ _
def saP (g : Sg) (x : Nat) (k : Nat) : Bool := decide (x < key g k) && decide (gD g k = 2)
def msI (g : Sg) : Nat → Int32 × Int32
  | 0 => (nI 0, -5)
  | n + 1 => if (msI g n).1 < gX g 2 (gT g n) then (gX g 2 (gT g n), nI (gT g n)) else msI g n
theorem msI_s (g : Sg) (n : Nat) : msI g (n + 1) = if (msI g n).1 < gX g 2 (gT g n) then (gX g 2 (gT g n), nI (gT g n)) else msI g n := rfl
def faI (g : Sg) : Nat → Int32
  | 0 => -5
  | n + 1 => if gD g n = 0 ∧ (faI g n = -5 ∨ gX g 0 n < faI g n) then gX g 0 n else faI g n
theorem faI_s (g : Sg) (n : Nat) : faI g (n + 1) = if gD g n = 0 ∧ (faI g n = -5 ∨ gX g 0 n < faI g n) then gX g 0 n else faI g n := rfl
def kdN (g : Sg) (w : Nat) : Nat := cnt (fun k => decide (gD g k = w)) (nK g)
def acc (g : Sg) : Nat → Int32
  | 0 => gc g 4
  | 1 => nI (nK g)
  | 2 => nI (kdN g 0)
  | 3 => nI (kdN g 1)
  | 4 => nI (kdN g 2)
  | 5 => nI (kdN g 3)
  | 6 => gc g 6
  | 7 => gc g 7
  | 8 => gc g 8
  | 9 => gc g 9
  | 10 => gc g 10
  | 11 => gc g 0
  | 12 => gc g 1
  | 13 => gc g 2
  | _ => gc g 3
theorem opA_1 {g : Sg} {x y m : Int32} (h : isIn x 1 9 = false ∨ isIn y 0 120 = false ∨ isIn m 0 9999 = false) : opA g x y m = (-2, g) := by
  unfold opA
  rw [if_neg (fun q => ?_)]
  simp only [Bool.and_eq_true] at q
  rcases h with z | z | z <;> rw [z] at q <;> simp at q
theorem opA_i {x y m : Int32} (h1 : isIn x 1 9 = true) (h2 : isIn y 0 120 = true) (h3 : isIn m 0 9999 = true) : (isIn x 1 9 && isIn y 0 120 && isIn m 0 9999) = true := by rw [h1, h2, h3]; rfl
theorem opA_2 {g : Sg} {x y m : Int32} (h1 : isIn x 1 9 = true) (h2 : isIn y 0 120 = true) (h3 : isIn m 0 9999 = true) (h : m < gc g 4) : opA g x y m = (-4, g) := by
  unfold opA
  rw [if_pos (opA_i h1 h2 h3), if_pos h]
theorem opA_3 {g : Sg} {x y m : Int32} (h1 : isIn x 1 9 = true) (h2 : isIn y 0 120 = true) (h3 : isIn m 0 9999 = true) (h : ¬ m < gc g 4) (hk : nK g = 24) : opA g x y m = (-3, g) := by
  unfold opA
  rw [if_pos (opA_i h1 h2 h3), if_neg h, if_pos hk]
theorem opA_4 {g : Sg} {x y : Nat} {m : Int32} (h1 : isIn (nI x) 1 9 = true) (h2 : isIn (nI y) 0 120 = true) (h3 : isIn m 0 9999 = true) (h : ¬ m < gc g 4) (hk : nK g ≠ 24) (hx : x < 2 ^ 30) (hy : y < 2 ^ 30) : opA g (nI x) (nI y) m = (nI (nK g), oAnn g x y m) := by
  unfold opA
  rw [if_pos (opA_i h1 h2 h3), if_neg h, if_neg hk, nI_clamp (by omega), nI_clamp (by omega)]
theorem rF_ann {F : Nat → Int32} {g : Sg} {x y : Nat} {m : Int32} (hF : rF F g) : rF (upd (upd (upd F (nK g * 9 + 0) (nI x)) (nK g * 9 + 1) (nI y)) (nK g * 9 + 2) m) (oAnn g x y m) := fun j hj => by
  obtain ⟨a1, a2, a3, a4, a5, a6, a7⟩ := hF j hj
  have hX : ∀ w, 1 ≤ w → gX (oAnn g x y m) w j = gX g w j := fun w hw => if_neg (by omega)
  refine ⟨?_, ?_, ?_, ?_, ?_, ?_, ?_⟩
  · rw [up_n (by omega), up_n (by omega)]
    show _ = nI (un (gC g) (nK g) x j)
    by_cases q : j = nK g
    · rw [q, un_s]; exact up_s _ _ _
    · rw [up_n (by omega), un_n q]; exact a1
  · rw [up_n (by omega)]
    show _ = nI (un (gA g) (nK g) y j)
    by_cases q : j = nK g
    · rw [q, un_s]; exact up_s _ _ _
    · rw [up_n (by omega), up_n (by omega), un_n q]; exact a2
  · show _ = ux (gX g) 0 (nK g) m 0 j
    by_cases q : j = nK g
    · rw [q, up_s]; exact (if_pos ⟨rfl, rfl⟩).symm
    · rw [up_n (by omega), up_n (by omega), up_n (by omega)]; exact a3.trans (if_neg (fun z => q z.2)).symm
  · rw [up_n (by omega), up_n (by omega), up_n (by omega)]; exact a4
  · rw [up_n (by omega), up_n (by omega), up_n (by omega), hX 1 (by omega)]; exact a5
  · rw [up_n (by omega), up_n (by omega), up_n (by omega), hX 2 (by omega)]; exact a6
  · rw [up_n (by omega), up_n (by omega), up_n (by omega), hX 3 (by omega)]; exact a7
theorem rW_ann {W : Nat → Int32} {g : Sg} {x y : Nat} {m : Int32} (hW : rW W g) : rW (upd W (nK g) (nI ((x * 121 + y) * 25 + 24 - nK g))) (oAnn g x y m) := fun j hj => by
  have hj : j < nK g + 1 := hj
  show _ = nI ((un (gC g) (nK g) x j * 121 + un (gA g) (nK g) y j) * 25 + 24 - j)
  by_cases q : j = nK g
  · rw [q, un_s, un_s, up_s]
  · rw [un_n q, un_n q, up_n q]
    exact hW j (by omega)
theorem opL_1 {g : Sg} {x : Int32} (h : kIs (nK g) x = false) : opL g x = (-1, g) := by
  unfold opL
  rw [if_neg (by rw [h]; decide)]
theorem opL_2 {g : Sg} {k : Nat} (h : kIs (nK g) (nI k) = true) (hk : k < 2 ^ 30) (hd : gD g k = 3) : opL g (nI k) = (-4, g) := by
  unfold opL
  rw [nI_clamp (by omega), if_pos h, if_pos hd]
theorem opL_3 {g : Sg} {k : Nat} (h : kIs (nK g) (nI k) = true) (hk : k < 2 ^ 30) (hd : gD g k ≠ 3) : opL g (nI k) = (nI (gD g k), oLv g k) := by
  unfold opL
  rw [nI_clamp (by omega), if_pos h, if_neg hd]
theorem oLv_2 {g : Sg} {k : Nat} (h : gD g k = 2) : oLv g k = oLvT g k := if_pos h
theorem oLv_1 {g : Sg} {k : Nat} (h : gD g k = 1) : oLv g k = oLvW g k := by
  unfold oLv
  rw [if_neg (by omega), if_pos h]
theorem oLv_0 {g : Sg} {k : Nat} (h2 : gD g k ≠ 2) (h1 : gD g k ≠ 1) : oLv g k = oLv0 g k := by
  unfold oLv
  rw [if_neg h2, if_neg h1]
theorem rF_lv {F : Nat → Int32} {g h : Sg} {k : Nat} (hF : rF F g) (h1 : gC h = gC g) (h2 : gA h = gA g) (h3 : gX h = gX g) (h4 : gD h = un (gD g) k 3) : rF (upd F (k * 9 + 3) (nI 3)) h := fun j hj => by
  obtain ⟨a1, a2, a3, a4, a5, a6, a7⟩ := hF j hj
  rw [h1, h2, h3, h4]
  refine ⟨?_, ?_, ?_, ?_, ?_, ?_, ?_⟩
  · rw [up_n (by omega)]; exact a1
  · rw [up_n (by omega)]; exact a2
  · rw [up_n (by omega)]; exact a3
  · by_cases q : j = k
    · rw [q, up_s, un_s]
    · rw [up_n (by omega), un_n q]; exact a4
  · rw [up_n (by omega)]; exact a5
  · rw [up_n (by omega)]; exact a6
  · rw [up_n (by omega)]; exact a7
theorem rT_no {T : Nat → Int32} {g : Sg} {k : Nat} (ho : Ok g) (hT : rT T g) (hk : k < nK g) (hd : gD g k ≠ 2) : ∀ j, j < nT g → T j ≠ nI k := fun j hj e => by
  rw [hT j hj] at e
  have e := (nI_eq (by have := ok_t ho hj; omega) (by have := ho.n; omega)).mp e
  have := (ho.t j hj).2
  rw [e] at this
  exact hd this
theorem rM_no {T : Nat → Int32} {g : Sg} {k : Nat} (ho : Ok g) (hT : rM T g) (hk : k < nK g) (hd : gD g k ≠ 1) : ∀ j, j < nW g → T j ≠ nI k := fun j hj e => by
  rw [hT j hj] at e
  have e := (nI_eq (by have := ok_w ho hj; omega) (by have := ho.n; omega)).mp e
  have := (ho.w j hj).2
  rw [e] at this
  exact hd this
theorem opE_1 {g : Sg} {x : Int32} (h : kIs (nT g - 1) x = false) : opE g x = (-1, g) := by
  unfold opE
  rw [if_neg (by rw [h]; decide)]
theorem opE_2 {g : Sg} {i : Nat} (h : i < nT g - 1) (hn : nT g ≤ 12) (hw : wrg g i = false) : opE g (nI i) = (-4, g) := by
  unfold opE
  rw [nI_clamp (by omega), kIs_n (by omega) (by omega), if_pos (decide_eq_true h), if_neg (by rw [hw]; decide)]
theorem opE_3 {g : Sg} {i : Nat} (h : i < nT g - 1) (hn : nT g ≤ 12) (hw : wrg g i = true) : opE g (nI i) = (nI (gT g (i + 1)), oSw g i) := by
  unfold opE
  rw [nI_clamp (by omega), kIs_n (by omega) (by omega), if_pos (decide_eq_true h), if_pos hw]
theorem opS_1 {g : Sg} {x v : Int32} (h : kIs 4 x = false) : opS g x v = (-1, g) := by
  unfold opS
  rw [if_neg (by rw [h]; decide)]
theorem opS_k {w : Nat} (h : w < 4) : kIs 4 (nI w) = true := by rw [kIs_n (by decide) (by omega)]; exact decide_eq_true h
theorem opS_2 {g : Sg} {w : Nat} {v : Int32} (h : w < 4) (hr : isR w v = false) : opS g (nI w) v = (-2, g) := by
  unfold opS
  rw [nI_clamp (by omega), if_pos (opS_k h), if_neg (by rw [hr]; decide)]
theorem opS_3 {g : Sg} {w : Nat} {v : Int32} (h : w < 4) (hr : isR w v = true) (hw : w = 0) (hv : v < nI (nT g)) : opS g (nI w) v = (-4, g) := by
  unfold opS
  rw [nI_clamp (by omega), if_pos (opS_k h), if_pos hr, if_pos ⟨hw, hv⟩]
theorem opS_4 {g : Sg} {w : Nat} {v : Int32} (h : w < 4) (hr : isR w v = true) (hn : ¬ (w = 0 ∧ v < nI (nT g))) (hv : gc g w = v) : opS g (nI w) v = (-5, g) := by
  unfold opS
  rw [nI_clamp (by omega), if_pos (opS_k h), if_pos hr, if_neg hn, if_pos hv]
theorem opS_5 {g : Sg} {w : Nat} {v : Int32} (h : w < 4) (hr : isR w v = true) (hn : ¬ (w = 0 ∧ v < nI (nT g))) (hv : ¬ gc g w = v) : opS g (nI w) v = (gc g w, oSet g w v) := by
  unfold opS
  rw [nI_clamp (by omega), if_pos (opS_k h), if_pos hr, if_neg hn, if_neg hv]
theorem rC_set {S : Nat → Int32} {g : Sg} {w : Nat} {v : Int32} (hC : rC S g) : rC (upd S w v) (oSet g w v) := fun i hi => by
  show _ = upd (gc g) w v i
  by_cases q : i = w
  · rw [q, up_s, up_s]
  · rw [up_n q, up_n q]
    exact hC i hi
theorem set_c {g : Sg} {w i : Nat} {v : Int32} (h : i ≠ w) : gc (oSet g w v) i = gc g i := by
  show upd (gc g) w v i = _
  exact up_n h
theorem wp_end {g : Sg} {n y : Nat} (h : n = ip (fun j => key g (gT g j)) y) (h1 : nT g ≤ y) (h2 : 1 ≤ y ∧ (y ≤ nT g ∨ y = 1)) : nI n = nI (wp g) := by
  unfold wp
  rcases h2.2 with q | q
  · rw [h, show nT g = y by omega]
  · subst q
    rcases Nat.lt_or_ge (nT g) 1 with z | z
    · rw [h, show nT g = 0 by omega]
      rfl
    · rw [h, show nT g = 1 by omega]
theorem faI_a {g : Sg} {n : Nat} {x : Int32} (h : x = faI g n) (h1 : gD g n ≠ 0) : x = faI g (n + 1) := by
  rw [faI_s, if_neg (fun q => h1 q.1)]
  exact h
theorem faI_b {g : Sg} {n : Nat} {x : Int32} (h : x = faI g n) (h1 : gD g n = 0) (h2 : x = -5) : gX g 0 n = faI g (n + 1) := by
  rw [faI_s, if_pos ⟨h1, Or.inl (by rw [← h]; exact h2)⟩]
theorem faI_c {g : Sg} {n : Nat} {x : Int32} (h : x = faI g n) (h1 : gD g n = 0) (h2 : ¬ x ≤ gX g 0 n) : gX g 0 n = faI g (n + 1) := by
  rw [faI_s, if_pos ⟨h1, Or.inr (by rw [← h]; exact Int32.not_le.mp h2)⟩]
theorem faI_d {g : Sg} {n : Nat} {x : Int32} (h : x = faI g n) (h1 : ¬ x = -5) (h2 : x ≤ gX g 0 n) : x = faI g (n + 1) := by
  rw [faI_s, if_neg (fun q => q.2.elim (by rw [← h]; exact h1) (by rw [← h]; exact Int32.not_lt.mpr h2))]
  exact h
