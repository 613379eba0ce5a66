def rdN : Nat → Sg → Sg
  | 0, g => g
  | n + 1, g => rdN n (oRnd g)
def irA (g : Sg) (x : Int32) : Int32 := if isIn x 1 30 = true then gc (rdN x.toNatClampNeg g) 6 - gc g 6 else -2
theorem irA_1 {g : Sg} {x : Int32} (h : isIn x 1 30 = false) : irA g x = -2 := if_neg (by rw [h]; decide)
theorem irA_2 {g : Sg} {x : Nat} (h1 : ¬ x < 1) (h2 : x ≤ 30) : irA g (nI x) = gc (rdN x g) 6 - gc g 6 := by
  unfold irA
  rw [if_pos (isIn_i (nI_nlt (by omega) (by omega)) (nI_nlt (by omega) (by omega))), nI_clamp (by omega)]
theorem isIn_n1 {j lo hi : Nat} (hj : j < 2 ^ 31) (hl : lo < 2 ^ 31) (h : j < lo) : isIn (nI j) lo hi = false := isIn_o (Or.inl (nI_lt h hl))
theorem isIn_n2 {j lo hi : Nat} (hj : j < 2 ^ 31) (h : hi < j) : isIn (nI j) lo hi = false := isIn_o (Or.inr (nI_lt h hj))
theorem sO_sum8 {f : Nat → Nat → Int32} {g : Sg} (h : sO f g) : smI (fun k => f 0 (k * 9 + 8)) (nK g) = gc g 6 := (smI_congr (fun k hk => (h.1.1 k (by have := h.2.n; omega)).2.2.2.2.2.2)).trans h.2.s.2.2.symm
def dI : Nat → Nat → Sg → Nat → Int32
  | 0, _, _, _ => -5
  | n + 1, r, g, k => if sl g (plT g k) = true then dI n (r + 1) (oEnv (gc g 2).toNatClampNeg g) k else nI r
def diA (g : Sg) (x : Int32) : Int32 := if kIs (nK g) x = true then if gD g x.toNatClampNeg = 2 then dI 101 0 g x.toNatClampNeg else -4 else -1
theorem diA_1 {g : Sg} {x : Int32} (h : kIs (nK g) x = false) : diA g x = -1 := if_neg (by rw [h]; decide)
theorem diA_4 {g : Sg} {k : Nat} (h : kIs (nK g) (nI k) = true) (hk : k < 2 ^ 31) (h2 : ¬ gD g k = 2) : diA g (nI k) = -4 := by
  unfold diA
  rw [if_pos h, nI_clamp hk, if_neg h2]
theorem diA_d {g : Sg} {k : Nat} (h : kIs (nK g) (nI k) = true) (hk : k < 2 ^ 31) (h2 : gD g k = 2) : diA g (nI k) = dI 101 0 g k := by
  unfold diA
  rw [if_pos h, nI_clamp hk, if_pos h2]
theorem dI_1 {n r k ev : Nat} {h : Sg} (c : sl h (plT h k) = true) (e : gc h 2 = nI ev) (hv : ev < 2 ^ 31) : dI (n + 1) r h k = dI n (r + 1) (oEnv ev h) k := by
  rw [dI, if_pos c, e, nI_clamp hv]
theorem dI_0 {n r k : Nat} {h : Sg} (c : sl h (plT h k) = false) : dI (n + 1) r h k = nI r := by
  rw [dI, if_neg (by rw [c]; decide)]
theorem dI_s {n r k ev : Nat} {g h : Sg} (he : dI 101 0 g k = dI (101 - r) r h k) (hr : r ≤ 100) (c : sl h (plT h k) = true) (e : gc h 2 = nI ev) (hv : ev < 2 ^ 31) : dI 101 0 g k = dI (101 - (r + 1)) (r + 1) (oEnv ev h) k := by
  rw [he, show 101 - r = 101 - (r + 1) + 1 by omega]
  exact dI_1 c e hv
theorem dI_e {r k : Nat} {g h : Sg} (he : dI 101 0 g k = dI (101 - r) r h k) (hr : r ≤ 100) (c : sl h (plT h k) = false) : dI 101 0 g k = nI r := by
  rw [he, show 101 - r = 100 - r + 1 by omega]
  exact dI_0 c
/-- one thing of a text done -/
def opT (g : Sg) (k c a m : Nat) : Int32 × Sg := if k = 107 then opA g (nI c) (nI a) (nI m) else if k = 108 then opL g (nI m) else opP g (nI m)
theorem pTh_k3 {tx : Nat → Nat} {n i : Nat} (h : (pTh tx n i).1 = true) : (pTh tx n i).2.2.1 = 107 ∨ (pTh tx n i).2.2.1 = 108 ∨ (pTh tx n i).2.2.1 = 46 := by
  unfold pTh at h ⊢
  split
  · exact Or.inl rfl
  · split
    · exact Or.inr (Or.inl rfl)
    · split
      · exact Or.inr (Or.inr rfl)
      · rename_i a b c
        rw [if_neg a, if_neg b, if_neg c] at h
        cases h
theorem pTs_k3 {tx : Nat → Nat} {n i : Nat} (h : (pTs tx n i).1 = true) : (pTs tx n i).2.2.1 = 107 ∨ (pTs tx n i).2.2.1 = 108 ∨ (pTs tx n i).2.2.1 = 46 := by
  by_cases a : i = 0
  · subst a
    rw [pTs_0] at h ⊢
    exact pTh_k3 h
  · by_cases b : cd tx n i = 59
    · rw [pTs_s a b] at h ⊢
      exact pTh_k3 h
    · rw [pTs_f a b] at h
      cases h
def opK (tx : Nat → Nat) (n i : Nat) (g : Sg) : Int32 × Sg := opT g (pTs tx n i).2.2.1 (pTs tx n i).2.2.2.1 (pTs tx n i).2.2.2.2.1 (pTs tx n i).2.2.2.2.2
theorem opK_ok {tx : Nat → Nat} {n i : Nat} {g : Sg} (h : Ok g) : Ok (opK tx n i g).2 := by
  unfold opK opT
  split
  · exact opA_ok h _ _ _
  · split
    · exact opL_ok h _
    · exact opP_ok h _
/-- f things from the place i, the next being number th -/
def rn (tx : Nat → Nat) (n : Nat) : Nat → Nat → Nat → Sg → (Bool × Nat × Int32) × Sg
  | 0, _, th, g => ((true, th, 0), g)
  | f + 1, i, th, g => if (opK tx n i g).1 < 0 then ((false, th, (opK tx n i g).1), g) else rn tx n f (pTs tx n i).2.1 (th + 1) (opK tx n i g).2
theorem rn_f {tx : Nat → Nat} {n f i th : Nat} {g : Sg} (h : (opK tx n i g).1 < 0) : rn tx n (f + 1) i th g = ((false, th, (opK tx n i g).1), g) := by
  rw [rn, if_pos h]
theorem rn_s {tx : Nat → Nat} {n f i th : Nat} {g : Sg} (h : ¬ (opK tx n i g).1 < 0) : rn tx n (f + 1) i th g = rn tx n f (pTs tx n i).2.1 (th + 1) (opK tx n i g).2 := by
  rw [rn, if_neg h]
/-- what is still to do at the place i before the thing th, of ct things in all -/
def pLeft (tx : Nat → Nat) (n ct th i : Nat) : Prop := i ≤ n ∧ th ≤ ct ∧ (th < ct → ∃ f, (pF tx n f i).1 = true ∧ (pF tx n f i).2 + th = ct)
theorem pLeft_0 {tx : Nat → Nat} {n : Nat} (h : (pF tx n 61 0).1 = true) : pLeft tx n (pF tx n 61 0).2 0 0 := ⟨Nat.zero_le _, Nat.zero_le _, fun _ => ⟨61, h, rfl⟩⟩
theorem pLeft_t {tx : Nat → Nat} {n ct th i : Nat} (h : pLeft tx n ct th i) (q : th < ct) : (pTs tx n i).1 = true := by
  obtain ⟨f, h1, h2⟩ := h.2.2 q
  cases f with
  | zero => cases h1
  | succ f =>
    by_cases z : (pTs tx n i).1 = true
    · exact z
    · rw [pF_1 z] at h1; cases h1
theorem pLeft_s {tx : Nat → Nat} {n ct th i : Nat} (h : pLeft tx n ct th i) (q : th < ct) : pLeft tx n ct (th + 1) (pTs tx n i).2.1 := by
  have z := pLeft_t h q
  obtain ⟨f, h1, h2⟩ := h.2.2 q
  refine ⟨(pTs_ok z).2, q, fun q2 => ?_⟩
  cases f with
  | zero => cases h1
  | succ f =>
    by_cases z2 : n ≤ (pTs tx n i).2.1
    · rw [pF_2 z z2] at h2
      exact absurd h2 (by show ¬ 1 + th = ct; omega)
    · by_cases z3 : (pF tx n f (pTs tx n i).2.1).1 = true
      · rw [pF_3 z z2 z3] at h2
        exact ⟨f, z3, by have : (pF tx n f (pTs tx n i).2.1).2 + 1 + th = ct := h2; omega⟩
      · rw [pF_4 z z2 z3] at h1
        cases h1
