theorem opA_ok {g : Sg} (ho : Ok g) (x y m : Int32) : Ok (opA g x y m).2 := by
  unfold opA
  by_cases h : (isIn x 1 9 && isIn y 0 120 && isIn m 0 9999) = true
  · rw [if_pos h]
    by_cases h2 : m < gc g 4
    · rw [if_pos h2]; exact ho
    · rw [if_neg h2]
      by_cases h3 : nK g = 24
      · rw [if_pos h3]; exact ho
      · rw [if_neg h3]
        obtain ⟨h4, h5⟩ := Bool.and_eq_true_iff.mp h
        obtain ⟨h4, h6⟩ := Bool.and_eq_true_iff.mp h4
        obtain ⟨x', hx1, hx9, rfl⟩ := isIn_ex (by decide) (by decide) h4
        obtain ⟨y', hy1, hy9, rfl⟩ := isIn_ex (by decide) (by decide) h6
        show Ok (oAnn g (nI x').toNatClampNeg (nI y').toNatClampNeg m)
        rw [nI_clamp (by omega), nI_clamp (by omega)]
        exact oAnn_ok ho (by have := ho.n; omega) ⟨hx1, hx9⟩ hy9
  · rw [if_neg h]; exact ho
theorem opL_ok {g : Sg} (ho : Ok g) (x : Int32) : Ok (opL g x).2 := by
  have hn := ho.n
  unfold opL
  by_cases h : kIs (nK g) x = true
  · rw [if_pos h]
    by_cases h2 : gD g x.toNatClampNeg = 3
    · rw [if_pos h2]; exact ho
    · rw [if_neg h2]
      obtain ⟨k, hk, rfl⟩ := kIs_ex h (by omega)
      have e : (nI k).toNatClampNeg = k := nI_clamp (by omega)
      rw [e] at h2 ⊢
      exact oLv_ok ho hk h2
  · rw [if_neg h]; exact ho
theorem opE_ok {g : Sg} (ho : Ok g) (x : Int32) : Ok (opE g x).2 := by
  have hn := ho.n
  unfold opE
  by_cases h : kIs (nT g - 1) x = true
  · rw [if_pos h]
    by_cases h2 : wrg g x.toNatClampNeg = true
    · rw [if_pos h2]
      obtain ⟨k, hk, rfl⟩ := kIs_ex h (by omega)
      have e : (nI k).toNatClampNeg = k := nI_clamp (by omega)
      rw [e]
      exact oSw_ok ho (by omega)
    · rw [if_neg h2]; exact ho
  · rw [if_neg h]; exact ho
theorem opP_ok {g : Sg} (ho : Ok g) (x : Int32) : Ok (opP g x).2 := by
  unfold opP
  by_cases h : isIn x 1 99 = true
  · rw [if_pos h]
    by_cases h2 : nI 99999 < gc g 4 + x
    · rw [if_pos h2]; exact ho
    · rw [if_neg h2]; exact oPass_ok _ ho
  · rw [if_neg h]; exact ho
theorem opS_ok {g : Sg} (ho : Ok g) (x v : Int32) : Ok (opS g x v).2 := by
  have hn := ho.n
  unfold opS
  by_cases h : kIs 4 x = true
  · rw [if_pos h]
    obtain ⟨k, hk, rfl⟩ := kIs_ex h (by omega)
    have e : (nI k).toNatClampNeg = k := nI_clamp (by omega)
    rw [e]
    by_cases h2 : isR k v = true
    · rw [if_pos h2]
      by_cases h3 : k = 0 ∧ v < nI (nT g)
      · rw [if_pos h3]; exact ho
      · rw [if_neg h3]
        by_cases h4 : gc g k = v
        · rw [if_pos h4]; exact ho
        · rw [if_neg h4]
          obtain ⟨lo, hi, hlh, hv⟩ : ∃ lo hi : Nat, ((k = 0 → 1 ≤ lo ∧ hi ≤ 12) ∧ (k = 1 → 1 ≤ lo ∧ hi ≤ 60) ∧ (k = 2 → hi ≤ 9) ∧ hi < 100 ∧ lo ≤ hi) ∧ isIn v lo hi = true := by
            unfold isR at h2
            rcases (by omega : k = 0 ∨ k = 1 ∨ k = 2 ∨ k = 3) with rfl | rfl | rfl | rfl
            · exact ⟨1, 12, by omega, h2⟩
            · exact ⟨1, 60, by omega, h2⟩
            · exact ⟨0, 9, by omega, h2⟩
            · exact ⟨1, 9, by omega, h2⟩
          obtain ⟨v', h5, h6, rfl⟩ := isIn_ex (by have := hlh.2.2.2; omega) (by have := hlh.2.2.2; omega) hv
          refine oSet_ok ho hk (fun q => ?_) (fun q => ?_) (fun q => ?_)
          · refine ⟨by have := hlh.1 q; omega, by have := hlh.1 q; omega, ?_⟩
            have h7 : ¬ nI v' < nI (nT g) := fun z => h3 ⟨q, z⟩
            exact Nat.le_of_not_lt (fun z => h7 (nI_lt z (by omega)))
          · have := hlh.2.1 q; omega
          · have := hlh.2.2.1 q; omega
    · rw [if_neg h2]; exact ho
  · rw [if_neg h]; exact ho
def sO (f : Nat → Nat → Int32) (g : Sg) : Prop := rS f g ∧ Ok g
/-- the histories: oldest first -/
def pH (h : Nat → Sg) (hn : Nat) (g : Sg) : Nat → Sg := if hn < 4 then (fun i => if i = hn then g else h i) else (fun i => if i = 3 then g else h (i + 1))
def pM (hn : Nat) : Nat := if hn < 4 then hn + 1 else 4
def rH (gs : Nat → Sg) (nx hn : Nat) (h : Nat → Sg) : Prop := nx < 4 ∧ hn ≤ 4 ∧ ∀ i, i < hn → gs ((nx + 4 - hn + i) % 4) = h i
theorem rH_push {gs gs' : Nat → Sg} {nx hn : Nat} {h : Nat → Sg} {g : Sg} (hr : rH gs nx hn h) (h1 : gs' nx = g) (h2 : ∀ j, j < 4 → j ≠ nx → gs' j = gs j) : rH gs' ((nx + 1) % 4) (pM hn) (pH h hn g) := by
  obtain ⟨a, b, q⟩ := hr
  unfold pM pH
  by_cases hh : hn < 4
  · rw [if_pos hh, if_pos hh]
    refine ⟨by omega, by omega, fun i hi => ?_⟩
    by_cases e : i = hn
    · rw [show ((nx + 1) % 4 + 4 - (hn + 1) + i) % 4 = nx by omega, h1]
      exact (if_pos e).symm
    · rw [show ((nx + 1) % 4 + 4 - (hn + 1) + i) % 4 = (nx + 4 - hn + i) % 4 by omega, h2 _ (by omega) (by omega)]
      exact (q i (by omega)).trans (if_neg e).symm
  · rw [if_neg hh, if_neg hh]
    refine ⟨by omega, by omega, fun i hi => ?_⟩
    by_cases e : i = 3
    · rw [show ((nx + 1) % 4 + 4 - 4 + i) % 4 = nx by omega, h1]
      exact (if_pos e).symm
    · rw [show ((nx + 1) % 4 + 4 - 4 + i) % 4 = (nx + 4 - hn + (i + 1)) % 4 by omega, h2 _ (by omega) (by omega)]
      exact (q (i + 1) (by omega)).trans (if_neg e).symm
theorem rH_back {gs : Nat → Sg} {nx hn : Nat} {h : Nat → Sg} (hr : rH gs nx hn h) (h1 : 1 ≤ hn) : rH gs ((nx + 3) % 4) (hn - 1) h ∧ gs ((nx + 3) % 4) = h (hn - 1) := by
  obtain ⟨a, b, q⟩ := hr
  refine ⟨⟨by omega, by omega, fun i hi => ?_⟩, ?_⟩
  · rw [show ((nx + 3) % 4 + 4 - (hn - 1) + i) % 4 = (nx + 4 - hn + i) % 4 by omega]
    exact q i (by omega)
  · have := q (hn - 1) (by omega)
    rwa [show (nx + 4 - hn + (hn - 1)) % 4 = (nx + 3) % 4 by omega] at this
def hI (f0 : Nat → Nat → Int32) (g0 : Sg) (f1 : Nat → Nat → Int32) (g1 : Sg) (f2 : Nat → Nat → Int32) (g2 : Sg) (f3 : Nat → Nat → Int32) (g3 : Sg) (nx hn : Nat) (h : Nat → Sg) : Prop := sO f0 g0 ∧ sO f1 g1 ∧ sO f2 g2 ∧ sO f3 g3 ∧ rH (kg4 g0 g1 g2 g3) nx hn h
section HI
variable {f0 f1 f2 f3 f : Nat → Nat → Int32} {g0 g1 g2 g3 g : Sg} {nx hn : Nat} {h : Nat → Sg}
theorem hI_nx (q : hI f0 g0 f1 g1 f2 g2 f3 g3 nx hn h) : nx < 4 := q.2.2.2.2.1
theorem hI_hn (q : hI f0 g0 f1 g1 f2 g2 f3 g3 nx hn h) : hn ≤ 4 := q.2.2.2.2.2.1
theorem hI_0 (q : hI f0 g0 f1 g1 f2 g2 f3 g3 0 hn h) (s : sO f g) : hI f g f1 g1 f2 g2 f3 g3 1 (pM hn) (pH h hn g) := ⟨s, q.2.1, q.2.2.1, q.2.2.2.1, rH_push q.2.2.2.2 rfl (fun j hj hz => by rcases (by omega : j = 1 ∨ j = 2 ∨ j = 3) with rfl | rfl | rfl <;> rfl)⟩
theorem hI_1 (q : hI f0 g0 f1 g1 f2 g2 f3 g3 1 hn h) (s : sO f g) : hI f0 g0 f g f2 g2 f3 g3 2 (pM hn) (pH h hn g) := ⟨q.1, s, q.2.2.1, q.2.2.2.1, rH_push q.2.2.2.2 rfl (fun j hj hz => by rcases (by omega : j = 0 ∨ j = 2 ∨ j = 3) with rfl | rfl | rfl <;> rfl)⟩
theorem hI_2 (q : hI f0 g0 f1 g1 f2 g2 f3 g3 2 hn h) (s : sO f g) : hI f0 g0 f1 g1 f g f3 g3 3 (pM hn) (pH h hn g) := ⟨q.1, q.2.1, s, q.2.2.2.1, rH_push q.2.2.2.2 rfl (fun j hj hz => by rcases (by omega : j = 0 ∨ j = 1 ∨ j = 3) with rfl | rfl | rfl <;> rfl)⟩
theorem hI_3 (q : hI f0 g0 f1 g1 f2 g2 f3 g3 3 hn h) (s : sO f g) : hI f0 g0 f1 g1 f2 g2 f g 0 (pM hn) (pH h hn g) := ⟨q.1, q.2.1, q.2.2.1, s, rH_push q.2.2.2.2 rfl (fun j hj hz => by rcases (by omega : j = 0 ∨ j = 1 ∨ j = 2) with rfl | rfl | rfl <;> rfl)⟩
theorem hB_0 (q : hI f0 g0 f1 g1 f2 g2 f3 g3 0 hn h) (z : 1 ≤ hn) : hI f0 g0 f1 g1 f2 g2 f3 g3 3 (hn - 1) h ∧ sO f3 g3 ∧ g3 = h (hn - 1) := ⟨⟨q.1, q.2.1, q.2.2.1, q.2.2.2.1, (rH_back q.2.2.2.2 z).1⟩, q.2.2.2.1, (rH_back q.2.2.2.2 z).2⟩
theorem hB_1 (q : hI f0 g0 f1 g1 f2 g2 f3 g3 1 hn h) (z : 1 ≤ hn) : hI f0 g0 f1 g1 f2 g2 f3 g3 0 (hn - 1) h ∧ sO f0 g0 ∧ g0 = h (hn - 1) := ⟨⟨q.1, q.2.1, q.2.2.1, q.2.2.2.1, (rH_back q.2.2.2.2 z).1⟩, q.1, (rH_back q.2.2.2.2 z).2⟩
theorem hB_2 (q : hI f0 g0 f1 g1 f2 g2 f3 g3 2 hn h) (z : 1 ≤ hn) : hI f0 g0 f1 g1 f2 g2 f3 g3 1 (hn - 1) h ∧ sO f1 g1 ∧ g1 = h (hn - 1) := ⟨⟨q.1, q.2.1, q.2.2.1, q.2.2.2.1, (rH_back q.2.2.2.2 z).1⟩, q.2.1, (rH_back q.2.2.2.2 z).2⟩
theorem hB_3 (q : hI f0 g0 f1 g1 f2 g2 f3 g3 3 hn h) (z : 1 ≤ hn) : hI f0 g0 f1 g1 f2 g2 f3 g3 2 (hn - 1) h ∧ sO f2 g2 ∧ g2 = h (hn - 1) := ⟨⟨q.1, q.2.1, q.2.2.1, q.2.2.2.1, (rH_back q.2.2.2.2 z).1⟩, q.2.2.1, (rH_back q.2.2.2.2 z).2⟩
end HI
/-- what an act leaves -/
def aQ (a : Int32) (g1 g : Sg) (h : Nat → Sg) (hn : Nat) (fo : Nat → Nat → Int32) (go : Sg) (f0 : Nat → Nat → Int32) (g0 : Sg) (f1 : Nat → Nat → Int32) (g1o : Sg) (f2 : Nat → Nat → Int32) (g2 : Sg) (f3 : Nat → Nat → Int32) (g3 : Sg) (nx hno : Nat) : Prop :=
  sO fo go ∧ go = (if a < nI 0 then g else g1) ∧ hno = (if a < nI 0 then hn else pM hn) ∧ hI f0 g0 f1 g1o f2 g2 f3 g3 nx hno (if a < nI 0 then h else pH h hn g)
section AQ
variable {f0 f1 f2 f3 fo fd : Nat → Nat → Int32} {a : Int32} {g0 g1 g2 g3 g gd : Sg} {nx hn nx' : Nat} {h : Nat → Sg} {e0 e1 e2 e3 : Nat → Nat → Int32} {d0 d1 d2 d3 : Sg}
theorem aQ_n (ha : a < nI 0) (hs : sO fo g) (hh : hI f0 g0 f1 g1 f2 g2 f3 g3 nx hn h) : aQ a gd g h hn fo g f0 g0 f1 g1 f2 g2 f3 g3 nx hn := ⟨hs, (if_pos ha).symm, (if_pos ha).symm, by rw [if_pos ha]; exact hh⟩
theorem aQ_y (ha : ¬ a < nI 0) (hs : sO fd gd) (hh : hI f0 g0 f1 g1 f2 g2 f3 g3 nx (pM hn) (pH h hn g)) : aQ a gd g h hn fd gd f0 g0 f1 g1 f2 g2 f3 g3 nx (pM hn) := ⟨hs, (if_neg ha).symm, (if_neg ha).symm, by rw [if_neg ha]; exact hh⟩
end AQ
