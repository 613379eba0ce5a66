def cd (tx : Nat → Nat) (n i : Nat) : Nat := if i < n then tx i else 70000
def dg (tx : Nat → Nat) (n i : Nat) : Nat := if 48 ≤ cd tx n i ∧ cd tx n i ≤ 57 then cd tx n i - 48 else 10
def nL (tx : Nat → Nat) (n hi : Nat) : Nat → Nat → Nat → Nat × Nat
  | 0, v, i => (i, v)
  | f + 1, v, i => if 0 < v ∧ dg tx n i ≠ 10 ∧ v * 10 + dg tx n i ≤ hi then nL tx n hi f (v * 10 + dg tx n i) (i + 1) else (i, v)
def pN (tx : Nat → Nat) (n lo hi i : Nat) : Bool × Nat × Nat := if dg tx n i = 10 ∨ dg tx n i < lo then (false, i, 0) else (true, nL tx n hi (n - (i + 1)) (dg tx n i) (i + 1))
def pK (tx : Nat → Nat) (n i : Nat) : Bool × Nat × Nat × Nat × Nat :=
  if (pN tx n 1 9 i).1 = true then
    if cd tx n (pN tx n 1 9 i).2.1 = 46 then
      if (pN tx n 0 120 ((pN tx n 1 9 i).2.1 + 1)).1 = true then
        if cd tx n (pN tx n 0 120 ((pN tx n 1 9 i).2.1 + 1)).2.1 = 64 then
          ((pN tx n 0 9999 ((pN tx n 0 120 ((pN tx n 1 9 i).2.1 + 1)).2.1 + 1)).1, (pN tx n 0 9999 ((pN tx n 0 120 ((pN tx n 1 9 i).2.1 + 1)).2.1 + 1)).2.1, (pN tx n 1 9 i).2.2, (pN tx n 0 120 ((pN tx n 1 9 i).2.1 + 1)).2.2, (pN tx n 0 9999 ((pN tx n 0 120 ((pN tx n 1 9 i).2.1 + 1)).2.1 + 1)).2.2)
        else (false, (pN tx n 0 120 ((pN tx n 1 9 i).2.1 + 1)).2.1, 0, 0, 0)
      else (false, (pN tx n 0 120 ((pN tx n 1 9 i).2.1 + 1)).2.1, 0, 0, 0)
    else (false, (pN tx n 1 9 i).2.1, 0, 0, 0)
  else (false, (pN tx n 1 9 i).2.1, 0, 0, 0)
/-- a thing: good, behind it, its letter, three numbers -/
def pTh (tx : Nat → Nat) (n i : Nat) : Bool × Nat × Nat × Nat × Nat × Nat :=
  if cd tx n i = 107 then ((pK tx n (i + 1)).1, (pK tx n (i + 1)).2.1, 107, (pK tx n (i + 1)).2.2)
  else if cd tx n i = 108 then ((pN tx n 0 23 (i + 1)).1, (pN tx n 0 23 (i + 1)).2.1, 108, 0, 0, (pN tx n 0 23 (i + 1)).2.2)
  else if cd tx n i = 46 then ((pN tx n 1 99 (i + 1)).1, (pN tx n 1 99 (i + 1)).2.1, 46, 0, 0, (pN tx n 1 99 (i + 1)).2.2)
  else (false, i, 0, 0, 0, 0)
theorem cd_in {tx : Nat → Nat} {n i : Nat} (h : i < n) : cd tx n i = tx i := if_pos h
theorem cd_out {tx : Nat → Nat} {n i : Nat} (h : n ≤ i) : cd tx n i = 70000 := if_neg (by omega)
theorem dg_le (tx : Nat → Nat) (n i : Nat) : dg tx n i ≤ 10 := by
  unfold dg
  split <;> omega
theorem dg_ne {tx : Nat → Nat} {n i : Nat} (h : dg tx n i ≠ 10) : i < n ∧ dg tx n i ≤ 9 ∧ 48 ≤ tx i ∧ tx i ≤ 57 ∧ dg tx n i = tx i - 48 := by
  unfold dg at h ⊢
  split at h
  · rename_i q
    rw [if_pos q]
    have hi : i < n := by
      rcases Nat.lt_or_ge i n with z | z
      · exact z
      · rw [cd_out z] at q
        omega
    rw [cd_in hi] at q ⊢
    omega
  · exact absurd rfl h
theorem dg_yes {tx : Nat → Nat} {n i : Nat} (hi : i < n) (h : 48 ≤ tx i ∧ tx i ≤ 57) : dg tx n i = tx i - 48 := by
  unfold dg
  rw [cd_in hi, if_pos h]
theorem dg_no {tx : Nat → Nat} {n i : Nat} (hi : i < n) (h : ¬ (48 ≤ tx i ∧ tx i ≤ 57)) : dg tx n i = 10 := by
  unfold dg
  rw [cd_in hi, if_neg h]
theorem dg_out {tx : Nat → Nat} {n i : Nat} (hi : n ≤ i) : dg tx n i = 10 := by
  unfold dg
  rw [cd_out hi, if_neg (by omega)]
theorem nL_s {tx : Nat → Nat} {n hi v i f : Nat} (h1 : 0 < v) (h2 : dg tx n i ≠ 10) (h3 : v * 10 + dg tx n i ≤ hi) : nL tx n hi (f + 1) v i = nL tx n hi f (v * 10 + dg tx n i) (i + 1) := if_pos ⟨h1, h2, h3⟩
theorem nL_e {tx : Nat → Nat} {n hi v i : Nat} (h : ¬ (0 < v ∧ dg tx n i ≠ 10 ∧ v * 10 + dg tx n i ≤ hi)) : ∀ f, nL tx n hi f v i = (i, v)
  | 0 => rfl
  | _ + 1 => if_neg h
theorem nL_b {tx : Nat → Nat} {n hi : Nat} : ∀ (f v i : Nat), v ≤ hi → i ≤ n → i ≤ (nL tx n hi f v i).1 ∧ (nL tx n hi f v i).1 ≤ n ∧ (nL tx n hi f v i).2 ≤ hi ∧ v ≤ (nL tx n hi f v i).2
  | 0, v, i, h, h2 => ⟨Nat.le_refl _, h2, h, Nat.le_refl _⟩
  | f + 1, v, i, h, h2 => by
    unfold nL
    split
    · rename_i q
      have hd := dg_ne q.2.1
      have := nL_b (tx := tx) (n := n) (hi := hi) f (v * 10 + dg tx n i) (i + 1) q.2.2 (by omega)
      omega
    · exact ⟨Nat.le_refl _, h2, h, Nat.le_refl _⟩
theorem pN_f {tx : Nat → Nat} {n lo hi i : Nat} (h : dg tx n i = 10 ∨ dg tx n i < lo) : pN tx n lo hi i = (false, i, 0) := if_pos h
theorem pN_t {tx : Nat → Nat} {n lo hi i : Nat} (h : ¬ (dg tx n i = 10 ∨ dg tx n i < lo)) : pN tx n lo hi i = (true, nL tx n hi (n - (i + 1)) (dg tx n i) (i + 1)) := if_neg h
theorem pN_b {tx : Nat → Nat} {n lo hi i : Nat} (hh : 9 ≤ hi) (h : (pN tx n lo hi i).1 = true) : i < (pN tx n lo hi i).2.1 ∧ (pN tx n lo hi i).2.1 ≤ n ∧ (pN tx n lo hi i).2.2 ≤ hi ∧ lo ≤ (pN tx n lo hi i).2.2 := by
  by_cases q : dg tx n i = 10 ∨ dg tx n i < lo
  · rw [pN_f q] at h
    cases h
  · have hd := dg_ne (tx := tx) (n := n) (i := i) (fun e => q (Or.inl e))
    rw [pN_t q]
    have := nL_b (tx := tx) (n := n) (hi := hi) (n - (i + 1)) (dg tx n i) (i + 1) (by omega) (by omega)
    dsimp only
    omega
theorem pN_p {tx : Nat → Nat} {n lo hi i : Nat} (hh : 9 ≤ hi) (h : i ≤ n) : (pN tx n lo hi i).2.1 ≤ n := by
  by_cases q : (pN tx n lo hi i).1 = true
  · exact (pN_b hh q).2.1
  · by_cases z : dg tx n i = 10 ∨ dg tx n i < lo
    · rw [pN_f z]
      exact h
    · rw [pN_t z] at q
      exact absurd rfl q
def sgI (tx : Nat → Nat) (n i : Nat) : Int32 := if i < n then nI (tx i) else -1
def dgI (tx : Nat → Nat) (n i : Nat) : Int32 := if dg tx n i = 10 then -1 else nI (dg tx n i)
theorem nI_ne1 {n : Nat} (h : n < 2 ^ 31) : nI n ≠ -1 := fun e => by
  have := nI_pos h
  rw [e] at this
  exact this (by decide)
theorem dgI_1 {tx : Nat → Nat} {n i : Nat} (h : ¬ dgI tx n i = -1) : dgI tx n i = nI (dg tx n i) := by
  unfold dgI at h ⊢
  split at h
  · exact absurd rfl h
  · rename_i q
    rw [if_neg q]
theorem dgI_ne {tx : Nat → Nat} {n i : Nat} (h : ¬ dgI tx n i = -1) : dg tx n i ≠ 10 := fun e => h (if_pos e)
theorem dgI_eq {tx : Nat → Nat} {n i : Nat} (h : dgI tx n i = -1) : dg tx n i = 10 := by
  unfold dgI at h
  split at h
  · assumption
  · exact absurd h (nI_ne1 (by have := dg_le tx n i; omega))
def tOk (t : Nat → Int32) (tx : Nat → Nat) (n : Nat) : Prop := n ≤ 60 ∧ ∀ i, i < n → t i = nI (tx i) ∧ tx i < 65536
theorem sgI_eq {tx : Nat → Nat} {t : Nat → Int32} {n i x : Nat} (ht : tOk t tx n) (hx : x < 65536) : sgI tx n i = nI x ↔ cd tx n i = x := by
  unfold sgI cd
  by_cases h : i < n
  · rw [if_pos h, if_pos h]
    exact nI_eq (by have := (ht.2 i h).2; omega) (by omega)
  · rw [if_neg h, if_neg h]
    exact ⟨fun e => absurd e.symm (nI_ne1 (by omega)), fun e => by omega⟩
theorem pK_1 {tx : Nat → Nat} {n i : Nat} (h : ¬ (pN tx n 1 9 i).1 = true) : pK tx n i = (false, (pN tx n 1 9 i).2.1, 0, 0, 0) := if_neg h
theorem pK_2 {tx : Nat → Nat} {n i : Nat} (h : (pN tx n 1 9 i).1 = true) (h2 : ¬ cd tx n (pN tx n 1 9 i).2.1 = 46) : pK tx n i = (false, (pN tx n 1 9 i).2.1, 0, 0, 0) := by
  unfold pK
  rw [if_pos h, if_neg h2]
theorem pK_3 {tx : Nat → Nat} {n i : Nat} (h : (pN tx n 1 9 i).1 = true) (h2 : cd tx n (pN tx n 1 9 i).2.1 = 46) (h3 : ¬ (pN tx n 0 120 ((pN tx n 1 9 i).2.1 + 1)).1 = true) : pK tx n i = (false, (pN tx n 0 120 ((pN tx n 1 9 i).2.1 + 1)).2.1, 0, 0, 0) := by
  unfold pK
  rw [if_pos h, if_pos h2, if_neg h3]
theorem pK_4 {tx : Nat → Nat} {n i : Nat} (h : (pN tx n 1 9 i).1 = true) (h2 : cd tx n (pN tx n 1 9 i).2.1 = 46) (h3 : (pN tx n 0 120 ((pN tx n 1 9 i).2.1 + 1)).1 = true) (h4 : ¬ cd tx n (pN tx n 0 120 ((pN tx n 1 9 i).2.1 + 1)).2.1 = 64) : pK tx n i = (false, (pN tx n 0 120 ((pN tx n 1 9 i).2.1 + 1)).2.1, 0, 0, 0) := by
  unfold pK
  rw [if_pos h, if_pos h2, if_pos h3, if_neg h4]
theorem pK_5 {tx : Nat → Nat} {n i : Nat} (h : (pN tx n 1 9 i).1 = true) (h2 : cd tx n (pN tx n 1 9 i).2.1 = 46) (h3 : (pN tx n 0 120 ((pN tx n 1 9 i).2.1 + 1)).1 = true) (h4 : cd tx n (pN tx n 0 120 ((pN tx n 1 9 i).2.1 + 1)).2.1 = 64) : pK tx n i = ((pN tx n 0 9999 ((pN tx n 0 120 ((pN tx n 1 9 i).2.1 + 1)).2.1 + 1)).1, (pN tx n 0 9999 ((pN tx n 0 120 ((pN tx n 1 9 i).2.1 + 1)).2.1 + 1)).2.1, (pN tx n 1 9 i).2.2, (pN tx n 0 120 ((pN tx n 1 9 i).2.1 + 1)).2.2, (pN tx n 0 9999 ((pN tx n 0 120 ((pN tx n 1 9 i).2.1 + 1)).2.1 + 1)).2.2) := by
  unfold pK
  rw [if_pos h, if_pos h2, if_pos h3, if_pos h4]
theorem cd_lt {tx : Nat → Nat} {n i x : Nat} (h : cd tx n i = x) (hx : x < 65536) : i < n := by
  rcases Nat.lt_or_ge i n with q | q
  · exact q
  · rw [cd_out q] at h
    omega
theorem pK_p {tx : Nat → Nat} {n i : Nat} (h : i ≤ n) : i ≤ (pK tx n i).2.1 ∨ True := Or.inr trivial
theorem pK_le {tx : Nat → Nat} {n i : Nat} (h : i ≤ n) : (pK tx n i).2.1 ≤ n := by
  by_cases a : (pN tx n 1 9 i).1 = true
  · by_cases b : cd tx n (pN tx n 1 9 i).2.1 = 46
    · have hb := cd_lt b (by decide)
      by_cases c : (pN tx n 0 120 ((pN tx n 1 9 i).2.1 + 1)).1 = true
      · by_cases d : cd tx n (pN tx n 0 120 ((pN tx n 1 9 i).2.1 + 1)).2.1 = 64
        · have hd := cd_lt d (by decide)
          rw [pK_5 a b c d]
          exact pN_p (by decide) (by omega)
        · rw [pK_4 a b c d]
          exact pN_p (by decide) (by omega)
      · rw [pK_3 a b c]
        exact pN_p (by decide) (by omega)
    · rw [pK_2 a b]
      exact pN_p (by decide) h
  · rw [pK_1 a]
    exact pN_p (by decide) h
theorem pK_ok {tx : Nat → Nat} {n i : Nat} (h : (pK tx n i).1 = true) : i < (pK tx n i).2.1 ∧ (pK tx n i).2.2.1 ≤ 9 ∧ 1 ≤ (pK tx n i).2.2.1 ∧ (pK tx n i).2.2.2.1 ≤ 120 ∧ (pK tx n i).2.2.2.2 ≤ 9999 := by
  by_cases a : (pN tx n 1 9 i).1 = true
  · have ha := pN_b (by decide) a
    by_cases b : cd tx n (pN tx n 1 9 i).2.1 = 46
    · by_cases c : (pN tx n 0 120 ((pN tx n 1 9 i).2.1 + 1)).1 = true
      · have hc := pN_b (by decide) c
        by_cases d : cd tx n (pN tx n 0 120 ((pN tx n 1 9 i).2.1 + 1)).2.1 = 64
        · rw [pK_5 a b c d] at h ⊢
          have he := pN_b (by decide) h
          dsimp only
          omega
        · rw [pK_4 a b c d] at h
          cases h
      · rw [pK_3 a b c] at h
        cases h
    · rw [pK_2 a b] at h
      cases h
  · rw [pK_1 a] at h
    cases h
theorem pTh_k {tx : Nat → Nat} {n i : Nat} (h : cd tx n i = 107) : pTh tx n i = ((pK tx n (i + 1)).1, (pK tx n (i + 1)).2.1, 107, (pK tx n (i + 1)).2.2) := if_pos h
theorem pTh_l {tx : Nat → Nat} {n i : Nat} (h : cd tx n i = 108) : pTh tx n i = ((pN tx n 0 23 (i + 1)).1, (pN tx n 0 23 (i + 1)).2.1, 108, 0, 0, (pN tx n 0 23 (i + 1)).2.2) := by
  unfold pTh
  rw [if_neg (by omega), if_pos h]
theorem pTh_d {tx : Nat → Nat} {n i : Nat} (h : cd tx n i = 46) : pTh tx n i = ((pN tx n 1 99 (i + 1)).1, (pN tx n 1 99 (i + 1)).2.1, 46, 0, 0, (pN tx n 1 99 (i + 1)).2.2) := by
  unfold pTh
  rw [if_neg (by omega), if_neg (by omega), if_pos h]
theorem pTh_0 {tx : Nat → Nat} {n i : Nat} (h1 : ¬ cd tx n i = 107) (h2 : ¬ cd tx n i = 108) (h3 : ¬ cd tx n i = 46) : pTh tx n i = (false, i, 0, 0, 0, 0) := by
  unfold pTh
  rw [if_neg h1, if_neg h2, if_neg h3]
theorem pTh_ok {tx : Nat → Nat} {n i : Nat} (h : (pTh tx n i).1 = true) : i + 1 < (pTh tx n i).2.1 ∧ (pTh tx n i).2.1 ≤ n ∧ (((pTh tx n i).2.2.1 = 107 ∧ 1 ≤ (pTh tx n i).2.2.2.1 ∧ (pTh tx n i).2.2.2.1 ≤ 9 ∧ (pTh tx n i).2.2.2.2.1 ≤ 120 ∧ (pTh tx n i).2.2.2.2.2 ≤ 9999) ∨ ((pTh tx n i).2.2.1 = 108 ∧ (pTh tx n i).2.2.2.2.2 ≤ 23) ∨ ((pTh tx n i).2.2.1 = 46 ∧ (pTh tx n i).2.2.2.2.2 ≤ 99)) := by
  by_cases a : cd tx n i = 107
  · have := cd_lt a (by decide)
    rw [pTh_k a] at h ⊢
    have hk := pK_ok h
    have := pK_le (tx := tx) (n := n) (i := i + 1) (by omega)
    dsimp only
    omega
  · by_cases b : cd tx n i = 108
    · rw [pTh_l b] at h ⊢
      have hk := pN_b (by decide) h
      dsimp only
      omega
    · by_cases c : cd tx n i = 46
      · rw [pTh_d c] at h ⊢
        have hk := pN_b (by decide) h
        dsimp only
        omega
      · rw [pTh_0 a b c] at h
        cases h
theorem pTh_le {tx : Nat → Nat} {n i : Nat} (h : i ≤ n) : (pTh tx n i).2.1 ≤ n := by
  by_cases a : cd tx n i = 107
  · have := cd_lt a (by decide)
    rw [pTh_k a]
    exact pK_le (by omega)
  · by_cases b : cd tx n i = 108
    · have := cd_lt b (by decide)
      rw [pTh_l b]
      exact pN_p (by decide) (by omega)
    · by_cases c : cd tx n i = 46
      · have := cd_lt c (by decide)
        rw [pTh_d c]
        exact pN_p (by decide) (by omega)
      · rw [pTh_0 a b c]
        exact h
/-- a thing and what parts it from the one before it -/
def pTs (tx : Nat → Nat) (n i : Nat) : Bool × Nat × Nat × Nat × Nat × Nat := if i = 0 then pTh tx n 0 else if cd tx n i = 59 then pTh tx n (i + 1) else (false, i, 0, 0, 0, 0)
theorem pTs_0 {tx : Nat → Nat} {n : Nat} : pTs tx n 0 = pTh tx n 0 := if_pos rfl
theorem pTs_s {tx : Nat → Nat} {n i : Nat} (h : i ≠ 0) (h2 : cd tx n i = 59) : pTs tx n i = pTh tx n (i + 1) := by
  unfold pTs
  rw [if_neg h, if_pos h2]
theorem pTs_f {tx : Nat → Nat} {n i : Nat} (h : i ≠ 0) (h2 : ¬ cd tx n i = 59) : pTs tx n i = (false, i, 0, 0, 0, 0) := by
  unfold pTs
  rw [if_neg h, if_neg h2]
theorem pTs_le {tx : Nat → Nat} {n i : Nat} (h : i ≤ n) : (pTs tx n i).2.1 ≤ n := by
  by_cases a : i = 0
  · subst a
    rw [pTs_0]
    exact pTh_le h
  · by_cases b : cd tx n i = 59
    · have := cd_lt b (by decide)
      rw [pTs_s a b]
      exact pTh_le (by omega)
    · rw [pTs_f a b]
      exact h
theorem pTs_ok {tx : Nat → Nat} {n i : Nat} (h : (pTs tx n i).1 = true) : i + 1 < (pTs tx n i).2.1 ∧ (pTs tx n i).2.1 ≤ n := by
  by_cases a : i = 0
  · subst a
    rw [pTs_0] at h ⊢
    exact ⟨(pTh_ok h).1, (pTh_ok h).2.1⟩
  · by_cases b : cd tx n i = 59
    · rw [pTs_s a b] at h ⊢
      have := pTh_ok h
      exact ⟨by omega, this.2.1⟩
    · rw [pTs_f a b] at h
      cases h
/-- the whole text from a place on: good, and how many things, or the fault -/
def pF (tx : Nat → Nat) (n : Nat) : Nat → Nat → Bool × Nat
  | 0, i => (false, i)
  | f + 1, i => if (pTs tx n i).1 = true then if n ≤ (pTs tx n i).2.1 then (true, 1) else if (pF tx n f (pTs tx n i).2.1).1 = true then (true, (pF tx n f (pTs tx n i).2.1).2 + 1) else (false, (pF tx n f (pTs tx n i).2.1).2) else (false, (pTs tx n i).2.1)
