/-- a number's digits as signs -/
def dgs (x : Nat) : List Nat := (if x < 1000 then [] else [48 + x / 1000]) ++ ((if x < 100 then [] else [48 + x / 100 % 10]) ++ ((if x < 10 then [] else [48 + x / 10 % 10]) ++ [48 + x % 10]))
def dgN (x : Nat) : Nat := if x < 10 then 1 else if x < 100 then 2 else if x < 1000 then 3 else 4
theorem dgs_1 {x : Nat} (h : x < 10) : dgs x = [48 + x] := by
  unfold dgs
  rw [if_pos (by omega), if_pos (by omega), if_pos h, Nat.mod_eq_of_lt h]
  rfl
theorem dgs_2 {x : Nat} (h : 10 ≤ x) (h2 : x < 100) : dgs x = [48 + x / 10, 48 + x % 10] := by
  unfold dgs
  rw [if_pos (by omega), if_pos (by omega), if_neg (by omega), Nat.mod_eq_of_lt (show x / 10 < 10 by omega)]
  rfl
theorem dgs_3 {x : Nat} (h : 100 ≤ x) (h2 : x < 1000) : dgs x = [48 + x / 100, 48 + x / 10 % 10, 48 + x % 10] := by
  unfold dgs
  rw [if_pos (by omega), if_neg (by omega), if_neg (by omega), Nat.mod_eq_of_lt (show x / 100 < 10 by omega)]
  rfl
theorem dgs_4 {x : Nat} (h : 1000 ≤ x) : dgs x = [48 + x / 1000, 48 + x / 100 % 10, 48 + x / 10 % 10, 48 + x % 10] := by
  unfold dgs
  rw [if_neg (by omega), if_neg (by omega), if_neg (by omega)]
  rfl
theorem dgN_1 {x : Nat} (h : x < 10) : dgN x = 1 := if_pos h
theorem dgN_2 {x : Nat} (h : 10 ≤ x) (h2 : x < 100) : dgN x = 2 := by
  unfold dgN
  rw [if_neg (by omega), if_pos h2]
theorem dgN_3 {x : Nat} (h : 100 ≤ x) (h2 : x < 1000) : dgN x = 3 := by
  unfold dgN
  rw [if_neg (by omega), if_neg (by omega), if_pos h2]
theorem dgN_4 {x : Nat} (h : 1000 ≤ x) : dgN x = 4 := by
  unfold dgN
  rw [if_neg (by omega), if_neg (by omega), if_neg (by omega)]
theorem dgN_b (x : Nat) : 1 ≤ dgN x ∧ dgN x ≤ 4 := by
  unfold dgN
  split
  · omega
  · split
    · omega
    · split <;> omega
theorem dgs_len (x : Nat) : (dgs x).length = dgN x := by
  rcases Nat.lt_or_ge x 10 with h | h
  · rw [dgs_1 h, dgN_1 h]; rfl
  · rcases Nat.lt_or_ge x 100 with q | q
    · rw [dgs_2 h q, dgN_2 h q]; rfl
    · rcases Nat.lt_or_ge x 1000 with z | z
      · rw [dgs_3 q z, dgN_3 q z]; rfl
      · rw [dgs_4 z, dgN_4 z]; rfl
theorem nL_st {tx : Nat → Nat} {n hi v i f d : Nat} (h1 : 0 < v) (hd : dg tx n i = d) (h9 : d ≤ 9) (h3 : v * 10 + d ≤ hi) (hf : 0 < f) : nL tx n hi f v i = nL tx n hi (f - 1) (v * 10 + d) (i + 1) := by
  obtain ⟨k, rfl⟩ : ∃ k, f = k + 1 := ⟨f - 1, by omega⟩
  have e := nL_s (f := k) h1 (show dg tx n i ≠ 10 by omega) (show v * 10 + dg tx n i ≤ hi by omega)
  rw [hd] at e
  exact e
theorem nL_10 {tx : Nat → Nat} {n hi v i f : Nat} (hd : dg tx n i = 10) : nL tx n hi f v i = (i, v) := nL_e (fun z => z.2.1 hd) f
theorem dg_at {tx : Nat → Nat} {n i d : Nat} (hi : i < n) (h : tx i = 48 + d) (h9 : d ≤ 9) : dg tx n i = d := by
  rw [dg_yes hi ⟨by omega, by omega⟩, h]
  omega
/-- a number read where its digits stand -/
theorem pN_dgs {tx : Nat → Nat} {n lo hi i x : Nat} (hx : x ≤ 9999) (hh : x ≤ hi) (hlo : lo = 0 ∨ (lo = 1 ∧ 1 ≤ x ∧ x < 10)) (hn : i + dgN x ≤ n) (hd : ∀ j y, (dgs x)[j]? = some y → tx (i + j) = y) (he : dg tx n (i + dgN x) = 10) : pN tx n lo hi i = (true, i + dgN x, x) := by
  rcases Nat.lt_or_ge x 10 with h | h
  · rw [dgs_1 h] at hd
    rw [dgN_1 h] at hn he ⊢
    have d0 : dg tx n i = x := dg_at (by omega) (hd 0 _ rfl) (by omega)
    rw [pN_t (by rw [d0]; omega), d0, nL_10 he]
  · have hl0 : lo = 0 := by omega
    subst hl0
    rcases Nat.lt_or_ge x 100 with q | q
    · rw [dgs_2 h q] at hd
      rw [dgN_2 h q] at hn he ⊢
      have d0 : dg tx n i = x / 10 := dg_at (by omega) (hd 0 _ rfl) (by omega)
      have d1 : dg tx n (i + 1) = x % 10 := dg_at (by omega) (hd 1 _ rfl) (by omega)
      rw [pN_t (by rw [d0]; omega), d0, nL_st (by omega) d1 (by omega) (by omega) (by omega), nL_10 he, show x / 10 * 10 + x % 10 = x by omega]
    · rcases Nat.lt_or_ge x 1000 with z | z
      · rw [dgs_3 q z] at hd
        rw [dgN_3 q z] at hn he ⊢
        have d0 : dg tx n i = x / 100 := dg_at (by omega) (hd 0 _ rfl) (by omega)
        have d1 : dg tx n (i + 1) = x / 10 % 10 := dg_at (by omega) (hd 1 _ rfl) (by omega)
        have d2 : dg tx n (i + 1 + 1) = x % 10 := dg_at (by omega) (hd 2 _ rfl) (by omega)
        rw [pN_t (by rw [d0]; omega), d0, nL_st (by omega) d1 (by omega) (by omega) (by omega), nL_st (by omega) d2 (by omega) (by omega) (by omega), nL_10 he, show (x / 100 * 10 + x / 10 % 10) * 10 + x % 10 = x by omega]
      · rw [dgs_4 z] at hd
        rw [dgN_4 z] at hn he ⊢
        have d0 : dg tx n i = x / 1000 := dg_at (by omega) (hd 0 _ rfl) (by omega)
        have d1 : dg tx n (i + 1) = x / 100 % 10 := dg_at (by omega) (hd 1 _ rfl) (by omega)
        have d2 : dg tx n (i + 1 + 1) = x / 10 % 10 := dg_at (by omega) (hd 2 _ rfl) (by omega)
        have d3 : dg tx n (i + 1 + 1 + 1) = x % 10 := dg_at (by omega) (hd 3 _ rfl) (by omega)
        rw [pN_t (by rw [d0]; omega), d0, nL_st (by omega) d1 (by omega) (by omega) (by omega), nL_st (by omega) d2 (by omega) (by omega) (by omega), nL_st (by omega) d3 (by omega) (by omega) (by omega), nL_10 he, show ((x / 1000 * 10 + x / 100 % 10) * 10 + x / 10 % 10) * 10 + x % 10 = x by omega]
/-- a king told by a text -/
def txK (c a ma : Nat) : List Nat := [107] ++ (dgs c ++ ([46] ++ (dgs a ++ ([64] ++ dgs ma))))
theorem txK_e {c a ma : Nat} (hc : c < 10) : txK c a ma = 107 :: (48 + c) :: 46 :: (dgs a ++ 64 :: dgs ma) := by
  unfold txK
  rw [dgs_1 hc]
  rfl
theorem txK_len {c a ma : Nat} (hc : c < 10) : (txK c a ma).length = 4 + dgN a + dgN ma := by
  rw [txK_e hc]
  simp only [List.length_cons, List.length_append, dgs_len]
  omega
theorem txK_p {tx : Nat → Nat} {n c a ma : Nat} (hc : 1 ≤ c ∧ c ≤ 9) (ha : a ≤ 120) (hm : ma ≤ 9999) (hn : n = (txK c a ma).length) (ht : ∀ i x, (txK c a ma)[i]? = some x → tx i = x) : pTs tx n 0 = (true, n, 107, c, a, ma) := by
  rw [txK_len (by omega)] at hn
  rw [txK_e (by omega)] at ht
  have b1 := dgN_b a
  have b2 := dgN_b ma
  have t0 : tx 0 = 107 := ht 0 _ rfl
  have t1 : tx 1 = 48 + c := ht 1 _ rfl
  have t2 : tx 2 = 46 := ht 2 _ rfl
  have t3 : ∀ j y, (dgs a)[j]? = some y → tx (3 + j) = y := fun j y h => ht (3 + j) y (by
    rw [show 3 + j = j + 1 + 1 + 1 by omega, List.getElem?_cons_succ, List.getElem?_cons_succ, List.getElem?_cons_succ, List.getElem?_append_left (List.getElem?_eq_some_iff.mp h).1]
    exact h)
  have t4 : tx (3 + dgN a) = 64 := ht (3 + dgN a) _ (by
    rw [show 3 + dgN a = dgN a + 1 + 1 + 1 by omega, List.getElem?_cons_succ, List.getElem?_cons_succ, List.getElem?_cons_succ, List.getElem?_append_right (by rw [dgs_len]; omega), dgs_len, Nat.sub_self]
    rfl)
  have t5 : ∀ j y, (dgs ma)[j]? = some y → tx (4 + dgN a + j) = y := fun j y h => ht (4 + dgN a + j) y (by
    rw [show 4 + dgN a + j = (dgN a + (j + 1)) + 1 + 1 + 1 by omega, List.getElem?_cons_succ, List.getElem?_cons_succ, List.getElem?_cons_succ, List.getElem?_append_right (by rw [dgs_len]; omega), dgs_len, show dgN a + (j + 1) - dgN a = j + 1 by omega, List.getElem?_cons_succ]
    exact h)
  have n1 : pN tx n 1 9 1 = (true, 2, c) := by
    have e := pN_dgs (tx := tx) (n := n) (lo := 1) (hi := 9) (i := 1) (x := c) (by omega) (by omega) (by omega) (by rw [dgN_1 (by omega)]; omega) (fun j y h => by
      rw [dgs_1 (by omega)] at h
      cases j with
      | zero => exact t1.trans (Option.some.inj h)
      | succ j => simp at h) (by rw [dgN_1 (by omega)]; exact dg_no (by omega) (by rw [t2]; omega))
    rw [dgN_1 (by omega)] at e
    exact e
  have n2 : pN tx n 0 120 3 = (true, 3 + dgN a, a) := pN_dgs (by omega) ha (Or.inl rfl) (by omega) t3 (dg_no (by omega) (by rw [t4]; omega))
  have n3 : pN tx n 0 9999 (4 + dgN a) = (true, n, ma) := by
    have e := pN_dgs (tx := tx) (n := n) (lo := 0) (hi := 9999) (i := 4 + dgN a) (x := ma) hm hm (Or.inl rfl) (by omega) t5 (dg_out (by omega))
    rw [← hn] at e
    exact e
  have c0 : cd tx n 0 = 107 := (cd_in (by omega)).trans t0
  have g2 : cd tx n 2 = 46 := (cd_in (by omega)).trans t2
  have g4 : cd tx n (3 + dgN a) = 64 := (cd_in (by omega)).trans t4
  have k1 : pK tx n 1 = (true, n, c, a, ma) := by
    have e := pK_5 (tx := tx) (n := n) (i := 1) (by rw [n1]) (by rw [n1]; exact g2) (by rw [n1, n2]) (by rw [n1, n2]; exact g4)
    rw [e, n1, n2, show 3 + dgN a + 1 = 4 + dgN a by omega, n3]
  rw [pTs_0, pTh_k c0, k1]
theorem txK_F {tx : Nat → Nat} {n c a ma : Nat} (hc : 1 ≤ c ∧ c ≤ 9) (ha : a ≤ 120) (hm : ma ≤ 9999) (hn : n = (txK c a ma).length) (ht : ∀ i x, (txK c a ma)[i]? = some x → tx i = x) {g : Sg} (hr : ¬ (opA g (nI c) (nI a) (nI ma)).1 < 0) : pfR tx n g = nI 1 ∧ pfG tx n g = (opA g (nI c) (nI a) (nI ma)).2 := by
  have e := txK_p hc ha hm hn ht
  have f1 : pF tx n 61 0 = (true, 1) := pF_2 (by rw [e]) (by rw [e]; exact Nat.le_refl _)
  have k1 : opK tx n 0 g = opA g (nI c) (nI a) (nI ma) := by
    have := opK_k (hc := g) (tx := tx) (n := n) (i := 0) (by rw [e])
    rw [e] at this
    exact this
  have r1 : rn tx n 1 0 0 g = ((true, 1, 0), (opA g (nI c) (nI a) (nI ma)).2) := by
    rw [rn_s (by rw [k1]; exact hr), k1]
    rfl
  unfold pfR pfG
  rw [f1]
  show (if true = true then if (rn tx n 1 0 0 g).1.1 = true then nI 1 else -4 else -100 - nI 1) = nI 1 ∧ (rn tx n 1 0 0 g).2 = _
  rw [r1]
  exact ⟨rfl, rfl⟩
