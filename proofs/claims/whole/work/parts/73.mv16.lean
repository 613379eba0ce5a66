section RN
variable {tx : Nat → Nat} {n lo hi i w q : Nat}
theorem rN_1 (c : hre tx n i (48 + lo) 57 = false) : pN tx n lo hi i = (false, i, 0) := by
  refine pN_f ?_
  by_cases a : dg tx n i = 10
  · exact Or.inl a
  · have hd := dg_ne a
    have c2 := of_decide_eq_false c
    right
    omega
theorem rN_2 (hlo : lo ≤ 9) (c : hre tx n i (48 + lo) 57 = true) : i < n ∧ 48 + lo ≤ tx i ∧ tx i ≤ 57 ∧ pN tx n lo hi i = (true, nL tx n hi (n - (i + 1)) (tx i - 48) (i + 1)) := by
  have c2 := of_decide_eq_true c
  have hd := dg_yes (tx := tx) c2.1 ⟨by omega, c2.2.2⟩
  refine ⟨c2.1, c2.2.1, c2.2.2, ?_⟩
  rw [← hd]
  exact pN_t (by omega)
theorem rN_h (c : hre tx n q 48 57 = true) : q < n ∧ 48 ≤ tx q ∧ tx q ≤ 57 := of_decide_eq_true c
theorem rN_s (h1 : ¬ w ≤ 0) (c : hre tx n q 48 57 = true) (h : 10 * w + tx q - 48 ≤ hi) : nL tx n hi (n - q) w q = nL tx n hi (n - (q + 1)) (10 * w + tx q - 48) (q + 1) := by
  have c2 := rN_h c
  have hd := dg_yes (tx := tx) c2.1 ⟨c2.2.1, c2.2.2⟩
  rw [show n - q = n - (q + 1) + 1 by omega, nL_s (by omega) (by omega) (by omega), hd]
  rw [show w * 10 + (tx q - 48) = 10 * w + tx q - 48 by omega]
theorem rN_e1 (h : w ≤ 0) : nL tx n hi (n - q) w q = (q, w) := nL_e (by omega) _
theorem rN_e2 (c : hre tx n q 48 57 = false) : nL tx n hi (n - q) w q = (q, w) := nL_e (fun a => by
  have hd := dg_ne a.2.1
  have c2 := of_decide_eq_false c
  omega) _
theorem rN_e3 (c : hre tx n q 48 57 = true) (h : hi < 10 * w + tx q - 48) : nL tx n hi (n - q) w q = (q, w) := nL_e (fun a => by
  have hd := dg_ne a.2.1
  have c2 := rN_h c
  omega) _
theorem rN_f {X : Nat × Nat} (hp : pN tx n lo hi i = (true, X)) (he : X = nL tx n hi (n - q) w q) (e : nL tx n hi (n - q) w q = (q, w)) : nI 1 = kb_b (pN tx n lo hi i).1 ∧ q = (pN tx n lo hi i).2.1 ∧ ((pN tx n lo hi i).1 = true → nI w = nI (pN tx n lo hi i).2.2) := by
  rw [hp, he, e]
  exact ⟨rfl, rfl, fun _ => rfl⟩
theorem rN_n {x : Int32} (hp : pN tx n lo hi i = (false, i, 0)) : nI 0 = kb_b (pN tx n lo hi i).1 ∧ i = (pN tx n lo hi i).2.1 ∧ ((pN tx n lo hi i).1 = true → x = nI (pN tx n lo hi i).2.2) := by
  rw [hp]
  exact ⟨rfl, rfl, fun q => by cases q⟩
end RN
