def tkO (v vo : Nat → Int32) (o mm p n : Nat) : Prop := (∀ j, j < n - 1 → vo (o + j) = if j < p then v (o + j) else v (o + j + 1)) ∧ vo mm = nI (n - 1) ∧ ∀ k, k ≠ mm → (k < o ∨ o + n ≤ k) → vo k = v k
theorem tk_post {v vc : Nat → Int32} {o mm p n k : Nat} (hA : ∀ j, p ≤ j → j < k → vc (o + j) = v (o + j + 1)) (hB : ∀ x, (x < o + p ∨ o + k ≤ x) → vc x = v x) (hk : k = n - 1) (hm : mm < o ∨ o + n ≤ mm) (hp : p < n) : tkO v (upd (upd vc mm (nI (n - 1))) (o + (n - 1)) (nI 0)) o mm p n := by
  refine ⟨fun j hj => ?_, ?_, fun x hx hz => ?_⟩
  · rw [up_n (by omega), up_n (by omega)]
    by_cases q : j < p
    · rw [if_pos q]; exact hB _ (by omega)
    · rw [if_neg q]; exact hA _ (by omega) (by omega)
  · rw [up_n (by omega), up_s]
  · rw [up_n (by omega), up_n hx]; exact hB _ (by omega)
theorem tk_A {v vc : Nat → Int32} {o p k : Nat} (hA : ∀ j, p ≤ j → j < k → vc (o + j) = v (o + j + 1)) (hB : ∀ x, (x < o + p ∨ o + k ≤ x) → vc x = v x) : ∀ j, p ≤ j → j < k + 1 → upd vc (o + k) (vc (o + k + 1)) (o + j) = v (o + j + 1) := fun j h1 h2 => by
  by_cases q : j = k
  · subst q; rw [up_s]; exact hB _ (by omega)
  · rw [up_n (by omega)]; exact hA j h1 (by omega)
theorem tk_B {v vc : Nat → Int32} {o p k : Nat} {a : Int32} (hpk : p ≤ k) (hB : ∀ x, (x < o + p ∨ o + k ≤ x) → vc x = v x) : ∀ x, (x < o + p ∨ o + (k + 1) ≤ x) → upd vc (o + k) a x = v x := fun x hx => by
  rw [up_n (by omega)]; exact hB x (by omega)
theorem sw10 {v : Nat → Int32} {i : Nat} {a c : Int32} : upd (upd v (12 + i) a) (12 + i + 1) c 10 = v 10 := by rw [up_n (by omega), up_n (by omega)]
