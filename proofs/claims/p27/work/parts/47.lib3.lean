theorem kb_lfP {D : va_G} {cl : List vw_C} {X Y : va_W} {H : Heap} (h : va_P D cl (X ++ Y) H) : va_P D cl X H := fun k q hk => h k q (by
  rw [List.getElem?_append_left (List.getElem?_eq_some_iff.mp hk).1]
  exact hk)
theorem kb_lfD {A : Nat → Prop} {X Y : va_W} (h : va_D A (X ++ Y)) : va_D A X := by
  have key : ∀ (k : Nat) (q : Nat × va_E), X[k]? = some q → (X ++ Y)[k]? = some q := fun k q hk => by
    rw [List.getElem?_append_left (List.getElem?_eq_some_iff.mp hk).1]
    exact hk
  exact ⟨fun i j p q hi hj e => h.1 i j p q (key i p hi) (key j q hj) e, fun k q hk => h.2 k q (key k q hk)⟩
theorem riN_1 {g : Sg} {k : Nat} (h : sl g k = false) : riN g k + 1 = riN g (k + 1) := by
  unfold riN
  rw [cnt_s, if_pos (by rw [h]; rfl)]
theorem riN_0 {g : Sg} {k : Nat} (h : sl g k = true) : riN g k + 0 = riN g (k + 1) := by
  unfold riN
  rw [cnt_s, if_neg (by rw [h]; decide)]
