theorem rV_ann {v : Nat → Int32} {g : Sg} {x y : Nat} {m : Int32} (h : rV v g) (hk : nK g < 24) (ht : nT g ≤ 12) (hw : nW g ≤ 24) : rV (upd (upd (upd (upd v 5 (nI (nK g + 1))) (49 + 7 * nK g + 0) (nI x)) (49 + 7 * nK g + 1) (nI y)) (49 + 7 * nK g + 2) m) (oAnn g x y m) := by
  have key : ∀ z, z ≠ 5 → z ≠ 49 + 7 * nK g → z ≠ 49 + 7 * nK g + 1 → z ≠ 49 + 7 * nK g + 2 → upd (upd (upd (upd v 5 (nI (nK g + 1))) (49 + 7 * nK g + 0) (nI x)) (49 + 7 * nK g + 1) (nI y)) (49 + 7 * nK g + 2) m z = v z := fun z a b c d => by rw [up_n d, up_n c, up_n (by omega), up_n a]
  refine ⟨fun j hj => ?_, ?_, ?_, fun j h6 h10 => ?_, ?_, fun j hj => ?_, ?_, fun j hj => ?_, fun z hz => ?_⟩
  · rw [key _ (by omega) (by omega) (by omega) (by omega)]; exact h.c hj
  · rw [key _ (by omega) (by omega) (by omega) (by omega)]; exact h.m
  · rw [up_n (by omega), up_n (by omega), up_n (by omega), up_s]; rfl
  · rw [key _ (by omega) (by omega) (by omega) (by omega)]; exact h.a h6 h10
  · rw [key _ (by omega) (by omega) (by omega) (by omega)]; exact h.t
  · have hj : j < nT g := hj
    rw [key _ (by omega) (by omega) (by omega) (by omega)]; exact h.s hj
  · rw [key _ (by omega) (by omega) (by omega) (by omega)]; exact h.w
  · have hj : j < nW g := hj
    rw [key _ (by omega) (by omega) (by omega) (by omega)]; exact h.u hj
  · have f := h.f hz
    rw [key (49 + 7 * z + 3) (by omega) (by omega) (by omega) (by omega), key (49 + 7 * z + 4) (by omega) (by omega) (by omega) (by omega), key (49 + 7 * z + 5) (by omega) (by omega) (by omega) (by omega), key (49 + 7 * z + 6) (by omega) (by omega) (by omega) (by omega)]
    have u0 : ∀ w, w ≠ 0 → gX g w z = ux (gX g) 0 (nK g) m w z := fun w a => (if_neg (fun q => a q.1)).symm
    refine ⟨?_, ?_, ?_, f.2.2.2.1, f.2.2.2.2.1.trans (u0 1 (by decide)), f.2.2.2.2.2.1.trans (u0 2 (by decide)), f.2.2.2.2.2.2.trans (u0 3 (by decide))⟩
    · show _ = nI (un (gC g) (nK g) x z)
      by_cases q : z = nK g
      · subst q; rw [un_s, up_n (by omega), up_n (by omega)]; exact up_s _ _ _
      · rw [key _ (by omega) (by omega) (by omega) (by omega), un_n q]; exact f.1
    · show _ = nI (un (gA g) (nK g) y z)
      by_cases q : z = nK g
      · subst q; rw [un_s, up_n (by omega), up_s]
      · rw [key _ (by omega) (by omega) (by omega) (by omega), un_n q]; exact f.2.1
    · show _ = ux (gX g) 0 (nK g) m 0 z
      by_cases q : z = nK g
      · subst q; rw [up_s]; exact (if_pos ⟨rfl, rfl⟩).symm
      · rw [key _ (by omega) (by omega) (by omega) (by omega)]; exact f.2.2.1.trans (if_neg (fun a => q a.2)).symm
