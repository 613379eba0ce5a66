theorem rV_rm {v vo : Nat → Int32} {h : Sg} {i : Nat} (hv : rV (upd v 6 (gc h 6)) h) (hi : i < nT h) (ht : nT h ≤ 12) (hw : nW h ≤ 24) (hk : gT h i < 24) (tk : tkO (upd (upd v (49 + 7 * gT h i + 3) (nI 3)) (49 + 7 * gT h i + 6) (nI 1)) vo 12 11 i (nT h)) : rV (upd vo 6 (gc (oRm h i) 6)) (oRm h i) ∧ vo 6 = v 6 := by
  obtain ⟨t1, t2, t3⟩ := tk
  have key : ∀ x, x ≠ 6 → x ≠ 11 → (x < 12 ∨ 12 + nT h ≤ x) → x ≠ 49 + 7 * gT h i + 3 → x ≠ 49 + 7 * gT h i + 6 → upd vo 6 (gc (oRm h i) 6) x = upd v 6 (gc h 6) x := fun x a b c d e => by rw [up_n a, t3 x b c, up_n e, up_n d, up_n a]
  refine ⟨⟨fun j hj => ?_, ?_, ?_, fun j h6 h10 => ?_, ?_, fun j hj => ?_, ?_, fun j hj => ?_, fun x hx => ?_⟩, ?_⟩
  · rw [key _ (by omega) (by omega) (by omega) (by omega) (by omega)]; exact (hv.c hj).trans (up_n (by omega)).symm
  · rw [key _ (by omega) (by omega) (by omega) (by omega) (by omega)]; exact hv.m
  · rw [key _ (by omega) (by omega) (by omega) (by omega) (by omega)]; exact hv.k
  · by_cases q : j = 6
    · subst q; rw [up_s]
    · rw [key _ q (by omega) (by omega) (by omega) (by omega)]; exact (hv.a h6 h10).trans (up_n q).symm
  · rw [up_n (by omega)]; exact t2
  · have hj : j < nT h - 1 := hj
    show _ = nI (nDel (gT h) i j)
    rw [up_n (by omega), t1 j hj]
    unfold nDel
    by_cases q : j < i
    · rw [if_pos q, if_neg (by omega), up_n (by omega), up_n (by omega)]
      have z := hv.s (j := j) (by omega)
      rwa [up_n (by omega)] at z
    · rw [if_neg q, if_pos (by omega), up_n (by omega), up_n (by omega)]
      have z := hv.s (j := j + 1) (by omega)
      rwa [up_n (by omega)] at z
  · rw [key _ (by omega) (by omega) (by omega) (by omega) (by omega)]; exact hv.w
  · have hj : j < nW h := hj
    rw [key _ (by omega) (by omega) (by omega) (by omega) (by omega)]; exact hv.u hj
  · have f := hv.f hx
    have u0 : ∀ w, w ≠ 3 → ux (gX h) 3 (gT h i) (nI 1) w x = gX h w x := fun w a => if_neg (fun z => a z.1)
    rw [key (49 + 7 * x) (by omega) (by omega) (by omega) (by omega) (by omega), key (49 + 7 * x + 1) (by omega) (by omega) (by omega) (by omega) (by omega), key (49 + 7 * x + 2) (by omega) (by omega) (by omega) (by omega) (by omega), key (49 + 7 * x + 4) (by omega) (by omega) (by omega) (by omega) (by omega), key (49 + 7 * x + 5) (by omega) (by omega) (by omega) (by omega) (by omega)]
    refine ⟨f.1, f.2.1, f.2.2.1.trans (u0 0 (by decide)).symm, ?_, f.2.2.2.2.1.trans (u0 1 (by decide)).symm, f.2.2.2.2.2.1.trans (u0 2 (by decide)).symm, ?_⟩
    · show _ = nI (un (gD h) (gT h i) 3 x)
      by_cases q : x = gT h i
      · rw [q, up_n (by omega), t3 _ (by omega) (by omega), up_n (by omega), up_s, un_s]
      · rw [key _ (by omega) (by omega) (by omega) (by omega) (by omega), un_n q]; exact f.2.2.2.1
    · show _ = ux (gX h) 3 (gT h i) (nI 1) 3 x
      by_cases q : x = gT h i
      · rw [q, up_n (by omega), t3 _ (by omega) (by omega), up_s]; exact (if_pos ⟨rfl, rfl⟩).symm
      · rw [key _ (by omega) (by omega) (by omega) (by omega) (by omega)]; exact f.2.2.2.2.2.2.trans (if_neg (fun z => q z.2)).symm
  · rw [t3 _ (by omega) (by omega), up_n (by omega), up_n (by omega)]
theorem rV.six {v : Nat → Int32} {g : Sg} (h : rV v g) : rV (upd v 6 (gc g 6)) g := by
  have e : upd v 6 (gc g 6) = v := by
    funext x
    by_cases q : x = 6
    · subst q; rw [up_s]; exact (h.a (by omega) (by omega)).symm
    · exact up_n q
  rw [e]; exact h
theorem anL_s {lc : Nat → Int32} {g : Sg} {i : Nat} {b : Int32} (h : ∀ j, j < i → lc j = kb_b (ang g j)) (hb : b = kb_b (ang g i)) : ∀ j, j < i + 1 → upd lc i b j = kb_b (ang g j) := fun j hj => by
  by_cases q : j = i
  · subst q; rw [up_s]; exact hb
  · rw [up_n q]; exact h j (by omega)
theorem ang_a {g : Sg} {i : Nat} (h : gX g 2 (gT g i) < gc g 3) : nI 0 = kb_b (ang g i) := by unfold ang; rw [decide_eq_true h]; rfl
theorem ang_b {g : Sg} {i : Nat} (h : sl g i = false) : nI 0 = kb_b (ang g i) := by unfold ang; rw [h, Bool.and_false]; rfl
theorem ang_c {g : Sg} {i : Nat} (h : ¬ gX g 2 (gT g i) < gc g 3) (h2 : sl g i = true) : nI 1 = kb_b (ang g i) := by unfold ang; rw [decide_eq_false h, h2]; rfl
theorem oAng_y {b : Nat → Bool} {g h : Sg} {N n : Nat} (he : oAng b N g = oAng b (n + 1) h) (q : b n = true) : oAng b N g = oAng b n (oRm h n) := by rw [he, oAng, if_pos q]
theorem oAng_n {b : Nat → Bool} {g h : Sg} {N n : Nat} (he : oAng b N g = oAng b (n + 1) h) (q : ¬ b n = true) : oAng b N g = oAng b n h := by rw [he, oAng, if_neg q]
