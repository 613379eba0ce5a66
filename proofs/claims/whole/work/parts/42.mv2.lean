theorem rV.s1 {v : Nat → Int32} {g : Sg} (h : rV v g) {j : Nat} (hj : j + 1 < nT g) : v (12 + j + 1) = nI (gT g (j + 1)) := h.s hj
theorem rV.rT {v : Nat → Int32} {g : Sg} (h : rV v g) : rT (fun j => v (12 + j)) g := fun _ hj => h.s hj
theorem rV.rM {v : Nat → Int32} {g : Sg} (h : rV v g) : rM (fun j => v (25 + j)) g := fun _ hj => h.u hj
def sb (g : Sg) (i a : Nat) : Bool := decide (ff (fun j => gtr g (gT g i) (gT g j)) a < a)
theorem sb_s (g : Sg) (i a : Nat) : sb g i (a + 1) = (sb g i a || gtr g (gT g i) (gT g a)) := by
  unfold sb
  have hl := ff_le (fun j => gtr g (gT g i) (gT g j)) a
  rw [ff]
  by_cases h : ff (fun j => gtr g (gT g i) (gT g j)) a < a
  · rw [if_pos h, decide_eq_true h, decide_eq_true (show _ < a + 1 by omega)]; rfl
  · rw [if_neg h, decide_eq_false h]
    by_cases h2 : gtr g (gT g i) (gT g a) = true
    · rw [if_pos h2, h2, decide_eq_true (show a < a + 1 by omega)]; rfl
    · rw [if_neg h2, Bool.eq_false_iff.mpr h2, decide_eq_false (Nat.lt_irrefl _)]; rfl
theorem sb_t {g : Sg} {i a : Nat} {q : Bool} (h : q = sb g i a) (c : q = true) : true = sb g i (a + 1) := by rw [sb_s, ← h, c]; rfl
theorem sb_p {g : Sg} {i a : Nat} (c : gtr g (gT g i) (gT g a) = true) : true = sb g i (a + 1) := by rw [sb_s, c]; simp
theorem sb_f {g : Sg} {i a : Nat} {q : Bool} (h : q = sb g i a) (c : q = false) (c2 : gtr g (gT g i) (gT g a) = false) : false = sb g i (a + 1) := by rw [sb_s, ← h, c, c2]; rfl
theorem rV_sw {v : Nat → Int32} {g : Sg} {i : Nat} (h : rV v g) (hi : i + 1 < nT g) (h12 : nT g ≤ 12) : rV (upd (upd (upd v (12 + i) (v (12 + i + 1))) (12 + i + 1) (v (12 + i))) 10 (v 10 + nI 1)) (oSw g i) := by
  have key : ∀ k, k ≠ 10 → k ≠ 12 + i → k ≠ 12 + i + 1 → upd (upd (upd v (12 + i) (v (12 + i + 1))) (12 + i + 1) (v (12 + i))) 10 (v 10 + nI 1) k = v k := fun k a b c => by rw [up_n a, up_n c, up_n b]
  refine ⟨fun j hj => ?_, ?_, ?_, fun j h6 h10 => ?_, ?_, fun j hj => ?_, ?_, fun j hj => ?_, fun k hk => ?_⟩
  · rw [key _ (by omega) (by omega) (by omega), h.c hj]; exact (up_n (by omega)).symm
  · rw [key _ (by omega) (by omega) (by omega), h.m]; rfl
  · rw [key _ (by omega) (by omega) (by omega), h.k]; rfl
  · by_cases q : j = 10
    · subst q; rw [up_s, h.a (by omega) (by omega)]; rfl
    · rw [key _ q (by omega) (by omega), h.a h6 h10]; exact (up_n q).symm
  · rw [key _ (by omega) (by omega) (by omega), h.t]; rfl
  · have hj : j < nT g := hj
    show _ = nI (un (un (gT g) i (gT g (i + 1))) (i + 1) (gT g i) j)
    rw [up_n (by omega)]
    by_cases q : j = i + 1
    · subst q; rw [show 12 + (i + 1) = 12 + i + 1 from rfl, up_s, un_s]; exact h.s (by omega)
    · rw [up_n (by omega), un_n q]
      by_cases q2 : j = i
      · subst q2; rw [up_s, un_s]; exact h.s1 hi
      · rw [up_n (by omega), un_n q2]; exact h.s hj
  · rw [key _ (by omega) (by omega) (by omega), h.w]; rfl
  · rw [key _ (by omega) (by omega) (by omega)]; exact h.u hj
  · rw [key _ (by omega) (by omega) (by omega), key _ (by omega) (by omega) (by omega), key _ (by omega) (by omega) (by omega), key _ (by omega) (by omega) (by omega), key _ (by omega) (by omega) (by omega), key _ (by omega) (by omega) (by omega), key _ (by omega) (by omega) (by omega)]
    exact h.f hk
/-- a row copied -/
theorem cpy {v w : Nat → Int32} {i : Nat} (h : ∀ j, j < i → w j = v j) : ∀ j, j < i + 1 → upd w i (v i) j = v j := fun j hj => by
  by_cases q : j = i
  · subst q; exact up_s _ _ _
  · rw [up_n q]; exact h j (by omega)
theorem rV.of {v w : Nat → Int32} {g : Sg} (h : rV v g) (hw : ∀ j, j < 217 → w j = v j) (h12 : nT g ≤ 12) (h24 : nW g ≤ 24) : rV w g := by
  refine ⟨fun j hj => ?_, ?_, ?_, fun j h6 h10 => ?_, ?_, fun j hj => ?_, ?_, fun j hj => ?_, fun k hk => ?_⟩
  · rw [hw _ (by omega)]; exact h.c hj
  · rw [hw _ (by omega)]; exact h.m
  · rw [hw _ (by omega)]; exact h.k
  · rw [hw _ (by omega)]; exact h.a h6 h10
  · rw [hw _ (by omega)]; exact h.t
  · rw [hw _ (by omega)]; exact h.s hj
  · rw [hw _ (by omega)]; exact h.w
  · rw [hw _ (by omega)]; exact h.u hj
  · rw [hw _ (by omega), hw _ (by omega), hw _ (by omega), hw _ (by omega), hw _ (by omega), hw _ (by omega), hw _ (by omega)]
    exact h.f hk
