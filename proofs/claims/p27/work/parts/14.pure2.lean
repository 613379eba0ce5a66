theorem smI_s (f : Nat → Int32) (n : Nat) : smI f (n + 1) = smI f n + f n := rfl
theorem cnt_s (p : Nat → Bool) (n : Nat) : cnt p (n + 1) = cnt p n + if p n = true then 1 else 0 := rfl
theorem oTo_X0 (g : Sg) (t s k : Nat) : gX (oTo g t s) 0 k = gX g 0 k := by
  unfold oTo
  simp only [nK_mk, nT_mk, nW_mk, gT_mk, gW_mk, gC_mk, gA_mk, gD_mk, gX_mk, gc_mk]
  rw [if_neg (by omega), if_neg (by omega)]
theorem oTo_X3 (g : Sg) (t s k : Nat) : gX (oTo g t s) 3 k = gX g 3 k := by
  unfold oTo
  simp only [nK_mk, nT_mk, nW_mk, gT_mk, gW_mk, gC_mk, gA_mk, gD_mk, gX_mk, gc_mk]
  rw [if_neg (by omega), if_neg (by omega)]
theorem oTo_X1 (g : Sg) (t s k : Nat) : gX (oTo g t s) 1 k = if plT g k < t ∧ plT g k < nT g then gX g 1 k + nI 1 else gX g 1 k := by
  unfold oTo
  simp only [nK_mk, nT_mk, nW_mk, gT_mk, gW_mk, gC_mk, gA_mk, gD_mk, gX_mk, gc_mk]
  by_cases h : plT g k < t ∧ plT g k < nT g
  · rw [if_pos h, if_pos ⟨trivial, h⟩]
  · rw [if_neg h, if_neg (fun q => h q.2), if_neg (by omega)]
theorem oTo_X2 (g : Sg) (t s k : Nat) : gX (oTo g t s) 2 k = if plT g k < s ∧ plT g k < nT g ∧ sl g (plT g k) = true then gX g 2 k + nI 1 else gX g 2 k := by
  unfold oTo
  simp only [nK_mk, nT_mk, nW_mk, gT_mk, gW_mk, gC_mk, gA_mk, gD_mk, gX_mk, gc_mk]
  rw [if_neg (by omega)]
  by_cases h : plT g k < s ∧ plT g k < nT g ∧ sl g (plT g k) = true
  · rw [if_pos h, if_pos ⟨trivial, h⟩]
  · rw [if_neg h, if_neg (fun q => h q.2)]
/-- the toasts come to the seats, the slights to the slighted seats -/
theorem oTo_sum {g : Sg} (h : Ok g) : ∀ t s, t ≤ nT g → s ≤ nT g → smI (gX (oTo g t s) 1) (nK g) = smI (gX g 1) (nK g) + nI t ∧ smI (gX (oTo g t s) 2) (nK g) = smI (gX g 2) (nK g) + nI (cnt (sl g) s) := by
  intro t s ht hs
  constructor
  · induction t with
    | zero =>
      rw [nI_0, Int32.add_zero]
      refine smI_congr (fun k _ => ?_)
      rw [oTo_X1, if_neg (by omega)]
    | succ t ih =>
      have ih := ih (by omega)
      have hj := h.t t (by omega)
      have hp := plT_of h (j := t) (by omega)
      rw [nI_succ, ← Int32.add_assoc, ← ih]
      refine smI_one (k := gT g t) hj.1 ?_ (fun j _ q => ?_)
      · rw [oTo_X1, oTo_X1, hp, if_pos ⟨by omega, by omega⟩, if_neg (by omega)]
        rfl
      · rw [oTo_X1, oTo_X1]
        have hq : plT g j < nT g → plT g j ≠ t := fun z e => q (by rw [← plT_in z, e])
        by_cases y : plT g j < t ∧ plT g j < nT g
        · rw [if_pos y, if_pos ⟨by omega, y.2⟩]
        · rw [if_neg y, if_neg (fun e => y ⟨by have := hq e.2; omega, e.2⟩)]
  · induction s with
    | zero =>
      rw [show cnt (sl g) 0 = 0 from rfl, nI_0, Int32.add_zero]
      refine smI_congr (fun k _ => ?_)
      rw [oTo_X2, if_neg (fun e => absurd e.1 (by omega))]
    | succ s ih =>
      have ih := ih (by omega)
      have hj := h.t s (by omega)
      have hp := plT_of h (j := s) (by omega)
      rw [cnt_s]
      by_cases hsl : sl g s = true
      · rw [if_pos hsl, nI_succ, ← Int32.add_assoc, ← ih]
        refine smI_one (k := gT g s) hj.1 ?_ (fun j _ q => ?_)
        · rw [oTo_X2, oTo_X2, hp, if_pos ⟨by omega, by omega, hsl⟩, if_neg (fun e => absurd e.1 (by omega))]
          rfl
        · rw [oTo_X2, oTo_X2]
          have hq : plT g j < nT g → plT g j ≠ s := fun z e => q (by rw [← plT_in z, e])
          by_cases y : plT g j < s ∧ plT g j < nT g ∧ sl g (plT g j) = true
          · rw [if_pos y, if_pos ⟨by omega, y.2⟩]
          · rw [if_neg y, if_neg (fun e => y ⟨by have := hq e.2.1; have := e.1; omega, e.2⟩)]
      · rw [if_neg hsl, Nat.add_zero]
        refine Eq.trans (smI_congr (fun j _ => ?_)) ih
        rw [oTo_X2, oTo_X2]
        by_cases y : plT g j < s ∧ plT g j < nT g ∧ sl g (plT g j) = true
        · rw [if_pos y, if_pos ⟨by omega, y.2⟩]
        · rw [if_neg y, if_neg (fun e => ?_)]
          rcases Nat.lt_or_ge (plT g j) s with q | q
          · exact y ⟨q, e.2⟩
          · have z : plT g j = s := by have := e.1; omega
            rw [z] at e
            exact hsl e.2.2
theorem oTo_ok {g : Sg} (h : Ok g) {t s : Nat} (ht : t ≤ nT g) (hs : s ≤ nT g) : Ok (oTo g t s) := by
  have hsm := oTo_sum h t s ht hs
  have hpl : ∀ k, plT g k < nT g → k < nK g ∧ gD g k = 2 := fun k q => by
    have := h.t _ q
    rwa [plT_in q] at this
  obtain ⟨k1, k2, k3, k4, k5, k6, k7, k8, k9, k10, k11, k12, k13, k14⟩ := h
  refine ⟨k1, k2, k3, k4, k5, k6, k7, k8, fun k hk => ?_, fun k hk => ?_, k11, k12, k13, ?_, ?_, ?_⟩
  · have hn : ¬ plT g k < nT g := fun q => by
      have := (hpl k q).1
      have hk : nK g ≤ k := hk
      omega
    have := k9 k hk
    rw [oTo_X1, oTo_X2, oTo_X3, if_neg (fun q => hn q.2), if_neg (fun q => hn q.2.1)]
    exact this
  · rw [oTo_X3]
    exact k10 k hk
  · exact (congrArg (fun z => z + nI t) k14.1).trans hsm.1.symm
  · exact (congrArg (fun z => z + nI (cnt (sl g) s)) k14.2.1).trans hsm.2.symm
  · exact k14.2.2.trans (smI_congr (fun k _ => (oTo_X3 g t s k).symm))
theorem oAng_ok (b : Nat → Bool) : ∀ (n : Nat) {g : Sg}, Ok g → n ≤ nT g → Ok (oAng b n g)
  | 0, _, h, _ => h
  | n + 1, g, h, hn => by
    unfold oAng
    split
    · exact oAng_ok b n (oRm_ok h (by omega)) (by unfold oRm; simp only [nK_mk, nT_mk, nW_mk, gT_mk, gW_mk, gC_mk, gA_mk, gD_mk, gX_mk, gc_mk]; omega)
    · exact oAng_ok b n h (by omega)
theorem oRnd_ok {g : Sg} (h : Ok g) : Ok (oRnd g) := by
  unfold oRnd
  exact oAng_ok _ _ (oEnv_ok _ (oTo_ok h (Nat.le_refl _) (Nat.le_refl _))) (Nat.le_refl _)
theorem bst_le (p : Nat → Bool) (ky : Nat → Nat) : ∀ n, n ≤ 24 → bst p ky n = 24 ∨ (bst p ky n < n ∧ p (bst p ky n) = true)
  | 0, _ => Or.inl rfl
  | n + 1, h => by
    have ih := bst_le p ky n (by omega)
    unfold bst
    split
    · rename_i q
      exact Or.inr ⟨by omega, q.1⟩
    · rcases ih with q | q
      · exact Or.inl q
      · exact Or.inr ⟨by omega, q.2⟩
theorem bst_no (p : Nat → Bool) (ky : Nat → Nat) : ∀ n, n ≤ 24 → bst p ky n = 24 → ∀ k, k < n → p k = false
  | 0, _, _, k, h => absurd h (Nat.not_lt_zero k)
  | n + 1, hn, h, k, hk => by
    unfold bst at h
    split at h
    · omega
    · rename_i q
      by_cases e : k = n
      · subst e
        cases hp : p k with
        | false => rfl
        | true => exact absurd ⟨hp, Or.inl h⟩ q
      · exact bst_no p ky n (by omega) h k (by omega)
theorem nx_in {g : Sg} (h : Ok g) (q : nx g ≠ 24) : nx g < nK g ∧ gD g (nx g) = 0 ∧ gX g 0 (nx g) = gc g 4 := by
  rcases bst_le (arv g) (key g) (nK g) h.n.1 with z | z
  · exact absurd z q
  · have := z.2
    unfold arv at this
    simp only [Bool.and_eq_true, decide_eq_true_eq] at this
    exact ⟨z.1, this⟩
theorem fb_fit {g : Sg} (h : Ok g) {k : Nat} (hk : k < nK g) (hd : gD g k ≠ 1) : nW g < nK g := by
  have key : ∀ (n : Nat) (f : Nat → Nat) (N : Nat), (∀ j, j < n → f j < N) → (∀ i j, i < n → j < n → f i = f j → i = j) → n ≤ N := by
    intro n
    induction n with
    | zero => intro f N _ _; omega
    | succ n ih =>
      intro f N h1 h2
      have hN : 0 < N := by have := h1 0 (by omega); omega
      have := ih (fun j => if f j < f n then f j else f j - 1) (N - 1) (fun j hj => by
        have a := h1 j (by omega)
        have b := h1 n (by omega)
        have c : f j ≠ f n := fun e => by have := h2 j n (by omega) (by omega) e; omega
        show (if f j < f n then f j else f j - 1) < N - 1
        split <;> omega) (fun i j hi hj e => by
        have c1 : f i ≠ f n := fun e => by have := h2 i n (by omega) (by omega) e; omega
        have c2 : f j ≠ f n := fun e => by have := h2 j n (by omega) (by omega) e; omega
        have e : (if f i < f n then f i else f i - 1) = (if f j < f n then f j else f j - 1) := e
        refine h2 i j (by omega) (by omega) ?_
        split at e <;> split at e <;> omega)
      omega
  have := key (nW g + 1) (fun j => if j = nW g then k else gW g j) (nK g) (fun j hj => by
    show (if j = nW g then k else gW g j) < nK g
    split
    · exact hk
    · exact (h.w j (by omega)).1) (fun i j hi hj e => by
    have e : (if i = nW g then k else gW g i) = (if j = nW g then k else gW g j) := e
    split at e <;> split at e
    · omega
    · have := (h.w j (by omega)).2
      rw [← e] at this
      exact absurd this hd
    · have := (h.w i (by omega)).2
      rw [e] at this
      exact absurd this hd
    · exact h.wi i j (by omega) (by omega) e)
  omega
theorem oAr1_ok {g : Sg} (h : Ok g) {k : Nat} (hk : k < nK g) (hd : gD g k = 0) : Ok (oAr1 g k) := by
  have hfit := fb_fit h hk (by omega)
  obtain ⟨k1, k2, k3, k4, k5, k6, k7, k8, k9, k10, k11, k12, k13, k14⟩ := h
  unfold oAr1 Ok
  simp only [nK_mk, nT_mk, nW_mk, gT_mk, gW_mk, gC_mk, gA_mk, gD_mk, gX_mk, gc_mk]
  refine ⟨⟨k1.1, k1.2.1, by omega⟩, fun j hj => ?_, k3, fun j hj => ?_, fun a b ha hb e => ?_, fun i hi hdi => ?_, fun i hi hdi => ?_, fun i hi => ?_, fun i hi => ?_, fun i hi => ?_, k11, k12, k13, k14⟩
  · have := k2 j hj
    rw [un_n (fun e => by rw [e] at this; omega)]
    exact this
  · by_cases e : j = nW g
    · rw [e, un_s, un_s]
      exact ⟨hk, rfl⟩
    · have := k4 j (by omega)
      rw [un_n e, un_n (fun z => by rw [z] at this; omega)]
      exact this
  · by_cases ea : a = nW g
    · by_cases eb : b = nW g
      · omega
      · rw [ea, un_s, un_n eb] at e
        have := k4 b (by omega)
        rw [← e] at this
        omega
    · by_cases eb : b = nW g
      · rw [eb, un_s, un_n ea] at e
        have := k4 a (by omega)
        rw [e] at this
        omega
      · rw [un_n ea, un_n eb] at e
        exact k5 a b (by omega) (by omega) e
  · by_cases e : i = k
    · rw [e, un_s] at hdi
      omega
    · rw [un_n e] at hdi
      exact k6 i hi hdi
  · by_cases e : i = k
    · exact ⟨nW g, by omega, by rw [un_s, e]⟩
    · rw [un_n e] at hdi
      obtain ⟨j, hj, q⟩ := k7 i hi hdi
      exact ⟨j, by omega, by rw [un_n (by omega)]; exact q⟩
  · by_cases e : i = k
    · rw [e, un_s]
      exact ⟨by omega, (k8 k hk).2⟩
    · rw [un_n e]
      exact k8 i hi
  · rw [un_n (by omega)]
    exact k9 i hi
  · by_cases e : i = k
    · left
      rcases k10 i hi with q | q
      · exact q
      · rw [e] at q; omega
    · rw [un_n e]
      exact k10 i hi
theorem oArr_ok : ∀ (n : Nat) {g : Sg}, Ok g → Ok (oArr n g)
  | 0, _, h => h
  | n + 1, g, h => by
    unfold oArr
    split
    · exact h
    · rename_i q
      have := nx_in h q
      exact oArr_ok n (oAr1_ok h this.1 this.2.1)
theorem oSi1_ok {g : Sg} (h : Ok g) {e0 : Nat} (he : gc g 0 = nI e0) (he2 : e0 ≤ 12) (hlt : nT g < e0) (hw : 0 < nW g) : Ok (oSi1 g) := by
  have h0 := h.w 0 hw
  obtain ⟨k1, k2, k3, k4, k5, k6, k7, k8, k9, k10, k11, k12, k13, k14⟩ := h
  unfold oSi1 Ok
  simp only [nK_mk, nT_mk, nW_mk, gT_mk, gW_mk, gC_mk, gA_mk, gD_mk, gX_mk, gc_mk]
  have hnd : ∀ j, nDel (gW g) 0 j = gW g (j + 1) := fun j => nDel_ge (Nat.zero_le j)
  refine ⟨⟨k1.1, by omega, by omega⟩, fun j hj => ?_, fun a b ha hb e => ?_, fun j hj => ?_, fun a b ha hb e => ?_, fun i hi hdi => ?_, fun i hi hdi => ?_, fun i hi => ?_, fun i hi => ?_, fun i hi => ?_, ?_, k12, k13, k14⟩
  · by_cases e : j = nT g
    · rw [e, un_s, un_s]
      exact ⟨h0.1, rfl⟩
    · have := k2 j (by omega)
      rw [un_n e, un_n (fun z => by rw [z] at this; omega)]
      exact this
  · by_cases ea : a = nT g
    · by_cases eb : b = nT g
      · omega
      · rw [ea, un_s, un_n eb] at e
        have := k2 b (by omega)
        rw [← e] at this
        omega
    · by_cases eb : b = nT g
      · rw [eb, un_s, un_n ea] at e
        have := k2 a (by omega)
        rw [e] at this
        omega
      · rw [un_n ea, un_n eb] at e
        exact k3 a b (by omega) (by omega) e
  · have := k4 (j + 1) (by omega)
    rw [hnd, un_n (fun z => by have := k5 (j + 1) 0 (by omega) hw z; omega)]
    exact this
  · rw [hnd, hnd] at e
    have := k5 (a + 1) (b + 1) (by omega) (by omega) e
    omega
  · by_cases e : i = gW g 0
    · exact ⟨nT g, by omega, by rw [un_s, e]⟩
    · rw [un_n e] at hdi
      obtain ⟨j, hj, q⟩ := k6 i hi hdi
      exact ⟨j, by omega, by rw [un_n (by omega)]; exact q⟩
  · by_cases e : i = gW g 0
    · rw [e, un_s] at hdi
      omega
    · rw [un_n e] at hdi
      obtain ⟨j, hj, q⟩ := k7 i hi hdi
      have hj0 : j ≠ 0 := fun z => e (by rw [← q, z])
      exact ⟨j - 1, by omega, by rw [hnd, show j - 1 + 1 = j by omega]; exact q⟩
  · by_cases e : i = gW g 0
    · rw [e, un_s]
      exact ⟨by omega, (k8 _ h0.1).2⟩
    · rw [un_n e]
      exact k8 i hi
  · rw [un_n (by omega)]
    exact k9 i hi
  · by_cases e : i = gW g 0
    · left
      rcases k10 i hi with q | q
      · exact q
      · rw [e] at q; omega
    · rw [un_n e]
      exact k10 i hi
  · obtain ⟨e, q1, q2, q3, q4⟩ := k11
    refine ⟨e, q1, q2, q3, ?_⟩
    have := (nI_eq (by omega) (by omega)).mp (q1.symm.trans he)
    omega
theorem oSit_ok : ∀ (n : Nat) {g : Sg} {e0 : Nat}, Ok g → gc g 0 = nI e0 → e0 ≤ 12 → nT g + n ≤ e0 → Ok (oSit n g)
  | 0, _, _, h, _, _, _ => h
  | n + 1, g, e0, h, he, h2, hn => by
    unfold oSit
    split
    · exact h
    · exact oSit_ok n (e0 := e0) (oSi1_ok h he h2 (by omega) (by omega)) (by unfold oSi1; simp only [nK_mk, nT_mk, nW_mk, gT_mk, gW_mk, gC_mk, gA_mk, gD_mk, gX_mk, gc_mk]; exact he) h2 (by unfold oSi1; simp only [nK_mk, nT_mk, nW_mk, gT_mk, gW_mk, gC_mk, gA_mk, gD_mk, gX_mk, gc_mk]; omega)
theorem oSit'_ok {g : Sg} (h : Ok g) : Ok (oSit' g) := by
  obtain ⟨e, q1, q2, q3, q4⟩ := h.c0
  unfold oSit'
  rw [q1, nI_clamp (by omega)]
  exact oSit_ok _ h q1 q3 (by omega)
theorem oTick_ok {g : Sg} (h : Ok g) : Ok (oTick g) := by
  obtain ⟨k1, k2, k3, k4, k5, k6, k7, k8, k9, k10, k11, k12, k13, k14⟩ := h
  unfold oTick Ok
  simp only [nK_mk, nT_mk, nW_mk, gT_mk, gW_mk, gC_mk, gA_mk, gD_mk, gX_mk, gc_mk]
  refine ⟨k1, k2, k3, k4, k5, k6, k7, k8, k9, k10, ?_, ?_, ?_, ?_⟩
  · rw [up_n (by decide)]; exact k11
  · rw [up_n (by decide)]; exact k12
  · rw [up_n (by decide)]; exact k13
  · rw [up_n (by decide), up_n (by decide), up_n (by decide)]; exact k14
theorem oMin_ok {g : Sg} (h : Ok g) : Ok (oMin g) := by
  unfold oMin
  have h1 : Ok (oSit' (oArr' g)) := oSit'_ok (oArr_ok _ h)
  refine oTick_ok ?_
  split
  · exact oRnd_ok h1
  · exact h1
theorem oPass_ok : ∀ (n : Nat) {g : Sg}, Ok g → Ok (oPass n g)
  | 0, _, h => h
  | n + 1, _, h => oMin_ok (oPass_ok n h)
theorem oAnn_ok {g : Sg} (h : Ok g) {c a : Nat} {m : Int32} (hk : nK g < 24) (hc : 1 ≤ c ∧ c ≤ 9) (ha : a ≤ 120) : Ok (oAnn g c a m) := by
  obtain ⟨k1, k2, k3, k4, k5, k6, k7, k8, k9, k10, k11, k12, k13, k14⟩ := h
  have hz := k9 (nK g) (Nat.le_refl _)
  unfold oAnn Ok
  simp only [nK_mk, nT_mk, nW_mk, gT_mk, gW_mk, gC_mk, gA_mk, gD_mk, gX_mk, gc_mk]
  refine ⟨⟨by omega, k1.2.1, k1.2.2⟩, fun j hj => ⟨by have := k2 j hj; omega, (k2 j hj).2⟩, k3, fun j hj => ⟨by have := k4 j hj; omega, (k4 j hj).2⟩, k5, fun i hi hdi => ?_, fun i hi hdi => ?_, fun i hi => ?_, fun i hi => ?_, fun i hi => ?_, k11, k12, k13, ?_⟩
  · exact k6 i (by rcases Nat.lt_or_ge i (nK g) with q | q; · exact q
                   · have := k9 i q; omega) hdi
  · exact k7 i (by rcases Nat.lt_or_ge i (nK g) with q | q; · exact q
                   · have := k9 i q; omega) hdi
  · by_cases e : i = nK g
    · rw [e, un_s, un_s, hz.1]
      omega
    · rw [un_n e, un_n e]
      exact k8 i (by omega)
  · unfold ux
    rw [if_neg (by omega), if_neg (by omega), if_neg (by omega)]
    exact k9 i (by omega)
  · unfold ux
    rw [if_neg (by omega)]
    rcases Nat.lt_or_ge i (nK g) with q | q
    · exact k10 i q
    · exact Or.inl (k9 i q).2.2.2
  · have hx : ∀ w, 1 ≤ w → ∀ k, ux (gX g) 0 (nK g) m w k = gX g w k := fun w hw k => if_neg (by omega)
    refine ⟨?_, ?_, ?_⟩
    · rw [k14.1, smI_s, hx 1 (by omega), hz.2.1, nI_0, Int32.add_zero]
      exact smI_congr (fun k _ => (hx 1 (by omega) k).symm)
    · rw [k14.2.1, smI_s, hx 2 (by omega), hz.2.2.1, nI_0, Int32.add_zero]
      exact smI_congr (fun k _ => (hx 2 (by omega) k).symm)
    · rw [k14.2.2, smI_s, hx 3 (by omega), hz.2.2.2, nI_0, Int32.add_zero]
      exact smI_congr (fun k _ => (hx 3 (by omega) k).symm)
theorem oSet_ok {g : Sg} (h : Ok g) {w v : Nat} (hw : w < 4) (h0 : w = 0 → 1 ≤ v ∧ v ≤ 12 ∧ nT g ≤ v) (h1 : w = 1 → 1 ≤ v ∧ v ≤ 60) (h2 : w = 2 → v ≤ 9) : Ok (oSet g w (nI v)) := by
  obtain ⟨k1, k2, k3, k4, k5, k6, k7, k8, k9, k10, k11, k12, k13, k14⟩ := h
  unfold oSet Ok
  simp only [nK_mk, nT_mk, nW_mk, gT_mk, gW_mk, gC_mk, gA_mk, gD_mk, gX_mk, gc_mk]
  refine ⟨k1, k2, k3, k4, k5, k6, k7, k8, k9, k10, ?_, ?_, ?_, ?_⟩
  · by_cases e : w = 0
    · rw [e, up_s]; exact ⟨v, rfl, h0 e⟩
    · rw [up_n (fun z => e z.symm)]; exact k11
  · by_cases e : w = 1
    · rw [e, up_s]; exact ⟨v, rfl, h1 e⟩
    · rw [up_n (fun z => e z.symm)]; exact k12
  · by_cases e : w = 2
    · rw [e, up_s]; exact ⟨v, rfl, h2 e⟩
    · rw [up_n (fun z => e z.symm)]; exact k13
  · rw [up_n (by omega), up_n (by omega), up_n (by omega)]; exact k14
