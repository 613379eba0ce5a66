theorem cnt_congr {p q : Nat → Bool} : ∀ {n : Nat}, (∀ k, k < n → p k = q k) → cnt p n = cnt q n
  | 0, _ => rfl
  | n + 1, h => by
    unfold cnt
    rw [cnt_congr (fun k hk => h k (by omega)), h n (by omega)]
theorem cnt_le (p : Nat → Bool) : ∀ n, cnt p n ≤ n
  | 0 => Nat.le_refl 0
  | n + 1 => by
    have := cnt_le p n
    unfold cnt
    split <;> omega
theorem cnt_0 {p : Nat → Bool} : ∀ {n : Nat}, (∀ k, k < n → p k = false) → cnt p n = 0
  | 0, _ => rfl
  | n + 1, h => by
    unfold cnt
    rw [cnt_0 (fun k hk => h k (by omega)), if_neg (by rw [h n (by omega)]; decide)]
theorem cnt_pos {p : Nat → Bool} : ∀ {n k : Nat}, k < n → p k = true → 0 < cnt p n
  | 0, k, h, _ => absurd h (Nat.not_lt_zero k)
  | n + 1, k, h, hp => by
    unfold cnt
    by_cases e : k = n
    · subst e
      rw [if_pos hp]
      omega
    · have := cnt_pos (p := p) (n := n) (k := k) (by omega) hp
      omega
/-- one more is counted -/
theorem cnt_one {p q : Nat → Bool} {k : Nat} : ∀ {n : Nat}, k < n → p k = false → q k = true → (∀ j, j < n → j ≠ k → q j = p j) → cnt q n = cnt p n + 1
  | 0, h, _, _, _ => absurd h (Nat.not_lt_zero k)
  | n + 1, h, h1, h2, h3 => by
    unfold cnt
    by_cases e : k = n
    · subst e
      rw [cnt_congr (p := q) (q := p) (fun j hj => h3 j (by omega) (by omega)), if_pos h2, if_neg (by rw [h1]; decide)]
    · rw [cnt_one (n := n) (by omega) h1 h2 (fun j hj hk => h3 j (by omega) hk), h3 n (by omega) (fun z => e z.symm)]
      omega
theorem smI_congr {f h : Nat → Int32} : ∀ {n : Nat}, (∀ k, k < n → f k = h k) → smI f n = smI h n
  | 0, _ => rfl
  | n + 1, q => by
    unfold smI
    rw [smI_congr (fun k hk => q k (by omega)), q n (by omega)]
theorem smI_one {f h : Nat → Int32} {k : Nat} {d : Int32} : ∀ {n : Nat}, k < n → h k = f k + d → (∀ j, j < n → j ≠ k → h j = f j) → smI h n = smI f n + d
  | 0, q, _, _ => absurd q (Nat.not_lt_zero k)
  | n + 1, q, h1, h2 => by
    unfold smI
    by_cases e : k = n
    · subst e
      rw [smI_congr (f := h) (h := f) (fun j hj => h2 j (by omega) (by omega)), h1, Int32.add_assoc]
    · rw [smI_one (n := n) (by omega) h1 (fun j hj hk => h2 j (by omega) hk), h2 n (by omega) (fun z => e z.symm), Int32.add_assoc, Int32.add_assoc, Int32.add_comm d]
theorem nDel_lt {m : Nat → Nat} {i j : Nat} (h : j < i) : nDel m i j = m j := if_neg (by omega)
theorem nDel_ge {m : Nat → Nat} {i j : Nat} (h : i ≤ j) : nDel m i j = m (j + 1) := if_pos h
/-- what a row without one of its places holds -/
theorem nDel_of (m : Nat → Nat) (i j : Nat) : ∃ a, nDel m i j = m a ∧ a ≠ i ∧ (j < i → a = j) ∧ (i ≤ j → a = j + 1) := by
  rcases Nat.lt_or_ge j i with h | h
  · exact ⟨j, nDel_lt h, by omega, fun _ => rfl, fun q => absurd q (by omega)⟩
  · exact ⟨j + 1, nDel_ge h, by omega, fun q => absurd q (by omega), fun _ => rfl⟩
theorem plT_of {g : Sg} (h : Ok g) {j : Nat} (hj : j < nT g) : plT g (gT g j) = j :=
  ff_eq (fun k hk => decide_eq_false (fun e => by have := h.ti k j (by omega) hj e; omega)) (decide_eq_true rfl) hj
theorem plT_in {g : Sg} {k : Nat} (h : plT g k < nT g) : gT g (plT g k) = k := by
  have := ff_yes (fun j => decide (gT g j = k)) (nT g) h
  exact of_decide_eq_true this
theorem plW_of {g : Sg} (h : Ok g) {j : Nat} (hj : j < nW g) : plW g (gW g j) = j :=
  ff_eq (fun k hk => decide_eq_false (fun e => by have := h.wi k j (by omega) hj e; omega)) (decide_eq_true rfl) hj
theorem plW_in {g : Sg} {k : Nat} (h : plW g k < nW g) : gW g (plW g k) = k := by
  have := ff_yes (fun j => decide (gW g j = k)) (nW g) h
  exact of_decide_eq_true this
theorem plT_lt {g : Sg} (h : Ok g) {k : Nat} (hk : k < nK g) : plT g k < nT g ↔ gD g k = 2 := by
  constructor
  · intro q
    have := (h.t _ q).2
    rwa [plT_in q] at this
  · intro q
    obtain ⟨j, hj, e⟩ := h.tx k hk q
    rw [← e, plT_of h hj]
    exact hj
theorem plW_lt {g : Sg} (h : Ok g) {k : Nat} (hk : k < nK g) : plW g k < nW g ↔ gD g k = 1 := by
  constructor
  · intro q
    have := (h.w _ q).2
    rwa [plW_in q] at this
  · intro q
    obtain ⟨j, hj, e⟩ := h.wx k hk q
    rw [← e, plW_of h hj]
    exact hj
theorem fw_le (g : Sg) : fw g ≤ nT g - 1 := ff_le _ _
theorem fw_wrg {g : Sg} (h : fw g < nT g - 1) : wrg g (fw g) = true := ff_yes _ _ h
theorem fw_no {g : Sg} {i : Nat} (h : i < fw g) : wrg g i = false := ff_no _ _ i h
/-- in order: nobody is slighted -/
theorem sl_no {g : Sg} (h : ¬ fw g < nT g - 1) : ∀ i, i < nT g → sl g i = false := by
  have hw : ∀ i, i + 1 < nT g → key g (gT g (i + 1)) ≤ key g (gT g i) := fun i hi => by
    have := fw_no (g := g) (i := i) (by have := fw_le g; omega)
    have := of_decide_eq_false this
    omega
  have hc : ∀ d j, j + d < nT g → key g (gT g (j + d)) ≤ key g (gT g j) := by
    intro d
    induction d with
    | zero => intro j _; exact Nat.le_refl _
    | succ d ih => intro j hj; exact Nat.le_trans (hw (j + d) (by omega)) (ih j (by omega))
  intro i hi
  refine decide_eq_false (fun q => ?_)
  have h1 := ff_yes _ _ q
  have h2 := of_decide_eq_true h1
  have h3 := hc (i - ff (fun j => decide (key g (gT g j) < key g (gT g i))) i) (ff (fun j => decide (key g (gT g j) < key g (gT g i))) i) (by omega)
  rw [show ff (fun j => decide (key g (gT g j) < key g (gT g i))) i + (i - ff (fun j => decide (key g (gT g j) < key g (gT g i))) i) = i by omega] at h3
  omega
theorem sl_yes {g : Sg} {i j : Nat} (hj : j < i) (h : key g (gT g j) < key g (gT g i)) : sl g i = true := by
  refine decide_eq_true ?_
  rcases Nat.lt_or_ge (ff (fun j => decide (key g (gT g j) < key g (gT g i))) i) i with q | q
  · exact q
  · have := ff_no (fun j => decide (key g (gT g j) < key g (gT g i))) i j (by omega)
    exact absurd h (of_decide_eq_false this)
theorem sl_none {g : Sg} {i : Nat} (h : ∀ j, j < i → ¬ key g (gT g j) < key g (gT g i)) : sl g i = false := by
  refine decide_eq_false ?_
  rw [ff_none (fun k hk => decide_eq_false (h k hk))]
  omega
theorem oEnv_0 {g : Sg} (h : ¬ fw g < nT g - 1) : ∀ n, oEnv n g = g
  | 0 => rfl
  | n + 1 => by
    unfold oEnv
    rw [if_neg h]
theorem oEnvN_0 {g : Sg} (h : ¬ fw g < nT g - 1) : ∀ n, oEnvN n g = 0
  | 0 => rfl
  | n + 1 => by
    unfold oEnvN
    rw [if_neg h]
theorem oAng_0 {b : Nat → Bool} {g : Sg} : ∀ n, (∀ i, i < n → b i = false) → oAng b n g = g
  | 0, _ => rfl
  | n + 1, h => by
    unfold oAng
    rw [if_neg (by rw [h n (by omega)]; decide), oAng_0 n (fun i hi => h i (by omega))]
/-! what a state keeps -/
theorem oSw_ok {g : Sg} (h : Ok g) {i : Nat} (hi : i + 1 < nT g) : Ok (oSw g i) := by
  have key : ∀ j, j < nT g → ∃ a, a < nT g ∧ un (un (gT g) i (gT g (i + 1))) (i + 1) (gT g i) j = gT g a ∧ (a = if j = i + 1 then i else if j = i then i + 1 else j) := by
    intro j hj
    by_cases h1 : j = i + 1
    · subst h1
      exact ⟨i, by omega, un_s _ _ _, by rw [if_pos rfl]⟩
    · by_cases h2 : j = i
      · subst h2
        exact ⟨j + 1, hi, by rw [un_n h1, un_s], by rw [if_neg h1, if_pos rfl]⟩
      · exact ⟨j, hj, by rw [un_n h1, un_n h2], by rw [if_neg h1, if_neg h2]⟩
  obtain ⟨k1, k2, k3, k4, k5, k6, k7, k8, k9, k10, k11, k12, k13, k14⟩ := h
  unfold oSw Ok
  simp only [nK_mk, nT_mk, nW_mk, gT_mk, gW_mk, gC_mk, gA_mk, gD_mk, gX_mk, gc_mk]
  refine ⟨k1, fun j hj => ?_, fun a b ha hb e => ?_, k4, k5, fun k hk hd => ?_, k7, k8, k9, k10, ?_, ?_, ?_, ?_⟩
  · obtain ⟨a, ha, e, -⟩ := key j hj
    rw [e]
    exact k2 a ha
  · obtain ⟨a1, ha1, e1, f1⟩ := key a ha
    obtain ⟨b1, hb1, e2, f2⟩ := key b hb
    rw [e1, e2] at e
    have := k3 a1 b1 ha1 hb1 e
    rw [f1, f2] at this
    split at this <;> split at this <;> first | omega | (split at this <;> first | omega | (split at this <;> omega))
  · obtain ⟨j, hj, e⟩ := k6 k hk hd
    by_cases h1 : j = i + 1
    · refine ⟨i, by omega, ?_⟩
      rw [un_n (by omega), un_s, ← h1]
      exact e
    · by_cases h2 : j = i
      · refine ⟨i + 1, hi, ?_⟩
        rw [un_s, ← h2]
        exact e
      · exact ⟨j, hj, by rw [un_n h1, un_n h2]; exact e⟩
  · rw [up_n (by decide)]; exact k11
  · rw [up_n (by decide)]; exact k12
  · rw [up_n (by decide)]; exact k13
  · rw [up_n (by decide), up_n (by decide), up_n (by decide)]; exact k14
theorem oEnv_ok : ∀ (n : Nat) {g : Sg}, Ok g → Ok (oEnv n g)
  | 0, _, h => h
  | n + 1, g, h => by
    unfold oEnv
    split
    · exact oEnv_ok n (oSw_ok h (by omega))
    · exact h
theorem oEnv_nT : ∀ (n : Nat) (g : Sg), nT (oEnv n g) = nT g
  | 0, _ => rfl
  | n + 1, g => by
    unfold oEnv
    split
    · rw [oEnv_nT n]; rfl
    · rfl
theorem oRm_ok {g : Sg} (h : Ok g) {i : Nat} (hi : i < nT g) : Ok (oRm g i) := by
  have ht := h.t i hi
  have hpl := h.ti
  obtain ⟨k1, k2, k3, k4, k5, k6, k7, k8, k9, k10, k11, k12, k13, k14⟩ := h
  have hne : ∀ a, a < nT g → a ≠ i → gT g a ≠ gT g i := fun a ha q e => q (hpl a i ha hi e)
  unfold oRm Ok
  simp only [nK_mk, nT_mk, nW_mk, gT_mk, gW_mk, gC_mk, gA_mk, gD_mk, gX_mk, gc_mk]
  refine ⟨⟨k1.1, by omega, k1.2.2⟩, fun j hj => ?_, fun a b ha hb e => ?_, fun j hj => ?_, k5, fun k hk hd => ?_, fun k hk hd => ?_, fun k hk => ?_, fun k hk => ?_, fun k hk => ?_, ?_, ?_, ?_, ?_⟩
  · obtain ⟨a, e, q, q1, q2⟩ := nDel_of (gT g) i j
    have ha : a < nT g := by rcases Nat.lt_or_ge j i with z | z; · have := q1 z; omega
                             · have := q2 z; omega
    rw [e, un_n (hne a ha q)]
    exact k2 a ha
  · obtain ⟨a1, e1, p1, p2, p3⟩ := nDel_of (gT g) i a
    obtain ⟨b1, e2, q1, q2, q3⟩ := nDel_of (gT g) i b
    rw [e1, e2] at e
    have ha1 : a1 < nT g := by rcases Nat.lt_or_ge a i with z | z; · have := p2 z; omega
                               · have := p3 z; omega
    have hb1 : b1 < nT g := by rcases Nat.lt_or_ge b i with z | z; · have := q2 z; omega
                               · have := q3 z; omega
    have := k3 a1 b1 ha1 hb1 e
    rcases Nat.lt_or_ge a i with z | z
    · have := p2 z
      rcases Nat.lt_or_ge b i with y | y
      · have := q2 y; omega
      · have := q3 y; omega
    · have := p3 z
      rcases Nat.lt_or_ge b i with y | y
      · have := q2 y; omega
      · have := q3 y; omega
  · have := k4 j hj
    rw [un_n (fun e => by rw [e, ht.2] at this; omega)]
    exact this
  · by_cases hki : k = gT g i
    · rw [hki, un_s] at hd
      omega
    · rw [un_n hki] at hd
      obtain ⟨j, hj, e⟩ := k6 k hk hd
      rcases Nat.lt_trichotomy j i with z | z | z
      · exact ⟨j, by omega, by rw [nDel_lt z]; exact e⟩
      · rw [z] at e; exact absurd e.symm hki
      · exact ⟨j - 1, by omega, by rw [nDel_ge (by omega), show j - 1 + 1 = j by omega]; exact e⟩
  · by_cases hki : k = gT g i
    · rw [hki, un_s] at hd
      omega
    · rw [un_n hki] at hd
      exact k7 k hk hd
  · by_cases hki : k = gT g i
    · rw [hki, un_s]
      exact ⟨by omega, (k8 _ ht.1).2⟩
    · rw [un_n hki]
      exact k8 k hk
  · have hki : k ≠ gT g i := by omega
    rw [un_n hki]
    unfold ux
    rw [if_neg (by omega), if_neg (by omega), if_neg (fun q => hki q.2)]
    exact k9 k hk
  · by_cases hki : k = gT g i
    · right
      rw [hki, un_s]
      exact ⟨if_pos ⟨rfl, rfl⟩, rfl⟩
    · rw [un_n hki]
      unfold ux
      rw [if_neg (fun q => hki q.2)]
      exact k10 k hk
  · rw [up_n (by decide)]; obtain ⟨e, q1, q2, q3, q4⟩ := k11; exact ⟨e, q1, q2, q3, by omega⟩
  · rw [up_n (by decide)]; exact k12
  · rw [up_n (by decide)]; exact k13
  · rw [up_n (by decide), up_n (by decide), up_s]
    refine ⟨?_, ?_, ?_⟩
    · rw [k14.1]
      exact smI_congr (fun k _ => (if_neg (by omega)).symm)
    · rw [k14.2.1]
      exact smI_congr (fun k _ => (if_neg (by omega)).symm)
    · rw [k14.2.2]
      refine (smI_one (k := gT g i) ht.1 ?_ (fun j _ q => if_neg (fun z => q z.2))).symm
      rw [if_pos ⟨rfl, rfl⟩]
      rcases k10 _ ht.1 with q | q
      · rw [q]; rfl
      · have := q.2
        omega
