theorem oLvT_ok {g : Sg} (h : Ok g) {k : Nat} (hk : k < nK g) (hd : gD g k = 2) : Ok (oLvT g k) := by
  have hi : plT g k < nT g := (plT_lt h hk).mpr hd
  have hik : gT g (plT g k) = k := plT_in hi
  have hpl := h.ti
  have hne : ∀ a, a < nT g → a ≠ plT g k → gT g a ≠ k := fun a ha q e => q (hpl a _ ha hi (by rw [e, hik]))
  generalize hI : plT g k = i at *
  obtain ⟨k1, k2, k3, k4, k5, k6, k7, k8, k9, k10, k11, k12, k13, k14⟩ := h
  unfold oLvT Ok
  simp only [nK_mk, nT_mk, nW_mk, gT_mk, gW_mk, gC_mk, gA_mk, gD_mk, gX_mk, gc_mk]
  rw [hI]
  refine ⟨⟨k1.1, by omega, k1.2.2⟩, fun j hj => ?_, fun a b ha hb e => ?_, fun j hj => ?_, k5, fun q hq hdq => ?_, fun q hq hdq => ?_, fun q hq => ?_, fun q hq => ?_, fun q hq => ?_, ?_, k12, k13, k14⟩
  · obtain ⟨a, e, q, q1, q2⟩ := nDel_of (gT g) i j
    have ha : a < nT g := by
      rcases Nat.lt_or_ge j i with z | z
      · have := q1 z; omega
      · have := q2 z; omega
    rw [e, un_n (hne a ha q)]
    exact k2 a ha
  · obtain ⟨a1, e1, p1, p2, p3⟩ := nDel_of (gT g) i a
    obtain ⟨b1, e2, q1, q2, q3⟩ := nDel_of (gT g) i b
    rw [e1, e2] at e
    have ha1 : a1 < nT g := by
      rcases Nat.lt_or_ge a i with z | z
      · have := p2 z; omega
      · have := p3 z; omega
    have hb1 : b1 < nT g := by
      rcases Nat.lt_or_ge b i with z | z
      · have := q2 z; omega
      · have := q3 z; omega
    have := k3 a1 b1 ha1 hb1 e
    rcases Nat.lt_or_ge a i with z | z
    · have := p2 z
      rcases Nat.lt_or_ge b i with y | y
      · have := q2 y; omega
      · have := q3 y; omega
    · have := p3 z
      rcases Nat.lt_or_ge b i with y | y
      · have := q2 y; omega
      · have := q3 y; omega
  · have := k4 j hj
    rw [un_n (fun e => by rw [e, hd] at this; omega)]
    exact this
  · by_cases hki : q = k
    · rw [hki, un_s] at hdq
      omega
    · rw [un_n hki] at hdq
      obtain ⟨j, hj, e⟩ := k6 q hq hdq
      rcases Nat.lt_trichotomy j i with z | z | z
      · exact ⟨j, by omega, by rw [nDel_lt z]; exact e⟩
      · rw [z] at e; exact absurd (e.symm.trans hik) hki
      · exact ⟨j - 1, by omega, by rw [nDel_ge (by omega), show j - 1 + 1 = j by omega]; exact e⟩
  · by_cases hki : q = k
    · rw [hki, un_s] at hdq
      omega
    · rw [un_n hki] at hdq
      exact k7 q hq hdq
  · by_cases hki : q = k
    · rw [hki, un_s]
      exact ⟨by omega, (k8 _ hk).2⟩
    · rw [un_n hki]
      exact k8 q hq
  · rw [un_n (by omega)]
    exact k9 q hq
  · by_cases hki : q = k
    · rw [hki, un_s]
      rcases k10 k hk with y | y
      · exact Or.inl y
      · exact Or.inr ⟨y.1, rfl⟩
    · rw [un_n hki]
      exact k10 q hq
  · obtain ⟨e, q1, q2, q3, q4⟩ := k11; exact ⟨e, q1, q2, q3, by omega⟩
theorem oLvW_ok {g : Sg} (h : Ok g) {k : Nat} (hk : k < nK g) (hd : gD g k = 1) : Ok (oLvW g k) := by
  have hi : plW g k < nW g := (plW_lt h hk).mpr hd
  have hik : gW g (plW g k) = k := plW_in hi
  have hpl := h.wi
  have hne : ∀ a, a < nW g → a ≠ plW g k → gW g a ≠ k := fun a ha q e => q (hpl a _ ha hi (by rw [e, hik]))
  generalize hI : plW g k = i at *
  obtain ⟨k1, k2, k3, k4, k5, k6, k7, k8, k9, k10, k11, k12, k13, k14⟩ := h
  unfold oLvW Ok
  simp only [nK_mk, nT_mk, nW_mk, gT_mk, gW_mk, gC_mk, gA_mk, gD_mk, gX_mk, gc_mk]
  rw [hI]
  refine ⟨⟨k1.1, k1.2.1, by omega⟩, fun j hj => ?_, k3, fun j hj => ?_, fun a b ha hb e => ?_, fun q hq hdq => ?_, fun q hq hdq => ?_, fun q hq => ?_, fun q hq => ?_, fun q hq => ?_, k11, k12, k13, k14⟩
  · have := k2 j hj
    rw [un_n (fun e => by rw [e, hd] at this; omega)]
    exact this
  · obtain ⟨a, e, q, q1, q2⟩ := nDel_of (gW g) i j
    have ha : a < nW g := by
      rcases Nat.lt_or_ge j i with z | z
      · have := q1 z; omega
      · have := q2 z; omega
    rw [e, un_n (hne a ha q)]
    exact k4 a ha
  · obtain ⟨a1, e1, p1, p2, p3⟩ := nDel_of (gW g) i a
    obtain ⟨b1, e2, q1, q2, q3⟩ := nDel_of (gW g) i b
    rw [e1, e2] at e
    have ha1 : a1 < nW g := by
      rcases Nat.lt_or_ge a i with z | z
      · have := p2 z; omega
      · have := p3 z; omega
    have hb1 : b1 < nW g := by
      rcases Nat.lt_or_ge b i with z | z
      · have := q2 z; omega
      · have := q3 z; omega
    have := k5 a1 b1 ha1 hb1 e
    rcases Nat.lt_or_ge a i with z | z
    · have := p2 z
      rcases Nat.lt_or_ge b i with y | y
      · have := q2 y; omega
      · have := q3 y; omega
    · have := p3 z
      rcases Nat.lt_or_ge b i with y | y
      · have := q2 y; omega
      · have := q3 y; omega
  · by_cases hki : q = k
    · rw [hki, un_s] at hdq
      omega
    · rw [un_n hki] at hdq
      exact k6 q hq hdq
  · by_cases hki : q = k
    · rw [hki, un_s] at hdq
      omega
    · rw [un_n hki] at hdq
      obtain ⟨j, hj, e⟩ := k7 q hq hdq
      rcases Nat.lt_trichotomy j i with z | z | z
      · exact ⟨j, by omega, by rw [nDel_lt z]; exact e⟩
      · rw [z] at e; exact absurd (e.symm.trans hik) hki
      · exact ⟨j - 1, by omega, by rw [nDel_ge (by omega), show j - 1 + 1 = j by omega]; exact e⟩
  · by_cases hki : q = k
    · rw [hki, un_s]
      exact ⟨by omega, (k8 _ hk).2⟩
    · rw [un_n hki]
      exact k8 q hq
  · rw [un_n (by omega)]
    exact k9 q hq
  · by_cases hki : q = k
    · rw [hki, un_s]
      rcases k10 k hk with y | y
      · exact Or.inl y
      · exact Or.inr ⟨y.1, rfl⟩
    · rw [un_n hki]
      exact k10 q hq
theorem oLv0_ok {g : Sg} (h : Ok g) {k : Nat} (hk : k < nK g) (hd : gD g k = 0) : Ok (oLv0 g k) := by
  obtain ⟨k1, k2, k3, k4, k5, k6, k7, k8, k9, k10, k11, k12, k13, k14⟩ := h
  unfold oLv0 Ok
  simp only [nK_mk, nT_mk, nW_mk, gT_mk, gW_mk, gC_mk, gA_mk, gD_mk, gX_mk, gc_mk]
  refine ⟨k1, fun j hj => ?_, k3, fun j hj => ?_, k5, fun q hq hdq => ?_, fun q hq hdq => ?_, fun q hq => ?_, fun q hq => ?_, fun q hq => ?_, k11, k12, k13, k14⟩
  · have := k2 j hj
    rw [un_n (fun e => by rw [e, hd] at this; omega)]
    exact this
  · have := k4 j hj
    rw [un_n (fun e => by rw [e, hd] at this; omega)]
    exact this
  · by_cases hki : q = k
    · rw [hki, un_s] at hdq
      omega
    · rw [un_n hki] at hdq
      exact k6 q hq hdq
  · by_cases hki : q = k
    · rw [hki, un_s] at hdq
      omega
    · rw [un_n hki] at hdq
      exact k7 q hq hdq
  · by_cases hki : q = k
    · rw [hki, un_s]
      exact ⟨by omega, (k8 _ hk).2⟩
    · rw [un_n hki]
      exact k8 q hq
  · rw [un_n (by omega)]
    exact k9 q hq
  · by_cases hki : q = k
    · rw [hki, un_s]
      rcases k10 k hk with y | y
      · exact Or.inl y
      · exact Or.inr ⟨y.1, rfl⟩
    · rw [un_n hki]
      exact k10 q hq
theorem oLv_ok {g : Sg} (h : Ok g) {k : Nat} (hk : k < nK g) (hd : gD g k ≠ 3) : Ok (oLv g k) := by
  have := (h.k k hk).1
  unfold oLv
  split
  · exact oLvT_ok h hk (by assumption)
  · split
    · exact oLvW_ok h hk (by assumption)
    · exact oLv0_ok h hk (by omega)
/-! pairs in the wrong order -/
def ip (K : Nat → Nat) : Nat → Nat
  | 0 => 0
  | n + 1 => ip K n + cnt (fun a => decide (K a < K n)) n
theorem ip_congr {K L : Nat → Nat} : ∀ {n : Nat}, (∀ j, j < n → K j = L j) → ip K n = ip L n
  | 0, _ => rfl
  | n + 1, h => by
    unfold ip
    rw [ip_congr (fun j hj => h j (by omega)), cnt_congr (fun j hj => by rw [h j (by omega), h n (by omega)])]
theorem cnt_swap {p q : Nat → Bool} {i : Nat} (h1 : q i = p (i + 1)) (h2 : q (i + 1) = p i) (h3 : ∀ j, j ≠ i → j ≠ i + 1 → q j = p j) : ∀ d, cnt q (i + 2 + d) = cnt p (i + 2 + d)
  | 0 => by
    show cnt q (i + 1 + 1) = cnt p (i + 1 + 1)
    rw [cnt_s, cnt_s, cnt_s, cnt_s, cnt_congr (p := q) (q := p) (fun j hj => h3 j (by omega) (by omega)), h1, h2]
    omega
  | d + 1 => by
    show cnt q (i + 2 + d + 1) = cnt p (i + 2 + d + 1)
    rw [cnt_s, cnt_s, cnt_swap h1 h2 h3 d, h3 _ (by omega) (by omega)]
theorem ip_s (K : Nat → Nat) (n : Nat) : ip K (n + 1) = ip K n + cnt (fun a => decide (K a < K n)) n := rfl
theorem ip_swap {K L : Nat → Nat} {i : Nat} (h1 : L i = K (i + 1)) (h2 : L (i + 1) = K i) (h3 : ∀ j, j ≠ i → j ≠ i + 1 → L j = K j) (hk : K i < K (i + 1)) : ∀ d, ip L (i + 2 + d) + 1 = ip K (i + 2 + d)
  | 0 => by
    show ip L (i + 1 + 1) + 1 = ip K (i + 1 + 1)
    rw [ip_s, ip_s, ip_s, ip_s, ip_congr (K := L) (L := K) (fun j hj => h3 j (by omega) (by omega)), cnt_s, cnt_s, h1, h2]
    rw [if_neg (by simp; omega), if_pos (by simp; exact hk)]
    rw [cnt_congr (p := fun a => decide (L a < K (i + 1))) (q := fun a => decide (K a < K (i + 1))) (fun j hj => by rw [h3 j (by omega) (by omega)])]
    rw [cnt_congr (p := fun a => decide (L a < K i)) (q := fun a => decide (K a < K i)) (fun j hj => by rw [h3 j (by omega) (by omega)])]
    omega
  | d + 1 => by
    show ip L (i + 2 + d + 1) + 1 = ip K (i + 2 + d + 1)
    have ih := ip_swap h1 h2 h3 hk d
    rw [ip_s, ip_s, h3 _ (by omega) (by omega), cnt_swap (p := fun a => decide (K a < K (i + 2 + d))) (q := fun a => decide (L a < K (i + 2 + d))) (i := i) (by rw [h1]) (by rw [h2]) (fun j a b => by rw [h3 j a b]) d]
    omega
def wp (g : Sg) : Nat := ip (fun j => key g (gT g j)) (nT g)
theorem ip_le (K : Nat → Nat) : ∀ n, ip K n ≤ n * 24 ∨ 24 < n
  | 0 => Or.inl (Nat.zero_le _)
  | n + 1 => by
    rcases ip_le K n with h | h
    · have := cnt_le (fun a => decide (K a < K n)) n
      rw [ip_s]
      omega
    · omega
theorem wp_sw {g : Sg} (h : fw g < nT g - 1) : wp (oSw g (fw g)) + 1 = wp g := by
  have hw := of_decide_eq_true (fw_wrg h)
  have hL : ∀ j, key (oSw g (fw g)) (gT (oSw g (fw g)) j) = key g (un (un (gT g) (fw g) (gT g (fw g + 1))) (fw g + 1) (gT g (fw g)) j) := fun j => rfl
  have hn : nT (oSw g (fw g)) = nT g := rfl
  unfold wp
  rw [hn, show nT g = fw g + 2 + (nT g - fw g - 2) by omega]
  refine ip_swap (i := fw g) ?_ ?_ (fun j a b => ?_) hw _
  · rw [hL, un_n (by omega), un_s]
  · rw [hL, un_s]
  · rw [hL, un_n b, un_n a]
theorem wp_0 {g : Sg} (h : fw g < nT g - 1) : 0 < wp g := by
  have := wp_sw h
  omega
theorem wp_no {g : Sg} (h : ¬ fw g < nT g - 1) : wp g = 0 := by
  have hs := sl_no h
  have key : ∀ n, n ≤ nT g → ip (fun j => key g (gT g j)) n = 0 := by
    intro n
    induction n with
    | zero => intro _; rfl
    | succ n ih =>
      intro hn
      rw [ip_s, ih (by omega), cnt_0 (fun k hk => ?_)]
      refine decide_eq_false (fun q => ?_)
      have := hs n (by omega)
      rw [sl_yes hk q] at this
      cases this
  exact key _ (Nat.le_refl _)
theorem oEnvN_wp : ∀ (m : Nat) (g : Sg), wp g ≤ m → oEnvN m g = wp g
  | 0, g, h => by
    unfold oEnvN
    omega
  | m + 1, g, h => by
    unfold oEnvN
    split
    · rename_i q
      have := wp_sw q
      rw [oEnvN_wp m _ (by omega)]
      omega
    · rename_i q
      exact (wp_no q).symm
theorem wp_le {g : Sg} (h : Ok g) : wp g ≤ 288 := by
  have := ip_le (fun j => key g (gT g j)) (nT g)
  have := h.n.2.1
  unfold wp
  omega
/-- the pairs by the upper one -/
def ipR (K : Nat → Nat) (n u : Nat) : Nat := cnt (fun l => decide (u < l) && decide (K u < K l)) n
def smN (f : Nat → Nat) : Nat → Nat
  | 0 => 0
  | n + 1 => smN f n + f n
theorem smN_s (f : Nat → Nat) (n : Nat) : smN f (n + 1) = smN f n + f n := rfl
theorem smN_congr {f h : Nat → Nat} : ∀ {n : Nat}, (∀ k, k < n → f k = h k) → smN f n = smN h n
  | 0, _ => rfl
  | n + 1, q => by
    rw [smN_s, smN_s, smN_congr (fun k hk => q k (by omega)), q n (by omega)]
theorem smN_add (f : Nat → Nat) (p : Nat → Bool) : ∀ n, smN (fun u => f u + if p u = true then 1 else 0) n = smN f n + cnt p n
  | 0 => rfl
  | n + 1 => by
    rw [smN_s, smN_s, cnt_s, smN_add f p n]
    omega
theorem ipR_sum (K : Nat → Nat) : ∀ n, smN (ipR K n) n = ip K n
  | 0 => rfl
  | n + 1 => by
    have e : ∀ u, u < n + 1 → ipR K (n + 1) u = ipR K n u + if (decide (u < n) && decide (K u < K n)) = true then 1 else 0 := fun u _ => cnt_s _ _
    rw [smN_congr e, smN_add, smN_s, ipR_sum K n, ip_s, cnt_s, if_neg (by simp), show ipR K n n = 0 from cnt_0 (fun k hk => by simp; omega)]
    rw [cnt_congr (p := fun u => decide (u < n) && decide (K u < K n)) (q := fun u => decide (K u < K n)) (fun k hk => by simp [hk])]
    omega
/-- kings who sit, told by kings or by seats -/
theorem cnt_seats {g : Sg} (h : Ok g) (p : Nat → Bool) : cnt (fun k => p k && decide (gD g k = 2)) (nK g) = cnt (fun i => p (gT g i)) (nT g) := by
  have key : ∀ t, t ≤ nT g → cnt (fun k => p k && decide (plT g k < t)) (nK g) = cnt (fun i => p (gT g i)) t := by
    intro t
    induction t with
    | zero =>
      intro _
      exact cnt_0 (fun k _ => by simp)
    | succ t ih =>
      intro ht
      have hj := h.t t (by omega)
      have hp := plT_of h (j := t) (by omega)
      rw [cnt_s, ← ih (by omega)]
      by_cases hpt : p (gT g t) = true
      · rw [if_pos hpt]
        refine cnt_one (k := gT g t) hj.1 (by simp [hp]) (by simp [hp, hpt]) (fun j _ q => ?_)
        have : plT g j ≠ t := fun e => q (by rw [← e, plT_in (by omega)])
        have : decide (plT g j < t + 1) = decide (plT g j < t) := by
          by_cases y : plT g j < t
          · rw [decide_eq_true y, decide_eq_true (by omega)]
          · rw [decide_eq_false y, decide_eq_false (by omega)]
        show (p j && decide (plT g j < t + 1)) = (p j && decide (plT g j < t))
        rw [this]
      · rw [if_neg hpt, Nat.add_zero]
        refine cnt_congr (fun j _ => ?_)
        by_cases e : plT g j = t
        · have : gT g t = j := by rw [← e]; exact plT_in (by omega)
          rw [this] at hpt
          simp [hpt]
        · have : decide (plT g j < t + 1) = decide (plT g j < t) := by
            by_cases y : plT g j < t
            · rw [decide_eq_true y, decide_eq_true (by omega)]
            · rw [decide_eq_false y, decide_eq_false (by omega)]
          rw [this]
  rw [← key (nT g) (Nat.le_refl _)]
  refine cnt_congr (fun k hk => ?_)
  have := plT_lt h hk
  by_cases y : gD g k = 2
  · rw [decide_eq_true y, decide_eq_true (this.mpr y)]
  · rw [decide_eq_false y, decide_eq_false (fun z => y (this.mp z))]
/-- who arrives still -/
def cA (g : Sg) : Nat := cnt (arv g) (nK g)
theorem cA_1 {g : Sg} (h : Ok g) (q : nx g ≠ 24) : cA (oAr1 g (nx g)) + 1 = cA g := by
  have hn := nx_in h q
  unfold cA
  refine (cnt_one (k := nx g) hn.1 ?_ ?_ (fun j _ z => ?_)).symm
  · show (decide (gD (oAr1 g (nx g)) (nx g) = 0) && _) = false
    rw [show gD (oAr1 g (nx g)) (nx g) = 1 from un_s _ _ _]
    rfl
  · unfold arv
    rw [decide_eq_true hn.2.1, decide_eq_true hn.2.2]
    rfl
  · show _ = (decide (gD (oAr1 g (nx g)) j = 0) && _)
    rw [show gD (oAr1 g (nx g)) j = gD g j from un_n z]
    rfl
theorem oArr_st {g : Sg} (q : nx g = 24) : ∀ m, oArr m g = g
  | 0 => rfl
  | m + 1 => by
    unfold oArr
    rw [if_pos q]
theorem cA_le (g : Sg) : cA g ≤ nK g := cnt_le _ _
theorem oSit_st {g : Sg} (q : nW g = 0) : ∀ m, oSit m g = g
  | 0 => rfl
  | m + 1 => by
    unfold oSit
    rw [if_pos q]
