theorem kA_k {g : Sg} {k w : Nat} (hk : k < nK g) (h24 : nK g ≤ 24) (hw : w < 9) : kA g (nI k) (nI w) = tellV g k w :=
  kA_3 (kIs_tn (by omega) hk) (by omega) hw
theorem tell_4y {g : Sg} (h : Ok g) {k : Nat} (hk : k < nK g) (hd : gD g k = 2) : tellV g k 4 = nI (plT g k) := by
  show oI (decide (plT g k < nT g)) (plT g k) = _
  rw [decide_eq_true ((plT_lt h hk).mpr hd)]
  rfl
theorem tell_4n {g : Sg} (h : Ok g) {k : Nat} (hk : k < nK g) (hd : gD g k ≠ 2) : tellV g k 4 = -5 := by
  show oI (decide (plT g k < nT g)) (plT g k) = _
  rw [decide_eq_false (fun z => hd ((plT_lt h hk).mp z))]
  rfl
theorem tell_5y {g : Sg} (h : Ok g) {k : Nat} (hk : k < nK g) (hd : gD g k = 1) : tellV g k 5 = nI (plW g k) := by
  show oI (decide (plW g k < nW g)) (plW g k) = _
  rw [decide_eq_true ((plW_lt h hk).mpr hd)]
  rfl
theorem tell_5n {g : Sg} (h : Ok g) {k : Nat} (hk : k < nK g) (hd : gD g k ≠ 1) : tellV g k 5 = -5 := by
  show oI (decide (plW g k < nW g)) (plW g k) = _
  rw [decide_eq_false (fun z => hd ((plW_lt h hk).mp z))]
  rfl
theorem seA_t {g : Sg} (h : Ok g) {j : Nat} (hj : j < nT g) : seA g (nI j) = nI (gT g j) := by
  have := h.n
  rw [seA_2 (kIs_tn (by decide) (by omega))]
  unfold sAt
  rw [if_pos (kIs_tn (by omega) hj), nI_clamp (by omega)]
theorem seA_n {g : Sg} (h : Ok g) {j : Nat} (hj : nT g ≤ j) (h12 : j < 12) : seA g (nI j) = -5 := by
  have := h.n
  rw [seA_2 (kIs_tn (by decide) h12)]
  unfold sAt
  rw [if_neg (by rw [kIs_fn (by omega) (by omega) (by omega)]; decide)]
theorem seA_o {g : Sg} {j : Nat} (h12 : 12 ≤ j) (h31 : j < 2 ^ 31) : seA g (nI j) = -1 := seA_1 (kIs_fn (by decide) h31 (by omega))
theorem seA_p {g : Sg} (h : Ok g) {k : Nat} (hk : k < nK g) (hd : gD g k = 2) : seA g (nI (plT g k)) = nI k := by
  have z := (plT_lt h hk).mpr hd
  rw [seA_t h z, plT_in z]
theorem waA_p {g : Sg} (h : Ok g) {k : Nat} (hk : k < nK g) (hd : gD g k = 1) : waA g (nI (plW g k)) = nI k := by
  have z := (plW_lt h hk).mpr hd
  have := h.n
  unfold waA wAt
  rw [if_neg (nI_pos (by omega)), if_pos (kIs_tn (by omega) z), nI_clamp (by omega), plW_in z]
theorem Iv_ts {M : Nat} {g : Sg} (h : Iv M g) (hM : M < 2 ^ 29) {k : Nat} (hk : k < nK g) : ¬ gX g 1 k < gX g 2 k := by
  obtain ⟨-, -, mn, h3, h4⟩ := h
  obtain ⟨-, t, s, b1, b2, b3, b4⟩ := h4.2 k hk
  rw [b1, b2]
  exact nI_nlt b3 (by omega)
theorem Iv_mi {M : Nat} {g : Sg} (h : Iv M g) (hM : M < 2 ^ 29) {k : Nat} (hk : k < nK g) (hd : gD g k = 0) : ¬ gX g 0 k < gc g 4 := by
  obtain ⟨-, -, mn, h3, h4⟩ := h
  obtain ⟨⟨ma, a1, a2, a3⟩, -⟩ := h4.2 k hk
  rw [a1, h4.1]
  exact nI_nlt (a3 hd) (by omega)
theorem ok_an {g : Sg} (h : Ok g) {k : Nat} (hk : k < nK g) (hd : gD g k ≠ 3) : gX g 3 k = nI 0 := by
  rcases h.a k hk with q | q
  · exact q
  · exact absurd q.2 hd
/-- how many of the first k kings do i -/
def dN (g : Sg) (k : Nat) : Nat → Int32 := fun i => nI (cnt (fun j => decide (gD g j = i)) k)
theorem dN_0 (g : Sg) : ∀ j, j < 4 → (fun _ : Nat => nI 0) j = dN g 0 j := fun _ _ => rfl
theorem dN_s {g : Sg} {k d : Nat} (hd : gD g k = d) : ∀ j, j < 4 → upd (dN g k) d (dN g k d + nI 1) j = dN g (k + 1) j := by
  intro j _
  unfold upd
  by_cases q : j = d
  · rw [if_pos q, q]
    show nI _ + nI 1 = nI _
    rw [nI_add, cnt_s, if_pos (decide_eq_true hd)]
  · rw [if_neg q]
    show nI _ = nI _
    rw [cnt_s, if_neg (by rw [decide_eq_false (by omega)]; decide)]
    rfl
theorem kdN_2 {g : Sg} (h : Ok g) : kdN g 2 = nT g := by
  have q := cnt_seats h (fun _ => true)
  have e1 : cnt (fun k => true && decide (gD g k = 2)) (nK g) = kdN g 2 := rfl
  have e2 : ∀ n, cnt (fun _ => true) n = n := by
    intro n
    induction n with
    | zero => rfl
    | succ n ih => rw [cnt_s, ih]; rfl
  rw [e1, e2] at q
  exact q
theorem coA_k {g : Sg} {hn n w : Nat} (h : w < 15) : coA g hn n (nI w) = acc g w := coA_w h
theorem acc_do {g : Sg} {k : Nat} (h : k < 4) : acc g (2 + k) = nI (kdN g k) := by
  rcases (by omega : k = 0 ∨ k = 1 ∨ k = 2 ∨ k = 3) with rfl | rfl | rfl | rfl <;> rfl
theorem acc_set {g : Sg} {k : Nat} (h : k < 4) : acc g (11 + k) = gc g k := by
  rcases (by omega : k = 0 ∨ k = 1 ∨ k = 2 ∨ k = 3) with rfl | rfl | rfl | rfl <;> rfl
/-- no lesser one of the first j seats is above the seat k -/
def dueC (g : Sg) (k j : Nat) : Nat := cnt (fun i => decide (i < k) && decide (key g (gT g i) < key g (gT g k))) j
def dueB (g : Sg) (k j : Nat) : Bool := decide (dueC g k j = 0)
theorem dueB_0 (g : Sg) (k : Nat) : dueB g k 0 = true := rfl
theorem dueB_1 {g : Sg} {k j : Nat} (h : j < k) (q : key g (gT g j) < key g (gT g k)) : dueB g k (j + 1) = false := by
  refine decide_eq_false ?_
  unfold dueC
  rw [cnt_s, if_pos (by rw [decide_eq_true h, decide_eq_true q]; rfl)]
  omega
theorem dueB_2 {g : Sg} {k j : Nat} (h : ¬ (j < k ∧ key g (gT g j) < key g (gT g k))) : dueB g k (j + 1) = dueB g k j := by
  unfold dueB dueC
  rw [cnt_s, if_neg (fun z => h ⟨of_decide_eq_true (Bool.and_eq_true_iff.mp z).1, of_decide_eq_true (Bool.and_eq_true_iff.mp z).2⟩), Nat.add_zero]
theorem dueB_e {g : Sg} {k : Nat} (hk : k < nT g) : dueB g k (nT g) = !(sl g k) := by
  by_cases q : sl g k = true
  · have h1 := of_decide_eq_true q
    have h2 := ff_yes (fun j => decide (key g (gT g j) < key g (gT g k))) k h1
    have h3 : 0 < dueC g k (nT g) := cnt_pos (k := ff (fun j => decide (key g (gT g j) < key g (gT g k))) k) (by omega) (by rw [decide_eq_true h1, Bool.true_and]; exact h2)
    rw [q]
    exact decide_eq_false (by omega)
  · have h1 : ∀ j, j < k → ¬ key g (gT g j) < key g (gT g k) := fun j hj z => q (sl_yes hj z)
    have h3 : dueC g k (nT g) = 0 := cnt_0 (fun i hi => by
      by_cases z : i < k
      · rw [decide_eq_false (h1 i z), Bool.and_false]
      · rw [decide_eq_false z, Bool.false_and])
    rw [Bool.eq_false_iff.mpr q]
    exact decide_eq_true h3
theorem reA_t {g : Sg} (h : Ok g) {j k : Nat} (hj : j < nT g) (hk : k < nT g) (hne : j ≠ k) : reA g (nI (gT g j)) (nI (gT g k)) = why g (gT g j) (gT g k) := by
  have h1 := h.t j hj
  have h2 := h.t k hk
  have h3 := h.n
  exact reA_3 (kIs_tn (by omega) h1.1) (kIs_tn (by omega) h2.1) (by omega) (by omega) (fun e => hne (h.ti j k hj hk e))
theorem why_gt {g : Sg} (h : Ok g) {j k : Nat} (hj : j < nT g) (hk : k < nT g) (q : k < j) : why g (gT g j) (gT g k) = nI 1 :=
  why_1 (by rw [plT_of h hj, plT_of h hk]; omega)
theorem why_lt2 {g : Sg} (h : Ok g) {j k : Nat} (hj : j < nT g) (hk : k < nT g) (q : j < k) (z : key g (gT g j) < key g (gT g k)) : why g (gT g j) (gT g k) = nI 2 := by
  rw [why_2 (by rw [plT_of h hj, plT_of h hk]; omega), if_pos z]
theorem why_lt0 {g : Sg} (h : Ok g) {j k : Nat} (hj : j < nT g) (hk : k < nT g) (q : j < k) (z : ¬ key g (gT g j) < key g (gT g k)) : why g (gT g j) (gT g k) ≠ nI 1 ∧ why g (gT g j) (gT g k) ≠ nI 2 := by
  rw [why_2 (by rw [plT_of h hj, plT_of h hk]; omega), if_neg z]
  split
  · exact ⟨by decide, by decide⟩
  · split <;> exact ⟨by decide, by decide⟩
theorem dI_n0 : ∀ (n r : Nat) (g : Sg) (k : Nat), 1 ≤ r → r + n < 2 ^ 31 → dI n r g k ≠ nI 0
  | 0, _, _, _, _, _ => by
    show (-5 : Int32) ≠ nI 0
    decide
  | n + 1, r, g, k, hr, hn => by
    have e : dI (n + 1) r g k = if sl g (plT g k) = true then dI n (r + 1) (oEnv (gc g 2).toNatClampNeg g) k else nI r := rfl
    rw [e]
    split
    · exact dI_n0 n (r + 1) _ k (by omega) (by omega)
    · exact fun z => by
        have := (nI_eq (by omega) (by decide)).mp z
        omega
theorem diA_t {g : Sg} (h : Ok g) {k : Nat} (hk : k < nT g) : (sl g k = false → diA g (nI (gT g k)) = nI 0) ∧ (sl g k = true → diA g (nI (gT g k)) ≠ nI 0) := by
  have h1 := h.t k hk
  have h3 := h.n
  have e : diA g (nI (gT g k)) = dI 101 0 g (gT g k) := diA_d (kIs_tn (by omega) h1.1) (by omega) h1.2
  have e2 : dI 101 0 g (gT g k) = if sl g (plT g (gT g k)) = true then dI 100 1 (oEnv (gc g 2).toNatClampNeg g) (gT g k) else nI 0 := rfl
  rw [e, e2, plT_of h hk]
  constructor
  · intro q
    rw [q]
    rfl
  · intro q
    rw [if_pos q]
    exact dI_n0 100 1 _ _ (by decide) (by decide)
/-- how many of the first n seats are due -/
def riN (g : Sg) (n : Nat) : Nat := cnt (fun i => !(sl g i)) n
theorem riN_s (g : Sg) (n : Nat) : nI (riN g n) + nI (if sl g n = true then 0 else 1) = nI (riN g (n + 1)) := by
  rw [nI_add]
  unfold riN
  rw [cnt_s]
  cases sl g n <;> rfl
theorem cnt_full {p : Nat → Bool} : ∀ {n : Nat}, (∀ k, k < n → p k = true) → cnt p n = n
  | 0, _ => rfl
  | n + 1, h => by
    rw [cnt_s, cnt_full (fun k hk => h k (by omega)), if_pos (h n (by omega))]
theorem cnt_less {p : Nat → Bool} {k : Nat} : ∀ {n : Nat}, k < n → p k = false → cnt p n < n
  | 0, h, _ => absurd h (Nat.not_lt_zero k)
  | n + 1, h, q => by
    rw [cnt_s]
    have := cnt_le p n
    by_cases z : k = n
    · subst z
      rw [if_neg (by rw [q]; decide)]
      omega
    · have := cnt_less (n := n) (by omega) q
      split <;> omega
theorem riN_wp {g : Sg} : (riN g (nT g) = nT g ↔ wp g = 0) := by
  constructor
  · intro h
    by_cases q : fw g < nT g - 1
    · have h1 := of_decide_eq_true (fw_wrg q)
      have h2 : sl g (fw g + 1) = true := sl_yes (j := fw g) (by omega) h1
      have h3 : riN g (nT g) < nT g := cnt_less (k := fw g + 1) (by omega) (by rw [h2]; rfl)
      omega
    · exact wp_no q
  · intro h
    by_cases q : fw g < nT g - 1
    · have := wp_0 q
      omega
    · exact cnt_full (fun k hk => by rw [sl_no q k hk]; rfl)
theorem rdN_6 : ∀ (n : Nat) {g : Sg}, ¬ fw g < nT g - 1 → gc (rdN n g) 6 = gc g 6
  | 0, _, _ => rfl
  | n + 1, g, h => by
    show gc (rdN n (oRnd g)) 6 = gc g 6
    rw [rnd_0 h]
    exact rdN_6 n (g := oTo g (nT g) (nT g)) h
theorem irA_0 {g : Sg} (h : wp g = 0) : irA g (nI 5) = nI 0 := by
  have q : ¬ fw g < nT g - 1 := fun z => by
    have := wp_0 z
    omega
  rw [irA_2 (by decide) (by decide), rdN_6 5 q, Int32.sub_self]
  rfl
theorem wp_gt {g : Sg} (h : Ok g) : ¬ nI (wp g) > 0 → wp g = 0 := fun q => by
  have h1 := wp_le h
  rcases Nat.eq_zero_or_pos (wp g) with z | z
  · exact z
  · exact absurd (nI_lt z (by omega)) q
