theorem tellV_d {g : Sg} {k w : Nat} (h : w ≠ 1) : tellV (dbl g) k w = tellV g k w := by
  match w, h with
  | 0, _ => rfl
  | 1, h => exact absurd rfl h
  | 2, _ => rfl
  | 3, _ => rfl
  | 4, _ => rfl
  | 5, _ => rfl
  | 6, _ => rfl
  | 7, _ => rfl
  | w + 8, _ => rfl
theorem kA_d {g : Sg} {x : Int32} {w : Nat} (h : w < 9) (h1 : w ≠ 1) : kA (dbl g) x (nI w) = kA g x (nI w) := by
  unfold kA
  rw [nI_clamp (by omega), tellV_d h1]
  rfl
theorem acc_d (g : Sg) {w : Nat} (h : w < 15) : acc (dbl g) w = acc g w := by
  match w, h with
  | 0, _ => rfl
  | 1, _ => rfl
  | 2, _ => rfl
  | 3, _ => rfl
  | 4, _ => rfl
  | 5, _ => rfl
  | 6, _ => rfl
  | 7, _ => rfl
  | 8, _ => rfl
  | 9, _ => rfl
  | 10, _ => rfl
  | 11, _ => rfl
  | 12, _ => rfl
  | 13, _ => rfl
  | 14, _ => rfl
theorem seA_d (g : Sg) (x : Int32) : seA (dbl g) x = seA g x := rfl
theorem waA_d (g : Sg) (x : Int32) : waA (dbl g) x = waA g x := rfl
theorem why_d {g : Sg} (h : Ok g) (hy : yg g) {k o : Nat} (hk : k < nK g) (ho : o < nK g) : why (dbl g) k o = why g k o := by
  have h24 := h.n.1
  have e : (if key (dbl g) k < key (dbl g) o then nI 2 else if gC g o < gC g k then nI 0 else if 2 * gA g o < 2 * gA g k then nI 3 else nI 4) = (if key g k < key g o then nI 2 else if gC g o < gC g k then nI 0 else if gA g o < gA g k then nI 3 else nI 4) := by
    have e1 : (2 * gA g o < 2 * gA g k) = (gA g o < gA g k) := propext ⟨fun _ => by omega, fun _ => by omega⟩
    have e2 : (key (dbl g) k < key (dbl g) o) = (key g k < key g o) := propext (key_d hy (by omega) (by omega))
    simp only [e1, e2]
  show (if plT g k < nT g ∧ plT g o < nT g ∧ ¬ plT g o < plT g k then (if key (dbl g) k < key (dbl g) o then nI 2 else if gC g o < gC g k then nI 0 else if 2 * gA g o < 2 * gA g k then nI 3 else nI 4) else nI 1) = _
  rw [e]
  rfl
theorem reA_d {g : Sg} (h : Ok g) (hy : yg g) (x y : Int32) : reA (dbl g) x y = reA g x y := by
  show (if (kIs (nK g) x && kIs (nK g) y) = true then if x = y then -2 else why (dbl g) x.toNatClampNeg y.toNatClampNeg else -1) = _
  by_cases q : (kIs (nK g) x && kIs (nK g) y) = true
  · have q2 := Bool.and_eq_true_iff.mp q
    obtain ⟨j, hj, rfl⟩ := kIs_ex q2.1 (by have := h.n; omega)
    obtain ⟨k, hk, rfl⟩ := kIs_ex q2.2 (by have := h.n; omega)
    rw [nI_clamp (by have := h.n; omega), nI_clamp (by have := h.n; omega), why_d h hy hj hk]
    unfold reA
    rw [nI_clamp (by have := h.n; omega), nI_clamp (by have := h.n; omega)]
  · unfold reA
    rw [if_neg q, if_neg q]
theorem ip_d {K L : Nat → Nat} : ∀ {n : Nat}, (∀ i j, i < n → j < n → (L i < L j ↔ K i < K j)) → ip L n = ip K n
  | 0, _ => rfl
  | n + 1, h => by
    rw [ip_s, ip_s, ip_d (n := n) (fun i j hi hj => h i j (by omega) (by omega)), cnt_congr (fun k hk => (by
      by_cases q : K k < K n
      · rw [decide_eq_true q, decide_eq_true ((h k n (by omega) (by omega)).mpr q)]
      · rw [decide_eq_false q, decide_eq_false (fun z => q ((h k n (by omega) (by omega)).mp z))] : decide (L k < L n) = decide (K k < K n)))]
theorem wp_d {g : Sg} (h : Ok g) (hy : yg g) : wp (dbl g) = wp g :=
  ip_d (n := nT g) (fun _ _ hi hj => key_d hy (ok_t25 h hi) (ok_t25 h hj))
theorem msI_d (g : Sg) : ∀ n, msI (dbl g) n = msI g n
  | 0 => rfl
  | n + 1 => by
    rw [msI_s, msI_s, msI_d g n]
    rfl
theorem faI_d2 (g : Sg) : ∀ n, faI (dbl g) n = faI g n
  | 0 => rfl
  | n + 1 => by
    rw [faI_s, faI_s, faI_d2 g n]
    rfl
theorem yg_oRnd {g : Sg} (hy : yg g) : yg (oRnd g) := fun k => by rw [gA_oRnd]; exact hy k
theorem rdN_d : ∀ (n : Nat) {g : Sg}, Ok g → yg g → rdN n (dbl g) = dbl (rdN n g)
  | 0, _, _, _ => rfl
  | n + 1, g, h, hy => by
    show rdN n (oRnd (dbl g)) = dbl (rdN n (oRnd g))
    rw [oRnd_d h hy]
    exact rdN_d n (oRnd_ok h) (yg_oRnd hy)
theorem irA_d {g : Sg} (h : Ok g) (hy : yg g) (x : Int32) : irA (dbl g) x = irA g x := by
  unfold irA
  rw [rdN_d _ h hy]
  rfl
theorem dI_d : ∀ (n r : Nat) {g : Sg} (k : Nat), Ok g → yg g → plT g k < nT g → gD g k = 2 → k < nK g → dI n r (dbl g) k = dI n r g k
  | 0, _, _, _, _, _, _, _, _ => rfl
  | n + 1, r, g, k, h, hy, hk, hd, hkn => by
    have e1 : dI (n + 1) r (dbl g) k = if sl (dbl g) (plT g k) = true then dI n (r + 1) (oEnv (gc g 2).toNatClampNeg (dbl g)) k else nI r := rfl
    have e2 : dI (n + 1) r g k = if sl g (plT g k) = true then dI n (r + 1) (oEnv (gc g 2).toNatClampNeg g) k else nI r := rfl
    rw [e1, e2, sl_d h hy hk, oEnv_d _ h hy]
    have h1 := oEnv_ok (gc g 2).toNatClampNeg h
    have q := oEnv_eq (gc g 2).toNatClampNeg g
    have hd1 : gD (oEnv (gc g 2).toNatClampNeg g) k = 2 := by rw [q.2.2.2.2.2.1]; exact hd
    have hk1 : k < nK (oEnv (gc g 2).toNatClampNeg g) := by rw [q.1]; exact hkn
    rw [dI_d n (r + 1) k h1 (fun j => by rw [gA_oEnv]; exact hy j) ((plT_lt h1 hk1).mpr hd1) hd1 hk1]
theorem diA_d2 {g : Sg} (h : Ok g) (hy : yg g) (x : Int32) : diA (dbl g) x = diA g x := by
  show (if kIs (nK g) x = true then if gD g x.toNatClampNeg = 2 then dI 101 0 (dbl g) x.toNatClampNeg else -4 else -1) = _
  unfold diA
  by_cases q : kIs (nK g) x = true
  · obtain ⟨j, hj, rfl⟩ := kIs_ex q (by have := h.n; omega)
    rw [if_pos q, if_pos q, nI_clamp (by have := h.n; omega)]
    by_cases z : gD g j = 2
    · rw [if_pos z, if_pos z, dI_d 101 0 j h hy ((plT_lt h hj).mpr z) z hj]
    · rw [if_neg z, if_neg z]
  · rw [if_neg q, if_neg q]
theorem dsA_d {g : Sg} (h : Ok g) (hy : yg g) {x y : Nat} (hx : 1 ≤ x ∧ x ≤ 9) (ha : y ≤ 60) : dsA (dbl g) (nI x) (nI (2 * y)) = dsA g (nI x) (nI y) := by
  have i1 : isIn (nI x) 1 9 = true := isIn_i (nI_nlt hx.1 (by omega)) (nI_nlt hx.2 (by omega))
  have i2 : isIn (nI y) 0 120 = true := isIn_i (nI_nlt (Nat.zero_le _) (by omega)) (nI_nlt (by omega) (by omega))
  have i3 : isIn (nI (2 * y)) 0 120 = true := isIn_i (nI_nlt (Nat.zero_le _) (by omega)) (nI_nlt (by omega) (by omega))
  rw [dsA_2 i1 i3 (by omega) (by omega), dsA_2 i1 i2 (by omega) (by omega)]
  congr 1
  refine cnt_congr (fun k hk => ?_)
  have hk24 : k < 24 := by
    have hk : k < nK g := hk
    have := h.n.1
    omega
  have hyk := hy k
  have e : decide ((x * 121 + 2 * y) * 25 < key (dbl g) k) = decide ((x * 121 + y) * 25 < key g k) := by
    have e1 : ((x * 121 + 2 * y) * 25 < key (dbl g) k) ↔ ((x * 121 + y) * 25 < key g k) := by
      show ((x * 121 + 2 * y) * 25 < (gC g k * 121 + 2 * gA g k) * 25 + 24 - k) ↔ ((x * 121 + y) * 25 < (gC g k * 121 + gA g k) * 25 + 24 - k)
      generalize gC g k = ck at *
      generalize gA g k = ak at *
      rcases Nat.lt_trichotomy x ck with q | q | q
      · constructor <;> intro _ <;> omega
      · subst q
        rcases Nat.lt_trichotomy y ak with z | z | z
        · constructor <;> intro _ <;> omega
        · subst z
          constructor <;> intro _ <;> omega
        · constructor <;> intro _ <;> omega
      · constructor <;> intro _ <;> omega
    by_cases q : (x * 121 + y) * 25 < key g k
    · rw [decide_eq_true q, decide_eq_true (e1.mpr q)]
    · rw [decide_eq_false q, decide_eq_false (fun z => q (e1.mp z))]
  show (decide ((x * 121 + 2 * y) * 25 < key (dbl g) k) && decide (gD g k = 2)) = (decide ((x * 121 + y) * 25 < key g k) && decide (gD g k = 2))
  rw [e]
