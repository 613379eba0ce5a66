theorem ik_0 {iK : Int32} {kp : Bool} (h : iK = kb_b kp) (c : iK = 0) : kp = false := by
  cases kp with
  | false => rfl
  | true => rw [h] at c; exact absurd c (by decide)
theorem ik_1 {iK : Int32} {kp : Bool} (h : iK = kb_b kp) (c : ¬ iK = 0) : kp = true := by
  cases kp with
  | false => exact absurd h c
  | true => rfl
theorem rsA_0 {kp : Bool} {g : Sg} (h : kp = false) : rsA kp g = -5 := if_neg (by rw [h]; decide)
theorem rsA_1 {kp : Bool} {g : Sg} (h : kp = true) : rsA kp g = nI (nT g) := if_pos h
theorem kb_tab {n : Nat} (hn : n < 2 ^ 31) (w : Int32) : (kIs n w = false ∧ (w.toInt < 0 ∨ (n : Int) - 1 < w.toInt)) ∨ ∃ j, j < n ∧ w = nI j := by
  cases q : kIs n w with
  | true => exact Or.inr (kIs_ex q hn)
  | false =>
    refine Or.inl ⟨rfl, ?_⟩
    rw [kIs_I] at q
    have q2 := of_decide_eq_false q
    rw [nI_toInt hn, show (nI 0).toInt = 0 from by decide] at q2
    omega
def uC (g : Sg) (x : Int32) : Sg := ((nK g, nT g, nW g), gT g, gW g, gC g, gA g, gD g, gX g, upd (gc g) 10 x)
theorem uC_ok {g : Sg} {x : Int32} (h : Ok g) : Ok (uC g x) := by
  obtain ⟨k1, k2, k3, k4, k5, k6, k7, k8, k9, k10, k11, k12, k13, k14⟩ := h
  have e : ∀ i, i ≠ 10 → gc (uC g x) i = gc g i := fun i a => up_n a
  unfold Ok
  rw [e 0 (by decide), e 1 (by decide), e 2 (by decide), e 8 (by decide), e 9 (by decide), e 6 (by decide)]
  exact ⟨k1, k2, k3, k4, k5, k6, k7, k8, k9, k10, k11, k12, k13, k14⟩
theorem uC_wp (g : Sg) (x : Int32) : wp (uC g x) = wp g := rfl
theorem rV_c10 {v : Nat → Int32} {g : Sg} {x : Int32} (h : rV v g) (ht : nT g ≤ 12) (hw : nW g ≤ 24) : rV (upd v 10 x) (uC g x) := by
  have key : ∀ i, i ≠ 10 → upd v 10 x i = v i := fun i a => up_n a
  refine ⟨fun j hj => ?_, ?_, ?_, fun j h6 h10 => ?_, ?_, fun j hj => ?_, ?_, fun j hj => ?_, fun i hi => ?_⟩
  · rw [key _ (by omega)]; exact (h.c hj).trans (up_n (by omega)).symm
  · rw [key _ (by omega)]; exact h.m.trans (up_n (f := gc g) (k := 10) (j := 4) (v := x) (by decide)).symm
  · rw [key _ (by omega)]; exact h.k
  · show _ = upd (gc g) 10 x j
    by_cases q : j = 10
    · rw [q, up_s, up_s]
    · rw [up_n q, up_n q]; exact h.a h6 h10
  · rw [key _ (by omega)]; exact h.t
  · have hj : j < nT g := hj
    rw [key _ (by omega)]; exact h.s hj
  · rw [key _ (by omega)]; exact h.w
  · have hj : j < nW g := hj
    rw [key _ (by omega)]; exact h.u hj
  · rw [key _ (by omega), key _ (by omega), key _ (by omega), key (49 + 7 * i + 3) (by omega), key (49 + 7 * i + 4) (by omega), key (49 + 7 * i + 5) (by omega), key (49 + 7 * i + 6) (by omega)]
    exact h.f hi
theorem rV_swN {v : Nat → Int32} {g : Sg} {i : Nat} (h : rV v g) (hi : i + 1 < nT g) (h12 : nT g ≤ 12) (h24 : nW g ≤ 24) : rV (upd (upd v (12 + i) (v (12 + i + 1))) (12 + i + 1) (v (12 + i))) (uC (oSw g i) (gc g 10)) := by
  have q : rV _ (uC (oSw g i) (gc g 10)) := rV_c10 (x := gc g 10) (rV_sw h hi h12) h12 h24
  refine q.of (fun j hj => ?_) h12 h24
  by_cases e : j = 10
  · subst e
    rw [up_s, up_n (by omega), up_n (by omega)]
    exact h.a (by decide) (by decide)
  · rw [up_n e, up_n e]
theorem i32_sr (a b r : Int32) : a - b + r = a + r - b := by
  rw [Int32.sub_eq_add_neg, Int32.sub_eq_add_neg, Int32.add_assoc, Int32.add_comm (-b) r, ← Int32.add_assoc]
def dsP (g : Sg) (x y : Nat) (i : Nat) : Bool := decide (x < gC g (gT g i) ∨ (gC g (gT g i) = x ∧ y ≤ gA g (gT g i)))
theorem dsP_t {g : Sg} {x y i : Nat} (h : x < gC g (gT g i) ∨ (gC g (gT g i) = x ∧ y ≤ gA g (gT g i))) : dsP g x y i = true := decide_eq_true h
theorem dsP_f {g : Sg} {x y i : Nat} (h : ¬ (x < gC g (gT g i) ∨ (gC g (gT g i) = x ∧ y ≤ gA g (gT g i)))) : ¬ dsP g x y i = true := by
  unfold dsP; rw [decide_eq_false h]; decide
theorem dsP_e {g : Sg} {x y : Nat} (ho : Ok g) (hx : x ≤ 9) (hy : y ≤ 120) : cnt (dsP g x y) (nT g) = cnt (saP g ((x * 121 + y) * 25)) (nK g) := by
  refine Eq.trans ?_ (cnt_seats ho (fun k => decide ((x * 121 + y) * 25 < key g k))).symm
  refine cnt_congr (fun i hi => ?_)
  have hk := (ho.t i hi).1
  have h1 := ho.k _ hk
  have h2 := ho.n.1
  unfold dsP key
  congr 1
  apply propext
  omega
def wpP (g : Sg) (i : Nat) : Nat → Bool := fun l => decide (i < l) && decide (key g (gT g i) < key g (gT g l))
def wpS (g : Sg) (i : Nat) : Nat := smN (ipR (fun j => key g (gT g j)) (nT g)) i
theorem wpP_0 (g : Sg) (i : Nat) : cnt (wpP g i) (i + 1) = 0 := cnt_0 (fun l hl => by unfold wpP; rw [decide_eq_false (by omega)]; rfl)
theorem wpP_1 {g : Sg} {i q n a : Nat} (h : n = a + cnt (wpP g i) q) (hq : i < q) (c : gtr g (gT g q) (gT g i) = true) : n + 1 = a + cnt (wpP g i) (q + 1) := by
  rw [cnt_s, if_pos (by unfold wpP; rw [decide_eq_true hq]; exact c), h]; rfl
theorem wpP_2 {g : Sg} {i q n a : Nat} (h : n = a + cnt (wpP g i) q) (c : gtr g (gT g q) (gT g i) = false) : n + 0 = a + cnt (wpP g i) (q + 1) := by
  rw [cnt_s, if_neg (by unfold wpP; rw [show decide (key g (gT g i) < key g (gT g q)) = false from c, Bool.and_false]; decide), h]; rfl
theorem wpP_3 {g : Sg} {i q n : Nat} (h : n = wpS g i + cnt (wpP g i) q) (e : q = nT g) : n = wpS g (i + 1) := by rw [h, e]; rfl
theorem wpP_4 {g : Sg} {i n : Nat} (h : n = wpS g i) (e : i = nT g) : n = wp g := by rw [h, e]; exact ipR_sum _ _
