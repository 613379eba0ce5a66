/-- the minute mn; nobody was toasted more than tb times, or slighted more often than toasted; who is announced comes at lo or later -/
def Ex (mn tb lo : Nat) (g : Sg) : Prop := gc g 4 = nI mn ∧ ∀ k, k < nK g → (∃ ma, gX g 0 k = nI ma ∧ ma ≤ 9999 ∧ (gD g k = 0 → lo ≤ ma)) ∧ ∃ t s, gX g 1 k = nI t ∧ gX g 2 k = nI s ∧ s ≤ t ∧ t ≤ tb
theorem Ex.of {g h : Sg} {mn tb lo : Nat} (q : Ex mn tb lo g) (h1 : nK h = nK g) (h2 : ∀ w k, w ≤ 2 → gX h w k = gX g w k) (h3 : gc h 4 = gc g 4) (h4 : ∀ k, k < nK g → gD h k = 0 → gD g k = 0) : Ex mn tb lo h := by
  refine ⟨h3.trans q.1, fun k hk => ?_⟩
  rw [h1] at hk
  obtain ⟨⟨ma, a1, a2, a3⟩, t, s, b1, b2, b3, b4⟩ := q.2 k hk
  exact ⟨⟨ma, (h2 0 k (by decide)).trans a1, a2, fun z => a3 (h4 k hk z)⟩, t, s, (h2 1 k (by decide)).trans b1, (h2 2 k (by decide)).trans b2, b3, b4⟩
theorem Ex.tb {g : Sg} {mn tb tb' lo : Nat} (q : Ex mn tb lo g) (h : tb ≤ tb') : Ex mn tb' lo g := by
  refine ⟨q.1, fun k hk => ?_⟩
  obtain ⟨a, t, s, b1, b2, b3, b4⟩ := q.2 k hk
  exact ⟨a, t, s, b1, b2, b3, by omega⟩
theorem un_3 {f : Nat → Nat} {a k v : Nat} (hv : v ≠ 0) (h : un f a v k = 0) : f k = 0 := by
  unfold un at h
  by_cases q : k = a
  · rw [if_pos q] at h; exact absurd h hv
  · rwa [if_neg q] at h
theorem Ex_env {g : Sg} {mn tb lo : Nat} (n : Nat) (q : Ex mn tb lo g) : Ex mn tb lo (oEnv n g) := by
  have e := oEnv_eq n g
  refine q.of e.1 (fun w k _ => ?_) (e.2.2.2.2.2.2.2 4 (by decide)) (fun k _ z => ?_)
  · rw [e.2.2.2.2.2.2.1]
  · rwa [e.2.2.2.2.2.1] at z
theorem Ex_rm {g : Sg} {mn tb lo : Nat} (i : Nat) (q : Ex mn tb lo g) : Ex mn tb lo (oRm g i) := by
  refine q.of rfl (fun w k hw => ?_) ?_ (fun k _ z => un_3 (by decide) z)
  · show ux (gX g) 3 (gT g i) (nI 1) w k = gX g w k
    unfold ux
    rw [if_neg (by omega)]
  · show upd (gc g) 6 (gc g 6 + nI 1) 4 = gc g 4
    exact up_n (by decide)
theorem Ex_ang {mn tb lo : Nat} (b : Nat → Bool) : ∀ (n : Nat) {g : Sg}, Ex mn tb lo g → Ex mn tb lo (oAng b n g)
  | 0, _, q => q
  | n + 1, g, q => by
    have e2 : oAng b (n + 1) g = oAng b n (if b n = true then oRm g n else g) := rfl
    rw [e2]
    by_cases z : b n = true
    · rw [if_pos z]; exact Ex_ang b n (Ex_rm n q)
    · rw [if_neg z]; exact Ex_ang b n q
theorem Ex_to {g : Sg} {mn tb lo : Nat} (q : Ex mn tb lo g) : Ex mn (tb + 1) lo (oTo g (nT g) (nT g)) := by
  refine ⟨q.1, fun k hk => ?_⟩
  obtain ⟨⟨ma, a1, a2, a3⟩, t, s, b1, b2, b3, b4⟩ := q.2 k hk
  refine ⟨⟨ma, (oTo_X0 g _ _ k).trans a1, a2, a3⟩, ?_⟩
  by_cases z : plT g k < nT g
  · by_cases y : sl g (plT g k) = true
    · refine ⟨t + 1, s + 1, ?_, ?_, by omega, by omega⟩
      · rw [oTo_X1, if_pos ⟨z, z⟩, b1, nI_add]
      · rw [oTo_X2, if_pos ⟨z, z, y⟩, b2, nI_add]
    · refine ⟨t + 1, s, ?_, ?_, by omega, by omega⟩
      · rw [oTo_X1, if_pos ⟨z, z⟩, b1, nI_add]
      · rw [oTo_X2, if_neg (fun w => y w.2.2), b2]
  · refine ⟨t, s, ?_, ?_, b3, by omega⟩
    · rw [oTo_X1, if_neg (fun w => z w.1), b1]
    · rw [oTo_X2, if_neg (fun w => z w.1), b2]
theorem Ex_rnd {g : Sg} {mn tb lo : Nat} (q : Ex mn tb lo g) : Ex mn (tb + 1) lo (oRnd g) := by
  have e : oRnd g = oAng (ang (oEnv (gc g 2).toNatClampNeg (oTo g (nT g) (nT g)))) (nT (oEnv (gc g 2).toNatClampNeg (oTo g (nT g) (nT g)))) (oEnv (gc g 2).toNatClampNeg (oTo g (nT g) (nT g))) := rfl
  rw [e]
  exact Ex_ang _ _ (Ex_env _ (Ex_to q))
theorem Ex_arr {mn tb lo : Nat} : ∀ (n : Nat) {g : Sg}, Ex mn tb lo g → Ex mn tb lo (oArr n g)
  | 0, _, q => q
  | n + 1, g, q => by
    have e2 : oArr (n + 1) g = if nx g = 24 then g else oArr n (oAr1 g (nx g)) := rfl
    rw [e2]
    by_cases z : nx g = 24
    · rw [if_pos z]; exact q
    · rw [if_neg z]
      exact Ex_arr n (q.of rfl (fun _ _ _ => rfl) rfl (fun k _ y => un_3 (by decide) y))
theorem oArr_nx : ∀ (n : Nat) {g : Sg}, Ok g → cA g ≤ n → nx (oArr n g) = 24
  | 0, g, h, q => by
    show nx g = 24
    rcases Nat.decEq (nx g) 24 with z | z
    · have := cA_1 h z
      omega
    · exact z
  | n + 1, g, h, q => by
    have e2 : oArr (n + 1) g = if nx g = 24 then g else oArr n (oAr1 g (nx g)) := rfl
    rw [e2]
    by_cases z : nx g = 24
    · rw [if_pos z]; exact z
    · rw [if_neg z]
      have h1 := nx_in h z
      have h2 := cA_1 h z
      exact oArr_nx n (oAr1_ok h h1.1 h1.2.1) (by omega)
theorem Ex_arr' {g : Sg} {mn tb : Nat} (ho : Ok g) (q : Ex mn tb mn g) (hm : mn < 2 ^ 30) : Ex mn tb (mn + 1) (oArr' g) := by
  have q1 : Ex mn tb mn (oArr' g) := Ex_arr _ q
  have hn : nx (oArr' g) = 24 := oArr_nx _ ho (cA_le g)
  have ho1 : Ok (oArr' g) := oArr_ok _ ho
  refine ⟨q1.1, fun k hk => ?_⟩
  obtain ⟨⟨ma, a1, a2, a3⟩, r⟩ := q1.2 k hk
  refine ⟨⟨ma, a1, a2, fun z => ?_⟩, r⟩
  have h1 := bst_no (arv (oArr' g)) (key (oArr' g)) (nK (oArr' g)) ho1.n.1 hn k hk
  have h2 : ¬ gX (oArr' g) 0 k = gc (oArr' g) 4 := fun e => by
    rw [arv_1 z e] at h1
    cases h1
  rw [a1, q1.1] at h2
  have h3 : ma ≠ mn := fun e => h2 (by rw [e])
  have := a3 z
  omega
theorem Ex_sit {mn tb lo : Nat} : ∀ (n : Nat) {g : Sg}, Ex mn tb lo g → Ex mn tb lo (oSit n g)
  | 0, _, q => q
  | n + 1, g, q => by
    have e2 : oSit (n + 1) g = if nW g = 0 then g else oSit n (oSi1 g) := rfl
    rw [e2]
    by_cases z : nW g = 0
    · rw [if_pos z]; exact q
    · rw [if_neg z]
      exact Ex_sit n (q.of rfl (fun _ _ _ => rfl) rfl (fun k _ y => un_3 (by decide) y))
theorem Ex_min {g : Sg} {mn : Nat} (ho : Ok g) (q : Ex mn mn mn g) (hm : mn < 2 ^ 30) : Ex (mn + 1) (mn + 1) (mn + 1) (oMin g) := by
  have q1 : Ex mn mn (mn + 1) (oSit' (oArr' g)) := Ex_sit _ (Ex_arr' ho q hm)
  have e : oMin g = oTick (if due (oSit' (oArr' g)) = true then oRnd (oSit' (oArr' g)) else oSit' (oArr' g)) := rfl
  have q2 : Ex mn (mn + 1) (mn + 1) (if due (oSit' (oArr' g)) = true then oRnd (oSit' (oArr' g)) else oSit' (oArr' g)) := by
    by_cases z : due (oSit' (oArr' g)) = true
    · rw [if_pos z]; exact Ex_rnd q1
    · rw [if_neg z]; exact q1.tb (by omega)
  rw [e]
  generalize (if due (oSit' (oArr' g)) = true then oRnd (oSit' (oArr' g)) else oSit' (oArr' g)) = f at q2
  refine ⟨?_, q2.2⟩
  rw [tk_4, q2.1, nI_add]
theorem Ex_pass {g : Sg} {mn : Nat} (ho : Ok g) (q : Ex mn mn mn g) (hm : mn < 2 ^ 29) : ∀ n, n ≤ 99 → Ex (mn + n) (mn + n) (mn + n) (oPass n g)
  | 0, _ => q
  | n + 1, hn => by
    rw [oPass_s]
    exact Ex_min (oPass_ok n ho) (Ex_pass ho q hm n (by omega)) (show mn + n < 2 ^ 30 by omega)
/-- what holds of each state up to the minute M -/
def Iv (M : Nat) (g : Sg) : Prop := Ok g ∧ yg g ∧ ∃ mn, mn ≤ M ∧ Ex mn mn mn g
theorem Iv.mono {M M' : Nat} {g : Sg} (h : Iv M g) (q : M ≤ M') : Iv M' g := by
  obtain ⟨h1, h2, mn, h3, h4⟩ := h
  exact ⟨h1, h2, mn, by omega, h4⟩
theorem Iv_opP {M : Nat} {g : Sg} (h : Iv M g) (hM : M < 2 ^ 29) (x : Int32) : Iv (M + 99) (opP g x).2 := by
  refine ⟨opP_ok h.1 x, yg_opP h.2.1 x, ?_⟩
  obtain ⟨h1, h2, mn, h3, h4⟩ := h
  unfold opP
  by_cases q : isIn x 1 99 = true
  · rw [if_pos q]
    by_cases z : nI 99999 < gc g 4 + x
    · rw [if_pos z]
      exact ⟨mn, by omega, h4⟩
    · rw [if_neg z]
      obtain ⟨j, j1, j2, rfl⟩ := isIn_ex (by decide) (by decide) q
      show ∃ mn, mn ≤ M + 99 ∧ Ex mn mn mn (oPass (nI j).toNatClampNeg g)
      rw [nI_clamp (by omega)]
      exact ⟨mn + j, by omega, Ex_pass h1 h4 (by omega) j j2⟩
  · rw [if_neg q]
    exact ⟨mn, by omega, h4⟩
theorem Iv_opL {M : Nat} {g : Sg} (h : Iv M g) (x : Int32) : Iv M (opL g x).2 := by
  refine ⟨opL_ok h.1 x, yg_opL h.2.1 x, ?_⟩
  obtain ⟨h1, h2, mn, h3, h4⟩ := h
  refine ⟨mn, h3, ?_⟩
  unfold opL oLv
  split
  · split
    · exact h4
    · split
      · exact h4.of rfl (fun _ _ _ => rfl) rfl (fun k _ y => un_3 (by decide) y)
      · split
        · exact h4.of rfl (fun _ _ _ => rfl) rfl (fun k _ y => un_3 (by decide) y)
        · exact h4.of rfl (fun _ _ _ => rfl) rfl (fun k _ y => un_3 (by decide) y)
  · exact h4
theorem Iv_opE {M : Nat} {g : Sg} (h : Iv M g) (x : Int32) : Iv M (opE g x).2 := by
  refine ⟨opE_ok h.1 x, yg_opE h.2.1 x, ?_⟩
  obtain ⟨h1, h2, mn, h3, h4⟩ := h
  refine ⟨mn, h3, ?_⟩
  unfold opE
  split
  · split
    · exact h4.of rfl (fun _ _ _ => rfl) (show upd (gc g) 10 (gc g 10 + nI 1) 4 = gc g 4 from up_n (by decide)) (fun k _ y => y)
    · exact h4
  · exact h4
theorem Iv_opS {M : Nat} {g : Sg} (h : Iv M g) (x v : Int32) : Iv M (opS g x v).2 := by
  refine ⟨opS_ok h.1 x v, yg_opS h.2.1 x v, ?_⟩
  obtain ⟨h1, h2, mn, h3, h4⟩ := h
  refine ⟨mn, h3, ?_⟩
  unfold opS
  by_cases q : kIs 4 x = true
  · rw [if_pos q]
    obtain ⟨j, hj, rfl⟩ := kIs_ex q (by decide)
    rw [nI_clamp (by omega)]
    split
    · split
      · exact h4
      · split
        · exact h4
        · exact h4.of rfl (fun _ _ _ => rfl) (show upd (gc g) j v 4 = gc g 4 from up_n (by omega)) (fun k _ y => y)
    · exact h4
  · rw [if_neg q]
    exact h4
theorem Iv_ann {M : Nat} {g : Sg} (h : Iv M g) {c a ma : Nat} (hc : 1 ≤ c ∧ c ≤ 9) (ha : a ≤ 60) (hm : ma ≤ 9999) (hk : nK g < 24) (hlo : ¬ nI ma < gc g 4) (hM : M < 2 ^ 29) : Iv M (oAnn g c a (nI ma)) := by
  obtain ⟨h1, h2, mn, h3, h4⟩ := h
  refine ⟨oAnn_ok h1 hk hc (by omega), yg_oAnn h2 ha, mn, h3, h4.1, fun k hk2 => ?_⟩
  have hk2 : k < nK g + 1 := hk2
  have e : ∀ w, gX (oAnn g c a (nI ma)) w k = if w = 0 ∧ k = nK g then nI ma else gX g w k := fun w => rfl
  rcases Nat.lt_or_ge k (nK g) with z | z
  · obtain ⟨⟨mb, a1, a2, a3⟩, t, s, b1, b2, b3, b4⟩ := h4.2 k z
    refine ⟨⟨mb, ?_, a2, a3⟩, t, s, ?_, ?_, b3, b4⟩
    · rw [e, if_neg (by omega)]; exact a1
    · rw [e, if_neg (by omega)]; exact b1
    · rw [e, if_neg (by omega)]; exact b2
  · have hkk : k = nK g := by omega
    have hz := h1.z k (by omega)
    refine ⟨⟨ma, ?_, hm, fun _ => ?_⟩, 0, 0, ?_, ?_, Nat.le_refl _, Nat.zero_le _⟩
    · rw [e, if_pos ⟨rfl, hkk⟩]
    · rw [h4.1] at hlo
      rcases Nat.lt_or_ge ma mn with y | y
      · exact absurd (nI_lt y (by omega)) hlo
      · exact y
    · rw [e, if_neg (by omega)]; exact hz.2.1
    · rw [e, if_neg (by omega)]; exact hz.2.2.1
