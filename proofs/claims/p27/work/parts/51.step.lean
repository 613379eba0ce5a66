theorem bI_n {u : KBS} {m : Mo} (h : bI u m) : mo_n m ≤ 60 := by
  have e := h.1
  subst e
  exact h.2.2.2.2.1
theorem moA_g {m : Mo} {o : Int32 × Sg} {r : Int32} {X : Sg} (h : o = (r, X)) (hr : ¬ r < nI 0) : mo_g (moA m o.1 o.2) = X := by
  subst h
  exact if_neg hr
theorem moA_gn {m : Mo} {o : Int32 × Sg} {r : Int32} {X : Sg} (h : o = (r, X)) (hr : r < nI 0) : mo_g (moA m o.1 o.2) = mo_g m := by
  subst h
  exact if_pos hr
theorem PR_opL {M : Nat} {m m2 : Mo} (h : PR M m m2) (x : Int32) : PR M (moA m (opL (mo_g m) x).1 (opL (mo_g m) x).2) (moA m2 (opL (mo_g m2) x).1 (opL (mo_g m2) x).2) := by
  have e : opL (mo_g m2) x = dbo (opL (mo_g m) x) := by rw [h.2.1, opL_d]
  rw [e]
  exact PR_act h _ (Nat.le_refl _) (Iv_opL h.1.1 x)
theorem PR_opS {M : Nat} {m m2 : Mo} (h : PR M m m2) (x v : Int32) : PR M (moA m (opS (mo_g m) x v).1 (opS (mo_g m) x v).2) (moA m2 (opS (mo_g m2) x v).1 (opS (mo_g m2) x v).2) := by
  have e : opS (mo_g m2) x v = dbo (opS (mo_g m) x v) := by rw [h.2.1, opS_d]
  rw [e]
  exact PR_act h _ (Nat.le_refl _) (Iv_opS h.1.1 x v)
theorem PR_opE {M : Nat} {m m2 : Mo} (h : PR M m m2) (x : Int32) : PR M (moA m (opE (mo_g m) x).1 (opE (mo_g m) x).2) (moA m2 (opE (mo_g m2) x).1 (opE (mo_g m2) x).2) := by
  have e : opE (mo_g m2) x = dbo (opE (mo_g m) x) := by rw [h.2.1, opE_d h.1.1.1 h.1.1.2.1]
  rw [e]
  exact PR_act h _ (Nat.le_refl _) (Iv_opE h.1.1 x)
theorem PR_opP {M : Nat} {m m2 : Mo} (h : PR M m m2) (hM : M < 2 ^ 29) (x : Int32) : PR (M + 99) (moA m (opP (mo_g m) x).1 (opP (mo_g m) x).2) (moA m2 (opP (mo_g m2) x).1 (opP (mo_g m2) x).2) := by
  have e : opP (mo_g m2) x = dbo (opP (mo_g m) x) := by rw [h.2.1, opP_d h.1.1.1 h.1.1.2.1]
  rw [e]
  exact PR_act h _ (by omega) (Iv_opP h.1.1 hM x)
theorem seA_lv {g : Sg} (h : Ok g) {k : Nat} (hk : k < nK g) (hd : gD g k = 2) (h11 : plT g k < 11) : seA (oLvT g k) (nI (plT g k)) = seA g (nI (plT g k + 1)) := by
  have h2 : Ok (oLvT g k) := oLvT_ok h hk hd
  have hn := h.n
  have ht : nT (oLvT g k) = nT g - 1 := rfl
  have hp := (plT_lt h hk).mpr hd
  rcases Nat.lt_or_ge (plT g k + 1) (nT g) with q | q
  · rw [seA_t h q, seA_t h2 (by rw [ht]; omega)]
    show nI (nDel (gT g) (plT g k) (plT g k)) = _
    rw [nDel_ge (Nat.le_refl _)]
  · rw [seA_n h q (by omega), seA_n h2 (by rw [ht]; omega) (by omega)]
theorem wp_swi {g : Sg} {i : Nat} (hi : i + 1 < nT g) (hq : wrg g i = true) : wp (oSw g i) + 1 = wp g := by
  have hw := of_decide_eq_true hq
  have hL : ∀ j, key (oSw g i) (gT (oSw g i) j) = key g (un (un (gT g) i (gT g (i + 1))) (i + 1) (gT g i) j) := fun j => rfl
  have hn : nT (oSw g i) = nT g := rfl
  unfold wp
  rw [hn, show nT g = i + 2 + (nT g - i - 2) by omega]
  refine ip_swap (i := i) ?_ ?_ (fun j a b => ?_) hw _
  · rw [hL, un_n (by omega), un_s]
  · rw [hL, un_s]
  · rw [hL, un_n b, un_n a]
theorem seA_sw {g : Sg} (h : Ok g) {i : Nat} (hi : i + 1 < nT g) : seA (oSw g i) (nI (i + 1)) = nI (gT g i) := by
  have hn : nT (oSw g i) = nT g := rfl
  rw [seA_t (oSw_ok h hi) (by rw [hn]; exact hi)]
  show nI (un (un (gT g) i (gT g (i + 1))) (i + 1) (gT g i) (i + 1)) = _
  rw [un_s]
theorem reA_sw {g : Sg} (h : Ok g) {i : Nat} (hi : i + 1 < nT g) (hq : wrg g i = false) : reA g (nI (gT g i)) (nI (gT g (i + 1))) ≠ nI 2 := by
  rw [reA_t h (by omega) hi (by omega)]
  exact (why_lt0 h (by omega) hi (by omega) (of_decide_eq_false hq)).2
theorem oMin_c1 (g : Sg) : gc (oMin g) 1 = gc g 1 := by
  have h0 : gc (oSit' (oArr' g)) = gc g := by
    unfold oSit' oArr'
    rw [oSit_c, oArr_c]
  have ha : ∀ (b : Nat → Bool) (n : Nat) (g : Sg), gc (oAng b n g) 1 = gc g 1 := by
    intro b n
    induction n with
    | zero => intro g; rfl
    | succ n ih =>
      intro g
      have e2 : oAng b (n + 1) g = oAng b n (if b n = true then oRm g n else g) := rfl
      rw [e2, ih]
      by_cases z : b n = true
      · rw [if_pos z]
        show upd (gc g) 6 (gc g 6 + nI 1) 1 = gc g 1
        exact up_n (by decide)
      · rw [if_neg z]
  have hr : ∀ g : Sg, gc (oRnd g) 1 = gc g 1 := by
    intro g
    have e : oRnd g = oAng (ang (oEnv (gc g 2).toNatClampNeg (oTo g (nT g) (nT g)))) (nT (oEnv (gc g 2).toNatClampNeg (oTo g (nT g) (nT g)))) (oEnv (gc g 2).toNatClampNeg (oTo g (nT g) (nT g))) := rfl
    rw [e, ha, oEnv_gc _ _ (by decide)]
    rfl
  have e : oMin g = oTick (if due (oSit' (oArr' g)) = true then oRnd (oSit' (oArr' g)) else oSit' (oArr' g)) := rfl
  rw [e, tk_c _ (by decide)]
  by_cases z : due (oSit' (oArr' g)) = true
  · rw [if_pos z, hr, h0]
  · rw [if_neg z, h0]
theorem oPass_c1 (g : Sg) : ∀ n, gc (oPass n g) 1 = gc g 1
  | 0 => rfl
  | n + 1 => by rw [oPass_s, oMin_c1, oPass_c1 g n]
theorem oPassN_le (g : Sg) : ∀ n, oPassN n g ≤ n
  | 0 => Nat.le_refl 0
  | n + 1 => by
    have e : oPassN (n + 1) g = oPassN n g + dueN (oPass n g) := rfl
    have := oPassN_le g n
    have : dueN (oPass n g) ≤ 1 := by
      unfold dueN
      split <;> omega
    omega
theorem dueN_e {g : Sg} {mn e1 : Nat} (h4 : gc g 4 = nI mn) (h1 : gc g 1 = nI e1) (he : 1 ≤ e1 ∧ e1 ≤ 60) (hm : mn < 2 ^ 30) : dueN g = if (mn + 1) % e1 = 0 then 1 else 0 := by
  have h0 : gc (oSit' (oArr' g)) = gc g := by
    unfold oSit' oArr'
    rw [oSit_c, oArr_c]
  have hd : due (oSit' (oArr' g)) = decide ((mn + 1) % e1 = 0) := by
    unfold due
    rw [h0, h4, h1, nI_add, pk_rem (by omega) (by omega) (by omega)]
    have hlt := Nat.mod_lt (mn + 1) (show 0 < e1 by omega)
    by_cases q : (mn + 1) % e1 = 0
    · rw [decide_eq_true q, q]
      rfl
    · rw [decide_eq_false q]
      exact decide_eq_false (fun z => q ((nI_eq (by omega) (by decide)).mp z))
  unfold dueN
  rw [hd]
  by_cases q : (mn + 1) % e1 = 0
  · rw [if_pos (decide_eq_true q), if_pos q]
  · rw [if_neg (by rw [decide_eq_false q]; decide), if_neg q]
theorem oPassN_1 {g : Sg} {mn e1 k : Nat} (ho : Ok g) (hx : Ex mn mn mn g) (h1 : gc g 1 = nI e1) (he : 1 ≤ e1 ∧ e1 ≤ 60) (hm : mn < 2 ^ 29) (hk : k ≤ 99) : oPassN k g + (if (mn + k + 1) % e1 = 0 then 1 else 0) = oPassN (k + 1) g := by
  have e : oPassN (k + 1) g = oPassN k g + dueN (oPass k g) := rfl
  have hx2 := Ex_pass ho hx hm k hk
  rw [e, dueN_e (mn := mn + k) hx2.1 ((oPass_c1 g k).trans h1) he (by omega)]
theorem txK_M (m : Mo) (c a ma : Nat) : moTs (moT (moTs (moT (moTs (moT m 107) (dgs c)) 46) (dgs a)) 64) (dgs ma) = moTs m (txK c a ma) := by
  unfold txK
  rw [moTs_app, moTs_app, moTs_app, moTs_app, moTs_app]
  rfl
/-- the king told by a text -/
theorem st_perf {m2 : Mo} {g : Sg} {c a ma : Nat} (hg : mo_g m2 = dbl g) (ho : Ok g) (hc : 1 ≤ c ∧ c ≤ 9) (ha : a ≤ 60) (hm : ma ≤ 9999) (hk : nK g < 24) (hlo : ¬ nI ma < gc g 4) : pfR (mo_tx (moTs (moC m2) (txK c (2 * a) ma))) (mo_n (moTs (moC m2) (txK c (2 * a) ma))) (mo_g (moTs (moC m2) (txK c (2 * a) ma))) = nI 1 ∧ pfG (mo_tx (moTs (moC m2) (txK c (2 * a) ma))) (mo_n (moTs (moC m2) (txK c (2 * a) ma))) (mo_g (moTs (moC m2) (txK c (2 * a) ma))) = dbl (oAnn g c a (nI ma)) := by
  have hX := (moX_C m2).tr (moX_Ts (txK c (2 * a) ma) (moC m2))
  have hg1 : mo_g (moTs (moC m2) (txK c (2 * a) ma)) = dbl g := hX.1.trans hg
  have b1 := dgN_b (2 * a)
  have b2 := dgN_b ma
  have hl := txK_len (c := c) (a := 2 * a) (ma := ma) (by omega)
  have h0 : mo_n (moC m2) = 0 := rfl
  obtain ⟨n1, -, n3⟩ := moTs_n (txK c (2 * a) ma) (moC m2) (by omega)
  rw [h0, Nat.zero_add] at n1
  have i1 : isIn (nI c) 1 9 = true := isIn_i (nI_nlt hc.1 (by omega)) (nI_nlt hc.2 (by omega))
  have i2 : isIn (nI (2 * a)) 0 120 = true := isIn_i (nI_nlt (Nat.zero_le _) (by omega)) (nI_nlt (by omega) (by omega))
  have i3 : isIn (nI ma) 0 9999 = true := isIn_i (nI_nlt (Nat.zero_le _) (by omega)) (nI_nlt hm (by omega))
  have e : opA (dbl g) (nI c) (nI (2 * a)) (nI ma) = (nI (nK g), oAnn (dbl g) c (2 * a) (nI ma)) := opA_4 (g := dbl g) i1 i2 i3 hlo (show nK g ≠ 24 by omega) (by omega) (by omega)
  have f := txK_F (tx := mo_tx (moTs (moC m2) (txK c (2 * a) ma))) (n := mo_n (moTs (moC m2) (txK c (2 * a) ma))) (c := c) (a := 2 * a) (ma := ma) hc (by omega) hm n1 (fun i x h => by
    have := n3 i x h
    rwa [h0, Nat.zero_add] at this) (g := dbl g) (by rw [e]; exact nI_pos (by have := ho.n; omega))
  rw [hg1]
  refine ⟨f.1, ?_⟩
  rw [f.2, e]
  exact oAnn_d g c a (nI ma)
