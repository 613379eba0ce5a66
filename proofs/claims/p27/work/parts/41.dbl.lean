/-- the same banquet, each king twice as old -/
def dbl (g : Sg) : Sg := ((nK g, nT g, nW g), gT g, gW g, gC g, fun k => 2 * gA g k, gD g, gX g, gc g)
def yg (g : Sg) : Prop := ∀ k, gA g k ≤ 60
theorem key_d {g : Sg} (hy : yg g) {j k : Nat} (hj : j < 25) (hk : k < 25) : (key (dbl g) j < key (dbl g) k) ↔ (key g j < key g k) := by
  have h1 := hy j
  have h2 := hy k
  show ((gC g j * 121 + 2 * gA g j) * 25 + 24 - j < (gC g k * 121 + 2 * gA g k) * 25 + 24 - k) ↔ ((gC g j * 121 + gA g j) * 25 + 24 - j < (gC g k * 121 + gA g k) * 25 + 24 - k)
  generalize gC g j = cj at *
  generalize gC g k = ck at *
  generalize gA g j = aj at *
  generalize gA g k = ak at *
  rcases Nat.lt_trichotomy cj ck with h | h | h
  · constructor <;> intro _ <;> omega
  · subst h
    rcases Nat.lt_trichotomy aj ak with q | q | q
    · constructor <;> intro _ <;> omega
    · subst q
      constructor <;> intro _ <;> omega
    · constructor <;> intro _ <;> omega
  · constructor <;> intro _ <;> omega
theorem key_dd {g : Sg} (hy : yg g) {j k : Nat} (hj : j < 25) (hk : k < 25) : decide (key (dbl g) j < key (dbl g) k) = decide (key g j < key g k) := by
  by_cases h : key g j < key g k
  · rw [decide_eq_true h, decide_eq_true ((key_d hy hj hk).mpr h)]
  · rw [decide_eq_false h, decide_eq_false (fun q => h ((key_d hy hj hk).mp q))]
theorem ok_t25 {g : Sg} (h : Ok g) {j : Nat} (hj : j < nT g) : gT g j < 25 := by
  have := (h.t j hj).1
  have := h.n.1
  omega
theorem wrg_d {g : Sg} (h : Ok g) (hy : yg g) {i : Nat} (hi : i + 1 < nT g) : wrg (dbl g) i = wrg g i :=
  key_dd hy (ok_t25 h (by omega)) (ok_t25 h hi)
theorem fw_d {g : Sg} (h : Ok g) (hy : yg g) : fw (dbl g) = fw g :=
  ff_congr (n := nT g - 1) (fun k hk => wrg_d h hy (by omega))
theorem sl_d {g : Sg} (h : Ok g) (hy : yg g) {i : Nat} (hi : i < nT g) : sl (dbl g) i = sl g i := by
  have e : ff (fun j => decide (key (dbl g) (gT g j) < key (dbl g) (gT g i))) i = ff (fun j => decide (key g (gT g j) < key g (gT g i))) i :=
    ff_congr (fun k hk => key_dd hy (ok_t25 h (by omega)) (ok_t25 h hi))
  show decide (ff (fun j => decide (key (dbl g) (gT g j) < key (dbl g) (gT g i))) i < i) = decide (ff (fun j => decide (key g (gT g j) < key g (gT g i))) i < i)
  rw [e]
theorem oEnv_d : ∀ (n : Nat) {g : Sg}, Ok g → yg g → oEnv n (dbl g) = dbl (oEnv n g)
  | 0, _, _, _ => rfl
  | n + 1, g, h, hy => by
    have e1 : oEnv (n + 1) (dbl g) = if fw (dbl g) < nT g - 1 then oEnv n (oSw (dbl g) (fw (dbl g))) else dbl g := rfl
    have e2 : oEnv (n + 1) g = if fw g < nT g - 1 then oEnv n (oSw g (fw g)) else g := rfl
    rw [e1, e2, fw_d h hy]
    by_cases q : fw g < nT g - 1
    · rw [if_pos q, if_pos q]
      exact oEnv_d n (oSw_ok h (by omega)) hy
    · rw [if_neg q, if_neg q]
theorem gA_oEnv (n : Nat) (g : Sg) : gA (oEnv n g) = gA g := (oEnv_eq n g).2.2.2.2.1
theorem oTo_d {g : Sg} (h : Ok g) (hy : yg g) {t s : Nat} (hs : s ≤ nT g) : oTo (dbl g) t s = dbl (oTo g t s) := by
  have e1 : ∀ (w k : Nat), (if w = 1 ∧ plT g k < t ∧ plT g k < nT g then gX g w k + nI 1 else if w = 2 ∧ plT g k < s ∧ plT g k < nT g ∧ sl (dbl g) (plT g k) = true then gX g w k + nI 1 else gX g w k) = (if w = 1 ∧ plT g k < t ∧ plT g k < nT g then gX g w k + nI 1 else if w = 2 ∧ plT g k < s ∧ plT g k < nT g ∧ sl g (plT g k) = true then gX g w k + nI 1 else gX g w k) := by
    intro w k
    by_cases q : plT g k < nT g
    · rw [sl_d h hy q]
    · have a1 : ¬ (w = 2 ∧ plT g k < s ∧ plT g k < nT g ∧ sl (dbl g) (plT g k) = true) := fun z => q z.2.2.1
      have a2 : ¬ (w = 2 ∧ plT g k < s ∧ plT g k < nT g ∧ sl g (plT g k) = true) := fun z => q z.2.2.1
      rw [if_neg a1, if_neg a2]
  have e2 : cnt (sl (dbl g)) s = cnt (sl g) s := cnt_congr (fun k hk => sl_d h hy (by omega))
  have e3 : (fun (w k : Nat) => if w = 1 ∧ plT g k < t ∧ plT g k < nT g then gX g w k + nI 1 else if w = 2 ∧ plT g k < s ∧ plT g k < nT g ∧ sl (dbl g) (plT g k) = true then gX g w k + nI 1 else gX g w k) = (fun (w k : Nat) => if w = 1 ∧ plT g k < t ∧ plT g k < nT g then gX g w k + nI 1 else if w = 2 ∧ plT g k < s ∧ plT g k < nT g ∧ sl g (plT g k) = true then gX g w k + nI 1 else gX g w k) := funext (fun w => funext (fun k => e1 w k))
  show (((nK g, nT g, nW g), gT g, gW g, gC g, (fun k => 2 * gA g k), gD g, (fun (w k : Nat) => if w = 1 ∧ plT g k < t ∧ plT g k < nT g then gX g w k + nI 1 else if w = 2 ∧ plT g k < s ∧ plT g k < nT g ∧ sl (dbl g) (plT g k) = true then gX g w k + nI 1 else gX g w k), (fun i => if i = 7 then gc g 7 + nI 1 else if i = 8 then gc g 8 + nI t else if i = 9 then gc g 9 + nI (cnt (sl (dbl g)) s) else gc g i)) : Sg) = _
  rw [e3, e2]
  rfl
theorem oAng_d (b : Nat → Bool) : ∀ (n : Nat) (g : Sg), oAng b n (dbl g) = dbl (oAng b n g)
  | 0, _ => rfl
  | n + 1, g => by
    have e1 : oAng b (n + 1) (dbl g) = oAng b n (if b n = true then oRm (dbl g) n else dbl g) := rfl
    have e2 : oAng b (n + 1) g = oAng b n (if b n = true then oRm g n else g) := rfl
    rw [e1, e2]
    by_cases q : b n = true
    · rw [if_pos q, if_pos q]
      exact oAng_d b n (oRm g n)
    · rw [if_neg q, if_neg q]
      exact oAng_d b n g
theorem oAng_congr {b b' : Nat → Bool} : ∀ (n : Nat) (g : Sg), (∀ i, i < n → b i = b' i) → oAng b n g = oAng b' n g
  | 0, _, _ => rfl
  | n + 1, g, h => by
    have e1 : oAng b (n + 1) g = oAng b n (if b n = true then oRm g n else g) := rfl
    have e2 : oAng b' (n + 1) g = oAng b' n (if b' n = true then oRm g n else g) := rfl
    rw [e1, e2, h n (by omega)]
    exact oAng_congr n _ (fun i hi => h i (by omega))
theorem gA_oAng (b : Nat → Bool) : ∀ (n : Nat) (g : Sg), gA (oAng b n g) = gA g
  | 0, _ => rfl
  | n + 1, g => by
    have e2 : oAng b (n + 1) g = oAng b n (if b n = true then oRm g n else g) := rfl
    rw [e2, gA_oAng b n]
    by_cases q : b n = true
    · rw [if_pos q]; rfl
    · rw [if_neg q]
theorem gA_oRnd (g : Sg) : gA (oRnd g) = gA g := by
  have e : oRnd g = oAng (ang (oEnv (gc g 2).toNatClampNeg (oTo g (nT g) (nT g)))) (nT (oEnv (gc g 2).toNatClampNeg (oTo g (nT g) (nT g)))) (oEnv (gc g 2).toNatClampNeg (oTo g (nT g) (nT g))) := rfl
  rw [e, gA_oAng, gA_oEnv]
  rfl
theorem oRnd_d {g : Sg} (h : Ok g) (hy : yg g) : oRnd (dbl g) = dbl (oRnd g) := by
  have h1 : Ok (oTo g (nT g) (nT g)) := oTo_ok h (Nat.le_refl _) (Nat.le_refl _)
  have hy1 : yg (oTo g (nT g) (nT g)) := hy
  have e : ∀ g : Sg, oRnd g = oAng (ang (oEnv (gc g 2).toNatClampNeg (oTo g (nT g) (nT g)))) (nT (oEnv (gc g 2).toNatClampNeg (oTo g (nT g) (nT g)))) (oEnv (gc g 2).toNatClampNeg (oTo g (nT g) (nT g))) := fun _ => rfl
  have e0 : oEnv (gc (dbl g) 2).toNatClampNeg (oTo (dbl g) (nT (dbl g)) (nT (dbl g))) = dbl (oEnv (gc g 2).toNatClampNeg (oTo g (nT g) (nT g))) := by
    show oEnv (gc g 2).toNatClampNeg (oTo (dbl g) (nT g) (nT g)) = _
    rw [oTo_d h hy (Nat.le_refl _)]
    exact oEnv_d _ h1 hy1
  have h2 : Ok (oEnv (gc g 2).toNatClampNeg (oTo g (nT g) (nT g))) := oEnv_ok _ h1
  have hy2 : yg (oEnv (gc g 2).toNatClampNeg (oTo g (nT g) (nT g))) := fun k => by rw [gA_oEnv]; exact hy1 k
  rw [e (dbl g), e g, e0]
  generalize oEnv (gc g 2).toNatClampNeg (oTo g (nT g) (nT g)) = f at h2 hy2
  show oAng (ang (dbl f)) (nT f) (dbl f) = _
  rw [oAng_d]
  congr 1
  refine oAng_congr _ _ (fun i hi => ?_)
  show (!(decide (gX f 2 (gT f i) < gc f 3)) && sl (dbl f) i) = (!(decide (gX f 2 (gT f i) < gc f 3)) && sl f i)
  rw [sl_d h2 hy2 hi]
theorem bst_d {p : Nat → Bool} {ky ky' : Nat → Nat} (h : ∀ j k, j < 25 → k < 25 → (ky' j < ky' k ↔ ky j < ky k)) : ∀ n, n ≤ 24 → bst p ky' n = bst p ky n
  | 0, _ => rfl
  | n + 1, hn => by
    have ih := bst_d (p := p) h n (by omega)
    rw [bst_s, bst_s, ih]
    have hb : bst p ky n < 25 := by
      rcases bst_le p ky n (by omega) with q | q <;> omega
    by_cases q : p n = true ∧ (bst p ky n = 24 ∨ ky (bst p ky n) < ky n)
    · rw [if_pos q, if_pos ⟨q.1, q.2.elim Or.inl (fun z => Or.inr ((h _ _ hb (by omega)).mpr z))⟩]
    · rw [if_neg q, if_neg (fun z => q ⟨z.1, z.2.elim Or.inl (fun w => Or.inr ((h _ _ hb (by omega)).mp w))⟩)]
theorem nx_d {g : Sg} (h : Ok g) (hy : yg g) : nx (dbl g) = nx g :=
  bst_d (p := arv g) (fun j k hj hk => key_d hy hj hk) (nK g) h.n.1
theorem oArr_d : ∀ (n : Nat) {g : Sg}, Ok g → yg g → oArr n (dbl g) = dbl (oArr n g)
  | 0, _, _, _ => rfl
  | n + 1, g, h, hy => by
    have e1 : oArr (n + 1) (dbl g) = if nx (dbl g) = 24 then dbl g else oArr n (oAr1 (dbl g) (nx (dbl g))) := rfl
    have e2 : oArr (n + 1) g = if nx g = 24 then g else oArr n (oAr1 g (nx g)) := rfl
    rw [e1, e2, nx_d h hy]
    by_cases q : nx g = 24
    · rw [if_pos q, if_pos q]
    · rw [if_neg q, if_neg q]
      have := nx_in h q
      exact oArr_d n (oAr1_ok h this.1 this.2.1) hy
theorem gA_oArr : ∀ (n : Nat) (g : Sg), gA (oArr n g) = gA g
  | 0, _ => rfl
  | n + 1, g => by
    have e2 : oArr (n + 1) g = if nx g = 24 then g else oArr n (oAr1 g (nx g)) := rfl
    rw [e2]
    by_cases q : nx g = 24
    · rw [if_pos q]
    · rw [if_neg q, gA_oArr n]; rfl
theorem oSit_d : ∀ (n : Nat) (g : Sg), oSit n (dbl g) = dbl (oSit n g)
  | 0, _ => rfl
  | n + 1, g => by
    have e1 : oSit (n + 1) (dbl g) = if nW g = 0 then dbl g else oSit n (oSi1 (dbl g)) := rfl
    have e2 : oSit (n + 1) g = if nW g = 0 then g else oSit n (oSi1 g) := rfl
    rw [e1, e2]
    by_cases q : nW g = 0
    · rw [if_pos q, if_pos q]
    · rw [if_neg q, if_neg q]
      exact oSit_d n (oSi1 g)
theorem gA_oSit : ∀ (n : Nat) (g : Sg), gA (oSit n g) = gA g
  | 0, _ => rfl
  | n + 1, g => by
    have e2 : oSit (n + 1) g = if nW g = 0 then g else oSit n (oSi1 g) := rfl
    rw [e2]
    by_cases q : nW g = 0
    · rw [if_pos q]
    · rw [if_neg q, gA_oSit n]; rfl
theorem oSA_d {g : Sg} (h : Ok g) (hy : yg g) : oSit' (oArr' (dbl g)) = dbl (oSit' (oArr' g)) := by
  have e1 : oArr' (dbl g) = dbl (oArr' g) := oArr_d (nK g) h hy
  rw [e1]
  exact oSit_d _ (oArr' g)
theorem gA_oSA (g : Sg) : gA (oSit' (oArr' g)) = gA g := by
  unfold oSit' oArr'
  rw [gA_oSit, gA_oArr]
theorem oMin_d {g : Sg} (h : Ok g) (hy : yg g) : oMin (dbl g) = dbl (oMin g) := by
  have h1 : Ok (oSit' (oArr' g)) := oSit'_ok (oArr_ok _ h)
  have hy1 : yg (oSit' (oArr' g)) := fun k => by rw [gA_oSA]; exact hy k
  have e : ∀ g : Sg, oMin g = oTick (if due (oSit' (oArr' g)) = true then oRnd (oSit' (oArr' g)) else oSit' (oArr' g)) := fun _ => rfl
  rw [e (dbl g), e g, oSA_d h hy]
  generalize oSit' (oArr' g) = f at h1 hy1
  show oTick (if due f = true then oRnd (dbl f) else dbl f) = _
  by_cases q : due f = true
  · rw [if_pos q, if_pos q, oRnd_d h1 hy1]
    rfl
  · rw [if_neg q, if_neg q]
    rfl
theorem gA_oMin (g : Sg) : gA (oMin g) = gA g := by
  have e : oMin g = oTick (if due (oSit' (oArr' g)) = true then oRnd (oSit' (oArr' g)) else oSit' (oArr' g)) := rfl
  rw [e]
  show gA (if due (oSit' (oArr' g)) = true then oRnd (oSit' (oArr' g)) else oSit' (oArr' g)) = _
  by_cases q : due (oSit' (oArr' g)) = true
  · rw [if_pos q, gA_oRnd, gA_oSA]
  · rw [if_neg q, gA_oSA]
theorem dueN_d {g : Sg} (h : Ok g) (hy : yg g) : dueN (dbl g) = dueN g := by
  show (if due (oSit' (oArr' (dbl g))) = true then 1 else 0) = _
  rw [oSA_d h hy]
  rfl
theorem gA_oPass : ∀ (n : Nat) (g : Sg), gA (oPass n g) = gA g
  | 0, _ => rfl
  | n + 1, g => by rw [oPass_s, gA_oMin, gA_oPass n]
theorem oPass_d {g : Sg} (h : Ok g) (hy : yg g) : ∀ n, oPass n (dbl g) = dbl (oPass n g)
  | 0 => rfl
  | n + 1 => by
    rw [oPass_s, oPass_s, oPass_d h hy n]
    exact oMin_d (oPass_ok n h) (fun k => by rw [gA_oPass]; exact hy k)
theorem oPassN_d {g : Sg} (h : Ok g) (hy : yg g) : ∀ n, oPassN n (dbl g) = oPassN n g
  | 0 => rfl
  | n + 1 => by
    have e : ∀ g : Sg, oPassN (n + 1) g = oPassN n g + dueN (oPass n g) := fun _ => rfl
    rw [e, e, oPassN_d h hy n, oPass_d h hy n, dueN_d (oPass_ok n h) (fun k => by rw [gA_oPass]; exact hy k)]
theorem oAnn_d (g : Sg) (c a : Nat) (m : Int32) : oAnn (dbl g) c (2 * a) m = dbl (oAnn g c a m) := by
  have e : un (fun k => 2 * gA g k) (nK g) (2 * a) = fun k => 2 * un (gA g) (nK g) a k := by
    funext k
    unfold un
    by_cases q : k = nK g
    · rw [if_pos q, if_pos q]
    · rw [if_neg q, if_neg q]
  show (((nK g + 1, nT g, nW g), gT g, gW g, un (gC g) (nK g) c, un (fun k => 2 * gA g k) (nK g) (2 * a), gD g, ux (gX g) 0 (nK g) m, gc g) : Sg) = _
  rw [e]
  rfl
theorem oLv_d (g : Sg) (k : Nat) : oLv (dbl g) k = dbl (oLv g k) := by
  have e1 : oLv (dbl g) k = if gD g k = 2 then dbl (oLvT g k) else if gD g k = 1 then dbl (oLvW g k) else dbl (oLv0 g k) := rfl
  have e2 : oLv g k = if gD g k = 2 then oLvT g k else if gD g k = 1 then oLvW g k else oLv0 g k := rfl
  rw [e1, e2]
  by_cases q : gD g k = 2
  · rw [if_pos q, if_pos q]
  · rw [if_neg q, if_neg q]
    by_cases z : gD g k = 1
    · rw [if_pos z, if_pos z]
    · rw [if_neg z, if_neg z]
/-- an act's answer and state, twice as old -/
def dbo (o : Int32 × Sg) : Int32 × Sg := (o.1, dbl o.2)
theorem dbo_if {c : Prop} [Decidable c] (a b : Int32 × Sg) : dbo (if c then a else b) = if c then dbo a else dbo b := by
  by_cases q : c
  · rw [if_pos q, if_pos q]
  · rw [if_neg q, if_neg q]
theorem opL_d (g : Sg) (x : Int32) : opL (dbl g) x = dbo (opL g x) := by
  unfold opL
  rw [dbo_if, dbo_if]
  show (if kIs (nK g) x = true then if gD g x.toNatClampNeg = 3 then (-4, dbl g) else (nI (gD g x.toNatClampNeg), oLv (dbl g) x.toNatClampNeg) else (-1, dbl g)) = _
  rw [oLv_d]
  rfl
theorem opS_d (g : Sg) (x v : Int32) : opS (dbl g) x v = dbo (opS g x v) := by
  unfold opS
  rw [dbo_if, dbo_if, dbo_if, dbo_if]
  rfl
theorem opE_d {g : Sg} (h : Ok g) (hy : yg g) (x : Int32) : opE (dbl g) x = dbo (opE g x) := by
  unfold opE
  rw [dbo_if, dbo_if]
  show (if kIs (nT g - 1) x = true then if wrg (dbl g) x.toNatClampNeg = true then (nI (gT g (x.toNatClampNeg + 1)), oSw (dbl g) x.toNatClampNeg) else (-4, dbl g) else (-1, dbl g)) = _
  by_cases q : kIs (nT g - 1) x = true
  · rw [if_pos q, if_pos q]
    obtain ⟨j, hj, rfl⟩ := kIs_ex q (by have := h.n; omega)
    rw [nI_clamp (by have := h.n; omega), wrg_d h hy (by omega)]
    rfl
  · rw [if_neg q, if_neg q]
    rfl
theorem opP_d {g : Sg} (h : Ok g) (hy : yg g) (x : Int32) : opP (dbl g) x = dbo (opP g x) := by
  unfold opP
  rw [dbo_if, dbo_if]
  show (if isIn x 1 99 = true then if nI 99999 < gc g 4 + x then (-3, dbl g) else (nI (oPassN x.toNatClampNeg (dbl g)), oPass x.toNatClampNeg (dbl g)) else (-2, dbl g)) = _
  rw [oPass_d h hy, oPassN_d h hy]
  rfl
theorem yg_oAnn {g : Sg} (hy : yg g) {c a : Nat} {m : Int32} (ha : a ≤ 60) : yg (oAnn g c a m) := fun k => by
  show un (gA g) (nK g) a k ≤ 60
  unfold un
  by_cases q : k = nK g
  · rw [if_pos q]; exact ha
  · rw [if_neg q]; exact hy k
theorem yg_opL {g : Sg} (hy : yg g) (x : Int32) : yg (opL g x).2 := by
  unfold opL oLv
  split
  · split
    · exact hy
    · split
      · exact hy
      · split
        · exact hy
        · exact hy
  · exact hy
theorem yg_opS {g : Sg} (hy : yg g) (x v : Int32) : yg (opS g x v).2 := by
  unfold opS
  split
  · split
    · split
      · exact hy
      · split
        · exact hy
        · exact hy
    · exact hy
  · exact hy
theorem yg_opE {g : Sg} (hy : yg g) (x : Int32) : yg (opE g x).2 := by
  unfold opE
  split
  · split
    · exact hy
    · exact hy
  · exact hy
theorem yg_opP {g : Sg} (hy : yg g) (x : Int32) : yg (opP g x).2 := by
  unfold opP
  split
  · split
    · exact hy
    · intro k
      show gA (oPass x.toNatClampNeg g) k ≤ 60
      rw [gA_oPass]
      exact hy k
  · exact hy
