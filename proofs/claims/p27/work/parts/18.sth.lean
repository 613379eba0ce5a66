def slR (F F' : Nat → Int32) (g : Sg) (n : Nat) : Prop := ∀ k w, k < 24 → w < 9 → F' (k * 9 + w) = if w = 7 ∧ plT g k < n ∧ sl g (plT g k) = true then F (k * 9 + w) + nI 1 else F (k * 9 + w)
theorem ix_ne {k w a b : Nat} (hw : w < 9) (hb : b < 9) (h : ¬ (k = a ∧ w = b)) : k * 9 + w ≠ a * 9 + b := by
  intro e
  apply h
  omega
theorem slR_00 (F : Nat → Int32) (g : Sg) : slR F F g 0 := fun k w _ _ => (if_neg (fun q => absurd q.2.1 (by omega))).symm
theorem slR_0 {F F' : Nat → Int32} {g : Sg} {n : Nat} (h : slR F F' g n) (hn : n < nT g) (hs : sl g n = false) : slR F F' g (n + 1) := fun k w hk hw => by
  rw [h k w hk hw]
  by_cases q : w = 7 ∧ plT g k < n ∧ sl g (plT g k) = true
  · rw [if_pos q, if_pos ⟨q.1, by omega, q.2.2⟩]
  · rw [if_neg q, if_neg (fun y => q ⟨y.1, ?_, y.2.2⟩)]
    rcases Nat.lt_or_ge (plT g k) n with a | a
    · exact a
    · have : plT g k = n := by omega
      rw [this, hs] at y
      exact absurd y.2.2 (by decide)
theorem slR_1 {F F' : Nat → Int32} {g : Sg} {n : Nat} (ho : Ok g) (h : slR F F' g n) (hn : n < nT g) (hs : sl g n = true) : slR F (upd F' (gT g n * 9 + 7) (F' (gT g n * 9 + 7) + nI 1)) g (n + 1) := fun k w hk hw => by
  have hp := plT_of ho hn
  by_cases e : k = gT g n ∧ w = 7
  · obtain ⟨rfl, rfl⟩ := e
    rw [up_s, h _ 7 hk (by omega), hp, if_neg (by omega), if_pos ⟨rfl, by omega, hs⟩]
  · rw [up_n (ix_ne hw (by omega) e), h k w hk hw]
    by_cases q : w = 7 ∧ plT g k < n ∧ sl g (plT g k) = true
    · rw [if_pos q, if_pos ⟨q.1, by omega, q.2.2⟩]
    · rw [if_neg q, if_neg (fun y => q ⟨y.1, ?_, y.2.2⟩)]
      rcases Nat.lt_or_ge (plT g k) n with a | a
      · exact a
      · have z : plT g k = n := by omega
        exact absurd ⟨by rw [← z, plT_in (by omega)], y.1⟩ e
def toR (F F' : Nat → Int32) (g : Sg) (n : Nat) : Prop := ∀ k w, k < 24 → w < 9 → F' (k * 9 + w) = if w = 6 ∧ plT g k < n then F (k * 9 + w) + nI 1 else F (k * 9 + w)
theorem toR_0 (F : Nat → Int32) (g : Sg) : toR F F g 0 := fun k w _ _ => (if_neg (fun q => absurd q.2 (by omega))).symm
theorem toR_1 {F F' : Nat → Int32} {g : Sg} {n : Nat} (ho : Ok g) (h : toR F F' g n) (hn : n < nT g) : toR F (upd F' (gT g n * 9 + 6) (F' (gT g n * 9 + 6) + nI 1)) g (n + 1) := fun k w hk hw => by
  have hp := plT_of ho hn
  by_cases e : k = gT g n ∧ w = 6
  · obtain ⟨rfl, rfl⟩ := e
    rw [up_s, h _ 6 hk (by omega), hp, if_neg (by omega), if_pos ⟨rfl, by omega⟩]
  · rw [up_n (ix_ne hw (by omega) e), h k w hk hw]
    by_cases q : w = 6 ∧ plT g k < n
    · rw [if_pos q, if_pos ⟨q.1, by omega⟩]
    · rw [if_neg q, if_neg (fun y => q ⟨y.1, ?_⟩)]
      rcases Nat.lt_or_ge (plT g k) n with a | a
      · exact a
      · have z : plT g k = n := by omega
        exact absurd ⟨by rw [← z, plT_in (by omega)], y.1⟩ e
theorem rF_to {F F1 F2 : Nat → Int32} {g : Sg} (h : rF F g) (h1 : toR F F1 g (nT g)) (h2 : slR F1 F2 g (nT g)) : rF F2 (oTo g (nT g) (nT g)) := fun k hk => by
  have a := h k hk
  have b : ∀ w, w < 9 → F2 (k * 9 + w) = _ := fun w hw => h2 k w hk hw
  have c : ∀ w, w < 9 → F1 (k * 9 + w) = _ := fun w hw => h1 k w hk hw
  refine ⟨?_, ?_, ?_, ?_, ?_, ?_, ?_⟩
  · have := b 0 (by omega); rw [if_neg (by omega), c 0 (by omega), if_neg (by omega)] at this; exact this.trans a.1
  · rw [b 1 (by omega), if_neg (by omega), c 1 (by omega), if_neg (by omega)]; exact a.2.1
  · rw [b 2 (by omega), if_neg (by omega), c 2 (by omega), if_neg (by omega), oTo_X0]; exact a.2.2.1
  · rw [b 3 (by omega), if_neg (by omega), c 3 (by omega), if_neg (by omega)]; exact a.2.2.2.1
  · rw [b 6 (by omega), if_neg (by omega), c 6 (by omega), oTo_X1, a.2.2.2.2.1]
    by_cases q : plT g k < nT g
    · rw [if_pos ⟨rfl, q⟩, if_pos ⟨q, q⟩]
    · rw [if_neg (fun y => q y.2), if_neg (fun y => q y.2)]
  · rw [b 7 (by omega), c 7 (by omega), oTo_X2, if_neg (by omega : ¬ (7 = 6 ∧ plT g k < nT g)), a.2.2.2.2.2.1]
    by_cases q : plT g k < nT g ∧ sl g (plT g k) = true
    · rw [if_pos ⟨rfl, q⟩, if_pos ⟨q.1, q⟩]
    · rw [if_neg (fun y => q y.2), if_neg (fun y => q y.2)]
  · rw [b 8 (by omega), if_neg (by omega), c 8 (by omega), if_neg (by omega), oTo_X3]; exact a.2.2.2.2.2.2
theorem slR_no {F : Nat → Int32} {g : Sg} (h : ¬ fw g < nT g - 1) : slR F F g (nT g) := fun k w _ _ => (if_neg (fun q => by rw [sl_no h _ q.2.1] at q; exact absurd q.2.2 (by decide))).symm
theorem sl_to (g : Sg) (t n i : Nat) : sl (oTo g t n) i = sl g i := rfl
theorem fw_to (g : Sg) (t n : Nat) : fw (oTo g t n) = fw g := rfl
theorem rnd_0 {g : Sg} (h : ¬ fw g < nT g - 1) : oRnd g = oTo g (nT g) (nT g) := by
  unfold oRnd
  have e : oEnv (gc g 2).toNatClampNeg (oTo g (nT g) (nT g)) = oTo g (nT g) (nT g) := oEnv_0 (g := oTo g (nT g) (nT g)) h _
  simp only [e]
  refine oAng_0 _ (fun i hi => ?_)
  unfold ang
  rw [sl_to, sl_no h i hi, Bool.and_false]
theorem cnt_no {g : Sg} (h : ¬ fw g < nT g - 1) : cnt (sl g) (nT g) = 0 := cnt_0 (sl_no h)
theorem oEnv_eq : ∀ (n : Nat) (g : Sg), nK (oEnv n g) = nK g ∧ nW (oEnv n g) = nW g ∧ gW (oEnv n g) = gW g ∧ gC (oEnv n g) = gC g ∧ gA (oEnv n g) = gA g ∧ gD (oEnv n g) = gD g ∧ gX (oEnv n g) = gX g ∧ ∀ i, i ≠ 10 → gc (oEnv n g) i = gc g i
  | 0, _ => ⟨rfl, rfl, rfl, rfl, rfl, rfl, rfl, fun _ _ => rfl⟩
  | n + 1, g => by
    unfold oEnv
    split
    · obtain ⟨h1, h2, h3, h4, h5, h6, h7, h8⟩ := oEnv_eq n (oSw g (fw g))
      exact ⟨h1, h2, h3, h4, h5, h6, h7, fun i hi => (h8 i hi).trans (up_n hi)⟩
    · exact ⟨rfl, rfl, rfl, rfl, rfl, rfl, rfl, fun _ _ => rfl⟩
theorem rF_env {F : Nat → Int32} {n : Nat} {g : Sg} (h : rF F g) : rF F (oEnv n g) := fun k hk => by
  obtain ⟨h1, h2, h3, h4, h5, h6, h7, h8⟩ := oEnv_eq n g
  rw [h4, h5, h6, h7]
  exact h k hk
theorem rW_env {F : Nat → Int32} {n : Nat} {g : Sg} (h : rW F g) : rW F (oEnv n g) := fun k hk => by
  rw [(oEnv_eq n g).1] at hk
  rw [oEnv_key]
  exact h k hk
theorem rM_env {F : Nat → Int32} {n : Nat} {g : Sg} (h : rM F g) : rM F (oEnv n g) := fun k hk => by
  rw [(oEnv_eq n g).2.1] at hk
  rw [(oEnv_eq n g).2.2.1]
  exact h k hk
theorem rC_env {F : Nat → Int32} {n : Nat} {g : Sg} (h : rC F g) : rC F (oEnv n g) := fun k hk => by
  rw [(oEnv_eq n g).2.2.2.2.2.2.2 k (by omega)]
  exact h k hk
theorem rC_to {F : Nat → Int32} {t n : Nat} {g : Sg} (h : rC F g) : rC F (oTo g t n) := fun k hk => by
  rw [h k hk]
  show _ = if k = 7 then _ else if k = 8 then _ else if k = 9 then _ else _
  rw [if_neg (by omega), if_neg (by omega), if_neg (by omega)]
def anR (F F' : Nat → Int32) (g : Sg) (n : Nat) : Prop := ∀ k w, k < 24 → w < 9 → F' (k * 9 + w) = if w = 8 ∧ plT g k < n ∧ ang g (plT g k) = true then nI 1 else F (k * 9 + w)
theorem anR_00 (F : Nat → Int32) (g : Sg) : anR F F g 0 := fun k w _ _ => (if_neg (fun q => absurd q.2.1 (by omega))).symm
theorem anR_0 {F F' : Nat → Int32} {g : Sg} {n : Nat} (h : anR F F' g n) (hs : ang g n = false) : anR F F' g (n + 1) := fun k w hk hw => by
  rw [h k w hk hw]
  by_cases q : w = 8 ∧ plT g k < n ∧ ang g (plT g k) = true
  · rw [if_pos q, if_pos ⟨q.1, by omega, q.2.2⟩]
  · rw [if_neg q, if_neg (fun y => q ⟨y.1, ?_, y.2.2⟩)]
    rcases Nat.lt_or_ge (plT g k) n with a | a
    · exact a
    · have : plT g k = n := by omega
      rw [this, hs] at y
      exact absurd y.2.2 (by decide)
theorem anR_1 {F F' : Nat → Int32} {g : Sg} {n : Nat} (ho : Ok g) (h : anR F F' g n) (hn : n < nT g) (hs : ang g n = true) : anR F (upd F' (gT g n * 9 + 8) (nI 1)) g (n + 1) := fun k w hk hw => by
  have hp := plT_of ho hn
  by_cases e : k = gT g n ∧ w = 8
  · obtain ⟨rfl, rfl⟩ := e
    rw [up_s, hp, if_pos ⟨rfl, by omega, hs⟩]
  · rw [up_n (ix_ne hw (by omega) e), h k w hk hw]
    by_cases q : w = 8 ∧ plT g k < n ∧ ang g (plT g k) = true
    · rw [if_pos q, if_pos ⟨q.1, by omega, q.2.2⟩]
    · rw [if_neg q, if_neg (fun y => q ⟨y.1, ?_, y.2.2⟩)]
      rcases Nat.lt_or_ge (plT g k) n with a | a
      · exact a
      · have z : plT g k = n := by omega
        exact absurd ⟨by rw [← z, plT_in (by omega)], y.1⟩ e
theorem anR_7 {F F' : Nat → Int32} {g : Sg} {n k : Nat} (hF : rF F g) (h : anR F F' g n) (hk : k < 24) : F' (k * 9 + 7) = gX g 2 k := by
  rw [h k 7 hk (by omega), if_neg (by omega)]
  exact (hF k hk).2.2.2.2.2.1
/-- while the angry ones leave: g before, h now, down to the seat n -/
def awR (F : Nat → Int32) (g h : Sg) (n : Nat) : Prop :=
  (∀ k, k < 24 → F (k * 9) = nI (gC h k) ∧ F (k * 9 + 1) = nI (gA h k) ∧ F (k * 9 + 2) = gX h 0 k ∧ F (k * 9 + 3) = nI (gD h k) ∧ F (k * 9 + 6) = gX h 1 k ∧ F (k * 9 + 7) = gX h 2 k ∧ F (k * 9 + 8) = if plT g k < nT g ∧ ang g (plT g k) = true then nI 1 else gX g 3 k) ∧
  (∀ k, gX h 3 k = if n ≤ plT g k ∧ plT g k < nT g ∧ ang g (plT g k) = true then nI 1 else gX g 3 k) ∧
  (∀ j, j < n → gT h j = gT g j) ∧ n ≤ nT h ∧ n ≤ nT g ∧ nK h = nK g ∧ (∀ k, key h k = key g k) ∧ Ok h ∧ oAng (ang g) n h = oAng (ang g) (nT g) g
theorem awR_0 {F F' : Nat → Int32} {g : Sg} (ho : Ok g) (hF : rF F g) (h : anR F F' g (nT g)) : awR F' g g (nT g) := by
  refine ⟨fun k hk => ?_, fun k => ?_, fun _ _ => rfl, Nat.le_refl _, Nat.le_refl _, rfl, fun _ => rfl, ho, rfl⟩
  · have a := hF k hk
    have b : ∀ w, w < 9 → F' (k * 9 + w) = _ := fun w hw => h k w hk hw
    refine ⟨?_, ?_, ?_, ?_, ?_, ?_, ?_⟩
    · have := b 0 (by omega); rw [if_neg (by omega)] at this; exact this.trans a.1
    · rw [b 1 (by omega), if_neg (by omega)]; exact a.2.1
    · rw [b 2 (by omega), if_neg (by omega)]; exact a.2.2.1
    · rw [b 3 (by omega), if_neg (by omega)]; exact a.2.2.2.1
    · rw [b 6 (by omega), if_neg (by omega)]; exact a.2.2.2.2.1
    · rw [b 7 (by omega), if_neg (by omega)]; exact a.2.2.2.2.2.1
    · rw [b 8 (by omega), a.2.2.2.2.2.2]
      by_cases q : plT g k < nT g ∧ ang g (plT g k) = true
      · rw [if_pos ⟨rfl, q⟩, if_pos q]
      · rw [if_neg (fun y => q y.2), if_neg q]
  · rw [if_neg (by omega)]
theorem awR_8 {F : Nat → Int32} {g h : Sg} {n : Nat} (ho : Ok g) (hr : awR F g h (n + 1)) : F (gT h n * 9 + 8) = kb_b (ang g n) := by
  have e := hr.2.2.1 n (by omega)
  have hn : n < nT g := by have := hr.2.2.2.2.1; omega
  have := (hr.1 (gT h n) (by rw [e]; exact ok_t ho hn)).2.2.2.2.2.2
  rw [this, e, plT_of ho hn]
  cases q : ang g n with
  | true => rw [if_pos ⟨hn, rfl⟩]; rfl
  | false =>
    rw [if_neg (fun y => absurd y.2 (by decide))]
    have hx := ho.a (gT g n) (ho.t n hn).1
    rcases hx with y | y
    · rw [y]; rfl
    · have := (ho.t n hn).2
      omega
theorem awR_n {F : Nat → Int32} {g h : Sg} {n : Nat} (hg : Ok g) (hr : awR F g h (n + 1)) (hs : ang g n = false) : awR F g h n := by
  obtain ⟨h1, h2, h3, h4, h5, h6, h7, h8, h9⟩ := hr
  refine ⟨h1, fun k => ?_, fun j hj => h3 j (by omega), by omega, by omega, h6, h7, h8, ?_⟩
  · rw [h2 k]
    by_cases q : n + 1 ≤ plT g k ∧ plT g k < nT g ∧ ang g (plT g k) = true
    · rw [if_pos q, if_pos ⟨by omega, q.2⟩]
    · rw [if_neg q, if_neg (fun y => q ⟨?_, y.2⟩)]
      rcases Nat.lt_or_ge n (plT g k) with a | a
      · omega
      · have : plT g k = n := by omega
        rw [this, hs] at y
        exact absurd y.2.2 (by decide)
  · rw [← h9]
    show _ = oAng (ang g) n (if ang g n = true then oRm h n else h)
    rw [hs]
    rfl
theorem awR_y {F : Nat → Int32} {g h : Sg} {n : Nat} (hg : Ok g) (hr : awR F g h (n + 1)) (hs : ang g n = true) : awR (upd F (gT h n * 9 + 3) (nI 3)) g (oRm h n) n := by
  obtain ⟨h1, h2, h3, h4, h5, h6, h7, h8, h9⟩ := hr
  have hn : n < nT g := by omega
  have e : gT h n = gT g n := h3 n (by omega)
  have hp := plT_of hg hn
  have hk24 : gT h n < 24 := by rw [e]; exact ok_t hg hn
  refine ⟨fun k hk => ?_, fun k => ?_, fun j hj => ?_, ?_, by omega, h6, h7, oRm_ok h8 (by omega), ?_⟩
  · obtain ⟨a1, a2, a3, a4, a5, a6, a7⟩ := h1 k hk
    have hX : ∀ w, w < 3 → gX (oRm h n) w k = gX h w k := fun w hw => if_neg (by omega)
    refine ⟨?_, ?_, ?_, ?_, ?_, ?_, ?_⟩
    · rw [up_n (by omega)]; exact a1
    · rw [up_n (by omega)]; exact a2
    · rw [up_n (by omega), hX 0 (by omega)]; exact a3
    · by_cases q : k = gT h n
      · rw [q, up_s]
        show nI 3 = nI (un (gD h) (gT h n) 3 (gT h n))
        rw [un_s]
      · rw [up_n (by omega)]
        show _ = nI (un (gD h) (gT h n) 3 k)
        rw [un_n q]
        exact a4
    · rw [up_n (by omega), hX 1 (by omega)]; exact a5
    · rw [up_n (by omega), hX 2 (by omega)]; exact a6
    · rw [up_n (by omega)]; exact a7
  · show ux (gX h) 3 (gT h n) (nI 1) 3 k = _
    by_cases q : k = gT h n
    · rw [q, e, hp, if_pos ⟨Nat.le_refl _, hn, hs⟩]
      exact if_pos ⟨rfl, rfl⟩
    · have : ux (gX h) 3 (gT h n) (nI 1) 3 k = gX h 3 k := if_neg (fun y => q y.2)
      rw [this, h2 k]
      by_cases y : n + 1 ≤ plT g k ∧ plT g k < nT g ∧ ang g (plT g k) = true
      · rw [if_pos y, if_pos ⟨by omega, y.2⟩]
      · rw [if_neg y, if_neg (fun x => y ⟨?_, x.2⟩)]
        rcases Nat.lt_or_ge n (plT g k) with a | a
        · omega
        · have : plT g k = n := by omega
          exact absurd (by rw [e, ← this, plT_in x.2.1]) q
  · show nDel (gT h) n j = gT g j
    rw [nDel_lt hj]
    exact h3 j (by omega)
  · show n ≤ nT h - 1
    omega
  · rw [← h9]
    show _ = oAng (ang g) n (if ang g n = true then oRm h n else h)
    rw [if_pos hs]
theorem rT_del {T : Nat → Int32} {g h : Sg} {i : Nat} (hT : rT T g) (hn : nT h = nT g - 1) (hh : gT h = nDel (gT g) i) : rT (rDel T i (nT g - 1)) h := fun j hj => by
  rw [hn] at hj
  rw [hh]
  unfold rDel
  by_cases q : i ≤ j
  · rw [if_pos ⟨q, hj⟩, nDel_ge q, hT _ (by omega)]
  · rw [if_neg (fun y => q y.1), nDel_lt (by omega), hT _ (by omega)]
theorem rM_del {T : Nat → Int32} {g h : Sg} {i : Nat} (hT : rM T g) (hn : nW h = nW g - 1) (hh : gW h = nDel (gW g) i) : rM (rDel T i (nW g - 1)) h := fun j hj => by
  rw [hn] at hj
  rw [hh]
  unfold rDel
  by_cases q : i ≤ j
  · rw [if_pos ⟨q, hj⟩, nDel_ge q, hT _ (by omega)]
  · rw [if_neg (fun y => q y.1), nDel_lt (by omega), hT _ (by omega)]
theorem rT_fst {T : Nat → Int32} {g : Sg} {i : Nat} (ho : Ok g) (hT : rT T g) (hi : i < nT g) : ∀ j, j < i → T j ≠ nI (gT g i) := fun j hj e => by
  rw [hT j (by omega)] at e
  have e := (nI_eq (by have := ok_t ho (j := j) (by omega); omega) (by have := ok_t ho hi; omega)).mp e
  have := ho.ti j i (by omega) hi e
  omega
theorem rM_fst {T : Nat → Int32} {g : Sg} {i : Nat} (ho : Ok g) (hT : rM T g) (hi : i < nW g) : ∀ j, j < i → T j ≠ nI (gW g i) := fun j hj e => by
  rw [hT j (by omega)] at e
  have e := (nI_eq (by have := ok_w ho (j := j) (by omega); omega) (by have := ok_w ho hi; omega)).mp e
  have := ho.wi j i (by omega) hi e
  omega
theorem awR_end {F : Nat → Int32} {g h : Sg} (hr : awR F g h 0) : rF F h ∧ h = oAng (ang g) (nT g) g := by
  obtain ⟨h1, h2, h3, h4, h5, h6, h7, h8, h9⟩ := hr
  refine ⟨fun k hk => ?_, h9⟩
  obtain ⟨a1, a2, a3, a4, a5, a6, a7⟩ := h1 k hk
  refine ⟨a1, a2, a3, a4, a5, a6, ?_⟩
  rw [a7, h2 k]
  by_cases q : plT g k < nT g ∧ ang g (plT g k) = true
  · rw [if_pos q, if_pos ⟨Nat.zero_le _, q⟩]
  · rw [if_neg q, if_neg (fun y => q y.2)]
def nxI (b : Nat) : Int32 := if b = 24 then -5 else nI b
theorem bst_s (q : Nat → Bool) (ky : Nat → Nat) (k : Nat) : bst q ky (k + 1) = if q k = true ∧ (bst q ky k = 24 ∨ ky (bst q ky k) < ky k) then k else bst q ky k := rfl
theorem bst_skip {q : Nat → Bool} {ky : Nat → Nat} {k : Nat} (h : q k = false) : bst q ky (k + 1) = bst q ky k := by
  rw [bst_s, if_neg (fun y => by rw [h] at y; exact absurd y.1 (by decide))]
theorem arv_1 {g : Sg} {k : Nat} (h1 : gD g k = 0) (h2 : gX g 0 k = gc g 4) : arv g k = true := by
  unfold arv
  rw [decide_eq_true h1, decide_eq_true h2]
  rfl
theorem arv_0a {g : Sg} {k : Nat} (h1 : gD g k ≠ 0) : arv g k = false := by
  unfold arv
  rw [decide_eq_false h1]
  rfl
theorem arv_0b {g : Sg} {k : Nat} (h2 : ¬ gX g 0 k = gc g 4) : arv g k = false := by
  unfold arv
  rw [decide_eq_false h2, Bool.and_false]
theorem nxI_5 {b : Nat} (hb : b ≤ 24) : nxI b = -5 ↔ b = 24 := by
  unfold nxI
  constructor
  · intro h
    split at h
    · assumption
    · exact absurd h (nI_ne5 (by omega))
  · intro h
    rw [if_pos h]
theorem nxI_n {b : Nat} (h : b ≠ 24) : nxI b = nI b := if_neg h
theorem pm1_neg {b : Nat} (hb : b < 2 ^ 30) : nI b - nI 1 < 0 ↔ b = 0 := by
  rw [Int32.lt_iff_toInt_lt, pk_sub_toInt hb (by decide)]
  show (b : Int) - (1 : Nat) < 0 ↔ _
  omega
theorem kb_pdec {b : Nat} (h : 1 ≤ b) : (nI b - nI 1) + Int32.ofInt (-1) = nI (b - 1) - nI 1 := by
  rw [show Int32.ofInt (-1) = (-1 : Int32) from by decide]
  obtain ⟨k, rfl⟩ : ∃ k, b = k + 1 := ⟨b - 1, by omega⟩
  rw [pk_sub (by omega), Nat.add_sub_cancel, Int32.sub_eq_add_neg, show -nI 1 = (-1 : Int32) from by decide]
section KBZ
variable {cc : ByteArray} {rest : List Value}
variable {p : Program} {l : Launch} {e : Env} {R : Room} {s : State} {m : MethodId} {args : Array Value} {below : List Frame} {meth : Method} {c : Code} {H : Heap} {locs : List Loc} {cells slots : Nat} {pc : Nat} {ls : Array Slot} {Q : State → Prop}
theorem kb_pif_lt (hx : p.tables.exec = Jvm.exec) (hb : c.code = cc) {b : Nat} {off : Int} {tgt : Nat} (hdg : decode cc pc = .ok (.ifCond .lt off, 3)) (ht : (pc : Int) + off = (tgt : Int)) (hb2 : b < 2 ^ 30)
    (k1 : b = 0 → W p l e R s m args below meth c H locs cells slots Q (F0 m tgt ls rest)) (k2 : 0 < b → W p l e R s m args below meth c H locs cells slots Q (F0 m (pc + 3) ls rest)) : W p l e R s m args below meth c H locs cells slots Q (F0 m pc ls (.int (nI b - nI 1) :: rest)) :=
  lv_if_lt hx hb hdg ht (fun z => k1 ((pm1_neg hb2).mp z)) (fun z => k2 (Nat.pos_of_ne_zero (fun q => z ((pm1_neg hb2).mpr q))))
end KBZ
theorem bsx_a {best : Int32} {q : Nat → Bool} {ky : Nat → Nat} {k : Nat} (hb : best = nxI (bst q ky k)) (h : q k = false) : best = nxI (bst q ky (k + 1)) := by
  rw [bst_skip h]
  exact hb
theorem bsx_b {best : Int32} {q : Nat → Bool} {ky : Nat → Nat} {k : Nat} (hk : k < 24) (hb : best = nxI (bst q ky k)) (h : q k = true) (h5 : best = -5) : nI k = nxI (bst q ky (k + 1)) := by
  rw [hb] at h5
  have : bst q ky k = 24 := by
    unfold nxI at h5
    split at h5
    · assumption
    · rename_i z
      exfalso
      have hl : ∀ n, bst q ky n < 2 ^ 30 ∨ 2 ^ 29 < n := fun n => by
        induction n with
        | zero => left; show 24 < _; omega
        | succ n ih =>
          rw [bst_s]
          split <;> omega
      rcases hl k with a | a
      · exact nI_ne5 (by omega) h5
      · omega
  rw [bst_s, if_pos ⟨h, Or.inl this⟩, nxI_n (by omega)]
theorem bsx_c {q : Nat → Bool} {ky : Nat → Nat} {k : Nat} (hk : k < 24) (h : q k = true) (h5 : ky (bst q ky k) < ky k) : nI k = nxI (bst q ky (k + 1)) := by
  rw [bst_s, if_pos ⟨h, Or.inr h5⟩, nxI_n (by omega)]
theorem bsx_d {q : Nat → Bool} {ky : Nat → Nat} {k : Nat} (h4 : bst q ky k ≠ 24) (h5 : ¬ ky (bst q ky k) < ky k) : nI (bst q ky k) = nxI (bst q ky (k + 1)) := by
  rw [bst_s, if_neg (fun y => y.2.elim h4 h5), nxI_n h4]
theorem bst_n5 {g : Sg} (ho : Ok g) {best : Int32} {k : Nat} (hk : k ≤ nK g) (hb : best = nxI (bst (arv g) (key g) k)) (h5 : ¬ best = -5) : bst (arv g) (key g) k ≠ 24 ∧ bst (arv g) (key g) k < k := by
  have h24 : bst (arv g) (key g) k ≠ 24 := fun z => h5 (by rw [hb, z]; rfl)
  have := ho.n.1
  rcases bst_le (arv g) (key g) k (by omega) with z | z
  · exact absurd z h24
  · exact ⟨h24, z.1⟩
theorem oArr_s1 {g : Sg} {n : Nat} (h : nx g ≠ 24) : oArr (n + 1) g = oArr n (oAr1 g (nx g)) := if_neg h
theorem rF_ar1 {F : Nat → Int32} {g : Sg} {k : Nat} (hF : rF F g) : rF (upd F (k * 9 + 3) (nI 1)) (oAr1 g k) := fun j hj => by
  obtain ⟨a1, a2, a3, a4, a5, a6, a7⟩ := hF j hj
  refine ⟨?_, ?_, ?_, ?_, ?_, ?_, ?_⟩
  · rw [up_n (by omega)]; exact a1
  · rw [up_n (by omega)]; exact a2
  · rw [up_n (by omega)]; exact a3
  · show _ = nI (un (gD g) k 1 j)
    by_cases q : j = k
    · rw [q, up_s, un_s]
    · rw [up_n (by omega), un_n q]; exact a4
  · rw [up_n (by omega)]; exact a5
  · rw [up_n (by omega)]; exact a6
  · rw [up_n (by omega)]; exact a7
theorem rM_ar1 {M : Nat → Int32} {g : Sg} {k : Nat} (hM : rM M g) : rM (upd M (nW g) (nI k)) (oAr1 g k) := fun j hj => by
  have hj : j < nW g + 1 := hj
  show _ = nI (un (gW g) (nW g) k j)
  by_cases q : j = nW g
  · rw [q, up_s, un_s]
  · rw [up_n q, un_n q]
    exact hM j (by omega)
theorem oSit_s1 {g : Sg} {n : Nat} (h : nW g ≠ 0) : oSit (n + 1) g = oSit n (oSi1 g) := if_neg h
theorem rF_si1 {F : Nat → Int32} {g : Sg} (hF : rF F g) : rF (upd F (gW g 0 * 9 + 3) (nI 2)) (oSi1 g) := fun j hj => by
  obtain ⟨a1, a2, a3, a4, a5, a6, a7⟩ := hF j hj
  refine ⟨?_, ?_, ?_, ?_, ?_, ?_, ?_⟩
  · rw [up_n (by omega)]; exact a1
  · rw [up_n (by omega)]; exact a2
  · rw [up_n (by omega)]; exact a3
  · show _ = nI (un (gD g) (gW g 0) 2 j)
    by_cases q : j = gW g 0
    · rw [q, up_s, un_s]
    · rw [up_n (by omega), un_n q]; exact a4
  · rw [up_n (by omega)]; exact a5
  · rw [up_n (by omega)]; exact a6
  · rw [up_n (by omega)]; exact a7
theorem rT_si1 {T : Nat → Int32} {g : Sg} (hT : rT T g) : rT (upd T (nT g) (nI (gW g 0))) (oSi1 g) := fun j hj => by
  have hj : j < nT g + 1 := hj
  show _ = nI (un (gT g) (nT g) (gW g 0) j)
  by_cases q : j = nT g
  · rw [q, up_s, un_s]
  · rw [up_n q, un_n q]
    exact hT j (by omega)
theorem atM0 {M : Nat → Int32} {g : Sg} (ho : Ok g) (hM : rM M g) : rAt M (nW g) (nI 0) = oI (decide (0 < nW g)) (gW g 0) := by
  by_cases h : 0 < nW g
  · rw [rAt_in h (by have := ho.n; omega), hM 0 h, decide_eq_true h]
    rfl
  · rw [rAt_out (by omega) (by decide), decide_eq_false h]
    rfl
theorem oI_5 {b : Bool} {n : Nat} (hn : n < 2 ^ 31) : oI b n = -5 ↔ b = false := by
  cases b with
  | true => exact ⟨fun h => absurd h (nI_ne5 hn), fun h => absurd h (by decide)⟩
  | false => exact ⟨fun _ => rfl, fun _ => rfl⟩
theorem oPass_s (n : Nat) (g : Sg) : oPass (n + 1) g = oMin (oPass n g) := rfl
def opP (g : Sg) (x : Int32) : Int32 × Sg := if isIn x 1 99 = true then if nI 99999 < gc g 4 + x then (-3, g) else (nI (oPassN x.toNatClampNeg g), oPass x.toNatClampNeg g) else (-2, g)
theorem oAng_7 (b : Nat → Bool) : ∀ (n : Nat) (g : Sg), gc (oAng b n g) 7 = gc g 7
  | 0, _ => rfl
  | n + 1, g => by
    unfold oAng
    rw [oAng_7 b n]
    split <;> rfl
theorem oRnd_7 (g : Sg) : gc (oRnd g) 7 = gc g 7 + nI 1 := by
  unfold oRnd
  simp only []
  rw [oAng_7, (oEnv_eq _ _).2.2.2.2.2.2.2 7 (by decide)]
  rfl
theorem oSit_c : ∀ (n : Nat) (g : Sg), gc (oSit n g) = gc g
  | 0, _ => rfl
  | n + 1, g => by
    unfold oSit
    split
    · rfl
    · rw [oSit_c n]; rfl
theorem oArr_c : ∀ (n : Nat) (g : Sg), gc (oArr n g) = gc g
  | 0, _ => rfl
  | n + 1, g => by
    unfold oArr
    split
    · rfl
    · rw [oArr_c n]; rfl
theorem oMin_7 (g : Sg) : gc (oMin g) 7 = gc g 7 + nI (dueN g) := by
  have h0 : gc (oSit' (oArr' g)) = gc g := by
    unfold oSit' oArr'
    rw [oSit_c, oArr_c]
  have h1 : ∀ h, gc (oTick h) 7 = gc h 7 := fun h => by
    show upd (gc h) 4 (gc h 4 + nI 1) 7 = gc h 7
    exact up_n (by decide)
  unfold dueN
  show gc (oTick (if due (oSit' (oArr' g)) = true then oRnd (oSit' (oArr' g)) else oSit' (oArr' g))) 7 = _
  rw [h1]
  split
  · rw [oRnd_7, h0]
  · rw [h0, nI_0, Int32.add_zero]
theorem oPass_7 (g : Sg) : ∀ n, gc (oPass n g) 7 = gc g 7 + nI (oPassN n g)
  | 0 => by
    show gc g 7 = gc g 7 + nI 0
    rw [nI_0, Int32.add_zero]
  | n + 1 => by
    rw [oPass_s, oMin_7, oPass_7 g n, Int32.add_assoc, nI_add]
    rfl
theorem opP_1 {g : Sg} {x : Int32} (h : isIn x 1 99 = false) : opP g x = (-2, g) := if_neg (by rw [h]; decide)
theorem opP_2 {g : Sg} {x : Int32} (h : isIn x 1 99 = true) (h2 : nI 99999 < gc g 4 + x) : opP g x = (-3, g) := by
  unfold opP
  rw [if_pos h, if_pos h2]
theorem opP_3 {g : Sg} {j : Nat} (h : isIn (nI j) 1 99 = true) (hj : j < 2 ^ 30) (h2 : ¬ nI 99999 < gc g 4 + nI j) : opP g (nI j) = (nI (oPassN j g), oPass j g) := by
  unfold opP
  rw [if_pos h, if_neg h2, nI_clamp (by omega)]
theorem rnd_1 {g : Sg} {n : Nat} (h : gc g 2 = nI n) (hn : n ≤ 9) : oRnd g = oAng (ang (oEnv n (oTo g (nT g) (nT g)))) (nT (oEnv n (oTo g (nT g) (nT g)))) (oEnv n (oTo g (nT g) (nT g))) := by
  unfold oRnd
  rw [h, nI_clamp (by omega)]
theorem oEnv_nK (n : Nat) (g : Sg) : nK (oEnv n g) = nK g := (oEnv_eq n g).1
theorem oEnv_nW (n : Nat) (g : Sg) : nW (oEnv n g) = nW g := (oEnv_eq n g).2.1
theorem oEnv_gc (n : Nat) (g : Sg) {i : Nat} (h : i ≠ 10) : gc (oEnv n g) i = gc g i := (oEnv_eq n g).2.2.2.2.2.2.2 i h
theorem rW_of {F : Nat → Int32} {g h : Sg} (h1 : nK h = nK g) (h2 : ∀ k, key h k = key g k) (hW : rW F g) : rW F h := fun k hk => by
  rw [h1] at hk
  rw [h2]
  exact hW k hk
theorem rC_of {F : Nat → Int32} {g h : Sg} (h1 : ∀ i, i < 4 → gc h i = gc g i) (hC : rC F g) : rC F h := fun i hi => (hC i hi).trans (h1 i hi).symm
theorem rT_of {F : Nat → Int32} {g h : Sg} (h1 : nT h = nT g) (h2 : gT h = gT g) (hT : rT F g) : rT F h := fun k hk => by
  rw [h1] at hk
  rw [h2]
  exact hT k hk
theorem rM_of {F : Nat → Int32} {g h : Sg} (h1 : nW h = nW g) (h2 : gW h = gW g) (hT : rM F g) : rM F h := fun k hk => by
  rw [h1] at hk
  rw [h2]
  exact hT k hk
theorem nx_le {g : Sg} (h : Ok g) : nx g ≤ 24 := by
  have := h.n.1
  rcases bst_le (arv g) (key g) (nK g) this with z | z
  · unfold nx
    omega
  · have := z.1
    unfold nx
    omega
theorem atM_0 {g : Sg} (ho : Ok g) (h : oI (decide (0 < nW g)) (gW g 0) = -5) : nW g = 0 := by
  rcases Nat.eq_zero_or_pos (nW g) with q | q
  · exact q
  · rw [decide_eq_true q] at h
    exact absurd h (nI_ne5 (by have := ok_w ho q; omega))
theorem atM_1 {g : Sg} (h : ¬ oI (decide (0 < nW g)) (gW g 0) = -5) : 0 < nW g := by
  rcases Nat.eq_zero_or_pos (nW g) with q | q
  · rw [decide_eq_false (by omega)] at h
    exact absurd rfl h
  · exact q
theorem oI_t {n : Nat} {P : Prop} [Decidable P] (h : P) : oI (decide P) n = nI n := by
  rw [decide_eq_true h]
  rfl
theorem oSit_p {g : Sg} {n : Nat} (hn : 0 < n) (h : nW g ≠ 0) : oSit n g = oSit (n - 1) (oSi1 g) := by
  obtain ⟨k, rfl⟩ : ∃ k, n = k + 1 := ⟨n - 1, by omega⟩
  exact oSit_s1 h
theorem kbb_1 {b : Bool} : kb_b b = nI 1 ↔ b = true := by
  cases b with
  | true => exact ⟨fun _ => rfl, fun _ => rfl⟩
  | false => exact ⟨fun h => absurd h (by decide), fun h => absurd h (by decide)⟩
theorem oMin_t {g : Sg} (h : due (oSit' (oArr' g)) = true) : oMin g = oTick (oRnd (oSit' (oArr' g))) := by
  show oTick (if due (oSit' (oArr' g)) = true then _ else _) = _
  rw [if_pos h]
theorem oMin_f {g : Sg} (h : due (oSit' (oArr' g)) = false) : oMin g = oTick (oSit' (oArr' g)) := by
  show oTick (if due (oSit' (oArr' g)) = true then _ else _) = _
  rw [if_neg (by rw [h]; decide)]
theorem isIn_o {x : Int32} {lo hi : Nat} (h : x < nI lo ∨ nI hi < x) : isIn x lo hi = false := decide_eq_false (fun q => h.elim q.1 q.2)
theorem isIn_i {x : Int32} {lo hi : Nat} (h1 : ¬ x < nI lo) (h2 : ¬ nI hi < x) : isIn x lo hi = true := decide_eq_true ⟨h1, h2⟩
theorem tk_K (g : Sg) : nK (oTick g) = nK g := rfl
theorem tk_T (g : Sg) : nT (oTick g) = nT g := rfl
theorem tk_W (g : Sg) : nW (oTick g) = nW g := rfl
theorem tk_4 (g : Sg) : gc (oTick g) 4 = gc g 4 + nI 1 := by
  show upd (gc g) 4 (gc g 4 + nI 1) 4 = _
  exact up_s _ _ _
theorem tk_c (g : Sg) {i : Nat} (h : i ≠ 4) : gc (oTick g) i = gc g i := by
  show upd (gc g) 4 (gc g 4 + nI 1) i = _
  exact up_n h
theorem rS_tick {f : Nat → Nat → Int32} {g : Sg} (h : rS f g) : rS f (oTick g) := by
  obtain ⟨h1, h2, h3, h4, h5⟩ := h
  refine ⟨?_, rW_of rfl (fun _ => rfl) h2, rC_of (fun i hi => tk_c g (by omega)) h3, rT_of rfl rfl h4, rM_of rfl rfl h5⟩
  exact fun k hk => h1 k hk
theorem oArr_00 (g : Sg) : oArr 0 g = g := rfl
theorem oSit_00 (g : Sg) : oSit 0 g = g := rfl
