def pfR (tx : Nat → Nat) (n : Nat) (g : Sg) : Int32 := if (pF tx n 61 0).1 = true then (if (rn tx n (pF tx n 61 0).2 0 0 g).1.1 = true then nI (pF tx n 61 0).2 else -4) else -100 - nI (pF tx n 61 0).2
def pfG (tx : Nat → Nat) (n : Nat) (g : Sg) : Sg := (rn tx n (pF tx n 61 0).2 0 0 g).2
def pfT (tx : Nat → Nat) (n : Nat) (g : Sg) (sT : Int32) : Int32 := if (pF tx n 61 0).1 = true ∧ (rn tx n (pF tx n 61 0).2 0 0 g).1.1 = false then nI (rn tx n (pF tx n 61 0).2 0 0 g).1.2.1 else sT
def pfE (tx : Nat → Nat) (n : Nat) (g : Sg) (sE : Int32) : Int32 := if (pF tx n 61 0).1 = true ∧ (rn tx n (pF tx n 61 0).2 0 0 g).1.1 = false then (rn tx n (pF tx n 61 0).2 0 0 g).1.2.2 else sE
def pfQ (tx : Nat → Nat) (n : Nat) (g : Sg) (h : Nat → Sg) (hn : Nat) (sT sE r : Int32) (fo : Nat → Nat → Int32) (go : Sg) (f0 : Nat → Nat → Int32) (g0 : Sg) (f1 : Nat → Nat → Int32) (g1 : Sg) (f2 : Nat → Nat → Int32) (g2 : Sg) (f3 : Nat → Nat → Int32) (g3 : Sg) (nx hno : Nat) (sTo sEo : Int32) : Prop :=
  r = pfR tx n g ∧ aQ (pfR tx n g) (pfG tx n g) g h hn fo go f0 g0 f1 g1 f2 g2 f3 g3 nx hno ∧ sTo = pfT tx n g sT ∧ sEo = pfE tx n g sE
theorem pf_neg : ∀ p : Nat, p ≤ 60 → (-100 : Int32) - nI p < nI 0 := by decide
section PFX
variable {tx : Nat → Nat} {n : Nat} {g : Sg} {h : Nat → Sg} {hn : Nat} {sT sE : Int32} {f f0 f1 f2 f3 fo : Nat → Nat → Int32} {go g0 g1 g2 g3 hc : Sg} {nx hno : Nat}
theorem pfX_1 {p : Nat} (q : ¬ (pF tx n 61 0).1 = true) (hp : p = (pF tx n 61 0).2) (hpn : p ≤ n) (h60 : n ≤ 60) (hs : sO f g) (hh : hI f0 g0 f1 g1 f2 g2 f3 g3 nx hn h) : pfQ tx n g h hn sT sE ((-100) - nI p) f g f0 g0 f1 g1 f2 g2 f3 g3 nx hn sT sE := by
  have e : pfR tx n g = (-100) - nI p := by unfold pfR; rw [if_neg q, hp]
  refine ⟨e.symm, ?_, (if_neg (fun z => q z.1)).symm, (if_neg (fun z => q z.1)).symm⟩
  rw [e]
  exact aQ_n (pf_neg p (by omega)) hs hh
theorem pfX_2 {th i k : Nat} {r : Int32} {o : Int32 × Sg} (q : (pF tx n 61 0).1 = true) (he : rn tx n (pF tx n 61 0).2 0 0 g = rn tx n ((pF tx n 61 0).2 - th) i th hc) (hl : th < (pF tx n 61 0).2) (hop : opK tx n i hc = o) (hr : r = o.1) (c : ¬ 0 ≤ r) (hs : sO f g) (hh : hI f0 g0 f1 g1 f2 g2 f3 g3 nx hn h) : pfQ tx n g h hn sT sE (-4) f g f0 g0 f1 g1 f2 g2 f3 g3 nx hn (nI th) r := by
  have hz : (opK tx n i hc).1 < 0 := by rw [hop, ← hr]; exact Int32.not_le.mp c
  have e : rn tx n (pF tx n 61 0).2 0 0 g = ((false, th, r), hc) := by
    rw [he, show (pF tx n 61 0).2 - th = (pF tx n 61 0).2 - th - 1 + 1 by omega, rn_f hz, hop, hr]
  have e2 : pfR tx n g = -4 := by unfold pfR; rw [if_pos q, e]; rfl
  refine ⟨e2.symm, ?_, ?_, ?_⟩
  · rw [e2]; exact aQ_n (by decide) hs hh
  · unfold pfT; rw [e]; exact (if_pos ⟨q, rfl⟩).symm
  · unfold pfE; rw [e]; exact (if_pos ⟨q, rfl⟩).symm
theorem rnE_s {th i : Nat} {r : Int32} {ct : Nat} {o : Int32 × Sg} (he : rn tx n ct 0 0 g = rn tx n (ct - th) i th hc) (hl : th < ct) (hop : opK tx n i hc = o) (hr : r = o.1) (c : 0 ≤ r) : rn tx n ct 0 0 g = rn tx n (ct - (th + 1)) (pTs tx n i).2.1 (th + 1) o.2 := by
  have hz : ¬ (opK tx n i hc).1 < 0 := by rw [hop, ← hr]; exact Int32.not_lt.mpr c
  rw [he, show ct - th = ct - (th + 1) + 1 by omega, rn_s hz, hop]
theorem pfX_3 {th i : Nat} {r : Int32} (q : (pF tx n 61 0).1 = true) (he : rn tx n (pF tx n 61 0).2 0 0 g = rn tx n ((pF tx n 61 0).2 - th) i th hc) (hl : (pF tx n 61 0).2 ≤ th) (hr : r = nI (pF tx n 61 0).2) (ha : aQ (nI (pF tx n 61 0).2) hc g h hn fo go f0 g0 f1 g1 f2 g2 f3 g3 nx hno) : pfQ tx n g h hn sT sE r fo go f0 g0 f1 g1 f2 g2 f3 g3 nx hno sT sE := by
  have e : rn tx n (pF tx n 61 0).2 0 0 g = ((true, th, 0), hc) := by
    rw [he, show (pF tx n 61 0).2 - th = 0 by omega]; rfl
  have e2 : pfR tx n g = nI (pF tx n 61 0).2 := by unfold pfR; rw [if_pos q, e]; rfl
  have e3 : pfG tx n g = hc := by unfold pfG; rw [e]
  refine ⟨hr.trans e2.symm, ?_, ?_, ?_⟩
  · rw [e2, e3]; exact ha
  · unfold pfT; rw [e]; exact (if_neg (fun z => by cases z.2)).symm
  · unfold pfE; rw [e]; exact (if_neg (fun z => by cases z.2)).symm
theorem opK_k {i : Nat} (hk : (pTs tx n i).2.2.1 = 107) : opK tx n i hc = opA hc (nI (pTs tx n i).2.2.2.1) (nI (pTs tx n i).2.2.2.2.1) (nI (pTs tx n i).2.2.2.2.2) := by
  unfold opK opT; rw [if_pos hk]
theorem opK_l {i : Nat} (hk : (pTs tx n i).2.2.1 = 108) : opK tx n i hc = opL hc (nI (pTs tx n i).2.2.2.2.2) := by
  unfold opK opT; rw [if_neg (by rw [hk]; decide), if_pos hk]
theorem opK_p {i : Nat} (hk : (pTs tx n i).2.2.1 = 46) : opK tx n i hc = opP hc (nI (pTs tx n i).2.2.2.2.2) := by
  unfold opK opT; rw [if_neg (by rw [hk]; decide), if_neg (by rw [hk]; decide)]
end PFX
