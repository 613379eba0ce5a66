section FV
variable {tx : Nat → Nat} {n q k i p so : Nat} {mo : Bool} {h : Nat → Sg} {hn hno th ct : Nat} {g gd gd' hc : Sg} {vo hso v hs : Nat → Int32} {a r r2 sT sE iS sN sR : Int32}
theorem pF_pos {f : Nat} (a : (pF tx n f i).1 = true) : 0 < (pF tx n f i).2 := by
  cases f with
  | zero => cases a
  | succ f =>
    by_cases z : (pTs tx n i).1 = true
    · by_cases z2 : n ≤ (pTs tx n i).2.1
      · rw [pF_2 z z2]; exact Nat.one_pos
      · by_cases z3 : (pF tx n f (pTs tx n i).2.1).1 = true
        · rw [pF_3 z z2 z3]; exact Nat.succ_pos _
        · rw [pF_4 z z2 z3] at a; cases a
    · rw [pF_1 z] at a; cases a
theorem pF_le : ∀ {f i : Nat}, (pF tx n f i).1 = true → (pF tx n f i).2 ≤ f
  | 0, _, a => by cases a
  | f + 1, i, a => by
    by_cases z : (pTs tx n i).1 = true
    · by_cases z2 : n ≤ (pTs tx n i).2.1
      · rw [pF_2 z z2]; exact Nat.succ_le_succ (Nat.zero_le _)
      · by_cases z3 : (pF tx n f (pTs tx n i).2.1).1 = true
        · rw [pF_3 z z2 z3]; exact Nat.succ_le_succ (pF_le z3)
        · rw [pF_4 z z2 z3] at a; cases a
    · rw [pF_1 z] at a; cases a
def fV (tx : Nat → Nat) (n q : Nat) (mo : Bool) (k i : Nat) : Prop :=
  (mo = true → pRe tx n k (61 - k) i ∧ pTs tx n i = pTh tx n q ∧ 2 * k ≤ i ∧ i ≤ n) ∧ (mo = false → (q = n → (pF tx n 61 0).1 = true) ∧ (¬ q = n → (pF tx n 61 0).1 = false ∧ (pF tx n 61 0).2 = q)) ∧ q ≤ n
theorem fV_0 (tx : Nat → Nat) (n : Nat) : fV tx n 0 true 0 0 := ⟨fun _ => ⟨pRe_0 tx n, pTs_0, Nat.le_refl _, Nat.zero_le _⟩, (fun a => by cases a), Nat.zero_le _⟩
theorem fV_f (h60 : n ≤ 60) (h : fV tx n q true k i) (c : (pTh tx n q).1 = false) : ((pF tx n 61 0).1 = true → nI (pTh tx n q).2.1 = -5) ∧ ((pF tx n 61 0).1 = false → nI (pTh tx n q).2.1 = nI (pF tx n 61 0).2 ∧ (pF tx n 61 0).2 ≤ n) := by
  obtain ⟨a1, a2, a3, a4⟩ := h.1 rfl
  rw [show 61 - k = 60 - k + 1 by omega] at a1
  have e := pRe_f a1 (by rw [a2]; exact c)
  rw [a2] at e
  refine ⟨fun z => ?_, fun _ => ⟨by rw [e.2], by rw [e.2]; exact pTh_le h.2.2⟩⟩
  rw [e.1] at z
  cases z
theorem fV_s (h60 : n ≤ 60) (h : fV tx n q true k i) (c : (pTh tx n q).1 = true) (hso : so = if cd tx n (pTh tx n q).2.1 = 59 then (pTh tx n q).2.1 + 1 else (pTh tx n q).2.1) : fV tx n so (decide (cd tx n (pTh tx n q).2.1 = 59)) (k + 1) (pTs tx n i).2.1 := by
  obtain ⟨a1, a2, a3, a4⟩ := h.1 rfl
  rw [show 61 - k = 60 - k + 1 by omega] at a1
  have c2 : (pTs tx n i).1 = true := by rw [a2]; exact c
  have ok := pTs_ok c2
  have hs : (pTh tx n q).2.1 = (pTs tx n i).2.1 := by rw [a2]
  rw [hs] at hso ⊢
  by_cases d : cd tx n (pTs tx n i).2.1 = 59
  · have dl := cd_lt d (by decide)
    rw [if_pos d] at hso
    subst hso
    rw [decide_eq_true d]
    refine ⟨fun _ => ⟨?_, pTs_s (by omega) d, by omega, by omega⟩, (fun z => by cases z), by omega⟩
    rw [show 61 - (k + 1) = 60 - k by omega]
    exact pRe_s a1 c2 (by omega)
  · rw [if_neg d] at hso
    subst hso
    rw [decide_eq_false d]
    refine ⟨(fun z => by cases z), fun _ => ⟨fun z => ?_, fun z => ?_⟩, by omega⟩
    · exact (pRe_e a1 c2 (by omega)).1
    · have b := pRe_s a1 c2 (by omega)
      rw [show 60 - k = 59 - k + 1 by omega] at b
      have f := pTs_f (tx := tx) (n := n) (i := (pTs tx n i).2.1) (by omega) d
      have e := pRe_f b (by rw [f])
      rw [f] at e
      exact e
theorem fV_e (h : fV tx n q false k i) (c : q = n) : ((pF tx n 61 0).1 = true → (-5 : Int32) = -5) ∧ ((pF tx n 61 0).1 = false → (-5 : Int32) = nI (pF tx n 61 0).2 ∧ (pF tx n 61 0).2 ≤ n) := by
  refine ⟨fun _ => rfl, fun z => ?_⟩
  rw [(h.2.1 rfl).1 c] at z
  cases z
theorem fV_n (h : fV tx n q false k i) (c : ¬ q = n) : ((pF tx n 61 0).1 = true → nI q = -5) ∧ ((pF tx n 61 0).1 = false → nI q = nI (pF tx n 61 0).2 ∧ (pF tx n 61 0).2 ≤ n) := by
  have e := (h.2.1 rfl).2 c
  refine ⟨fun z => ?_, fun _ => ⟨by rw [e.2], by rw [e.2]; exact h.2.2⟩⟩
  rw [e.1] at z
  cases z
theorem fV_k (h60 : n ≤ 60) (h : fV tx n q true k i) : k ≤ 30 := by
  obtain ⟨a1, a2, a3, a4⟩ := h.1 rfl
  omega
theorem pLn (h : pLeft tx n ct th i) (q : th < ct) : (cd tx n (pTs tx n i).2.1 = 59 → th + 1 < ct) ∧ (¬ cd tx n (pTs tx n i).2.1 = 59 → ct ≤ th + 1) := by
  have z := pLeft_t h q
  have ok := pTs_ok z
  obtain ⟨f, h1, h2⟩ := h.2.2 q
  cases f with
  | zero => cases h1
  | succ f =>
    by_cases z2 : n ≤ (pTs tx n i).2.1
    · rw [pF_2 z z2] at h2
      have h2 : 1 + th = ct := h2
      exact ⟨fun d => absurd (cd_lt d (by decide)) (by omega), fun _ => by omega⟩
    · by_cases z3 : (pF tx n f (pTs tx n i).2.1).1 = true
      · rw [pF_3 z z2 z3] at h2
        have h2 : (pF tx n f (pTs tx n i).2.1).2 + 1 + th = ct := h2
        have hp := pF_pos z3
        refine ⟨fun _ => by omega, fun d => ?_⟩
        cases f with
        | zero => cases z3
        | succ f =>
          have e := pTs_f (tx := tx) (n := n) (i := (pTs tx n i).2.1) (by omega) d
          rw [pF_1 (by rw [e]; exact Bool.false_ne_true)] at z3
          cases z3
      · rw [pF_4 z z2 z3] at h1
        cases h1
/-- at the head of the loop over the things -/
def pV (tx : Nat → Nat) (n ct th i q : Nat) (mo : Bool) : Prop := pLeft tx n ct th i ∧ (mo = true → th < ct ∧ pTs tx n i = pTh tx n q) ∧ (mo = false → ct ≤ th) ∧ q ≤ n
theorem pV_0 (h : (pF tx n 61 0).1 = true) : pV tx n (pF tx n 61 0).2 0 0 0 true := ⟨pLeft_0 h, fun _ => ⟨pF_pos h, pTs_0⟩, (fun a => by cases a), Nat.zero_le _⟩
theorem pV_t (h : pV tx n ct th i q true) : (pTh tx n q).1 = true := by
  rw [← (h.2.1 rfl).2]
  exact pLeft_t h.1 (h.2.1 rfl).1
theorem pV_e (h : pV tx n ct th i q true) : pTs tx n i = pTh tx n q := (h.2.1 rfl).2
theorem pV_l (h : pV tx n ct th i q true) : th < ct := (h.2.1 rfl).1
theorem pV_n (h : pV tx n ct th i q false) : th = ct := Nat.le_antisymm h.1.2.1 (h.2.2.1 rfl)
theorem pV_s (h : pV tx n ct th i q true) (hso : so = if cd tx n (pTh tx n q).2.1 = 59 then (pTh tx n q).2.1 + 1 else (pTh tx n q).2.1) : pV tx n ct (th + 1) (pTs tx n i).2.1 so (decide (cd tx n (pTh tx n q).2.1 = 59)) := by
  have l := pV_l h
  have e := pV_e h
  have ok := pTs_ok (pLeft_t h.1 l)
  have hs : (pTh tx n q).2.1 = (pTs tx n i).2.1 := by rw [e]
  rw [hs] at hso ⊢
  have w := pLn h.1 l
  refine ⟨pLeft_s h.1 l, fun d => ?_, fun d => w.2 (of_decide_eq_false d), ?_⟩
  · have d := of_decide_eq_true d
    rw [if_pos d] at hso
    rw [hso]
    exact ⟨w.1 d, pTs_s (by omega) d⟩
  · by_cases d : cd tx n (pTs tx n i).2.1 = 59
    · rw [if_pos d] at hso
      have := cd_lt d (by decide)
      omega
    · rw [if_neg d] at hso
      omega
theorem mQ_neg (ha : a < nI 0) (hq : mQ a gd g h hn vo hso hno) : mQ a gd' g h hn vo hso hno := by
  obtain ⟨h1, h2, h3⟩ := hq
  rw [if_pos ha] at h1
  exact ⟨by rw [if_pos ha]; exact h1, h2, h3⟩
theorem mpX_1 (q : ¬ (pF tx n 61 0).1 = true) (hpn : (pF tx n 61 0).2 ≤ n) (h60 : n ≤ 60) (hv : rV v g) (hm : mH hs hn h) (hst : mS iS sN sR sT sE) : (-100) - nI (pF tx n 61 0).2 = pfR tx n g ∧ mQ (pfR tx n g) (pfG tx n g) g h hn v hs hn ∧ mS iS sN sR (pfT tx n g sT) (pfE tx n g sE) := by
  have e : pfR tx n g = (-100) - nI (pF tx n 61 0).2 := by unfold pfR; rw [if_neg q]
  refine ⟨e.symm, ?_, ?_⟩
  · rw [e]; exact mQ_n (pf_neg _ (by omega)) hv hm
  · unfold pfT pfE
    rw [if_neg (fun z => q z.1), if_neg (fun z => q z.1)]
    exact hst
theorem mpX_2 {o : Int32 × Sg} (q : (pF tx n 61 0).1 = true) (he : rn tx n (pF tx n 61 0).2 0 0 g = rn tx n ((pF tx n 61 0).2 - th) i th hc) (hl : th < (pF tx n 61 0).2) (hop : opK tx n i hc = o) (hr : r = o.1) (c : ¬ 0 ≤ r) (hw : r2 = -4 ∧ mQ (-4) gd g h hn vo hso hno) : r2 = pfR tx n g ∧ mQ (pfR tx n g) (pfG tx n g) g h hn vo hso hno ∧ mS (nI 1) (nI th) r (pfT tx n g sT) (pfE tx n g sE) := by
  have hz : (opK tx n i hc).1 < 0 := by rw [hop, ← hr]; exact Int32.not_le.mp c
  have e : rn tx n (pF tx n 61 0).2 0 0 g = ((false, th, r), hc) := by
    rw [he, show (pF tx n 61 0).2 - th = (pF tx n 61 0).2 - th - 1 + 1 by omega, rn_f hz, hop, hr]
  have e2 : pfR tx n g = -4 := by unfold pfR; rw [if_pos q, e]; rfl
  have e3 : pfT tx n g sT = nI th := by unfold pfT; rw [e]; exact if_pos ⟨q, rfl⟩
  have e4 : pfE tx n g sE = r := by unfold pfE; rw [e]; exact if_pos ⟨q, rfl⟩
  have := pF_le q
  rw [e2, e3, e4]
  exact ⟨hw.1, mQ_neg ng4 hw.2, Or.inr ⟨by decide, nI_ne1 (by omega), rfl, rfl⟩⟩
theorem mpX_3 (q : (pF tx n 61 0).1 = true) (he : rn tx n (pF tx n 61 0).2 0 0 g = rn tx n ((pF tx n 61 0).2 - th) i th hc) (hl : th = (pF tx n 61 0).2) (hw : r2 = nI th ∧ mQ (nI th) hc g h hn vo hso hno) (hst : mS iS sN sR sT sE) : r2 = pfR tx n g ∧ mQ (pfR tx n g) (pfG tx n g) g h hn vo hso hno ∧ mS iS sN sR (pfT tx n g sT) (pfE tx n g sE) := by
  have e : rn tx n (pF tx n 61 0).2 0 0 g = ((true, th, 0), hc) := by
    rw [he, show (pF tx n 61 0).2 - th = 0 by omega]; rfl
  have e2 : pfR tx n g = nI th := by unfold pfR; rw [if_pos q, e, hl]; rfl
  have e3 : pfG tx n g = hc := by unfold pfG; rw [e]
  have e4 : pfT tx n g sT = sT := by unfold pfT; rw [e]; exact if_neg (fun z => by cases z.2)
  have e5 : pfE tx n g sE = sE := by unfold pfE; rw [e]; exact if_neg (fun z => by cases z.2)
  rw [e2, e3, e4, e5]
  exact ⟨hw.1, hw.2, hst⟩
end FV
