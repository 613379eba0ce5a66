theorem kIs_f1 {n : Nat} {x : Int32} (h : x < 0) : kIs n x = false := decide_eq_false (fun q => q.1 h)
theorem kIs_f2 {n : Nat} {x : Int32} (h : ¬ x < nI n) : kIs n x = false := decide_eq_false (fun q => h q.2)
theorem kIs_t {n : Nat} {x : Int32} (h1 : ¬ x < 0) (h2 : x < nI n) : kIs n x = true := decide_eq_true ⟨h1, h2⟩
theorem kIs_tn {n j : Nat} (hn : n < 2 ^ 31) (h : j < n) : kIs n (nI j) = true := by rw [kIs_n hn (by omega)]; exact decide_eq_true h
theorem kIs_fn {n j : Nat} (hn : n < 2 ^ 31) (hj : j < 2 ^ 31) (h : ¬ j < n) : kIs n (nI j) = false := by rw [kIs_n hn hj]; exact decide_eq_false h
def stA (sT sE x : Int32) : Int32 := if kIs 2 x = true then if sT = -1 then -5 else if x = nI 0 then sT else sE else -2
def rsA (kp : Bool) (g : Sg) : Int32 := if kp = true then nI (nT g) else -5
def kA (g : Sg) (x w : Int32) : Int32 := if kIs (nK g) x = true then if kIs 9 w = true then tellV g x.toNatClampNeg w.toNatClampNeg else -2 else -1
def seA (g : Sg) (x : Int32) : Int32 := if kIs 12 x = true then sAt g x else -1
def waA (g : Sg) (x : Int32) : Int32 := if x < 0 then -2 else wAt g x
def reA (g : Sg) (x y : Int32) : Int32 := if (kIs (nK g) x && kIs (nK g) y) = true then if x = y then -2 else why g x.toNatClampNeg y.toNatClampNeg else -1
def coA (g : Sg) (hn n : Nat) (x : Int32) : Int32 := if kIs 17 x = true then if x = nI 15 then nI hn else if x = nI 16 then nI n else acc g x.toNatClampNeg else -2
def dsA (g : Sg) (x y : Int32) : Int32 := if (isIn x 1 9 && isIn y 0 120) = true then nI (cnt (saP g ((x.toNatClampNeg * 121 + y.toNatClampNeg) * 25)) (nK g)) else -2
def uQ (g : Sg) (h : Nat → Sg) (hn : Nat) (r : Int32) (fo : Nat → Nat → Int32) (go : Sg) (f0 : Nat → Nat → Int32) (g0 : Sg) (f1 : Nat → Nat → Int32) (g1 : Sg) (f2 : Nat → Nat → Int32) (g2 : Sg) (f3 : Nat → Nat → Int32) (g3 : Sg) (nx hno : Nat) : Prop :=
  r = (if hn = 0 then -5 else nI (hn - 1)) ∧ sO fo go ∧ go = (if hn = 0 then g else h (hn - 1)) ∧ hno = hn - 1 ∧ hI f0 g0 f1 g1 f2 g2 f3 g3 nx hno h
theorem uQ_n {f0 f1 f2 f3 fo : Nat → Nat → Int32} {g0 g1 g2 g3 g : Sg} {nx hn : Nat} {h : Nat → Sg} (z : hn = 0) (hs : sO fo g) (hh : hI f0 g0 f1 g1 f2 g2 f3 g3 nx hn h) : uQ g h hn (-5) fo g f0 g0 f1 g1 f2 g2 f3 g3 nx hn := ⟨(if_pos z).symm, hs, (if_pos z).symm, by omega, hh⟩
theorem uQ_y {f0 f1 f2 f3 fo : Nat → Nat → Int32} {g0 g1 g2 g3 g go : Sg} {nx hn : Nat} {h : Nat → Sg} (z : 1 ≤ hn) (hb : hI f0 g0 f1 g1 f2 g2 f3 g3 nx (hn - 1) h ∧ sO fo go ∧ go = h (hn - 1)) : uQ g h hn (nI (hn - 1)) fo go f0 g0 f1 g1 f2 g2 f3 g3 nx (hn - 1) := ⟨(if_neg (by omega)).symm, hb.2.1, hb.2.2.trans (if_neg (by omega)).symm, rfl, hb.1⟩
theorem stA_2 {sT sE x : Int32} (h : kIs 2 x = false) : stA sT sE x = -2 := if_neg (by rw [h]; decide)
theorem stA_5 {sT sE x : Int32} (h : kIs 2 x = true) (h2 : sT = -1) : stA sT sE x = -5 := (if_pos h).trans (if_pos h2)
theorem stA_0 {sT sE x : Int32} (h : kIs 2 x = true) (h2 : ¬ sT = -1) (h3 : x = nI 0) : stA sT sE x = sT := (if_pos h).trans ((if_neg h2).trans (if_pos h3))
theorem stA_1 {sT sE x : Int32} (h : kIs 2 x = true) (h2 : ¬ sT = -1) (h3 : ¬ x = nI 0) : stA sT sE x = sE := (if_pos h).trans ((if_neg h2).trans (if_neg h3))
theorem kA_1 {g : Sg} {x w : Int32} (h : kIs (nK g) x = false) : kA g x w = -1 := if_neg (by rw [h]; decide)
theorem kA_2 {g : Sg} {x w : Int32} (h : kIs (nK g) x = true) (h2 : kIs 9 w = false) : kA g x w = -2 := (if_pos h).trans (if_neg (by rw [h2]; decide))
theorem kA_3 {g : Sg} {k w : Nat} (h : kIs (nK g) (nI k) = true) (hk : k < 2 ^ 31) (h2 : w < 9) : kA g (nI k) (nI w) = tellV g k w := by
  unfold kA
  rw [if_pos h, if_pos (kIs_tn (by decide) h2), nI_clamp hk, nI_clamp (by omega)]
theorem seA_1 {g : Sg} {x : Int32} (h : kIs 12 x = false) : seA g x = -1 := if_neg (by rw [h]; decide)
theorem seA_2 {g : Sg} {x : Int32} (h : kIs 12 x = true) : seA g x = sAt g x := if_pos h
theorem reA_1 {g : Sg} {x y : Int32} (h : kIs (nK g) x = false ∨ kIs (nK g) y = false) : reA g x y = -1 := if_neg (by rcases h with h | h <;> rw [h] <;> simp)
theorem reA_2 {g : Sg} {x y : Int32} (h : kIs (nK g) x = true) (h2 : kIs (nK g) y = true) (e : x = y) : reA g x y = -2 := (if_pos (by rw [h, h2]; rfl)).trans (if_pos e)
theorem reA_3 {g : Sg} {k o : Nat} (h : kIs (nK g) (nI k) = true) (h2 : kIs (nK g) (nI o) = true) (hk : k < 2 ^ 31) (ho : o < 2 ^ 31) (e : ¬ k = o) : reA g (nI k) (nI o) = why g k o := by
  unfold reA
  rw [if_pos (by rw [h, h2]; rfl), if_neg (fun z => e ((nI_eq hk ho).mp z)), nI_clamp hk, nI_clamp ho]
theorem coA_2 {g : Sg} {hn n : Nat} {x : Int32} (h : kIs 17 x = false) : coA g hn n x = -2 := if_neg (by rw [h]; decide)
theorem coA_15 {g : Sg} {hn n : Nat} : coA g hn n (nI 15) = nI hn := (if_pos (kIs_tn (by decide) (by decide))).trans (if_pos rfl)
theorem coA_16 {g : Sg} {hn n : Nat} : coA g hn n (nI 16) = nI n := (if_pos (kIs_tn (by decide) (by decide))).trans ((if_neg (by decide)).trans (if_pos rfl))
theorem coA_w {g : Sg} {hn n w : Nat} (h : w < 15) : coA g hn n (nI w) = acc g w := by
  unfold coA
  rw [if_pos (kIs_tn (by decide) (by omega)), if_neg (fun z => absurd ((nI_eq (by omega) (by decide)).mp z) (by omega)), if_neg (fun z => absurd ((nI_eq (by omega) (by decide)).mp z) (by omega)), nI_clamp (by omega)]
theorem dsA_1 {g : Sg} {x y : Int32} (h : isIn x 1 9 = false ∨ isIn y 0 120 = false) : dsA g x y = -2 := if_neg (by rcases h with h | h <;> rw [h] <;> simp)
theorem dsA_2 {g : Sg} {x y : Nat} (h : isIn (nI x) 1 9 = true) (h2 : isIn (nI y) 0 120 = true) (hx : x < 2 ^ 31) (hy : y < 2 ^ 31) : dsA g (nI x) (nI y) = nI (cnt (saP g ((x * 121 + y) * 25)) (nK g)) := by
  unfold dsA
  rw [if_pos (by rw [h, h2]; rfl), nI_clamp hx, nI_clamp hy]
