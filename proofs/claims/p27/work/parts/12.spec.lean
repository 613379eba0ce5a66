abbrev Sg : Type := (Nat × Nat × Nat) × (Nat → Nat) × (Nat → Nat) × (Nat → Nat) × (Nat → Nat) × (Nat → Nat) × (Nat → Nat → Int32) × (Nat → Int32)
def nK (g : Sg) : Nat := g.1.1
def nT (g : Sg) : Nat := g.1.2.1
def nW (g : Sg) : Nat := g.1.2.2
def gT (g : Sg) : Nat → Nat := g.2.1
def gW (g : Sg) : Nat → Nat := g.2.2.1
def gC (g : Sg) : Nat → Nat := g.2.2.2.1
def gA (g : Sg) : Nat → Nat := g.2.2.2.2.1
def gD (g : Sg) : Nat → Nat := g.2.2.2.2.2.1
def gX (g : Sg) : Nat → Nat → Int32 := g.2.2.2.2.2.2.1
def gc (g : Sg) : Nat → Int32 := g.2.2.2.2.2.2.2
section SGM
variable {a b c : Nat} {T W C A D : Nat → Nat} {X : Nat → Nat → Int32} {k : Nat → Int32}
theorem nK_mk : nK ((a, b, c), T, W, C, A, D, X, k) = a := rfl
theorem nT_mk : nT ((a, b, c), T, W, C, A, D, X, k) = b := rfl
theorem nW_mk : nW ((a, b, c), T, W, C, A, D, X, k) = c := rfl
theorem gT_mk : gT ((a, b, c), T, W, C, A, D, X, k) = T := rfl
theorem gW_mk : gW ((a, b, c), T, W, C, A, D, X, k) = W := rfl
theorem gC_mk : gC ((a, b, c), T, W, C, A, D, X, k) = C := rfl
theorem gA_mk : gA ((a, b, c), T, W, C, A, D, X, k) = A := rfl
theorem gD_mk : gD ((a, b, c), T, W, C, A, D, X, k) = D := rfl
theorem gX_mk : gX ((a, b, c), T, W, C, A, D, X, k) = X := rfl
theorem gc_mk : gc ((a, b, c), T, W, C, A, D, X, k) = k := rfl
end SGM
def un (f : Nat → Nat) (k v : Nat) : Nat → Nat := fun j => if j = k then v else f j
def ux (f : Nat → Nat → Int32) (w k : Nat) (v : Int32) : Nat → Nat → Int32 := fun i j => if i = w ∧ j = k then v else f i j
theorem un_s (f : Nat → Nat) (k v : Nat) : un f k v k = v := if_pos rfl
theorem un_n {f : Nat → Nat} {k v j : Nat} (h : j ≠ k) : un f k v j = f j := if_neg h
theorem up_s (f : Nat → Int32) (k : Nat) (v : Int32) : upd f k v k = v := if_pos rfl
theorem up_n {f : Nat → Int32} {k j : Nat} {v : Int32} (h : j ≠ k) : upd f k v j = f j := if_neg h
def key (g : Sg) (k : Nat) : Nat := (gC g k * 121 + gA g k) * 25 + 24 - k
/-- wrong at a seat: the lower one is the greater king -/
def wrg (g : Sg) (i : Nat) : Bool := decide (key g (gT g i) < key g (gT g (i + 1)))
def fw (g : Sg) : Nat := ff (wrg g) (nT g - 1)
def sl (g : Sg) (i : Nat) : Bool := decide (ff (fun j => decide (key g (gT g j) < key g (gT g i))) i < i)
def oSw (g : Sg) (i : Nat) : Sg := ((nK g, nT g, nW g), un (un (gT g) i (gT g (i + 1))) (i + 1) (gT g i), gW g, gC g, gA g, gD g, gX g, upd (gc g) 10 (gc g 10 + nI 1))
def oEnv : Nat → Sg → Sg
  | 0, g => g
  | n + 1, g => if fw g < nT g - 1 then oEnv n (oSw g (fw g)) else g
def oEnvN : Nat → Sg → Nat
  | 0, _ => 0
  | n + 1, g => if fw g < nT g - 1 then oEnvN n (oSw g (fw g)) + 1 else 0
/-- a king's place -/
def plT (g : Sg) (k : Nat) : Nat := ff (fun j => decide (gT g j = k)) (nT g)
def plW (g : Sg) (k : Nat) : Nat := ff (fun j => decide (gW g j = k)) (nW g)
def cnt (p : Nat → Bool) : Nat → Nat
  | 0 => 0
  | n + 1 => cnt p n + if p n = true then 1 else 0
def smI (f : Nat → Int32) : Nat → Int32
  | 0 => nI 0
  | n + 1 => smI f n + f n
/-- a round's toasts (of seats below t) and slights (of seats below s) -/
def oTo (g : Sg) (t s : Nat) : Sg := ((nK g, nT g, nW g), gT g, gW g, gC g, gA g, gD g,
  fun w k => if w = 1 ∧ plT g k < t ∧ plT g k < nT g then gX g w k + nI 1 else if w = 2 ∧ plT g k < s ∧ plT g k < nT g ∧ sl g (plT g k) = true then gX g w k + nI 1 else gX g w k,
  fun i => if i = 7 then gc g 7 + nI 1 else if i = 8 then gc g 8 + nI t else if i = 9 then gc g 9 + nI (cnt (sl g) s) else gc g i)
def ang (g : Sg) (i : Nat) : Bool := !(decide (gX g 2 (gT g i) < gc g 3)) && sl g i
def nDel (m : Nat → Nat) (i : Nat) : Nat → Nat := fun j => if i ≤ j then m (j + 1) else m j
def oRm (g : Sg) (i : Nat) : Sg := ((nK g, nT g - 1, nW g), nDel (gT g) i, gW g, gC g, gA g, un (gD g) (gT g i) 3, ux (gX g) 3 (gT g i) (nI 1), upd (gc g) 6 (gc g 6 + nI 1))
def oAng (b : Nat → Bool) : Nat → Sg → Sg
  | 0, g => g
  | i + 1, g => oAng b i (if b i = true then oRm g i else g)
def oRnd (g : Sg) : Sg :=
  let h := oEnv (gc g 2).toNatClampNeg (oTo g (nT g) (nT g))
  oAng (ang h) (nT h) h
def bst (p : Nat → Bool) (ky : Nat → Nat) : Nat → Nat
  | 0 => 24
  | k + 1 => if p k = true ∧ (bst p ky k = 24 ∨ ky (bst p ky k) < ky k) then k else bst p ky k
def arv (g : Sg) (k : Nat) : Bool := decide (gD g k = 0) && decide (gX g 0 k = gc g 4)
def nx (g : Sg) : Nat := bst (arv g) (key g) (nK g)
def oAr1 (g : Sg) (k : Nat) : Sg := ((nK g, nT g, nW g + 1), gT g, un (gW g) (nW g) k, gC g, gA g, un (gD g) k 1, gX g, gc g)
def oArr : Nat → Sg → Sg
  | 0, g => g
  | n + 1, g => if nx g = 24 then g else oArr n (oAr1 g (nx g))
def oSi1 (g : Sg) : Sg := ((nK g, nT g + 1, nW g - 1), un (gT g) (nT g) (gW g 0), nDel (gW g) 0, gC g, gA g, un (gD g) (gW g 0) 2, gX g, gc g)
def oSit : Nat → Sg → Sg
  | 0, g => g
  | n + 1, g => if nW g = 0 then g else oSit n (oSi1 g)
def due (g : Sg) : Bool := decide ((gc g 4 + nI 1) - (gc g 4 + nI 1) / gc g 1 * gc g 1 = nI 0)
def oSit' (g : Sg) : Sg := oSit ((gc g 0).toNatClampNeg - nT g) g
def oArr' (g : Sg) : Sg := oArr (nK g) g
def oTick (g : Sg) : Sg := ((nK g, nT g, nW g), gT g, gW g, gC g, gA g, gD g, gX g, upd (gc g) 4 (gc g 4 + nI 1))
def oMin (g : Sg) : Sg :=
  let h := oSit' (oArr' g)
  oTick (if due h = true then oRnd h else h)
def dueN (g : Sg) : Nat := if due (oSit' (oArr' g)) = true then 1 else 0
def oPass : Nat → Sg → Sg
  | 0, g => g
  | n + 1, g => oMin (oPass n g)
def oPassN : Nat → Sg → Nat
  | 0, _ => 0
  | n + 1, g => oPassN n g + dueN (oPass n g)
def oAnn (g : Sg) (c a : Nat) (m : Int32) : Sg := ((nK g + 1, nT g, nW g), gT g, gW g, un (gC g) (nK g) c, un (gA g) (nK g) a, gD g, ux (gX g) 0 (nK g) m, gc g)
def oLvT (g : Sg) (k : Nat) : Sg := ((nK g, nT g - 1, nW g), nDel (gT g) (plT g k), gW g, gC g, gA g, un (gD g) k 3, gX g, gc g)
def oLvW (g : Sg) (k : Nat) : Sg := ((nK g, nT g, nW g - 1), gT g, nDel (gW g) (plW g k), gC g, gA g, un (gD g) k 3, gX g, gc g)
def oLv0 (g : Sg) (k : Nat) : Sg := ((nK g, nT g, nW g), gT g, gW g, gC g, gA g, un (gD g) k 3, gX g, gc g)
def oLv (g : Sg) (k : Nat) : Sg := if gD g k = 2 then oLvT g k else if gD g k = 1 then oLvW g k else oLv0 g k
def oSet (g : Sg) (w : Nat) (v : Int32) : Sg := ((nK g, nT g, nW g), gT g, gW g, gC g, gA g, gD g, gX g, upd (gc g) w v)
/-- what holds in every state -/
def Ok (g : Sg) : Prop :=
  (nK g ≤ 24 ∧ nT g ≤ 12 ∧ nW g ≤ 24) ∧
  (∀ j, j < nT g → gT g j < nK g ∧ gD g (gT g j) = 2) ∧
  (∀ i j, i < nT g → j < nT g → gT g i = gT g j → i = j) ∧
  (∀ j, j < nW g → gW g j < nK g ∧ gD g (gW g j) = 1) ∧
  (∀ i j, i < nW g → j < nW g → gW g i = gW g j → i = j) ∧
  (∀ k, k < nK g → gD g k = 2 → ∃ j, j < nT g ∧ gT g j = k) ∧
  (∀ k, k < nK g → gD g k = 1 → ∃ j, j < nW g ∧ gW g j = k) ∧
  (∀ k, k < nK g → gD g k ≤ 3 ∧ 1 ≤ gC g k ∧ gC g k ≤ 9 ∧ gA g k ≤ 120) ∧
  (∀ k, nK g ≤ k → gD g k = 0 ∧ gX g 1 k = nI 0 ∧ gX g 2 k = nI 0 ∧ gX g 3 k = nI 0) ∧
  (∀ k, k < nK g → gX g 3 k = nI 0 ∨ (gX g 3 k = nI 1 ∧ gD g k = 3)) ∧
  (∃ e, gc g 0 = nI e ∧ 1 ≤ e ∧ e ≤ 12 ∧ nT g ≤ e) ∧
  (∃ e, gc g 1 = nI e ∧ 1 ≤ e ∧ e ≤ 60) ∧
  (∃ e, gc g 2 = nI e ∧ e ≤ 9) ∧
  (gc g 8 = smI (gX g 1) (nK g) ∧ gc g 9 = smI (gX g 2) (nK g) ∧ gc g 6 = smI (gX g 3) (nK g))
theorem Ok.n {g : Sg} (h : Ok g) : nK g ≤ 24 ∧ nT g ≤ 12 ∧ nW g ≤ 24 := h.1
theorem Ok.t {g : Sg} (h : Ok g) : ∀ j, j < nT g → gT g j < nK g ∧ gD g (gT g j) = 2 := h.2.1
theorem Ok.ti {g : Sg} (h : Ok g) : ∀ i j, i < nT g → j < nT g → gT g i = gT g j → i = j := h.2.2.1
theorem Ok.w {g : Sg} (h : Ok g) : ∀ j, j < nW g → gW g j < nK g ∧ gD g (gW g j) = 1 := h.2.2.2.1
theorem Ok.wi {g : Sg} (h : Ok g) : ∀ i j, i < nW g → j < nW g → gW g i = gW g j → i = j := h.2.2.2.2.1
theorem Ok.tx {g : Sg} (h : Ok g) : ∀ k, k < nK g → gD g k = 2 → ∃ j, j < nT g ∧ gT g j = k := h.2.2.2.2.2.1
theorem Ok.wx {g : Sg} (h : Ok g) : ∀ k, k < nK g → gD g k = 1 → ∃ j, j < nW g ∧ gW g j = k := h.2.2.2.2.2.2.1
theorem Ok.k {g : Sg} (h : Ok g) : ∀ k, k < nK g → gD g k ≤ 3 ∧ 1 ≤ gC g k ∧ gC g k ≤ 9 ∧ gA g k ≤ 120 := h.2.2.2.2.2.2.2.1
theorem Ok.z {g : Sg} (h : Ok g) : ∀ k, nK g ≤ k → gD g k = 0 ∧ gX g 1 k = nI 0 ∧ gX g 2 k = nI 0 ∧ gX g 3 k = nI 0 := h.2.2.2.2.2.2.2.2.1
theorem Ok.a {g : Sg} (h : Ok g) : ∀ k, k < nK g → gX g 3 k = nI 0 ∨ (gX g 3 k = nI 1 ∧ gD g k = 3) := h.2.2.2.2.2.2.2.2.2.1
theorem Ok.c0 {g : Sg} (h : Ok g) : ∃ e, gc g 0 = nI e ∧ 1 ≤ e ∧ e ≤ 12 ∧ nT g ≤ e := h.2.2.2.2.2.2.2.2.2.2.1
theorem Ok.c1 {g : Sg} (h : Ok g) : ∃ e, gc g 1 = nI e ∧ 1 ≤ e ∧ e ≤ 60 := h.2.2.2.2.2.2.2.2.2.2.2.1
theorem Ok.c2 {g : Sg} (h : Ok g) : ∃ e, gc g 2 = nI e ∧ e ≤ 9 := h.2.2.2.2.2.2.2.2.2.2.2.2.1
theorem Ok.s {g : Sg} (h : Ok g) : gc g 8 = smI (gX g 1) (nK g) ∧ gc g 9 = smI (gX g 2) (nK g) ∧ gc g 6 = smI (gX g 3) (nK g) := h.2.2.2.2.2.2.2.2.2.2.2.2.2
