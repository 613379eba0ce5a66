abbrev KBS : Type := Bool × Int32 × Int32 × (Nat → Nat → Int32) × Sg × (Nat → Nat → Int32) × Sg × (Nat → Nat → Int32) × Sg × (Nat → Nat → Int32) × Sg × (Nat → Nat → Int32) × Sg × (Nat → Nat → Int32) × Sg × (Nat → Nat → Int32) × Sg × Nat × Nat × Nat × Nat × Int32 × Int32 × Int32 × Int32 × (Nat → Int32) × (Nat → Sg) × (Nat → Nat)
/-- the cells of a banquet at the addresses a 0 .. a 60 -/
def bW (cI cC cS : ClassId) (a : Nat → Nat) (u : KBS) : va_W := [((a 0), .inr (4, [.ref (a 1), .ref (a 9), .ref (a 17), .ref (a 25), .ref (a 59), .int (kb_b u.1), .int (u.2.1), .int (u.2.2.1)])), ((a 1), .inr (3, [.ref (a 2), .ref (a 3), .ref (a 4), .ref (a 5), .ref (a 7), .int (nI (nK u.2.2.2.2.1)), .int (gc u.2.2.2.2.1 4), .int (gc u.2.2.2.2.1 7), .int (gc u.2.2.2.2.1 10)])), ((a 2), .inl (cI, 216, .inl (u.2.2.2.1 0))), ((a 3), .inl (cI, 24, .inl (u.2.2.2.1 1))), ((a 4), .inl (cI, 4, .inl (u.2.2.2.1 2))), ((a 5), .inr (2, [.ref (a 6), .int (nI (nT u.2.2.2.2.1))])), ((a 6), .inl (cI, 12, .inl (u.2.2.2.1 3))), ((a 7), .inr (2, [.ref (a 8), .int (nI (nW u.2.2.2.2.1))])), ((a 8), .inl (cI, 24, .inl (u.2.2.2.1 4))), ((a 9), .inr (3, [.ref (a 10), .ref (a 11), .ref (a 12), .ref (a 13), .ref (a 15), .int (nI (nK u.2.2.2.2.2.2.1)), .int (gc u.2.2.2.2.2.2.1 4), .int (gc u.2.2.2.2.2.2.1 7), .int (gc u.2.2.2.2.2.2.1 10)])), ((a 10), .inl (cI, 216, .inl (u.2.2.2.2.2.1 0))), ((a 11), .inl (cI, 24, .inl (u.2.2.2.2.2.1 1))), ((a 12), .inl (cI, 4, .inl (u.2.2.2.2.2.1 2))), ((a 13), .inr (2, [.ref (a 14), .int (nI (nT u.2.2.2.2.2.2.1))])), ((a 14), .inl (cI, 12, .inl (u.2.2.2.2.2.1 3))), ((a 15), .inr (2, [.ref (a 16), .int (nI (nW u.2.2.2.2.2.2.1))])), ((a 16), .inl (cI, 24, .inl (u.2.2.2.2.2.1 4))), ((a 17), .inr (3, [.ref (a 18), .ref (a 19), .ref (a 20), .ref (a 21), .ref (a 23), .int (nI (nK u.2.2.2.2.2.2.2.2.1)), .int (gc u.2.2.2.2.2.2.2.2.1 4), .int (gc u.2.2.2.2.2.2.2.2.1 7), .int (gc u.2.2.2.2.2.2.2.2.1 10)])), ((a 18), .inl (cI, 216, .inl (u.2.2.2.2.2.2.2.1 0))), ((a 19), .inl (cI, 24, .inl (u.2.2.2.2.2.2.2.1 1))), ((a 20), .inl (cI, 4, .inl (u.2.2.2.2.2.2.2.1 2))), ((a 21), .inr (2, [.ref (a 22), .int (nI (nT u.2.2.2.2.2.2.2.2.1))])), ((a 22), .inl (cI, 12, .inl (u.2.2.2.2.2.2.2.1 3))), ((a 23), .inr (2, [.ref (a 24), .int (nI (nW u.2.2.2.2.2.2.2.2.1))])), ((a 24), .inl (cI, 24, .inl (u.2.2.2.2.2.2.2.1 4))), ((a 25), .inr (1, [.ref (a 26), .int (nI u.2.2.2.2.2.2.2.2.2.2.2.2.2.2.2.2.2.1), .int (nI u.2.2.2.2.2.2.2.2.2.2.2.2.2.2.2.2.2.2.1)])), ((a 26), .inl (cS, 4, .inr (.inr (.inr (.inr (hsA (fun i => a (25 + i)))))))), ((a 27), .inr (3, [.ref (a 28), .ref (a 29), .ref (a 30), .ref (a 31), .ref (a 33), .int (nI (nK u.2.2.2.2.2.2.2.2.2.2.1)), .int (gc u.2.2.2.2.2.2.2.2.2.2.1 4), .int (gc u.2.2.2.2.2.2.2.2.2.2.1 7), .int (gc u.2.2.2.2.2.2.2.2.2.2.1 10)])), ((a 28), .inl (cI, 216, .inl (u.2.2.2.2.2.2.2.2.2.1 0))), ((a 29), .inl (cI, 24, .inl (u.2.2.2.2.2.2.2.2.2.1 1))), ((a 30), .inl (cI, 4, .inl (u.2.2.2.2.2.2.2.2.2.1 2))), ((a 31), .inr (2, [.ref (a 32), .int (nI (nT u.2.2.2.2.2.2.2.2.2.2.1))])), ((a 32), .inl (cI, 12, .inl (u.2.2.2.2.2.2.2.2.2.1 3))), ((a 33), .inr (2, [.ref (a 34), .int (nI (nW u.2.2.2.2.2.2.2.2.2.2.1))])), ((a 34), .inl (cI, 24, .inl (u.2.2.2.2.2.2.2.2.2.1 4))), ((a 35), .inr (3, [.ref (a 36), .ref (a 37), .ref (a 38), .ref (a 39), .ref (a 41), .int (nI (nK u.2.2.2.2.2.2.2.2.2.2.2.2.1)), .int (gc u.2.2.2.2.2.2.2.2.2.2.2.2.1 4), .int (gc u.2.2.2.2.2.2.2.2.2.2.2.2.1 7), .int (gc u.2.2.2.2.2.2.2.2.2.2.2.2.1 10)])), ((a 36), .inl (cI, 216, .inl (u.2.2.2.2.2.2.2.2.2.2.2.1 0))), ((a 37), .inl (cI, 24, .inl (u.2.2.2.2.2.2.2.2.2.2.2.1 1))), ((a 38), .inl (cI, 4, .inl (u.2.2.2.2.2.2.2.2.2.2.2.1 2))), ((a 39), .inr (2, [.ref (a 40), .int (nI (nT u.2.2.2.2.2.2.2.2.2.2.2.2.1))])), ((a 40), .inl (cI, 12, .inl (u.2.2.2.2.2.2.2.2.2.2.2.1 3))), ((a 41), .inr (2, [.ref (a 42), .int (nI (nW u.2.2.2.2.2.2.2.2.2.2.2.2.1))])), ((a 42), .inl (cI, 24, .inl (u.2.2.2.2.2.2.2.2.2.2.2.1 4))), ((a 43), .inr (3, [.ref (a 44), .ref (a 45), .ref (a 46), .ref (a 47), .ref (a 49), .int (nI (nK u.2.2.2.2.2.2.2.2.2.2.2.2.2.2.1)), .int (gc u.2.2.2.2.2.2.2.2.2.2.2.2.2.2.1 4), .int (gc u.2.2.2.2.2.2.2.2.2.2.2.2.2.2.1 7), .int (gc u.2.2.2.2.2.2.2.2.2.2.2.2.2.2.1 10)])), ((a 44), .inl (cI, 216, .inl (u.2.2.2.2.2.2.2.2.2.2.2.2.2.1 0))), ((a 45), .inl (cI, 24, .inl (u.2.2.2.2.2.2.2.2.2.2.2.2.2.1 1))), ((a 46), .inl (cI, 4, .inl (u.2.2.2.2.2.2.2.2.2.2.2.2.2.1 2))), ((a 47), .inr (2, [.ref (a 48), .int (nI (nT u.2.2.2.2.2.2.2.2.2.2.2.2.2.2.1))])), ((a 48), .inl (cI, 12, .inl (u.2.2.2.2.2.2.2.2.2.2.2.2.2.1 3))), ((a 49), .inr (2, [.ref (a 50), .int (nI (nW u.2.2.2.2.2.2.2.2.2.2.2.2.2.2.1))])), ((a 50), .inl (cI, 24, .inl (u.2.2.2.2.2.2.2.2.2.2.2.2.2.1 4))), ((a 51), .inr (3, [.ref (a 52), .ref (a 53), .ref (a 54), .ref (a 55), .ref (a 57), .int (nI (nK u.2.2.2.2.2.2.2.2.2.2.2.2.2.2.2.2.1)), .int (gc u.2.2.2.2.2.2.2.2.2.2.2.2.2.2.2.2.1 4), .int (gc u.2.2.2.2.2.2.2.2.2.2.2.2.2.2.2.2.1 7), .int (gc u.2.2.2.2.2.2.2.2.2.2.2.2.2.2.2.2.1 10)])), ((a 52), .inl (cI, 216, .inl (u.2.2.2.2.2.2.2.2.2.2.2.2.2.2.2.1 0))), ((a 53), .inl (cI, 24, .inl (u.2.2.2.2.2.2.2.2.2.2.2.2.2.2.2.1 1))), ((a 54), .inl (cI, 4, .inl (u.2.2.2.2.2.2.2.2.2.2.2.2.2.2.2.1 2))), ((a 55), .inr (2, [.ref (a 56), .int (nI (nT u.2.2.2.2.2.2.2.2.2.2.2.2.2.2.2.2.1))])), ((a 56), .inl (cI, 12, .inl (u.2.2.2.2.2.2.2.2.2.2.2.2.2.2.2.1 3))), ((a 57), .inr (2, [.ref (a 58), .int (nI (nW u.2.2.2.2.2.2.2.2.2.2.2.2.2.2.2.2.1))])), ((a 58), .inl (cI, 24, .inl (u.2.2.2.2.2.2.2.2.2.2.2.2.2.2.2.1 4))), ((a 59), .inr (0, [.ref (a 60), .int (nI u.2.2.2.2.2.2.2.2.2.2.2.2.2.2.2.2.2.2.2.1), .int (nI u.2.2.2.2.2.2.2.2.2.2.2.2.2.2.2.2.2.2.2.2.1), .int (u.2.2.2.2.2.2.2.2.2.2.2.2.2.2.2.2.2.2.2.2.2.1), .int (u.2.2.2.2.2.2.2.2.2.2.2.2.2.2.2.2.2.2.2.2.2.2.1), .int (u.2.2.2.2.2.2.2.2.2.2.2.2.2.2.2.2.2.2.2.2.2.2.2.1), .int (u.2.2.2.2.2.2.2.2.2.2.2.2.2.2.2.2.2.2.2.2.2.2.2.2.1)])), ((a 60), .inl (cC, 60, .inl u.2.2.2.2.2.2.2.2.2.2.2.2.2.2.2.2.2.2.2.2.2.2.2.2.2.1))]
/-- what a banquet is in the model: the state, the history, the snapshot, the text -/
abbrev Mo : Type := Sg × (Nat × (Nat → Sg)) × (Bool × Sg) × (Nat × (Nat → Nat))
def moK (u : KBS) : Mo := (u.2.2.2.2.1, (u.2.2.2.2.2.2.2.2.2.2.2.2.2.2.2.2.2.2.1, u.2.2.2.2.2.2.2.2.2.2.2.2.2.2.2.2.2.2.2.2.2.2.2.2.2.2.1), (u.1, u.2.2.2.2.2.2.2.2.1), (u.2.2.2.2.2.2.2.2.2.2.2.2.2.2.2.2.2.2.2.1, u.2.2.2.2.2.2.2.2.2.2.2.2.2.2.2.2.2.2.2.2.2.2.2.2.2.2.2))
def bI (u : KBS) (m : Mo) : Prop := m = moK u ∧ sO u.2.2.2.1 u.2.2.2.2.1 ∧ sO u.2.2.2.2.2.2.2.1 u.2.2.2.2.2.2.2.2.1 ∧ hI (u.2.2.2.2.2.2.2.2.2.1) (u.2.2.2.2.2.2.2.2.2.2.1) (u.2.2.2.2.2.2.2.2.2.2.2.1) (u.2.2.2.2.2.2.2.2.2.2.2.2.1) (u.2.2.2.2.2.2.2.2.2.2.2.2.2.1) (u.2.2.2.2.2.2.2.2.2.2.2.2.2.2.1) (u.2.2.2.2.2.2.2.2.2.2.2.2.2.2.2.1) (u.2.2.2.2.2.2.2.2.2.2.2.2.2.2.2.2.1) (u.2.2.2.2.2.2.2.2.2.2.2.2.2.2.2.2.2.1) (u.2.2.2.2.2.2.2.2.2.2.2.2.2.2.2.2.2.2.1) (u.2.2.2.2.2.2.2.2.2.2.2.2.2.2.2.2.2.2.2.2.2.2.2.2.2.2.1) ∧ tOk u.2.2.2.2.2.2.2.2.2.2.2.2.2.2.2.2.2.2.2.2.2.2.2.2.2.1 u.2.2.2.2.2.2.2.2.2.2.2.2.2.2.2.2.2.2.2.2.2.2.2.2.2.2.2 u.2.2.2.2.2.2.2.2.2.2.2.2.2.2.2.2.2.2.2.1
abbrev mo_g (m : Mo) : Sg := m.1
abbrev mo_hn (m : Mo) : Nat := m.2.1.1
abbrev mo_h (m : Mo) : Nat → Sg := m.2.1.2
abbrev mo_kp (m : Mo) : Bool := m.2.2.1.1
abbrev mo_gs (m : Mo) : Sg := m.2.2.1.2
abbrev mo_n (m : Mo) : Nat := m.2.2.2.1
abbrev mo_tx (m : Mo) : Nat → Nat := m.2.2.2.2
/-- an act that answers r and would make g1 -/
def moA (m : Mo) (r : Int32) (g1 : Sg) : Mo := ((if r < nI 0 then mo_g m else g1), ((if r < nI 0 then mo_hn m else pM (mo_hn m)), (if r < nI 0 then mo_h m else pH (mo_h m) (mo_hn m) (mo_g m))), m.2.2)
def moU (m : Mo) : Mo := ((if mo_hn m = 0 then mo_g m else mo_h m (mo_hn m - 1)), (mo_hn m - 1, mo_h m), m.2.2)
def moKp (m : Mo) : Mo := (m.1, m.2.1, (true, mo_g m), m.2.2.2)
def moC (m : Mo) : Mo := (m.1, m.2.1, m.2.2.1, (0, mo_tx m))
def moT (m : Mo) (x : Nat) : Mo := (m.1, m.2.1, m.2.2.1, ((if mo_n m < 60 then mo_n m + 1 else mo_n m), (if mo_n m < 60 then un (mo_tx m) (mo_n m) x else mo_tx m)))
/-- a contract with more cells beside, which stay -/
theorem kb_fr {S T : Type} {D : va_G} {tys tys' : List (ClassId × FieldType)} {l : Launch} {y : MethodName} {wsm : List Cond} {rm : Room} {av : List Value} {wc : va_W} {post : Int32 → S → Prop} {w : S → va_W} (hM : kb_I D tys' l y wsm rm av wc post w 0 0) (ws : va_W) (bs : List Bool) (isT : List Nat) (hC : (kb_ix 0 bs).map (fun i => ws[i]?) = wc.map some) (hnd : va_nd (kb_ix 0 bs) = true) (hbl : bs.length ≤ ws.length) (hT : isT.filterMap (fun i => tys[i]?) = tys') (ha : ∀ u, (w u).map Prod.fst = wc.map Prod.fst) {post2 : Int32 → T → Prop} {w2 : T → va_W} (hk : ∀ (r : Int32) (u : S), post r u → ∃ v : T, post2 r v ∧ w2 v = kb_mg bs (w u) ws) : kb_I (S := T) D tys l y wsm rm av ws post2 w2 0 0 := by
  intro sz
  have hM := hM sz
  have hsub : ∀ q, va_A wc sz q → va_A ws sz q := by
    intro q hq
    rcases hq with ⟨k, e, hq⟩ | hq
    · obtain ⟨i, -, h⟩ := kb_at hC k (q, e) hq
      exact Or.inl ⟨i, e, h⟩
    · exact Or.inr hq
  unfold Met at hM ⊢
  intro p e ha0 hc hk0 s m args below hf happ hP0 hK0
  obtain ⟨h0, h1, hP, hK, hD, hN⟩ := hP0
  obtain ⟨k, o, g1, g2, g3, ⟨⟨⟨r, u, e1, hp, hB⟩, hF⟩, L, hL, hq⟩⟩ := hM p e ha0 hc hk0 s m args below hf happ ⟨h0, h1, kb_subP hP hC, hK.sub isT hT, hD.sub _ hnd hC, hN⟩ hK0
  obtain ⟨v, hv, hw⟩ := hk r u hp
  subst h1
  have hj := kb_join (A0 := va_A ws s.heap.size) hP hD.self _ hC hnd (ha u) hF.2 hB.1
  have hj1 := kb_mgP bs rfl hbl hj.1
  have hj2 := kb_mgD bs rfl hbl hj.2
  rw [← hw] at hj1 hj2
  exact ⟨k, o, g1, g2, g3, ⟨⟨r, v, e1, hv, hj1, va_K.moved hL.2.1.alike hK, hj2⟩, hF.1, fun q hq1 hq2 => hF.2 q hq1 (fun z => hq2 (hsub q z))⟩, L, hL, fun q h => hsub _ (hq q h)⟩
theorem kb_blk {cI cC cS : ClassId} {a : Nat → Nat} (u v : KBS) : (bW cI cC cS a u).map Prod.fst = (bW cI cC cS a v).map Prod.fst := rfl
set_option maxHeartbeats 4000000 in
set_option maxRecDepth 100000 in
theorem b_king (l : Launch) (D : va_G) (cI cC cS : ClassId) (a : Nat → Nat) {u : KBS} {m : Mo} (hin : bI u m) (x : Int32) (w : Int32) : kb_I (S := KBS) D [(cI, .int), (cC, .char), (cS, .object RX3)] l yX4_king wsX4_king rmX4_king [.ref (a 0), .int (x), .int (w)] (bW cI cC cS a u) (fun (r : Int32) (v : KBS) => r = kA (mo_g m) x w ∧ bI v (m)) (bW cI cC cS a) 0 0 := by
  obtain ⟨kp, sT, sE, f, g, fd, gd, fs, gs, f0, g0, f1, g1, f2, g2, f3, g3, nx, hn, n, pl, kd, cr, ag, nu, t, h, tx⟩ := u
  obtain ⟨rfl, hs, hsn, hh, htx⟩ := id hin
  refine kb_fr (T := KBS) (c_X4_king l D cI a kp sT sE f g x w hs) _ [true, true, true, true, true, true, true, true, true] [0] rfl (by decide +kernel) (Nat.le_of_ble_eq_true rfl) rfl (fun _ => rfl) ?_
  rintro r u hw
  exact ⟨(kp, sT, sE, f, g, fd, gd, fs, gs, f0, g0, f1, g1, f2, g2, f3, g3, nx, hn, n, pl, kd, cr, ag, nu, t, h, tx), ⟨hw, hin⟩, rfl⟩
set_option maxHeartbeats 4000000 in
set_option maxRecDepth 100000 in
theorem b_seat (l : Launch) (D : va_G) (cI cC cS : ClassId) (a : Nat → Nat) {u : KBS} {m : Mo} (hin : bI u m) (x : Int32) : kb_I (S := KBS) D [(cI, .int), (cC, .char), (cS, .object RX3)] l yX4_seat wsX4_seat rmX4_seat [.ref (a 0), .int (x)] (bW cI cC cS a u) (fun (r : Int32) (v : KBS) => r = seA (mo_g m) x ∧ bI v (m)) (bW cI cC cS a) 0 0 := by
  obtain ⟨kp, sT, sE, f, g, fd, gd, fs, gs, f0, g0, f1, g1, f2, g2, f3, g3, nx, hn, n, pl, kd, cr, ag, nu, t, h, tx⟩ := u
  obtain ⟨rfl, hs, hsn, hh, htx⟩ := id hin
  refine kb_fr (T := KBS) (c_X4_seat l D cI a kp sT sE f g x hs) _ [true, true, true, true, true, true, true, true, true] [0] rfl (by decide +kernel) (Nat.le_of_ble_eq_true rfl) rfl (fun _ => rfl) ?_
  rintro r u hw
  exact ⟨(kp, sT, sE, f, g, fd, gd, fs, gs, f0, g0, f1, g1, f2, g2, f3, g3, nx, hn, n, pl, kd, cr, ag, nu, t, h, tx), ⟨hw, hin⟩, rfl⟩
set_option maxHeartbeats 4000000 in
set_option maxRecDepth 100000 in
theorem b_waits (l : Launch) (D : va_G) (cI cC cS : ClassId) (a : Nat → Nat) {u : KBS} {m : Mo} (hin : bI u m) (x : Int32) : kb_I (S := KBS) D [(cI, .int), (cC, .char), (cS, .object RX3)] l yX4_waits wsX4_waits rmX4_waits [.ref (a 0), .int (x)] (bW cI cC cS a u) (fun (r : Int32) (v : KBS) => r = waA (mo_g m) x ∧ bI v (m)) (bW cI cC cS a) 0 0 := by
  obtain ⟨kp, sT, sE, f, g, fd, gd, fs, gs, f0, g0, f1, g1, f2, g2, f3, g3, nx, hn, n, pl, kd, cr, ag, nu, t, h, tx⟩ := u
  obtain ⟨rfl, hs, hsn, hh, htx⟩ := id hin
  refine kb_fr (T := KBS) (c_X4_waits l D cI a kp sT sE f g x hs) _ [true, true, true, true, true, true, true, true, true] [0] rfl (by decide +kernel) (Nat.le_of_ble_eq_true rfl) rfl (fun _ => rfl) ?_
  rintro r u hw
  exact ⟨(kp, sT, sE, f, g, fd, gd, fs, gs, f0, g0, f1, g1, f2, g2, f3, g3, nx, hn, n, pl, kd, cr, ag, nu, t, h, tx), ⟨hw, hin⟩, rfl⟩
set_option maxHeartbeats 4000000 in
set_option maxRecDepth 100000 in
theorem b_reason (l : Launch) (D : va_G) (cI cC cS : ClassId) (a : Nat → Nat) {u : KBS} {m : Mo} (hin : bI u m) (x : Int32) (y : Int32) : kb_I (S := KBS) D [(cI, .int), (cC, .char), (cS, .object RX3)] l yX4_reason wsX4_reason rmX4_reason [.ref (a 0), .int (x), .int (y)] (bW cI cC cS a u) (fun (r : Int32) (v : KBS) => r = reA (mo_g m) x y ∧ bI v (m)) (bW cI cC cS a) 0 0 := by
  obtain ⟨kp, sT, sE, f, g, fd, gd, fs, gs, f0, g0, f1, g1, f2, g2, f3, g3, nx, hn, n, pl, kd, cr, ag, nu, t, h, tx⟩ := u
  obtain ⟨rfl, hs, hsn, hh, htx⟩ := id hin
  refine kb_fr (T := KBS) (c_X4_reason l D cI a kp sT sE f g x y hs) _ [true, true, true, true, true, true, true, true, true] [0] rfl (by decide +kernel) (Nat.le_of_ble_eq_true rfl) rfl (fun _ => rfl) ?_
  rintro r u hw
  exact ⟨(kp, sT, sE, f, g, fd, gd, fs, gs, f0, g0, f1, g1, f2, g2, f3, g3, nx, hn, n, pl, kd, cr, ag, nu, t, h, tx), ⟨hw, hin⟩, rfl⟩
set_option maxHeartbeats 4000000 in
set_option maxRecDepth 100000 in
theorem b_wrongPairs (l : Launch) (D : va_G) (cI cC cS : ClassId) (a : Nat → Nat) {u : KBS} {m : Mo} (hin : bI u m)  : kb_I (S := KBS) D [(cI, .int), (cC, .char), (cS, .object RX3)] l yX4_wrongPairs wsX4_wrongPairs rmX4_wrongPairs [.ref (a 0)] (bW cI cC cS a u) (fun (r : Int32) (v : KBS) => r = nI (wp (mo_g m)) ∧ bI v (m)) (bW cI cC cS a) 0 0 := by
  obtain ⟨kp, sT, sE, f, g, fd, gd, fs, gs, f0, g0, f1, g1, f2, g2, f3, g3, nx, hn, n, pl, kd, cr, ag, nu, t, h, tx⟩ := u
  obtain ⟨rfl, hs, hsn, hh, htx⟩ := id hin
  refine kb_fr (T := KBS) (c_X4_wrongPairs l D cI a kp sT sE f g hs) _ [true, true, true, true, true, true, true, true, true] [0] rfl (by decide +kernel) (Nat.le_of_ble_eq_true rfl) rfl (fun _ => rfl) ?_
  rintro r u hw
  exact ⟨(kp, sT, sE, f, g, fd, gd, fs, gs, f0, g0, f1, g1, f2, g2, f3, g3, nx, hn, n, pl, kd, cr, ag, nu, t, h, tx), ⟨hw, hin⟩, rfl⟩
set_option maxHeartbeats 4000000 in
set_option maxRecDepth 100000 in
theorem b_mostSlighted (l : Launch) (D : va_G) (cI cC cS : ClassId) (a : Nat → Nat) {u : KBS} {m : Mo} (hin : bI u m)  : kb_I (S := KBS) D [(cI, .int), (cC, .char), (cS, .object RX3)] l yX4_mostSlighted wsX4_mostSlighted rmX4_mostSlighted [.ref (a 0)] (bW cI cC cS a u) (fun (r : Int32) (v : KBS) => r = (msI (mo_g m) (nT (mo_g m))).2 ∧ bI v (m)) (bW cI cC cS a) 0 0 := by
  obtain ⟨kp, sT, sE, f, g, fd, gd, fs, gs, f0, g0, f1, g1, f2, g2, f3, g3, nx, hn, n, pl, kd, cr, ag, nu, t, h, tx⟩ := u
  obtain ⟨rfl, hs, hsn, hh, htx⟩ := id hin
  refine kb_fr (T := KBS) (c_X4_mostSlighted l D cI a kp sT sE f g hs) _ [true, true, true, true, true, true, true, true, true] [0] rfl (by decide +kernel) (Nat.le_of_ble_eq_true rfl) rfl (fun _ => rfl) ?_
  rintro r u hw
  exact ⟨(kp, sT, sE, f, g, fd, gd, fs, gs, f0, g0, f1, g1, f2, g2, f3, g3, nx, hn, n, pl, kd, cr, ag, nu, t, h, tx), ⟨hw, hin⟩, rfl⟩
set_option maxHeartbeats 4000000 in
set_option maxRecDepth 100000 in
theorem b_nextArrival (l : Launch) (D : va_G) (cI cC cS : ClassId) (a : Nat → Nat) {u : KBS} {m : Mo} (hin : bI u m)  : kb_I (S := KBS) D [(cI, .int), (cC, .char), (cS, .object RX3)] l yX4_nextArrival wsX4_nextArrival rmX4_nextArrival [.ref (a 0)] (bW cI cC cS a u) (fun (r : Int32) (v : KBS) => r = faI (mo_g m) (nK (mo_g m)) ∧ bI v (m)) (bW cI cC cS a) 0 0 := by
  obtain ⟨kp, sT, sE, f, g, fd, gd, fs, gs, f0, g0, f1, g1, f2, g2, f3, g3, nx, hn, n, pl, kd, cr, ag, nu, t, h, tx⟩ := u
  obtain ⟨rfl, hs, hsn, hh, htx⟩ := id hin
  refine kb_fr (T := KBS) (c_X4_nextArrival l D cI a kp sT sE f g hs) _ [true, true, true, true, true, true, true, true, true] [0] rfl (by decide +kernel) (Nat.le_of_ble_eq_true rfl) rfl (fun _ => rfl) ?_
  rintro r u hw
  exact ⟨(kp, sT, sE, f, g, fd, gd, fs, gs, f0, g0, f1, g1, f2, g2, f3, g3, nx, hn, n, pl, kd, cr, ag, nu, t, h, tx), ⟨hw, hin⟩, rfl⟩
set_option maxHeartbeats 4000000 in
set_option maxRecDepth 100000 in
theorem b_dueSeat (l : Launch) (D : va_G) (cI cC cS : ClassId) (a : Nat → Nat) {u : KBS} {m : Mo} (hin : bI u m) (x : Int32) (y : Int32) : kb_I (S := KBS) D [(cI, .int), (cC, .char), (cS, .object RX3)] l yX4_dueSeat wsX4_dueSeat rmX4_dueSeat [.ref (a 0), .int (x), .int (y)] (bW cI cC cS a u) (fun (r : Int32) (v : KBS) => r = dsA (mo_g m) x y ∧ bI v (m)) (bW cI cC cS a) 0 0 := by
  obtain ⟨kp, sT, sE, f, g, fd, gd, fs, gs, f0, g0, f1, g1, f2, g2, f3, g3, nx, hn, n, pl, kd, cr, ag, nu, t, h, tx⟩ := u
  obtain ⟨rfl, hs, hsn, hh, htx⟩ := id hin
  refine kb_fr (T := KBS) (c_X4_dueSeat l D cI a kp sT sE f g x y hs) _ [true, true, true, true, true, true, true, true, true] [0] rfl (by decide +kernel) (Nat.le_of_ble_eq_true rfl) rfl (fun _ => rfl) ?_
  rintro r u hw
  exact ⟨(kp, sT, sE, f, g, fd, gd, fs, gs, f0, g0, f1, g1, f2, g2, f3, g3, nx, hn, n, pl, kd, cr, ag, nu, t, h, tx), ⟨hw, hin⟩, rfl⟩
set_option maxHeartbeats 4000000 in
set_option maxRecDepth 100000 in
theorem b_count (l : Launch) (D : va_G) (cI cC cS : ClassId) (a : Nat → Nat) {u : KBS} {m : Mo} (hin : bI u m) (x : Int32) : kb_I (S := KBS) D [(cI, .int), (cC, .char), (cS, .object RX3)] l yX4_count wsX4_count rmX4_count [.ref (a 0), .int (x)] (bW cI cC cS a u) (fun (r : Int32) (v : KBS) => r = coA (mo_g m) (mo_hn m) (mo_n m) x ∧ bI v (m)) (bW cI cC cS a) 0 0 := by
  obtain ⟨kp, sT, sE, f, g, fd, gd, fs, gs, f0, g0, f1, g1, f2, g2, f3, g3, nx, hn, n, pl, kd, cr, ag, nu, t, h, tx⟩ := u
  obtain ⟨rfl, hs, hsn, hh, htx⟩ := id hin
  refine kb_fr (T := KBS) (c_X4_count l D cI cS cC a kp sT sE f g nx hn n pl kd cr ag nu t x hs) _ [true, true, true, true, true, true, true, true, true, false, false, false, false, false, false, false, false, false, false, false, false, false, false, false, false, true, true, false, false, false, false, false, false, false, false, false, false, false, false, false, false, false, false, false, false, false, false, false, false, false, false, false, false, false, false, false, false, false, false, true, true] [0, 2, 1] rfl (by decide +kernel) (Nat.le_of_ble_eq_true rfl) rfl (fun _ => rfl) ?_
  rintro r u hw
  exact ⟨(kp, sT, sE, f, g, fd, gd, fs, gs, f0, g0, f1, g1, f2, g2, f3, g3, nx, hn, n, pl, kd, cr, ag, nu, t, h, tx), ⟨hw, hin⟩, rfl⟩
set_option maxHeartbeats 4000000 in
set_option maxRecDepth 100000 in
theorem b_changesNeeded (l : Launch) (D : va_G) (cI cC cS : ClassId) (a : Nat → Nat) {u : KBS} {m : Mo} (hin : bI u m)  : kb_I (S := KBS) D [(cI, .int), (cC, .char), (cS, .object RX3)] l yX4_changesNeeded wsX4_changesNeeded rmX4_changesNeeded [.ref (a 0)] (bW cI cC cS a u) (fun (r : Int32) (v : KBS) => r = nI (wp (mo_g m)) ∧ bI v (m)) (bW cI cC cS a) 0 0 := by
  obtain ⟨kp, sT, sE, f, g, fd, gd, fs, gs, f0, g0, f1, g1, f2, g2, f3, g3, nx, hn, n, pl, kd, cr, ag, nu, t, h, tx⟩ := u
  obtain ⟨rfl, hs, hsn, hh, htx⟩ := id hin
  refine kb_fr (T := KBS) (c_X4_changesNeeded l D cI a kp sT sE f g fd gd hs) _ [true, true, true, true, true, true, true, true, true, true, true, true, true, true, true, true, true] [0] rfl (by decide +kernel) (Nat.le_of_ble_eq_true rfl) rfl (fun _ => rfl) ?_
  rintro r ⟨fdo, gdo⟩ hw
  exact ⟨(kp, sT, sE, f, g, fdo, gdo, fs, gs, f0, g0, f1, g1, f2, g2, f3, g3, nx, hn, n, pl, kd, cr, ag, nu, t, h, tx), ⟨hw, hin⟩, rfl⟩
set_option maxHeartbeats 4000000 in
set_option maxRecDepth 100000 in
theorem b_ifRounds (l : Launch) (D : va_G) (cI cC cS : ClassId) (a : Nat → Nat) {u : KBS} {m : Mo} (hin : bI u m) (x : Int32) : kb_I (S := KBS) D [(cI, .int), (cC, .char), (cS, .object RX3)] l yX4_ifRounds wsX4_ifRounds rmX4_ifRounds [.ref (a 0), .int (x)] (bW cI cC cS a u) (fun (r : Int32) (v : KBS) => r = irA (mo_g m) x ∧ bI v (m)) (bW cI cC cS a) 0 0 := by
  obtain ⟨kp, sT, sE, f, g, fd, gd, fs, gs, f0, g0, f1, g1, f2, g2, f3, g3, nx, hn, n, pl, kd, cr, ag, nu, t, h, tx⟩ := u
  obtain ⟨rfl, hs, hsn, hh, htx⟩ := id hin
  refine kb_fr (T := KBS) (c_X4_ifRounds l D cI a kp sT sE f g fd gd x hs) _ [true, true, true, true, true, true, true, true, true, true, true, true, true, true, true, true, true] [0] rfl (by decide +kernel) (Nat.le_of_ble_eq_true rfl) rfl (fun _ => rfl) ?_
  rintro r ⟨fdo, gdo⟩ hw
  exact ⟨(kp, sT, sE, f, g, fdo, gdo, fs, gs, f0, g0, f1, g1, f2, g2, f3, g3, nx, hn, n, pl, kd, cr, ag, nu, t, h, tx), ⟨hw, hin⟩, rfl⟩
set_option maxHeartbeats 4000000 in
set_option maxRecDepth 100000 in
theorem b_dueIn (l : Launch) (D : va_G) (cI cC cS : ClassId) (a : Nat → Nat) {u : KBS} {m : Mo} (hin : bI u m) (x : Int32) : kb_I (S := KBS) D [(cI, .int), (cC, .char), (cS, .object RX3)] l yX4_dueIn wsX4_dueIn rmX4_dueIn [.ref (a 0), .int (x)] (bW cI cC cS a u) (fun (r : Int32) (v : KBS) => r = diA (mo_g m) x ∧ bI v (m)) (bW cI cC cS a) 0 0 := by
  obtain ⟨kp, sT, sE, f, g, fd, gd, fs, gs, f0, g0, f1, g1, f2, g2, f3, g3, nx, hn, n, pl, kd, cr, ag, nu, t, h, tx⟩ := u
  obtain ⟨rfl, hs, hsn, hh, htx⟩ := id hin
  refine kb_fr (T := KBS) (c_X4_dueIn l D cI a kp sT sE f g fd gd x hs) _ [true, true, true, true, true, true, true, true, true, true, true, true, true, true, true, true, true] [0] rfl (by decide +kernel) (Nat.le_of_ble_eq_true rfl) rfl (fun _ => rfl) ?_
  rintro r ⟨fdo, gdo⟩ hw
  exact ⟨(kp, sT, sE, f, g, fdo, gdo, fs, gs, f0, g0, f1, g1, f2, g2, f3, g3, nx, hn, n, pl, kd, cr, ag, nu, t, h, tx), ⟨hw, hin⟩, rfl⟩
set_option maxHeartbeats 4000000 in
set_option maxRecDepth 100000 in
theorem b_announce (l : Launch) (D : va_G) (cI cC cS : ClassId) (a : Nat → Nat) {u : KBS} {m : Mo} (hin : bI u m) (x : Int32) (y : Int32) (z : Int32) : kb_I (S := KBS) D [(cI, .int), (cC, .char), (cS, .object RX3)] l yX4_announce wsX4_announce rmX4_announce [.ref (a 0), .int (x), .int (y), .int (z)] (bW cI cC cS a u) (fun (r : Int32) (v : KBS) => r = (opA (mo_g m) x y z).1 ∧ bI v (moA m (opA (mo_g m) x y z).1 (opA (mo_g m) x y z).2)) (bW cI cC cS a) 0 0 := by
  obtain ⟨kp, sT, sE, f, g, fd, gd, fs, gs, f0, g0, f1, g1, f2, g2, f3, g3, nx, hn, n, pl, kd, cr, ag, nu, t, h, tx⟩ := u
  obtain ⟨rfl, hs, hsn, hh, htx⟩ := id hin
  refine kb_fr (T := KBS) (c_X4_announce l D cI cS a kp sT sE f g fd gd f0 f1 f2 f3 g0 g1 g2 g3 nx hn h x y z hs hh) _ [true, true, true, true, true, true, true, true, true, true, true, true, true, true, true, true, true, false, false, false, false, false, false, false, false, true, true, true, true, true, true, true, true, true, true, true, true, true, true, true, true, true, true, true, true, true, true, true, true, true, true, true, true, true, true, true, true, true, true] [0, 2] rfl (by decide +kernel) (Nat.le_of_ble_eq_true rfl) rfl (fun _ => rfl) ?_
  rintro r ⟨fo, go, fdo, gdo, f0o, g0o, f1o, g1o, f2o, g2o, f3o, g3o, nxo, hno⟩ hw
  obtain ⟨e1, h1, rfl, rfl, h4⟩ := hw
  exact ⟨(kp, sT, sE, fo, _, fdo, gdo, fs, gs, f0o, g0o, f1o, g1o, f2o, g2o, f3o, g3o, nxo, _, n, pl, kd, cr, ag, nu, t, _, tx), ⟨e1, rfl, h1, hsn, h4, htx⟩, rfl⟩
set_option maxHeartbeats 4000000 in
set_option maxRecDepth 100000 in
theorem b_leave (l : Launch) (D : va_G) (cI cC cS : ClassId) (a : Nat → Nat) {u : KBS} {m : Mo} (hin : bI u m) (x : Int32) : kb_I (S := KBS) D [(cI, .int), (cC, .char), (cS, .object RX3)] l yX4_leave wsX4_leave rmX4_leave [.ref (a 0), .int (x)] (bW cI cC cS a u) (fun (r : Int32) (v : KBS) => r = (opL (mo_g m) x).1 ∧ bI v (moA m (opL (mo_g m) x).1 (opL (mo_g m) x).2)) (bW cI cC cS a) 0 0 := by
  obtain ⟨kp, sT, sE, f, g, fd, gd, fs, gs, f0, g0, f1, g1, f2, g2, f3, g3, nx, hn, n, pl, kd, cr, ag, nu, t, h, tx⟩ := u
  obtain ⟨rfl, hs, hsn, hh, htx⟩ := id hin
  refine kb_fr (T := KBS) (c_X4_leave l D cI cS a kp sT sE f g fd gd f0 f1 f2 f3 g0 g1 g2 g3 nx hn h x hs hh) _ [true, true, true, true, true, true, true, true, true, true, true, true, true, true, true, true, true, false, false, false, false, false, false, false, false, true, true, true, true, true, true, true, true, true, true, true, true, true, true, true, true, true, true, true, true, true, true, true, true, true, true, true, true, true, true, true, true, true, true] [0, 2] rfl (by decide +kernel) (Nat.le_of_ble_eq_true rfl) rfl (fun _ => rfl) ?_
  rintro r ⟨fo, go, fdo, gdo, f0o, g0o, f1o, g1o, f2o, g2o, f3o, g3o, nxo, hno⟩ hw
  obtain ⟨e1, h1, rfl, rfl, h4⟩ := hw
  exact ⟨(kp, sT, sE, fo, _, fdo, gdo, fs, gs, f0o, g0o, f1o, g1o, f2o, g2o, f3o, g3o, nxo, _, n, pl, kd, cr, ag, nu, t, _, tx), ⟨e1, rfl, h1, hsn, h4, htx⟩, rfl⟩
set_option maxHeartbeats 4000000 in
set_option maxRecDepth 100000 in
theorem b_send (l : Launch) (D : va_G) (cI cC cS : ClassId) (a : Nat → Nat) {u : KBS} {m : Mo} (hin : bI u m) (x : Int32) : kb_I (S := KBS) D [(cI, .int), (cC, .char), (cS, .object RX3)] l yX4_send wsX4_send rmX4_send [.ref (a 0), .int (x)] (bW cI cC cS a u) (fun (r : Int32) (v : KBS) => r = (opE (mo_g m) x).1 ∧ bI v (moA m (opE (mo_g m) x).1 (opE (mo_g m) x).2)) (bW cI cC cS a) 0 0 := by
  obtain ⟨kp, sT, sE, f, g, fd, gd, fs, gs, f0, g0, f1, g1, f2, g2, f3, g3, nx, hn, n, pl, kd, cr, ag, nu, t, h, tx⟩ := u
  obtain ⟨rfl, hs, hsn, hh, htx⟩ := id hin
  refine kb_fr (T := KBS) (c_X4_send l D cI cS a kp sT sE f g fd gd f0 f1 f2 f3 g0 g1 g2 g3 nx hn h x hs hh) _ [true, true, true, true, true, true, true, true, true, true, true, true, true, true, true, true, true, false, false, false, false, false, false, false, false, true, true, true, true, true, true, true, true, true, true, true, true, true, true, true, true, true, true, true, true, true, true, true, true, true, true, true, true, true, true, true, true, true, true] [0, 2] rfl (by decide +kernel) (Nat.le_of_ble_eq_true rfl) rfl (fun _ => rfl) ?_
  rintro r ⟨fo, go, fdo, gdo, f0o, g0o, f1o, g1o, f2o, g2o, f3o, g3o, nxo, hno⟩ hw
  obtain ⟨e1, h1, rfl, rfl, h4⟩ := hw
  exact ⟨(kp, sT, sE, fo, _, fdo, gdo, fs, gs, f0o, g0o, f1o, g1o, f2o, g2o, f3o, g3o, nxo, _, n, pl, kd, cr, ag, nu, t, _, tx), ⟨e1, rfl, h1, hsn, h4, htx⟩, rfl⟩
set_option maxHeartbeats 4000000 in
set_option maxRecDepth 100000 in
theorem b_pass (l : Launch) (D : va_G) (cI cC cS : ClassId) (a : Nat → Nat) {u : KBS} {m : Mo} (hin : bI u m) (x : Int32) : kb_I (S := KBS) D [(cI, .int), (cC, .char), (cS, .object RX3)] l yX4_pass wsX4_pass rmX4_pass [.ref (a 0), .int (x)] (bW cI cC cS a u) (fun (r : Int32) (v : KBS) => r = (opP (mo_g m) x).1 ∧ bI v (moA m (opP (mo_g m) x).1 (opP (mo_g m) x).2)) (bW cI cC cS a) 0 0 := by
  obtain ⟨kp, sT, sE, f, g, fd, gd, fs, gs, f0, g0, f1, g1, f2, g2, f3, g3, nx, hn, n, pl, kd, cr, ag, nu, t, h, tx⟩ := u
  obtain ⟨rfl, hs, hsn, hh, htx⟩ := id hin
  refine kb_fr (T := KBS) (c_X4_pass l D cI cS a kp sT sE f g fd gd f0 f1 f2 f3 g0 g1 g2 g3 nx hn h x hs hh) _ [true, true, true, true, true, true, true, true, true, true, true, true, true, true, true, true, true, false, false, false, false, false, false, false, false, true, true, true, true, true, true, true, true, true, true, true, true, true, true, true, true, true, true, true, true, true, true, true, true, true, true, true, true, true, true, true, true, true, true] [0, 2] rfl (by decide +kernel) (Nat.le_of_ble_eq_true rfl) rfl (fun _ => rfl) ?_
  rintro r ⟨fo, go, fdo, gdo, f0o, g0o, f1o, g1o, f2o, g2o, f3o, g3o, nxo, hno⟩ hw
  obtain ⟨e1, h1, rfl, rfl, h4⟩ := hw
  exact ⟨(kp, sT, sE, fo, _, fdo, gdo, fs, gs, f0o, g0o, f1o, g1o, f2o, g2o, f3o, g3o, nxo, _, n, pl, kd, cr, ag, nu, t, _, tx), ⟨e1, rfl, h1, hsn, h4, htx⟩, rfl⟩
set_option maxHeartbeats 4000000 in
set_option maxRecDepth 100000 in
theorem b_set (l : Launch) (D : va_G) (cI cC cS : ClassId) (a : Nat → Nat) {u : KBS} {m : Mo} (hin : bI u m) (x : Int32) (y : Int32) : kb_I (S := KBS) D [(cI, .int), (cC, .char), (cS, .object RX3)] l yX4_set wsX4_set rmX4_set [.ref (a 0), .int (x), .int (y)] (bW cI cC cS a u) (fun (r : Int32) (v : KBS) => r = (opS (mo_g m) x y).1 ∧ bI v (moA m (opS (mo_g m) x y).1 (opS (mo_g m) x y).2)) (bW cI cC cS a) 0 0 := by
  obtain ⟨kp, sT, sE, f, g, fd, gd, fs, gs, f0, g0, f1, g1, f2, g2, f3, g3, nx, hn, n, pl, kd, cr, ag, nu, t, h, tx⟩ := u
  obtain ⟨rfl, hs, hsn, hh, htx⟩ := id hin
  refine kb_fr (T := KBS) (c_X4_set l D cI cS a kp sT sE f g fd gd f0 f1 f2 f3 g0 g1 g2 g3 nx hn h x y hs hh) _ [true, true, true, true, true, true, true, true, true, true, true, true, true, true, true, true, true, false, false, false, false, false, false, false, false, true, true, true, true, true, true, true, true, true, true, true, true, true, true, true, true, true, true, true, true, true, true, true, true, true, true, true, true, true, true, true, true, true, true] [0, 2] rfl (by decide +kernel) (Nat.le_of_ble_eq_true rfl) rfl (fun _ => rfl) ?_
  rintro r ⟨fo, go, fdo, gdo, f0o, g0o, f1o, g1o, f2o, g2o, f3o, g3o, nxo, hno⟩ hw
  obtain ⟨e1, h1, rfl, rfl, h4⟩ := hw
  exact ⟨(kp, sT, sE, fo, _, fdo, gdo, fs, gs, f0o, g0o, f1o, g1o, f2o, g2o, f3o, g3o, nxo, _, n, pl, kd, cr, ag, nu, t, _, tx), ⟨e1, rfl, h1, hsn, h4, htx⟩, rfl⟩
set_option maxHeartbeats 4000000 in
set_option maxRecDepth 100000 in
theorem b_restore (l : Launch) (D : va_G) (cI cC cS : ClassId) (a : Nat → Nat) {u : KBS} {m : Mo} (hin : bI u m)  : kb_I (S := KBS) D [(cI, .int), (cC, .char), (cS, .object RX3)] l yX4_restore wsX4_restore rmX4_restore [.ref (a 0)] (bW cI cC cS a u) (fun (r : Int32) (v : KBS) => r = rsA (mo_kp m) (mo_gs m) ∧ bI v (moA m (rsA (mo_kp m) (mo_gs m)) (mo_gs m))) (bW cI cC cS a) 0 0 := by
  obtain ⟨kp, sT, sE, f, g, fd, gd, fs, gs, f0, g0, f1, g1, f2, g2, f3, g3, nx, hn, n, pl, kd, cr, ag, nu, t, h, tx⟩ := u
  obtain ⟨rfl, hs, hsn, hh, htx⟩ := id hin
  refine kb_fr (T := KBS) (c_X4_restore l D cI cS a kp sT sE f g fd gd fs gs f0 f1 f2 f3 g0 g1 g2 g3 nx hn h hs hh hsn) _ [true, true, true, true, true, true, true, true, true, true, true, true, true, true, true, true, true, true, true, true, true, true, true, true, true, true, true, true, true, true, true, true, true, true, true, true, true, true, true, true, true, true, true, true, true, true, true, true, true, true, true, true, true, true, true, true, true, true, true] [0, 2] rfl (by decide +kernel) (Nat.le_of_ble_eq_true rfl) rfl (fun _ => rfl) ?_
  rintro r ⟨fo, go, fdo, gdo, f0o, g0o, f1o, g1o, f2o, g2o, f3o, g3o, nxo, hno⟩ hw
  obtain ⟨e1, h1, rfl, rfl, h4⟩ := hw
  exact ⟨(kp, sT, sE, fo, _, fdo, gdo, fs, gs, f0o, g0o, f1o, g1o, f2o, g2o, f3o, g3o, nxo, _, n, pl, kd, cr, ag, nu, t, _, tx), ⟨e1, rfl, h1, hsn, h4, htx⟩, rfl⟩
set_option maxHeartbeats 4000000 in
set_option maxRecDepth 100000 in
theorem b_undo (l : Launch) (D : va_G) (cI cC cS : ClassId) (a : Nat → Nat) {u : KBS} {m : Mo} (hin : bI u m)  : kb_I (S := KBS) D [(cI, .int), (cC, .char), (cS, .object RX3)] l yX4_undo wsX4_undo rmX4_undo [.ref (a 0)] (bW cI cC cS a u) (fun (r : Int32) (v : KBS) => r = (if mo_hn m = 0 then -5 else nI (mo_hn m - 1)) ∧ bI v (moU m)) (bW cI cC cS a) 0 0 := by
  obtain ⟨kp, sT, sE, f, g, fd, gd, fs, gs, f0, g0, f1, g1, f2, g2, f3, g3, nx, hn, n, pl, kd, cr, ag, nu, t, h, tx⟩ := u
  obtain ⟨rfl, hs, hsn, hh, htx⟩ := id hin
  refine kb_fr (T := KBS) (c_X4_undo l D cI cS a kp sT sE f g f0 f1 f2 f3 g0 g1 g2 g3 nx hn h hs hh) _ [true, true, true, true, true, true, true, true, true, false, false, false, false, false, false, false, false, false, false, false, false, false, false, false, false, true, true, true, true, true, true, true, true, true, true, true, true, true, true, true, true, true, true, true, true, true, true, true, true, true, true, true, true, true, true, true, true, true, true] [0, 2] rfl (by decide +kernel) (Nat.le_of_ble_eq_true rfl) rfl (fun _ => rfl) ?_
  rintro r ⟨fo, go, f0o, g0o, f1o, g1o, f2o, g2o, f3o, g3o, nxo, hno⟩ hw
  obtain ⟨e1, h1, rfl, rfl, h4⟩ := hw
  exact ⟨(kp, sT, sE, fo, _, fd, gd, fs, gs, f0o, g0o, f1o, g1o, f2o, g2o, f3o, g3o, nxo, _, n, pl, kd, cr, ag, nu, t, h, tx), ⟨e1, rfl, h1, hsn, h4, htx⟩, rfl⟩
set_option maxHeartbeats 4000000 in
set_option maxRecDepth 100000 in
theorem b_keep (l : Launch) (D : va_G) (cI cC cS : ClassId) (a : Nat → Nat) {u : KBS} {m : Mo} (hin : bI u m)  : kb_I (S := KBS) D [(cI, .int), (cC, .char), (cS, .object RX3)] l yX4_keep wsX4_keep rmX4_keep [.ref (a 0)] (bW cI cC cS a u) (fun (r : Int32) (v : KBS) => r = nI (nT (mo_g m)) ∧ bI v (moKp m)) (bW cI cC cS a) 0 0 := by
  obtain ⟨kp, sT, sE, f, g, fd, gd, fs, gs, f0, g0, f1, g1, f2, g2, f3, g3, nx, hn, n, pl, kd, cr, ag, nu, t, h, tx⟩ := u
  obtain ⟨rfl, hs, hsn, hh, htx⟩ := id hin
  refine kb_fr (T := KBS) (c_X4_keep l D cI a kp sT sE f g fs gs hs) _ [true, true, true, true, true, true, true, true, true, false, false, false, false, false, false, false, false, true, true, true, true, true, true, true, true] [0] rfl (by decide +kernel) (Nat.le_of_ble_eq_true rfl) rfl (fun _ => rfl) ?_
  rintro r u hw
  exact ⟨(true, sT, sE, f, g, fd, gd, f, g, f0, g0, f1, g1, f2, g2, f3, g3, nx, hn, n, pl, kd, cr, ag, nu, t, h, tx), ⟨hw, rfl, hs, hs, hh, htx⟩, rfl⟩
set_option maxHeartbeats 4000000 in
set_option maxRecDepth 100000 in
theorem b_clearText (l : Launch) (D : va_G) (cI cC cS : ClassId) (a : Nat → Nat) {u : KBS} {m : Mo} (hin : bI u m)  : kb_I (S := KBS) D [(cI, .int), (cC, .char), (cS, .object RX3)] l yX4_clearText wsX4_clearText rmX4_clearText [.ref (a 0)] (bW cI cC cS a u) (fun (r : Int32) (v : KBS) => r = nI (mo_n m) ∧ bI v (moC m)) (bW cI cC cS a) 0 0 := by
  obtain ⟨kp, sT, sE, f, g, fd, gd, fs, gs, f0, g0, f1, g1, f2, g2, f3, g3, nx, hn, n, pl, kd, cr, ag, nu, t, h, tx⟩ := u
  obtain ⟨rfl, hs, hsn, hh, htx⟩ := id hin
  refine kb_fr (T := KBS) (c_X4_clearText l D cC a kp sT sE n pl kd cr ag nu t) _ [true, false, false, false, false, false, false, false, false, false, false, false, false, false, false, false, false, false, false, false, false, false, false, false, false, false, false, false, false, false, false, false, false, false, false, false, false, false, false, false, false, false, false, false, false, false, false, false, false, false, false, false, false, false, false, false, false, false, false, true, true] [1] rfl (by decide +kernel) (Nat.le_of_ble_eq_true rfl) rfl (fun _ => rfl) ?_
  rintro r u hw
  exact ⟨(kp, sT, sE, f, g, fd, gd, fs, gs, f0, g0, f1, g1, f2, g2, f3, g3, nx, hn, 0, pl, kd, cr, ag, nu, t, h, tx), ⟨hw, rfl, hs, hsn, hh, ⟨Nat.zero_le _, fun k hk => absurd hk (Nat.not_lt_zero k)⟩⟩, rfl⟩
set_option maxHeartbeats 4000000 in
set_option maxRecDepth 100000 in
theorem b_type (l : Launch) (D : va_G) (cI cC cS : ClassId) (a : Nat → Nat) {u : KBS} {m : Mo} (hin : bI u m) (x : Nat) (hx6 : x < 65536) : kb_I (S := KBS) D [(cI, .int), (cC, .char), (cS, .object RX3)] l yX4_type wsX4_type rmX4_type [.ref (a 0), .int (nI x)] (bW cI cC cS a u) (fun (r : Int32) (v : KBS) => r = (if mo_n m < 60 then nI (mo_n m + 1) else -3) ∧ bI v (moT m x)) (bW cI cC cS a) 0 0 := by
  obtain ⟨kp, sT, sE, f, g, fd, gd, fs, gs, f0, g0, f1, g1, f2, g2, f3, g3, nx, hn, n, pl, kd, cr, ag, nu, t, h, tx⟩ := u
  obtain ⟨rfl, hs, hsn, hh, htx⟩ := id hin
  refine kb_fr (T := KBS) (c_X4_type l D cC a kp sT sE n pl kd cr ag nu t x hx6 htx.1) _ [true, false, false, false, false, false, false, false, false, false, false, false, false, false, false, false, false, false, false, false, false, false, false, false, false, false, false, false, false, false, false, false, false, false, false, false, false, false, false, false, false, false, false, false, false, false, false, false, false, false, false, false, false, false, false, false, false, false, false, true, true] [1] rfl (by decide +kernel) (Nat.le_of_ble_eq_true rfl) rfl (fun _ => rfl) ?_
  rintro r ⟨no, to⟩ hw
  rcases hw with ⟨e1, e2, e3, e4⟩ | ⟨e1, e2, e3, e4⟩
  · have e3 : no = n := e3
    have e4 : to = t := e4
    subst e3; subst e4
    refine ⟨(kp, sT, sE, f, g, fd, gd, fs, gs, f0, g0, f1, g1, f2, g2, f3, g3, nx, hn, no, pl, kd, cr, ag, nu, to, h, tx), ⟨e2.trans (if_neg (by show ¬ no < 60; omega)).symm, ?_, hs, hsn, hh, htx⟩, rfl⟩
    have q1 : (if no < 60 then no + 1 else no) = no := if_neg (by omega)
    have q2 : (if no < 60 then un tx no x else tx) = tx := if_neg (by omega)
    show ((g, (hn, h), (kp, gs), ((if no < 60 then no + 1 else no), (if no < 60 then un tx no x else tx))) : Mo) = (g, (hn, h), (kp, gs), (no, tx))
    rw [q1, q2]
  have e3 : no = n + 1 := e3
  have e4 : to = upd t n (nI x) := e4
  subst e3; subst e4
  refine ⟨(kp, sT, sE, f, g, fd, gd, fs, gs, f0, g0, f1, g1, f2, g2, f3, g3, nx, hn, n + 1, pl, kd, cr, ag, nu, upd t n (nI x), h, un tx n x), ⟨e2.trans (if_pos e1).symm, ?_, hs, hsn, hh, tOk_add htx e1 hx6⟩, rfl⟩
  have q1 : (if n < 60 then n + 1 else n) = n + 1 := if_pos e1
  have q2 : (if n < 60 then un tx n x else tx) = un tx n x := if_pos e1
  show ((g, (hn, h), (kp, gs), ((if n < 60 then n + 1 else n), (if n < 60 then un tx n x else tx))) : Mo) = (g, (hn, h), (kp, gs), (n + 1, un tx n x))
  rw [q1, q2]
set_option maxHeartbeats 4000000 in
set_option maxRecDepth 100000 in
theorem b_perform (l : Launch) (D : va_G) (cI cC cS : ClassId) (a : Nat → Nat) {u : KBS} {m : Mo} (hin : bI u m)  : kb_I (S := KBS) D [(cI, .int), (cC, .char), (cS, .object RX3)] l yX4_perform wsX4_perform rmX4_perform [.ref (a 0)] (bW cI cC cS a u) (fun (r : Int32) (v : KBS) => r = pfR (mo_tx m) (mo_n m) (mo_g m) ∧ bI v (moA m (pfR (mo_tx m) (mo_n m) (mo_g m)) (pfG (mo_tx m) (mo_n m) (mo_g m)))) (bW cI cC cS a) 0 0 := by
  obtain ⟨kp, sT, sE, f, g, fd, gd, fs, gs, f0, g0, f1, g1, f2, g2, f3, g3, nx, hn, n, pl, kd, cr, ag, nu, t, h, tx⟩ := u
  obtain ⟨rfl, hs, hsn, hh, htx⟩ := id hin
  refine kb_fr (T := KBS) (c_X4_perform l D cI cS cC a kp sT sE f g fd gd f0 f1 f2 f3 g0 g1 g2 g3 nx hn h n pl kd cr ag nu t tx htx hs hh) _ [true, true, true, true, true, true, true, true, true, true, true, true, true, true, true, true, true, false, false, false, false, false, false, false, false, true, true, true, true, true, true, true, true, true, true, true, true, true, true, true, true, true, true, true, true, true, true, true, true, true, true, true, true, true, true, true, true, true, true, true, true] [0, 2, 1] rfl (by decide +kernel) (Nat.le_of_ble_eq_true rfl) rfl (fun _ => rfl) ?_
  rintro r ⟨fo, go, fdo, gdo, f0o, g0o, f1o, g1o, f2o, g2o, f3o, g3o, nxo, hno, plo, kdo, cro, ago, nuo, sTo, sEo⟩ hw
  obtain ⟨e1, ⟨h1, rfl, rfl, h4⟩, e5, e6⟩ := hw
  exact ⟨(kp, sTo, sEo, fo, _, fdo, gdo, fs, gs, f0o, g0o, f1o, g1o, f2o, g2o, f3o, g3o, nxo, _, n, plo, kdo, cro, ago, nuo, t, _, tx), ⟨e1, rfl, h1, hsn, h4, htx⟩, rfl⟩
