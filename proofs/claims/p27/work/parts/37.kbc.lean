def gI : Sg := ((0, 0, 0), fun _ => 0, fun _ => 0, fun _ => 0, fun _ => 0, fun _ => 0, fun _ _ => nI 0, fun i => if i = 0 then nI 8 else if i = 1 then nI 10 else if i = 2 then nI 3 else if i = 3 then nI 4 else nI 0)
theorem gI_ok : Ok gI := by
  have n0 : nK gI = 0 := rfl
  have t0 : nT gI = 0 := rfl
  have w0 : nW gI = 0 := rfl
  refine ⟨⟨by omega, by omega, by omega⟩, fun j h => absurd h (by omega), fun i j h => absurd h (by omega), fun j h => absurd h (by omega), fun i j h => absurd h (by omega), fun k h => absurd h (by omega), fun k h => absurd h (by omega), fun k h => absurd h (by omega), fun k h => ⟨rfl, rfl, rfl, rfl⟩, fun k h => absurd h (by omega), ⟨8, rfl, by decide, by decide, by omega⟩, ⟨10, rfl, by decide, by decide⟩, ⟨3, rfl, by decide⟩, ⟨rfl, rfl, rfl⟩⟩
theorem sO_I : sO (kf5 (fun _ => nI 0) (fun _ => nI 0) (upd (upd (upd (upd (fun _ => nI 0) 0 (nI 8)) 1 (nI 10)) 2 (nI 3)) 3 (nI 4)) (fun _ => nI 0) (fun _ => nI 0)) gI := by
  refine ⟨⟨fun k hk => ⟨rfl, rfl, rfl, rfl, rfl, rfl, rfl⟩, fun k hk => absurd hk (Nat.not_lt_zero k), fun i hi => ?_, fun j hj => absurd hj (Nat.not_lt_zero j), fun j hj => absurd hj (Nat.not_lt_zero j)⟩, gI_ok⟩
  rcases (by omega : i = 0 ∨ i = 1 ∨ i = 2 ∨ i = 3) with rfl | rfl | rfl | rfl <;> rfl
theorem rH_0 (gs h : Nat → Sg) : rH gs 0 0 h := ⟨by decide, by decide, fun i hi => absurd hi (Nat.not_lt_zero i)⟩
theorem hI_init {f0 f1 f2 f3 : Nat → Nat → Int32} (h : Nat → Sg) (h0 : sO f0 gI) (h1 : sO f1 gI) (h2 : sO f2 gI) (h3 : sO f3 gI) : hI f0 gI f1 gI f2 gI f3 gI 0 0 h := ⟨h0, h1, h2, h3, rH_0 _ _⟩
theorem kb_max0 {n : Nat} (h : n < 2 ^ 31) : (if nI n < nI 0 then nI 0 else nI n) = nI n := if_neg (nI_nlt (Nat.zero_le _) h)
theorem kb_oinit {p : Program} {l : Launch} {e : Env} {R : Room} {s : State} {m : MethodId} {args : Array Value} {below : List Frame} {meth : Method} {c : Code} {H : Heap} {locs : List Loc} {cells slots : Nat} {Q : State → Prop} {pc : Nat} {ls : Array Slot} {cc : ByteArray} (hexec : p.tables.exec = Jvm.exec) (hb : c.code = cc) {own : String} (hown : s.vm.findClass own = some m.cls) {idx : Nat}
    (hlink : (Cond.methodLink own idx Lib.objectInit).before args s = true) (hinst : (Cond.instanceMethod Lib.objectInit).before args s = true) (hcode : (Cond.code Lib.objectInit ⟨#[0xb1]⟩ 1 none).before args s = true)
    (hsize : ls.size = c.maxLocals) {a : Addr} (hd : decode cc pc = .ok (.invokespecial idx, 3)) (hframes : 1 ≤ R.frames) (hlocals : 20 ≤ R.locals)
    (kk : W p l e R s m args below meth c H locs cells slots Q (F0 m (pc + 3) ls [])) : W p l e R s m args below meth c H locs cells slots Q (F0 m pc ls [.ref a]) :=
  W.objInit hexec hb hown hlink hinst hcode rfl hsize rfl hd hframes (Nat.le_trans (Nat.le_of_ble_eq_true rfl) hlocals) kk
