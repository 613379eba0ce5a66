/-- a method that reads alone and answers a cell -/
def kb_A (D : va_G) (tys : List (ClassId × FieldType)) (l : Launch) (y : MethodName) (ws : List Cond) (rm : Room) (av : List Value) (w0 : va_W) (r : Nat) : Prop :=
  ∀ sz, Met l y ws rm (va_Pc av (kb_P D w0 tys sz)) (va_Qr (fun _ : Unit => True) (fun u a t => a = r ∧ kb_B D tys (va_A w0 sz) (fun _ : Unit => w0) u t) (va_A w0 sz)) 0 0 (va_A w0 sz)
/-- a maker: cells come, kinds of arrays too -/
def kb_BT {S : Type} (D : va_G) (A : Nat → Prop) (w : S → va_W) (ty : S → List (ClassId × FieldType)) (u : S) (t : State) : Prop := va_P D vwCl (w u) t.heap ∧ va_K D vwCl (ty u) t ∧ va_D A (w u)
def kb_VT {S : Type} (D : va_G) (tys : List (ClassId × FieldType)) (l : Launch) (y : MethodName) (ws : List Cond) (rm : Room) (av : List Value) (w0 : va_W) (post : S → Prop) (w : S → va_W) (ty : S → List (ClassId × FieldType)) (mc ms : Nat) : Prop :=
  ∀ sz, Met l y ws rm (va_Pc av (kb_P D w0 tys sz)) (va_Qv post (kb_BT D (va_A w0 sz) w ty) (va_A w0 sz)) mc ms (va_A w0 sz)
section KCO
variable {S : Type} {D : va_G} {tys : List (ClassId × FieldType)} {l : Launch} {y : MethodName} {ws ws' : List Cond} {rm : Room} {av : List Value} {w0 : va_W} {w : S → va_W} {mc ms : Nat} {cc : ByteArray} {maxL : Nat} {ret : Option FieldType}
theorem kb_A_of {r : Nat} (hy : plainName y.cls = true) (hw : ws = Cond.code y cc maxL ret :: ws') (hav : (lg_sl av).length ≤ maxL)
    (body : ∀ (p : Program) (e : Env) (s : State) (m : MethodId) (args : Array Value) (below : List Frame) (meth : Method) (c : Code) (A : Nat → Prop), p.tables.exec = Jvm.exec → c.code = cc → c.maxLocals = maxL → meth.sig.returnType = ret → (∀ w ∈ ws, w.before args s = true) → s.vm.findClass y.cls = some m.cls → meth.locks = false → meth.name = y.name →
      (∀ q : Nat, s.heap.size ≤ q → A q) → kb_N s → va_K D vwCl tys s → va_P D vwCl w0 s.heap → va_D A w0 → va_S A s.heap s.heap [] → ∀ ls : Array Slot, lv_has ls maxL (lv_args 0 av) →
      ∀ Q : State → Prop, (∀ t, MQ below (va_Qr (fun _ : Unit => True) (fun u a t => a = r ∧ kb_B D tys A (fun _ : Unit => w0) u t) A) args s 0 0 A t → Q t) → W p l e rm s m args below meth c s.heap [] 0 0 Q (F0 m 0 ls [])) : kb_A D tys l y ws rm av w0 r := by
  intro sz
  refine Met.ofW (cc := cc) (maxL := maxL) (ret := ret) hy hw ?_
  intro p e s m args below meth c s₁ B hml hv
  obtain ⟨rfl, hsz, hP, hK, hD0, hN⟩ := hv
  subst hsz
  rw [lg_entry_eq]
  exact body p e s m _ below meth c (va_A w0 s.heap.size) B.exec B.bytes hml B.returns (atoms_spec (ws := ws) B.pre) (findClass_of_methodNamed B.named) B.notSynchronized (name_of_methodNamed B.named B.method).1 (fun q h => Or.inr h) hN hK hP hD0.self va_S.rf _ (lv_entry av hav) _ (fun _ h => h)
theorem kb_VT_of {post : S → Prop} {ty : S → List (ClassId × FieldType)} (hy : plainName y.cls = true) (hw : ws = Cond.code y cc maxL ret :: ws') (hav : (lg_sl av).length ≤ maxL)
    (body : ∀ (p : Program) (e : Env) (s : State) (m : MethodId) (args : Array Value) (below : List Frame) (meth : Method) (c : Code) (A : Nat → Prop), p.tables.exec = Jvm.exec → c.code = cc → c.maxLocals = maxL → meth.sig.returnType = ret → (∀ w ∈ ws, w.before args s = true) → s.vm.findClass y.cls = some m.cls → meth.locks = false → meth.name = y.name →
      (∀ q : Nat, s.heap.size ≤ q → A q) → kb_N s → va_K D vwCl tys s → va_P D vwCl w0 s.heap → va_D A w0 → va_S A s.heap s.heap [] → ∀ ls : Array Slot, lv_has ls maxL (lv_args 0 av) →
      ∀ Q : State → Prop, (∀ t, MQ below (va_Qv post (kb_BT D A w ty) A) args s mc ms A t → Q t) → W p l e rm s m args below meth c s.heap [] 0 0 Q (F0 m 0 ls [])) : kb_VT D tys l y ws rm av w0 post w ty mc ms := by
  intro sz
  refine Met.ofW (cc := cc) (maxL := maxL) (ret := ret) hy hw ?_
  intro p e s m args below meth c s₁ B hml hv
  obtain ⟨rfl, hsz, hP, hK, hD0, hN⟩ := hv
  subst hsz
  rw [lg_entry_eq]
  exact body p e s m _ below meth c (va_A w0 s.heap.size) B.exec B.bytes hml B.returns (atoms_spec (ws := ws) B.pre) (findClass_of_methodNamed B.named) B.notSynchronized (name_of_methodNamed B.named B.method).1 (fun q h => Or.inr h) hN hK hP hD0.self va_S.rf _ (lv_entry av hav) _ (fun _ h => h)
end KCO
section KCE
variable {S : Type} {D : va_G} {tys : List (ClassId × FieldType)} {w : S → va_W} {mc ms : Nat} {cc : ByteArray}
variable {p : Program} {l : Launch} {e : Env} {R : Room} {s : State} {m : MethodId} {args : Array Value} {below : List Frame} {meth : Method} {c : Code} {H : Heap} {locs : List Loc} {cells slots : Nat} {pc : Nat} {ls : Array Slot} {A : Nat → Prop} {wn : va_W}
theorem kb_aret {a : Nat} {nm : String} {Q : State → Prop} (hQ : ∀ t, MQ below (va_Qr (fun _ : Unit => True) (fun u b t => b = a ∧ kb_B D tys A (fun _ : Unit => wn) u t) A) args s 0 0 A t → Q t) (hx : p.tables.exec = Jvm.exec) (hb : c.code = cc) (hr : meth.sig.returnType = some (.object nm)) (hlocks : meth.locks = false) (hK : va_K D vwCl tys s) (hP : va_P D vwCl wn H) (hD : va_D A wn) (hS : va_S A s.heap H locs) (hdg : decode cc pc = .ok (.areturn, 1)) :
    W p l e R s m args below meth c H locs 0 0 Q (F0 m pc ls [.ref a]) := by
  refine kb_mono hQ ?_
  exact W.aret (v := .ref a) hx hb hr (Or.inl ⟨_, rfl⟩) (Or.inr ⟨_, rfl⟩) (fun t ht hW => ⟨⟨(), a, rfl, trivial, rfl, by rw [ht]; exact hP, va_K.moved hW.alike hK, hD⟩, hS.F ht⟩) hS.2.2 hdg hlocks
theorem kb_vretT {post : S → Prop} {ty : S → List (ClassId × FieldType)} {Q : State → Prop} (hQ : ∀ t, MQ below (va_Qv post (kb_BT D A w ty) A) args s mc ms A t → Q t) (hx : p.tables.exec = Jvm.exec) (hb : c.code = cc) (hr : meth.sig.returnType = none) (hlocks : meth.locks = false) (hK : va_K D vwCl tys s) (hP : va_P D vwCl wn H) (hD : va_D A wn) (hS : va_S A s.heap H locs) (hdg : decode cc pc = .ok (.return_, 1)) (u : S) (hu : w u = wn) (isT : List Nat) (hT : isT.filterMap (fun i => tys[i]?) = ty u) (hc : cells ≤ mc) (hs : slots ≤ ms) (hp : post u) :
    W p l e R s m args below meth c H locs cells slots Q (F0 m pc ls []) := by
  subst hu
  refine W.widen hc hs ?_
  refine kb_mono hQ ?_
  exact W.vret hx hb hr (fun t ht hW => ⟨⟨u, rfl, hp, by rw [ht]; exact hP, va_K.moved hW.alike (hK.sub isT hT), hD⟩, hS.F ht⟩) hS.2.2 hdg hlocks
end KCE
section KCC
variable {S : Type} {D : va_G} {tys tys' : List (ClassId × FieldType)} {mc ms : Nat} {cc bytes : ByteArray} {y : MethodName} {ret : Option FieldType} {Ts wsm ws' : List Cond} {rm : Room} {own host C : String} {b nL maxL index n ci : Nat} {As rest st : List Value} {fs : List Value} {q0 : vw_C}
variable {p : Program} {l : Launch} {e : Env} {R : Room} {s : State} {m : MethodId} {args : Array Value} {below : List Frame} {meth : Method} {c : Code} {H H0 : Heap} {locs : List Loc} {cells slots : Nat} {pc : Nat} {ls : Array Slot} {A : Nat → Prop} {Q : State → Prop} {ws wc wr : va_W} {w : S → va_W}
theorem kb_vA {r : Nat} (hx : p.tables.exec = Jvm.exec) (hb : c.code = cc) (hml : c.maxLocals = nL) (hts : ∀ w ∈ Ts, w.before args s = true) (hown : s.vm.findClass own = some m.cls) (hN : kb_N s) (hK : va_K D vwCl tys s) (hP : va_P D vwCl ws H) (hD : va_D A ws) (hS : va_S A H0 H locs) (hA : ∀ q, H0.size ≤ q → A q)
    (hM : kb_A D tys' l y wsm rm (.ref b :: As) wc r) (hG : GoodIn Ts (wsV own index C y wsm)) (hwm : wsm = Cond.code y bytes maxL ret :: ws') (hrm : rm.cells = 0 ∧ rm.slots = 0)
    (hd : y.cls = C ∧ y.cls ≠ "java/lang/invoke/MethodHandle" ∧ y.cls ≠ "java/lang/invoke/VarHandle" ∧ (parseMethodDescriptor y.desc).map (fun d => d.parameters.length) = some n) (hR : rm.frames + 1 ≤ R.frames ∧ 8 + (maxL + 11) + rm.locals ≤ R.locals)
    (isC isT : List Nat) (hC : isC.map (fun i => ws[i]?) = wc.map some) (hnd : va_nd isC = true) (hT : isT.filterMap (fun i => tys[i]?) = tys') (hc : vwCl[ci]? = some q0) (hq : q0.1 = C) (he : wc[0]? = some (b, .inr (ci, fs)))
    (hst : st = As.reverse ++ .ref b :: rest) (hn : As.length = n) (hl : ls.size = nL) (hroom : (rest.map fun v => v.category).sum ≤ 8) (hdg : decode cc pc = .ok (.invokevirtual index, 3)) (hf : cells ≤ R.cells ∧ slots ≤ R.slots)
    (kk : ∀ (H1 : Heap) (locs1 : List Loc), va_P D vwCl ws H1 → va_S A H0 H1 locs1 → W p l e R s m args below meth c H1 locs1 cells slots Q (F0 m (pc + 3) ls (.ref r :: rest))) : W p l e R s m args below meth c H locs cells slots Q (F0 m pc ls st) := by
  have hF := kb_freeC hD hS hA isC hC
  refine va_callr (va_runV (As := As) (rest := rest) ⟨hx, hb, hml, hown, hts⟩ (hM H.size) (cwV n hts hG hwm hrm.1 hrm.2 hd hR) (kb_preV hN rfl hK hP hD isC isT hC hnd hT hc hq he) rfl hn hl hst (lv_room hroom) hdg hf) hS (fun q _ h => hF q h) hF (fun u ra t H1 locs1 ht hvm hw hB hz1 hk1 hS1 => ?_)
  obtain ⟨e1, hP1, -, -⟩ := hB
  rw [ht] at hP1
  subst e1
  exact kk H1 locs1 (kb_joinR hP hD isC hC hk1 hP1) hS1
/-- a maker called -/
theorem kb_iV {post : S → Prop} {ty : S → List (ClassId × FieldType)} (hx : p.tables.exec = Jvm.exec) (hb : c.code = cc) (hml : c.maxLocals = nL) (hts : ∀ w ∈ Ts, w.before args s = true) (hown : s.vm.findClass own = some m.cls) (hN : kb_N s) (hK : va_K D vwCl tys s) (hP : va_P D vwCl ws H) (hD : va_D A ws) (hS : va_S A H0 H locs) (hA : ∀ q, H0.size ≤ q → A q)
    (hM : kb_VT D tys' l y wsm rm (.ref b :: As) wc post w ty mc ms) (hG : GoodIn Ts wsm) (hwm : wsm = Cond.code y bytes maxL none :: ws') (hrm : rm.cells = mc ∧ rm.slots = ms) (hini : (Cond.initialized y.cls).before args s = true) (hlk : (Cond.methodLink own index y).before args s = true) (hin : (Cond.instanceMethod y).before args s = true) (hy1 : y.name = "<init>")
    (hd : y.cls ≠ "java/lang/invoke/MethodHandle" ∧ y.cls ≠ "java/lang/invoke/VarHandle" ∧ (parseMethodDescriptor y.desc).map (fun d => d.parameters.length) = some n) (hR : rm.frames + 1 ≤ R.frames ∧ 8 + (maxL + 11) + rm.locals ≤ R.locals)
    (isC isT isR : List Nat) (hC : isC.map (fun i => ws[i]?) = wc.map some) (hnd : va_nd isC = true) (hT : isT.filterMap (fun i => tys[i]?) = tys') (hRr : isR.map (fun i => ws[i]?) = wr.map some) (hndR : va_nd isR = true) (hdis : ∀ i ∈ isR, i ∉ isC)
    (hst : st = As.reverse ++ .ref b :: rest) (hn : As.length = n) (hl : ls.size = nL) (hroom : (rest.map fun v => v.category).sum ≤ 8) (hdg : decode cc pc = .ok (.invokespecial index, 3)) (hf : cells + mc ≤ R.cells ∧ slots + ms ≤ R.slots)
    (kk : ∀ (u : S) (H1 : Heap) (locs1 : List Loc), post u → va_K D vwCl (tys ++ ty u) s → va_P D vwCl (wr ++ w u) H1 → va_D A (wr ++ w u) → va_S A H0 H1 locs1 → W p l e R s m args below meth c H1 locs1 (cells + mc) (slots + ms) Q (F0 m (pc + 3) ls rest)) : W p l e R s m args below meth c H locs cells slots Q (F0 m pc ls st) := by
  have hF := kb_freeC hD hS hA isC hC
  refine va_callv (va_runI (As := As) (rest := rest) ⟨hx, hb, hml, hown, hts⟩ (hM H.size) (cwI n hts hG hwm hrm.1 hrm.2 hini hlk hin hy1 hd hR) (kb_preS (As := .ref b :: As) hN rfl hK hP hD isC isT hC hnd hT) rfl hn hl hst (lv_room hroom) hdg hf) hS (fun q _ h => hF q h) hF (fun u t H1 locs1 ht hvm hw hB hz1 hk1 hS1 => ?_)
  obtain ⟨hP1, hK1, hD1⟩ := hB
  rw [ht] at hP1
  have hj := va_join hP hD isC isR hC hRr hndR hdis hk1 hF hP1 hD1
  exact kk u H1 locs1 hw (hK.app (va_K.moved hvm.symm hK1)) hj.1 hj.2 hS1
theorem kb_newi (hx : p.tables.exec = Jvm.exec) (hb : c.code = cc) (harr : (Cond.arrayClass .int).before args s = true) (hK : va_K D vwCl tys s) (hP : va_P D vwCl ws H) (hD : va_D A ws) (hS : va_S A H0 H locs) (hA : ∀ q, H0.size ≤ q → A q) (t0 : Nat) {cI : ClassId} (ht : tys[t0]? = some (cI, .int)) {N : Nat} (hN : N ≤ 1000) (hcells : cells + 1 ≤ R.cells) (hslots : slots + N ≤ R.slots) (hdg : decode cc pc = .ok (.newarray .int, 2))
    (kk : ∀ (q : Nat) (H1 : Heap), va_P D vwCl (ws ++ [(q, .inl (cI, N, .inl (fun _ => nI 0)))]) H1 → va_D A (ws ++ [(q, .inl (cI, N, .inl (fun _ => nI 0)))]) → va_S A H0 H1 locs → W p l e R s m args below meth c H1 locs (cells + 1) (slots + N) Q (F0 m (pc + 2) ls (.ref q :: rest))) : W p l e R s m args below meth c H locs cells slots Q (F0 m pc ls (.int (nI N) :: rest)) := by
  refine va_newa (atype := .int) (ty := .int) hx hb harr rfl hK hP hD hS hA (a0 := (N, .inl (fun _ => nI 0))) (fun cA => rfl) (nI_pos (by omega)) (nI_clamp (by omega)) (by show N * 4 ≤ _; omega) hcells hslots hdg (fun q cA H1 hK1 hP1 hD1 hS1 => ?_)
  have hl : t0 < tys.length := (List.getElem?_eq_some_iff.mp ht).1
  have e : cA = cI := kb_same hK1 t0 tys.length (by rw [List.getElem?_append_left hl]; exact ht) (by rw [List.getElem?_append_right (Nat.le_refl _), Nat.sub_self]; rfl)
  subst e
  exact kk q H1 hP1 hD1 hS1
theorem kb_newc (hx : p.tables.exec = Jvm.exec) (hb : c.code = cc) (harr : (Cond.arrayClass .char).before args s = true) (hK : va_K D vwCl tys s) (hP : va_P D vwCl ws H) (hD : va_D A ws) (hS : va_S A H0 H locs) (hA : ∀ q, H0.size ≤ q → A q) (t0 : Nat) {cC : ClassId} (ht : tys[t0]? = some (cC, .char)) {N : Nat} (hN : N ≤ 1000) (hcells : cells + 1 ≤ R.cells) (hslots : slots + N ≤ R.slots) (hdg : decode cc pc = .ok (.newarray .char, 2))
    (kk : ∀ (q : Nat) (H1 : Heap), va_P D vwCl (ws ++ [(q, .inl (cC, N, .inl (fun _ => nI 0)))]) H1 → va_D A (ws ++ [(q, .inl (cC, N, .inl (fun _ => nI 0)))]) → va_S A H0 H1 locs → W p l e R s m args below meth c H1 locs (cells + 1) (slots + N) Q (F0 m (pc + 2) ls (.ref q :: rest))) : W p l e R s m args below meth c H locs cells slots Q (F0 m pc ls (.int (nI N) :: rest)) := by
  refine va_newa (atype := .char) (ty := .char) hx hb harr rfl hK hP hD hS hA (a0 := (N, .inl (fun _ => nI 0))) (fun cA => rfl) (nI_pos (by omega)) (nI_clamp (by omega)) (by show N * 2 ≤ _; omega) hcells hslots hdg (fun q cA H1 hK1 hP1 hD1 hS1 => ?_)
  have hl : t0 < tys.length := (List.getElem?_eq_some_iff.mp ht).1
  have e : cA = cC := by
    have a0 := (hK1.2 t0 (cC, .char) (by rw [List.getElem?_append_left hl]; exact ht)).2
    have b0 := (hK1.2 tys.length (cA, .char) (by rw [List.getElem?_append_right (Nat.le_refl _), Nat.sub_self]; rfl)).2
    have a : s.vm.findClass ("[" ++ FieldType.char.toString) = some cC := a0
    have b : s.vm.findClass ("[" ++ FieldType.char.toString) = some cA := b0
    exact Option.some.inj (b.symm.trans a)
  subst e
  exact kk q H1 hP1 hD1 hS1
theorem kb_aldq (hx : p.tables.exec = Jvm.exec) (hb : c.code = cc) (hK : va_K D vwCl tys s) (hP : va_P D vwCl ws H) (q0 t0 : Nat) {cA : ClassId} {C : String} {n : Nat} {f : Nat → Option Nat} (ha : ws[q0]? = some (b, .inl (cA, n, .inr (.inr (.inr (.inr f)))))) (ht : tys[t0]? = some (cA, .object C)) {i r : Nat} (hn : n ≤ 1000) (hi : i < n) (hf : f i = some r) (hdg : decode cc pc = .ok (.aaload, 1))
    (kk : W p l e R s m args below meth c H locs cells slots Q (F0 m (pc + 1) ls (.ref r :: rest))) : W p l e R s m args below meth c H locs cells slots Q (F0 m pc ls (.int (nI i) :: .ref b :: rest)) := by
  have hc : (nI i).toNatClampNeg = i := nI_clamp (by omega)
  refine va_aldq hx hb hK hP q0 t0 ha ht (i := nI i) (fun q => ?_) hdg ?_
  · rcases q with q | q
    · exact nI_pos (by omega) q
    · rw [hc] at q; omega
  · rw [hc, hf]; exact kk
theorem kb_astq (hx : p.tables.exec = Jvm.exec) (hb : c.code = cc) (hK : va_K D vwCl tys s) (hP : va_P D vwCl ws H) (hD : va_D A ws) (hS : va_S A H0 H locs) (q0 t0 qk ci : Nat) {cA : ClassId} {r : vw_C} {n v : Nat} {vs : List Value} {f : Nat → Option Nat} (ha : ws[q0]? = some (b, .inl (cA, n, .inr (.inr (.inr (.inr f)))))) (ht : tys[t0]? = some (cA, .object r.1)) (hv : ws[qk]? = some (v, .inr (ci, vs))) (hc : vwCl[ci]? = some r) {i : Nat} (hn : n ≤ 1000) (hi : i < n) (hdg : decode cc pc = .ok (.aastore, 1))
    (kk : ∀ (H1 : Heap) (locs1 : List Loc), va_P D vwCl (ws.set q0 (b, .inl (cA, n, .inr (.inr (.inr (.inr (va_up f i (some v)))))))) H1 → va_D A (ws.set q0 (b, .inl (cA, n, .inr (.inr (.inr (.inr (va_up f i (some v)))))))) → va_S A H0 H1 locs1 → W p l e R s m args below meth c H1 locs1 cells slots Q (F0 m (pc + 1) ls rest)) : W p l e R s m args below meth c H locs cells slots Q (F0 m pc ls (.ref v :: .int (nI i) :: .ref b :: rest)) := by
  have hcl : (nI i).toNatClampNeg = i := nI_clamp (by omega)
  refine va_astq hx hb hK hP hD hS q0 t0 qk ci ha ht hv hc (i := nI i) (fun q => ?_) hdg ?_
  · rcases q with q | q
    · exact nI_pos (by omega) q
    · rw [hcl] at q; omega
  · rw [hcl]; exact kk
end KCC
def hsA (b : Nat → Nat) : Nat → Option Nat := fun i => match i with
  | 0 => some (b 2)
  | 1 => some (b 10)
  | 2 => some (b 18)
  | 3 => some (b 26)
  | _ => none
def kh4 (a b c d : Nat → Nat → Int32) : Nat → Nat → Nat → Int32 := fun i => match i with
  | 0 => a
  | 1 => b
  | 2 => c
  | _ => d
def kg4 (a b c d : Sg) : Nat → Sg := fun i => match i with
  | 0 => a
  | 1 => b
  | 2 => c
  | _ => d
theorem hs_min {n : Nat} (h : n ≤ 4) : (if nI 4 < nI (n + 1) then nI 4 else nI (n + 1)) = nI (if n < 4 then n + 1 else 4) := by
  by_cases q : n < 4
  · rw [if_neg (nI_nlt (by omega) (by decide)), if_pos q]
  · rw [if_pos (nI_lt (by omega) (by omega)), if_neg q]
def kb_mg {α : Type} : List Bool → List α → List α → List α
  | [], _, ws => ws
  | _ :: _, [], ws => ws
  | _ :: _, _ :: _, [] => []
  | true :: bs, v :: vs, _ :: ws => v :: kb_mg bs vs ws
  | false :: bs, v :: vs, x :: ws => x :: kb_mg bs (v :: vs) ws
def kb_ix : Nat → List Bool → List Nat
  | _, [] => []
  | k, true :: bs => k :: kb_ix (k + 1) bs
  | k, false :: bs => kb_ix (k + 1) bs
theorem kb_set_mg (bs : List Bool) : ∀ (k : Nat) (vs : va_W) (pre ws : va_W), pre.length = k → bs.length ≤ ws.length → kb_set (kb_ix k bs) vs (pre ++ ws) = pre ++ kb_mg bs vs ws := by
  induction bs with
  | nil => intro k vs pre ws _ _; simp [kb_ix, kb_set, kb_mg]
  | cons b bs ih =>
    intro k vs pre ws hk hl
    cases ws with
    | nil => exact absurd hl (by simp)
    | cons x ws =>
      have hl2 : bs.length ≤ ws.length := by simpa using hl
      cases vs with
      | nil =>
        cases b
        · have h0 : ∀ (js : List Nat) (w : va_W), kb_set js [] w = w := by intro js w; cases js <;> rfl
          rw [h0]; rfl
        · rfl
      | cons v vs =>
        cases b
        · have h := ih (k + 1) (v :: vs) (pre ++ [x]) ws (by simp [hk]) hl2
          rw [List.append_assoc] at h
          refine h.trans ?_
          rw [List.append_assoc]; rfl
        · have h := ih (k + 1) vs (pre ++ [v]) ws (by simp [hk]) hl2
          show kb_set (kb_ix (k + 1) bs) vs ((pre ++ x :: ws).set k v) = _
          have e : (pre ++ x :: ws).set k v = (pre ++ [v]) ++ ws := by
            subst hk
            rw [List.set_append_right _ _ (Nat.le_refl _), Nat.sub_self]
            simp
          rw [e, h, List.append_assoc]; rfl
theorem kb_mgP {D : va_G} {H : Heap} {vs ws : va_W} {js : List Nat} (bs : List Bool) (h1 : js = kb_ix 0 bs) (h2 : bs.length ≤ ws.length) (h : va_P D vwCl (kb_set js vs ws) H) : va_P D vwCl (kb_mg bs vs ws) H := by
  subst h1
  have e := kb_set_mg bs 0 vs [] ws rfl h2
  rw [List.nil_append, List.nil_append] at e
  rwa [e] at h
theorem kb_mgD {A : Nat → Prop} {vs ws : va_W} {js : List Nat} (bs : List Bool) (h1 : js = kb_ix 0 bs) (h2 : bs.length ≤ ws.length) (h : va_D A (kb_set js vs ws)) : va_D A (kb_mg bs vs ws) := by
  subst h1
  have e := kb_set_mg bs 0 vs [] ws rfl h2
  rw [List.nil_append, List.nil_append] at e
  rwa [e] at h
def kb_pk : List (Option Nat) → va_W → va_W → va_W
  | [], _, ws => ws
  | _ :: _, _, [] => []
  | none :: cs, vs, x :: ws => x :: kb_pk cs vs ws
  | some j :: cs, vs, x :: ws => (vs[j]?.getD x) :: kb_pk cs vs ws
theorem kb_pk_get (vs : va_W) : ∀ (cs : List (Option Nat)) (ws : va_W) (k : Nat), (kb_pk cs vs ws)[k]? = match cs[k]? with
    | some (some j) => (ws[k]?).map (fun x => vs[j]?.getD x)
    | _ => ws[k]? := by
  intro cs
  induction cs with
  | nil => intro ws k; simp [kb_pk]
  | cons c cs ih =>
    intro ws k
    cases ws with
    | nil => cases c <;> cases k <;> simp [kb_pk] <;> split <;> rfl
    | cons x ws =>
      cases c with
      | none =>
        cases k with
        | zero => rfl
        | succ k => exact ih ws k
      | some j =>
        cases k with
        | zero => rfl
        | succ k => exact ih ws k
def kb_ck (js : List Nat) (cs : List (Option Nat)) : Bool := (List.range cs.length).all (fun k => match cs[k]? with
  | some (some j) => js[j]? == some k
  | _ => !js.contains k) && js.all (fun i => decide (i < cs.length))
theorem kb_set_pk {js : List Nat} {cs : List (Option Nat)} {vs ws : va_W} (hn : va_nd js = true) (hk : kb_ck js cs = true) (hv : vs.length = js.length) (hl : cs.length ≤ ws.length) : kb_set js vs ws = kb_pk cs vs ws := by
  obtain ⟨h1, h2⟩ := Bool.and_eq_true_iff.mp hk
  apply List.ext_getElem?
  intro k
  rw [kb_pk_get]
  by_cases hc : k < cs.length
  · have h3 := List.all_eq_true.mp h1 k (List.mem_range.mpr hc)
    have hw : k < ws.length := Nat.lt_of_lt_of_le hc hl
    rw [List.getElem?_eq_getElem hc] at h3 ⊢
    revert h3
    cases cs[k] with
    | none =>
      intro h3
      exact kb_set_out js vs ws k (by simpa using h3)
    | some j =>
      intro h3
      have h4 : js[j]? = some k := by simpa using h3
      have hj : j < vs.length := by rw [hv]; exact (List.getElem?_eq_some_iff.mp h4).1
      rw [kb_set_in js vs ws j k vs[j] hn h4 (List.getElem?_eq_getElem hj) hw]
      show _ = (ws[k]?).map (fun x => vs[j]?.getD x)
      rw [List.getElem?_eq_getElem hw, List.getElem?_eq_getElem hj]; rfl
  · rw [List.getElem?_eq_none (Nat.le_of_not_lt hc)]
    refine kb_set_out js vs ws k (fun hm => hc ?_)
    have := List.all_eq_true.mp h2 k hm
    simpa using this
theorem kb_pkP {D : va_G} {H : Heap} {vs ws : va_W} {js : List Nat} (cs : List (Option Nat)) (hn : va_nd js = true) (hk : kb_ck js cs = true) (hv : vs.length = js.length) (hl : cs.length ≤ ws.length) (h : va_P D vwCl (kb_set js vs ws) H) : va_P D vwCl (kb_pk cs vs ws) H := kb_set_pk hn hk hv hl ▸ h
theorem kb_pkD {A : Nat → Prop} {vs ws : va_W} {js : List Nat} (cs : List (Option Nat)) (hn : va_nd js = true) (hk : kb_ck js cs = true) (hv : vs.length = js.length) (hl : cs.length ≤ ws.length) (h : va_D A (kb_set js vs ws)) : va_D A (kb_pk cs vs ws) := kb_set_pk hn hk hv hl ▸ h
def kaL (ks : List Nat) (i : Nat) : Nat := ks.getD i 0
theorem kb_reQ {D : va_G} {cl : List vw_C} {ws : va_W} {H : Heap} {q0 a n : Nat} {cA : ClassId} {f g : Nat → Option Nat} (hP : va_P D cl ws H) (ha : ws[q0]? = some (a, .inl (cA, n, .inr (.inr (.inr (.inr f)))))) (h : ∀ j, j < n → f j = g j) : va_P D cl (ws.set q0 (a, .inl (cA, n, .inr (.inr (.inr (.inr g)))))) H := by
  have hl := (List.getElem?_eq_some_iff.mp ha).1
  intro k q hk
  by_cases hkp : k = q0
  · subst hkp
    rw [List.getElem?_set_self hl] at hk
    cases hk
    have := hP k _ ha
    show H[a]? = some (vp_cell _ _)
    have e : vp_cell cA (n, .inr (.inr (.inr (.inr f)))) = vp_cell cA (n, .inr (.inr (.inr (.inr g)))) := by
      rw [vp_cell_q, vp_cell_q]
      unfold arrV
      congr 1
      congr 1
      funext j
      show va_rf (f j.val) = va_rf (g j.val)
      rw [h j.val j.isLt]
    rw [← e]
    exact this
  · rw [List.getElem?_set_ne (Ne.symm hkp)] at hk
    exact hP k q hk
