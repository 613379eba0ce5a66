theorem kb_ixF : ∀ (a k : Nat) (bs : List Bool), kb_ix k (List.replicate a false ++ bs) = kb_ix (k + a) bs
  | 0, k, bs => by simp
  | a + 1, k, bs => by
    rw [List.replicate_succ, List.cons_append]
    show kb_ix (k + 1) (List.replicate a false ++ bs) = _
    rw [kb_ixF a (k + 1) bs, show k + 1 + a = k + (a + 1) by omega]
theorem kb_ix_ge : ∀ (bs : List Bool) (k i : Nat), i ∈ kb_ix k bs → k ≤ i
  | [], _, _, h => absurd h List.not_mem_nil
  | true :: bs, k, i, h => by
    rcases List.mem_cons.mp h with h | h
    · omega
    · have := kb_ix_ge bs (k + 1) i h
      omega
  | false :: bs, k, i, h => by
    have := kb_ix_ge bs (k + 1) i h
    omega
theorem kb_ix_nd : ∀ (bs : List Bool) (k : Nat), va_nd (kb_ix k bs) = true
  | [], _ => rfl
  | true :: bs, k => by
    show (decide (k ∉ kb_ix (k + 1) bs) && va_nd (kb_ix (k + 1) bs)) = true
    rw [kb_ix_nd bs (k + 1), Bool.and_true]
    exact decide_eq_true (fun h => by have := kb_ix_ge bs (k + 1) k h; omega)
  | false :: bs, k => kb_ix_nd bs (k + 1)
theorem kb_blC2 (pst : va_W) : ∀ (wc pre : va_W), (kb_ix pre.length (List.replicate wc.length true)).map (fun i => (pre ++ (wc ++ pst))[i]?) = wc.map some
  | [], _ => rfl
  | q :: wc, pre => by
    rw [List.length_cons, List.replicate_succ]
    show ((pre ++ (q :: wc ++ pst))[pre.length]?) :: (kb_ix (pre.length + 1) (List.replicate wc.length true)).map (fun i => (pre ++ (q :: wc ++ pst))[i]?) = some q :: wc.map some
    have h := kb_blC2 pst wc (pre ++ [q])
    rw [List.length_append, List.length_singleton, List.append_assoc] at h
    have e : pre ++ (q :: wc ++ pst) = pre ++ ([q] ++ (wc ++ pst)) := rfl
    rw [e, h]
    congr 1
    rw [List.getElem?_append_right (Nat.le_refl _), Nat.sub_self]
    rfl
theorem kb_blC (pre wc pst : va_W) : (kb_ix 0 (List.replicate pre.length false ++ List.replicate wc.length true)).map (fun i => (pre ++ (wc ++ pst))[i]?) = wc.map some := by
  rw [kb_ixF, Nat.zero_add]
  exact kb_blC2 pst wc pre
theorem kb_mg_nil (bs : List Bool) (ws : va_W) : kb_mg bs [] ws = ws := by cases bs <;> rfl
theorem kb_blM2 (pst : va_W) : ∀ (wc v : va_W), v.length = wc.length → kb_mg (List.replicate wc.length true) v (wc ++ pst) = v ++ pst
  | [], [], _ => rfl
  | [], _ :: _, h => absurd h (by simp)
  | _ :: _, [], h => absurd h (by simp)
  | q :: wc, x :: v, h => by
    rw [List.length_cons, List.replicate_succ]
    show x :: kb_mg (List.replicate wc.length true) v (wc ++ pst) = x :: (v ++ pst)
    rw [kb_blM2 pst wc v (by simpa using h)]
theorem kb_blM (pst : va_W) : ∀ (pre wc v : va_W), v.length = wc.length → kb_mg (List.replicate pre.length false ++ List.replicate wc.length true) v (pre ++ (wc ++ pst)) = pre ++ (v ++ pst)
  | [], wc, v, h => kb_blM2 pst wc v h
  | q :: pre, wc, [], h => by
    rw [kb_mg_nil]
    have : wc = [] := List.eq_nil_of_length_eq_zero (by simpa using h.symm)
    rw [this]
  | q :: pre, wc, x :: v, h => by
    rw [List.length_cons, List.replicate_succ]
    show q :: kb_mg (List.replicate pre.length false ++ List.replicate wc.length true) (x :: v) (pre ++ (wc ++ pst)) = q :: (pre ++ (x :: v ++ pst))
    rw [kb_blM pst pre wc (x :: v) h]
theorem kb_swP {D : va_G} {cl : List vw_C} {X Y : va_W} {H : Heap} (h : va_P D cl (X ++ Y) H) : va_P D cl (Y ++ X) H := by
  intro k q hk
  rcases List.mem_append.mp (List.mem_of_getElem? hk) with z | z
  · obtain ⟨i, hi⟩ := List.getElem?_of_mem (List.mem_append_right X z)
    exact h i q hi
  · obtain ⟨i, hi⟩ := List.getElem?_of_mem (List.mem_append_left Y z)
    exact h i q hi
theorem kb_swD {A : Nat → Prop} {X Y : va_W} (h : va_D A (X ++ Y)) : va_D A (Y ++ X) := by
  have key : ∀ (k : Nat) (q : Nat × va_E), (Y ++ X)[k]? = some q → (X ++ Y)[if k < Y.length then X.length + k else k - Y.length]? = some q := by
    intro k q hk
    by_cases hl : k < Y.length
    · rw [if_pos hl, List.getElem?_append_right (by omega), show X.length + k - X.length = k by omega]
      rwa [List.getElem?_append_left hl] at hk
    · rw [if_neg hl]
      rw [List.getElem?_append_right (by omega)] at hk
      rw [List.getElem?_append_left (List.getElem?_eq_some_iff.mp hk).1]
      exact hk
  have hX : ∀ (k : Nat) (q : Nat × va_E), (Y ++ X)[k]? = some q → k < Y.length + X.length := by
    intro k q hk
    have := (List.getElem?_eq_some_iff.mp hk).1
    rwa [List.length_append] at this
  refine ⟨fun i j p q hi hj e => ?_, fun k q hk => h.2 _ q (key k q hk)⟩
  have := h.1 _ _ p q (key i p hi) (key j q hj) e
  have h1 := hX i p hi
  have h2 := hX j q hj
  split at this <;> split at this <;> omega
section KBB
variable {S : Type} {D : va_G} {tys tys' : List (ClassId × FieldType)} {mc ms : Nat} {cc bytes : ByteArray} {y : MethodName} {ret : Option FieldType} {Ts wsm ws' : List Cond} {rm : Room} {own host C : String} {b nL maxL index n ci : Nat} {As rest st : List Value} {fs : List Value} {q0 : vw_C}
variable {p : Program} {l : Launch} {e : Env} {R : Room} {s : State} {m : MethodId} {args : Array Value} {below : List Frame} {meth : Method} {c : Code} {H H0 : Heap} {locs : List Loc} {cells slots : Nat} {pc : Nat} {ls : Array Slot} {A : Nat → Prop} {Q : State → Prop} {ws wc pre pst : va_W} {w : S → va_W}
/-- behind a call in the middle of a world -/
theorem kb_blJ {w1 : va_W} {H1 : Heap} (hP : va_P D vwCl (pre ++ (wc ++ pst)) H) (hD : va_D A (pre ++ (wc ++ pst))) (ha : w1.map Prod.fst = wc.map Prod.fst) (hk : ∀ q : Nat, q < H.size → ¬ va_A wc H.size q → H1[q]? = H[q]?) (hP1 : va_P D vwCl w1 H1) : va_P D vwCl (pre ++ (w1 ++ pst)) H1 ∧ va_D A (pre ++ (w1 ++ pst)) := by
  have hj := kb_join hP hD _ (kb_blC pre wc pst) (kb_ix_nd _ 0) ha hk hP1
  have hl : w1.length = wc.length := by
    have := congrArg List.length ha
    rwa [List.length_map, List.length_map] at this
  have hb : (List.replicate pre.length false ++ List.replicate wc.length true).length ≤ (pre ++ (wc ++ pst)).length := by
    simp only [List.length_append, List.length_replicate]
    omega
  have e1 := kb_mgP _ rfl hb hj.1
  have e2 := kb_mgD _ rfl hb hj.2
  rw [kb_blM pst pre wc w1 hl] at e1 e2
  exact ⟨e1, e2⟩
theorem kb_bI {post : Int32 → S → Prop} (hx : p.tables.exec = Jvm.exec) (hb : c.code = cc) (hml : c.maxLocals = nL) (hts : ∀ w ∈ Ts, w.before args s = true) (hown : s.vm.findClass own = some m.cls) (hN : kb_N s) (hK : va_K D vwCl tys s) (hP : va_P D vwCl (pre ++ (wc ++ pst)) H) (hD : va_D A (pre ++ (wc ++ pst))) (hS : va_S A H0 H locs) (hA : ∀ q, H0.size ≤ q → A q)
    (hM : kb_I D tys' l y wsm rm (.ref b :: As) wc post w 0 0) (hG : GoodIn Ts (wsV own index C y wsm)) (hwm : wsm = Cond.code y bytes maxL ret :: ws') (hrm : rm.cells = 0 ∧ rm.slots = 0)
    (hd : y.cls = C ∧ y.cls ≠ "java/lang/invoke/MethodHandle" ∧ y.cls ≠ "java/lang/invoke/VarHandle" ∧ (parseMethodDescriptor y.desc).map (fun d => d.parameters.length) = some n) (hR : rm.frames + 1 ≤ R.frames ∧ 8 + (maxL + 11) + rm.locals ≤ R.locals)
    (isT : List Nat) (hT : isT.filterMap (fun i => tys[i]?) = tys') (hc : vwCl[ci]? = some q0) (hq : q0.1 = C) (he : wc[0]? = some (b, .inr (ci, fs))) (ha : ∀ u, (w u).map Prod.fst = wc.map Prod.fst)
    (hst : st = As.reverse ++ .ref b :: rest) (hn : As.length = n) (hl : ls.size = nL) (hroom : (rest.map fun v => v.category).sum ≤ 8) (hdg : decode cc pc = .ok (.invokevirtual index, 3)) (hf : cells ≤ R.cells ∧ slots ≤ R.slots)
    (kk : ∀ (r : Int32) (u : S) (H1 : Heap) (locs1 : List Loc), post r u → va_P D vwCl (pre ++ (w u ++ pst)) H1 → va_D A (pre ++ (w u ++ pst)) → va_S A H0 H1 locs1 → W p l e R s m args below meth c H1 locs1 cells slots Q (F0 m (pc + 3) ls (.int r :: rest))) : W p l e R s m args below meth c H locs cells slots Q (F0 m pc ls st) := by
  have hC := kb_blC pre wc pst
  have hnd := kb_ix_nd (List.replicate pre.length false ++ List.replicate wc.length true) 0
  have hF := kb_freeC hD hS hA _ hC
  refine va_calli (va_runV (As := As) (rest := rest) ⟨hx, hb, hml, hown, hts⟩ (hM H.size) (cwV n hts hG hwm hrm.1 hrm.2 hd hR) (kb_preV hN rfl hK hP hD _ isT hC hnd hT hc hq he) rfl hn hl hst (lv_room hroom) hdg hf) hS (fun q _ h => hF q h) hF (fun r1 u t H1 locs1 ht hvm hw hB hz1 hk1 hS1 => ?_)
  obtain ⟨hP1, -, -⟩ := hB
  rw [ht] at hP1
  have hj := kb_blJ hP hD (ha u) hk1 hP1
  exact kk r1 u H1 locs1 hw hj.1 hj.2 hS1
theorem kb_bS {post : Int32 → S → Prop} (hx : p.tables.exec = Jvm.exec) (hb : c.code = cc) (hml : c.maxLocals = nL) (hts : ∀ w ∈ Ts, w.before args s = true) (hown : s.vm.findClass own = some m.cls) (hN : kb_N s) (hK : va_K D vwCl tys s) (hP : va_P D vwCl (pre ++ (wc ++ pst)) H) (hD : va_D A (pre ++ (wc ++ pst))) (hS : va_S A H0 H locs) (hA : ∀ q, H0.size ≤ q → A q)
    (hM : kb_I D tys' l y wsm rm As wc post w mc ms) (hG : GoodIn Ts (va_wsS own index y wsm)) (hwm : wsm = Cond.code y bytes maxL ret :: ws') (hrm : rm.cells = mc ∧ rm.slots = ms)
    (hd : y.cls ≠ "java/lang/invoke/MethodHandle" ∧ y.cls ≠ "java/lang/invoke/VarHandle" ∧ (parseMethodDescriptor y.desc).map (fun d => d.parameters.length) = some n) (hR : rm.frames + 1 ≤ R.frames ∧ 8 + (maxL + 11) + rm.locals ≤ R.locals)
    (isT : List Nat) (hT : isT.filterMap (fun i => tys[i]?) = tys') (ha : ∀ u, (w u).map Prod.fst = wc.map Prod.fst)
    (hst : st = As.reverse ++ rest) (hn : As.length = n) (hl : ls.size = nL) (hroom : (rest.map fun v => v.category).sum ≤ 8) (hdg : decode cc pc = .ok (.invokestatic index, 3)) (hf : cells + mc ≤ R.cells ∧ slots + ms ≤ R.slots)
    (kk : ∀ (r : Int32) (u : S) (H1 : Heap) (locs1 : List Loc), post r u → va_P D vwCl (pre ++ (w u ++ pst)) H1 → va_D A (pre ++ (w u ++ pst)) → va_S A H0 H1 locs1 → W p l e R s m args below meth c H1 locs1 (cells + mc) (slots + ms) Q (F0 m (pc + 3) ls (.int r :: rest))) : W p l e R s m args below meth c H locs cells slots Q (F0 m pc ls st) := by
  have hC := kb_blC pre wc pst
  have hnd := kb_ix_nd (List.replicate pre.length false ++ List.replicate wc.length true) 0
  have hF := kb_freeC hD hS hA _ hC
  refine va_calli (va_runS (As := As) (rest := rest) ⟨hx, hb, hml, hown, hts⟩ (hM H.size) (va_cwS n hts hG hwm hrm.1 hrm.2 hd hR) (kb_preS hN rfl hK hP hD _ isT hC hnd hT) rfl hn hl hst (lv_room hroom) hdg hf) hS (fun q _ h => hF q h) hF (fun r1 u t H1 locs1 ht hvm hw hB hz1 hk1 hS1 => ?_)
  obtain ⟨hP1, -, -⟩ := hB
  rw [ht] at hP1
  have hj := kb_blJ hP hD (ha u) hk1 hP1
  exact kk r1 u H1 locs1 hw hj.1 hj.2 hS1
theorem kb_bIa {post : Int32 → S → Prop} (hx : p.tables.exec = Jvm.exec) (hb : c.code = cc) (hml : c.maxLocals = nL) (hts : ∀ w ∈ Ts, w.before args s = true) (hown : s.vm.findClass own = some m.cls) (hN : kb_N s) (hK : va_K D vwCl tys s) (hP : va_P D vwCl (wc ++ pst) H) (hD : va_D A (wc ++ pst)) (hS : va_S A H0 H locs) (hA : ∀ q, H0.size ≤ q → A q)
    (hM : kb_I D tys' l y wsm rm (.ref b :: As) wc post w 0 0) (hG : GoodIn Ts (wsV own index C y wsm)) (hwm : wsm = Cond.code y bytes maxL ret :: ws') (hrm : rm.cells = 0 ∧ rm.slots = 0)
    (hd : y.cls = C ∧ y.cls ≠ "java/lang/invoke/MethodHandle" ∧ y.cls ≠ "java/lang/invoke/VarHandle" ∧ (parseMethodDescriptor y.desc).map (fun d => d.parameters.length) = some n) (hR : rm.frames + 1 ≤ R.frames ∧ 8 + (maxL + 11) + rm.locals ≤ R.locals)
    (isT : List Nat) (hT : isT.filterMap (fun i => tys[i]?) = tys') (hc : vwCl[ci]? = some q0) (hq : q0.1 = C) (he : wc[0]? = some (b, .inr (ci, fs))) (ha : ∀ u, (w u).map Prod.fst = wc.map Prod.fst)
    (hst : st = As.reverse ++ .ref b :: rest) (hn : As.length = n) (hl : ls.size = nL) (hroom : (rest.map fun v => v.category).sum ≤ 8) (hdg : decode cc pc = .ok (.invokevirtual index, 3)) (hf : cells ≤ R.cells ∧ slots ≤ R.slots)
    (kk : ∀ (r : Int32) (u : S) (H1 : Heap) (locs1 : List Loc), post r u → va_P D vwCl (w u ++ pst) H1 → va_D A (w u ++ pst) → va_S A H0 H1 locs1 → W p l e R s m args below meth c H1 locs1 cells slots Q (F0 m (pc + 3) ls (.int r :: rest))) : W p l e R s m args below meth c H locs cells slots Q (F0 m pc ls st) :=
  kb_bI (pre := []) (pst := pst) hx hb hml hts hown hN hK hP hD hS hA hM hG hwm hrm hd hR isT hT hc hq he ha hst hn hl hroom hdg hf kk
theorem kb_bIb {post : Int32 → S → Prop} (hx : p.tables.exec = Jvm.exec) (hb : c.code = cc) (hml : c.maxLocals = nL) (hts : ∀ w ∈ Ts, w.before args s = true) (hown : s.vm.findClass own = some m.cls) (hN : kb_N s) (hK : va_K D vwCl tys s) (hP : va_P D vwCl (pre ++ wc) H) (hD : va_D A (pre ++ wc)) (hS : va_S A H0 H locs) (hA : ∀ q, H0.size ≤ q → A q)
    (hM : kb_I D tys' l y wsm rm (.ref b :: As) wc post w 0 0) (hG : GoodIn Ts (wsV own index C y wsm)) (hwm : wsm = Cond.code y bytes maxL ret :: ws') (hrm : rm.cells = 0 ∧ rm.slots = 0)
    (hd : y.cls = C ∧ y.cls ≠ "java/lang/invoke/MethodHandle" ∧ y.cls ≠ "java/lang/invoke/VarHandle" ∧ (parseMethodDescriptor y.desc).map (fun d => d.parameters.length) = some n) (hR : rm.frames + 1 ≤ R.frames ∧ 8 + (maxL + 11) + rm.locals ≤ R.locals)
    (isT : List Nat) (hT : isT.filterMap (fun i => tys[i]?) = tys') (hc : vwCl[ci]? = some q0) (hq : q0.1 = C) (he : wc[0]? = some (b, .inr (ci, fs))) (ha : ∀ u, (w u).map Prod.fst = wc.map Prod.fst)
    (hst : st = As.reverse ++ .ref b :: rest) (hn : As.length = n) (hl : ls.size = nL) (hroom : (rest.map fun v => v.category).sum ≤ 8) (hdg : decode cc pc = .ok (.invokevirtual index, 3)) (hf : cells ≤ R.cells ∧ slots ≤ R.slots)
    (kk : ∀ (r : Int32) (u : S) (H1 : Heap) (locs1 : List Loc), post r u → va_P D vwCl (pre ++ w u) H1 → va_D A (pre ++ w u) → va_S A H0 H1 locs1 → W p l e R s m args below meth c H1 locs1 cells slots Q (F0 m (pc + 3) ls (.int r :: rest))) : W p l e R s m args below meth c H locs cells slots Q (F0 m pc ls st) := by
  refine kb_bI (pre := pre) (pst := []) hx hb hml hts hown hN hK (by rw [List.append_nil]; exact hP) (by rw [List.append_nil]; exact hD) hS hA hM hG hwm hrm hd hR isT hT hc hq he ha hst hn hl hroom hdg hf (fun r u H1 locs1 h1 h2 h3 h4 => ?_)
  rw [List.append_nil] at h2 h3
  exact kk r u H1 locs1 h1 h2 h3 h4
theorem kb_bI1 {post : Int32 → S → Prop} (hx : p.tables.exec = Jvm.exec) (hb : c.code = cc) (hml : c.maxLocals = nL) (hts : ∀ w ∈ Ts, w.before args s = true) (hown : s.vm.findClass own = some m.cls) (hN : kb_N s) (hK : va_K D vwCl tys s) (hP : va_P D vwCl wc H) (hD : va_D A wc) (hS : va_S A H0 H locs) (hA : ∀ q, H0.size ≤ q → A q)
    (hM : kb_I D tys' l y wsm rm (.ref b :: As) wc post w 0 0) (hG : GoodIn Ts (wsV own index C y wsm)) (hwm : wsm = Cond.code y bytes maxL ret :: ws') (hrm : rm.cells = 0 ∧ rm.slots = 0)
    (hd : y.cls = C ∧ y.cls ≠ "java/lang/invoke/MethodHandle" ∧ y.cls ≠ "java/lang/invoke/VarHandle" ∧ (parseMethodDescriptor y.desc).map (fun d => d.parameters.length) = some n) (hR : rm.frames + 1 ≤ R.frames ∧ 8 + (maxL + 11) + rm.locals ≤ R.locals)
    (isT : List Nat) (hT : isT.filterMap (fun i => tys[i]?) = tys') (hc : vwCl[ci]? = some q0) (hq : q0.1 = C) (he : wc[0]? = some (b, .inr (ci, fs))) (ha : ∀ u, (w u).map Prod.fst = wc.map Prod.fst)
    (hst : st = As.reverse ++ .ref b :: rest) (hn : As.length = n) (hl : ls.size = nL) (hroom : (rest.map fun v => v.category).sum ≤ 8) (hdg : decode cc pc = .ok (.invokevirtual index, 3)) (hf : cells ≤ R.cells ∧ slots ≤ R.slots)
    (kk : ∀ (r : Int32) (u : S) (H1 : Heap) (locs1 : List Loc), post r u → va_P D vwCl (w u) H1 → va_D A (w u) → va_S A H0 H1 locs1 → W p l e R s m args below meth c H1 locs1 cells slots Q (F0 m (pc + 3) ls (.int r :: rest))) : W p l e R s m args below meth c H locs cells slots Q (F0 m pc ls st) := by
  refine kb_bI (pre := []) (pst := []) hx hb hml hts hown hN hK (by rw [List.append_nil]; exact hP) (by rw [List.append_nil]; exact hD) hS hA hM hG hwm hrm hd hR isT hT hc hq he ha hst hn hl hroom hdg hf (fun r u H1 locs1 h1 h2 h3 h4 => ?_)
  rw [List.append_nil] at h2 h3
  exact kk r u H1 locs1 h1 h2 h3 h4
theorem kb_bSa {post : Int32 → S → Prop} (hx : p.tables.exec = Jvm.exec) (hb : c.code = cc) (hml : c.maxLocals = nL) (hts : ∀ w ∈ Ts, w.before args s = true) (hown : s.vm.findClass own = some m.cls) (hN : kb_N s) (hK : va_K D vwCl tys s) (hP : va_P D vwCl (wc ++ pst) H) (hD : va_D A (wc ++ pst)) (hS : va_S A H0 H locs) (hA : ∀ q, H0.size ≤ q → A q)
    (hM : kb_I D tys' l y wsm rm As wc post w mc ms) (hG : GoodIn Ts (va_wsS own index y wsm)) (hwm : wsm = Cond.code y bytes maxL ret :: ws') (hrm : rm.cells = mc ∧ rm.slots = ms)
    (hd : y.cls ≠ "java/lang/invoke/MethodHandle" ∧ y.cls ≠ "java/lang/invoke/VarHandle" ∧ (parseMethodDescriptor y.desc).map (fun d => d.parameters.length) = some n) (hR : rm.frames + 1 ≤ R.frames ∧ 8 + (maxL + 11) + rm.locals ≤ R.locals)
    (isT : List Nat) (hT : isT.filterMap (fun i => tys[i]?) = tys') (ha : ∀ u, (w u).map Prod.fst = wc.map Prod.fst)
    (hst : st = As.reverse ++ rest) (hn : As.length = n) (hl : ls.size = nL) (hroom : (rest.map fun v => v.category).sum ≤ 8) (hdg : decode cc pc = .ok (.invokestatic index, 3)) (hf : cells + mc ≤ R.cells ∧ slots + ms ≤ R.slots)
    (kk : ∀ (r : Int32) (u : S) (H1 : Heap) (locs1 : List Loc), post r u → va_P D vwCl (w u ++ pst) H1 → va_D A (w u ++ pst) → va_S A H0 H1 locs1 → W p l e R s m args below meth c H1 locs1 (cells + mc) (slots + ms) Q (F0 m (pc + 3) ls (.int r :: rest))) : W p l e R s m args below meth c H locs cells slots Q (F0 m pc ls st) :=
  kb_bS (pre := []) (pst := pst) hx hb hml hts hown hN hK hP hD hS hA hM hG hwm hrm hd hR isT hT ha hst hn hl hroom hdg hf kk
theorem kb_bSb {post : Int32 → S → Prop} (hx : p.tables.exec = Jvm.exec) (hb : c.code = cc) (hml : c.maxLocals = nL) (hts : ∀ w ∈ Ts, w.before args s = true) (hown : s.vm.findClass own = some m.cls) (hN : kb_N s) (hK : va_K D vwCl tys s) (hP : va_P D vwCl (pre ++ wc) H) (hD : va_D A (pre ++ wc)) (hS : va_S A H0 H locs) (hA : ∀ q, H0.size ≤ q → A q)
    (hM : kb_I D tys' l y wsm rm As wc post w mc ms) (hG : GoodIn Ts (va_wsS own index y wsm)) (hwm : wsm = Cond.code y bytes maxL ret :: ws') (hrm : rm.cells = mc ∧ rm.slots = ms)
    (hd : y.cls ≠ "java/lang/invoke/MethodHandle" ∧ y.cls ≠ "java/lang/invoke/VarHandle" ∧ (parseMethodDescriptor y.desc).map (fun d => d.parameters.length) = some n) (hR : rm.frames + 1 ≤ R.frames ∧ 8 + (maxL + 11) + rm.locals ≤ R.locals)
    (isT : List Nat) (hT : isT.filterMap (fun i => tys[i]?) = tys') (ha : ∀ u, (w u).map Prod.fst = wc.map Prod.fst)
    (hst : st = As.reverse ++ rest) (hn : As.length = n) (hl : ls.size = nL) (hroom : (rest.map fun v => v.category).sum ≤ 8) (hdg : decode cc pc = .ok (.invokestatic index, 3)) (hf : cells + mc ≤ R.cells ∧ slots + ms ≤ R.slots)
    (kk : ∀ (r : Int32) (u : S) (H1 : Heap) (locs1 : List Loc), post r u → va_P D vwCl (pre ++ w u) H1 → va_D A (pre ++ w u) → va_S A H0 H1 locs1 → W p l e R s m args below meth c H1 locs1 (cells + mc) (slots + ms) Q (F0 m (pc + 3) ls (.int r :: rest))) : W p l e R s m args below meth c H locs cells slots Q (F0 m pc ls st) := by
  refine kb_bS (pre := pre) (pst := []) hx hb hml hts hown hN hK (by rw [List.append_nil]; exact hP) (by rw [List.append_nil]; exact hD) hS hA hM hG hwm hrm hd hR isT hT ha hst hn hl hroom hdg hf (fun r u H1 locs1 h1 h2 h3 h4 => ?_)
  rw [List.append_nil] at h2 h3
  exact kk r u H1 locs1 h1 h2 h3 h4
theorem kb_bS1 {post : Int32 → S → Prop} (hx : p.tables.exec = Jvm.exec) (hb : c.code = cc) (hml : c.maxLocals = nL) (hts : ∀ w ∈ Ts, w.before args s = true) (hown : s.vm.findClass own = some m.cls) (hN : kb_N s) (hK : va_K D vwCl tys s) (hP : va_P D vwCl wc H) (hD : va_D A wc) (hS : va_S A H0 H locs) (hA : ∀ q, H0.size ≤ q → A q)
    (hM : kb_I D tys' l y wsm rm As wc post w mc ms) (hG : GoodIn Ts (va_wsS own index y wsm)) (hwm : wsm = Cond.code y bytes maxL ret :: ws') (hrm : rm.cells = mc ∧ rm.slots = ms)
    (hd : y.cls ≠ "java/lang/invoke/MethodHandle" ∧ y.cls ≠ "java/lang/invoke/VarHandle" ∧ (parseMethodDescriptor y.desc).map (fun d => d.parameters.length) = some n) (hR : rm.frames + 1 ≤ R.frames ∧ 8 + (maxL + 11) + rm.locals ≤ R.locals)
    (isT : List Nat) (hT : isT.filterMap (fun i => tys[i]?) = tys') (ha : ∀ u, (w u).map Prod.fst = wc.map Prod.fst)
    (hst : st = As.reverse ++ rest) (hn : As.length = n) (hl : ls.size = nL) (hroom : (rest.map fun v => v.category).sum ≤ 8) (hdg : decode cc pc = .ok (.invokestatic index, 3)) (hf : cells + mc ≤ R.cells ∧ slots + ms ≤ R.slots)
    (kk : ∀ (r : Int32) (u : S) (H1 : Heap) (locs1 : List Loc), post r u → va_P D vwCl (w u) H1 → va_D A (w u) → va_S A H0 H1 locs1 → W p l e R s m args below meth c H1 locs1 (cells + mc) (slots + ms) Q (F0 m (pc + 3) ls (.int r :: rest))) : W p l e R s m args below meth c H locs cells slots Q (F0 m pc ls st) := by
  refine kb_bS (pre := []) (pst := []) hx hb hml hts hown hN hK (by rw [List.append_nil]; exact hP) (by rw [List.append_nil]; exact hD) hS hA hM hG hwm hrm hd hR isT hT ha hst hn hl hroom hdg hf (fun r u H1 locs1 h1 h2 h3 h4 => ?_)
  rw [List.append_nil] at h2 h3
  exact kk r u H1 locs1 h1 h2 h3 h4
end KBB
