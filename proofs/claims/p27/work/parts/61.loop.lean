theorem lw_tb {i : Nat} {w : Cond} (h : tables_1[i]? = some w) : w ∈ lw_tbl := List.mem_append_right _ (List.mem_of_getElem? h)
theorem lw_arr {ty : FieldType} {args : Array Value} {s : State} (h : (Cond.arrayClass ty).before args s = true) : ∃ cA, ArrOfT s cA ty ∧ s.vm.findClass ("[" ++ ty.toString) = some cA := by
  obtain ⟨cA, kA, comp, hfind, hk, hkind⟩ := Cond.arrayClass_spec h
  exact ⟨cA, fun n z => ⟨fun k h => (by cases h), kA, hk, comp, hkind⟩, hfind⟩
theorem lw_N {args : Array Value} {s : State} (hts : ∀ w ∈ lw_tbl, w.before args s = true) : kb_N s :=
  ⟨va_Nw.of rfl (hts (.methodLinkNest RX2 25 yX4_copyNumbers RX4) (lw_tb (i := 208) (by decide +kernel))), va_Nw.of rfl (hts (.methodLinkNest RX3 46 yX4_copyNumbers RX4) (lw_tb (i := 195) (by decide +kernel))), va_Nw.of rfl (hts (.methodLinkNest RX3 54 yX4_isCrown RX4) (lw_tb (i := 394) (by decide +kernel))), va_Nw.of rfl (hts (.methodLinkNest RX3 58 yX4_isAge RX4) (lw_tb (i := 397) (by decide +kernel))), va_Nw.of rfl (hts (.methodLinkNest RX3 61 yX4_worthOf RX4) (lw_tb (i := 400) (by decide +kernel))), va_AO.of (hts (.arrayOver (.object RX3)) (lw_tb (i := 74) (by decide +kernel)))⟩
theorem kb_sameO {D : va_G} {cl : List vw_C} {tys : List (ClassId × FieldType)} {s : State} {c1 c2 : ClassId} {C : String} (hK : va_K D cl tys s) (i j : Nat) (h1 : tys[i]? = some (c1, .object C)) (h2 : tys[j]? = some (c2, .object C)) : c2 = c1 := by
  obtain ⟨-, -, -, -, -, a⟩ := (hK.2 i _ h1).2
  obtain ⟨-, -, -, -, -, b⟩ := (hK.2 j _ h2).2
  exact Option.some.inj (b.symm.trans a)
theorem kb_blk2 {cI cC cS : ClassId} {a a2 : Nat → Nat} (u v : KBS) (z : KBS × KBS) : (bW cI cC cS a z.1 ++ bW cI cC cS a2 z.2).map Prod.fst = (bW cI cC cS a u ++ bW cI cC cS a2 v).map Prod.fst := by
  rw [List.map_append, List.map_append, kb_blk z.1 u, kb_blk z.2 v]
section LWC
variable {p : Program} {l : Launch} {e : Env} {R : Room} {s : State} {m : MethodId} {args : Array Value} {below : List Frame} {meth : Method} {c : Code} {H : Heap} {locs : List Loc} {cells slots : Nat} {pc : Nat} {ls : Array Slot} {Q : State → Prop} {D : va_G} {ws : va_W} {rest st : List Value} {b L : Nat} {xs : Nat → Int32}
/-- an int of the script, or what stands for it: any -/
theorem lw_cell {k : Nat} (hL : L ≤ 260) (hk : k < 1000) (hx : p.tables.exec = Jvm.exec) (hb : c.code = cL_law) (hml : c.maxLocals = 5) (hts : ∀ w ∈ wsL_law, w.before args s = true) (hown : s.vm.findClass RL = some m.cls) (hX : va_X b L xs s s.heap) (hbl : b < s.heap.size) (hP : va_P D vwCl ws H) (hS : va_S (fun q : Nat => s.heap.size ≤ q) s.heap H locs) (hR : rmL_cell.frames + 1 ≤ R.frames ∧ 8 + (2 + 11) + rmL_cell.locals ≤ R.locals) (hst : st = .int (nI k) :: .ref b :: rest) (hl : ls.size = 5) (hroom : (rest.map fun v => v.category).sum ≤ 8) (hdg : decode cL_law pc = .ok (.invokestatic 95, 3)) (hf : cells + 0 ≤ R.cells ∧ slots + 0 ≤ R.slots)
    (kk : ∀ (r : Int32) (H1 : Heap) (locs1 : List Loc), va_P D vwCl ws H1 → va_S (fun q : Nat => s.heap.size ≤ q) s.heap H1 locs1 → W p l e R s m args below meth c H1 locs1 cells slots Q (F0 m (pc + 3) ls (.int r :: rest))) : W p l e R s m args below meth c H locs cells slots Q (F0 m pc ls st) := by
  have hbA : ¬ s.heap.size ≤ b := Nat.not_le.mpr hbl
  have hlt : b < H.size := Nat.lt_of_lt_of_le hbl hS.1
  have hq : H[b]? = s.heap[b]? := hS.2.1 b hbl hbA
  have hp : PreS s H (va_Pc [.ref b, .int (nI k)] (ce_P b L xs H.size)) [.ref b, .int (nI k)] :=
    ⟨ce_blind, fun U hU hW => ⟨rfl, by rw [hU], hlt, va_X.kept (va_X.moved hW.alike hX) (by rw [hU]; exact hq)⟩⟩
  refine va_calli (va_runS (As := [.ref b, .int (nI k)]) (rest := rest) ⟨hx, hb, hml, hown, hts⟩ (c_L_cell l b L xs hL k hk H.size) (va_cwS 2 hts gL_law_L_cell rfl rfl rfl hdL_cell.2 hR) hp rfl rfl hl hst (lv_room hroom) hdg hf) hS (fun q h1 h2 => absurd h2 (Nat.not_le.mpr h1)) (fun q h => Nat.le_trans hS.1 h) (fun r1 u t H1 locs1 ht hvm hw hB hz1 hk1 hS1 => ?_)
  exact kk r1 H1 locs1 (hP.kept (fun k q hk => hk1 q.1 (hP k q hk).lt (Nat.not_le.mpr (hP k q hk).lt))) hS1
end LWC
theorem kb_ix_lt : ∀ (bs : List Bool) (k i : Nat), i ∈ kb_ix k bs → i < k + bs.length
  | [], _, _, h => absurd h List.not_mem_nil
  | true :: bs, k, i, h => by
    rw [List.length_cons]
    rcases List.mem_cons.mp h with h | h
    · omega
    · have := kb_ix_lt bs (k + 1) i h
      omega
  | false :: bs, k, i, h => by
    rw [List.length_cons]
    have := kb_ix_lt bs (k + 1) i h
    omega
section KBV
variable {S : Type} {D : va_G} {tys tys' : List (ClassId × FieldType)} {mc ms : Nat} {cc bytes : ByteArray} {y : MethodName} {Ts wsm ws' : List Cond} {rm : Room} {own : String} {b nL maxL index n : Nat} {As rest st : List Value}
variable {p : Program} {l : Launch} {e : Env} {R : Room} {s : State} {m : MethodId} {args : Array Value} {below : List Frame} {meth : Method} {c : Code} {H H0 : Heap} {locs : List Loc} {cells slots : Nat} {pc : Nat} {ls : Array Slot} {A : Nat → Prop} {Q : State → Prop} {wc pre : va_W} {w : S → va_W}
/-- a maker called behind other cells -/
theorem kb_bV {post : S → Prop} {ty : S → List (ClassId × FieldType)} (hx : p.tables.exec = Jvm.exec) (hb : c.code = cc) (hml : c.maxLocals = nL) (hts : ∀ w ∈ Ts, w.before args s = true) (hown : s.vm.findClass own = some m.cls) (hN : kb_N s) (hK : va_K D vwCl tys s) (hP : va_P D vwCl (pre ++ wc) H) (hD : va_D A (pre ++ wc)) (hS : va_S A H0 H locs) (hA : ∀ q, H0.size ≤ q → A q)
    (hM : kb_VT D tys' l y wsm rm (.ref b :: As) wc post w ty mc ms) (hG : GoodIn Ts wsm) (hwm : wsm = Cond.code y bytes maxL none :: ws') (hrm : rm.cells = mc ∧ rm.slots = ms) (hini : (Cond.initialized y.cls).before args s = true) (hlk : (Cond.methodLink own index y).before args s = true) (hin : (Cond.instanceMethod y).before args s = true) (hy1 : y.name = "<init>")
    (hd : y.cls ≠ "java/lang/invoke/MethodHandle" ∧ y.cls ≠ "java/lang/invoke/VarHandle" ∧ (parseMethodDescriptor y.desc).map (fun d => d.parameters.length) = some n) (hR : rm.frames + 1 ≤ R.frames ∧ 8 + (maxL + 11) + rm.locals ≤ R.locals)
    (isT : List Nat) (hT : isT.filterMap (fun i => tys[i]?) = tys')
    (hst : st = As.reverse ++ .ref b :: rest) (hn : As.length = n) (hl : ls.size = nL) (hroom : (rest.map fun v => v.category).sum ≤ 8) (hdg : decode cc pc = .ok (.invokespecial index, 3)) (hf : cells + mc ≤ R.cells ∧ slots + ms ≤ R.slots)
    (kk : ∀ (u : S) (H1 : Heap) (locs1 : List Loc), post u → va_K D vwCl (tys ++ ty u) s → va_P D vwCl (pre ++ w u) H1 → va_D A (pre ++ w u) → va_S A H0 H1 locs1 → W p l e R s m args below meth c H1 locs1 (cells + mc) (slots + ms) Q (F0 m (pc + 3) ls rest)) : W p l e R s m args below meth c H locs cells slots Q (F0 m pc ls st) := by
  have hC := kb_blC pre wc []
  have hRr := kb_blC [] pre wc
  rw [List.append_nil] at hC
  refine kb_iV (wr := pre) hx hb hml hts hown hN hK hP hD hS hA hM hG hwm hrm hini hlk hin hy1 hd hR (kb_ix 0 (List.replicate pre.length false ++ List.replicate wc.length true)) isT (kb_ix 0 (List.replicate pre.length true)) hC (kb_ix_nd _ 0) hT hRr (kb_ix_nd _ 0) (fun i h1 h2 => ?_) hst hn hl hroom hdg hf kk
  have g1 := kb_ix_lt _ _ _ h1
  rw [kb_ixF] at h2
  have g2 := kb_ix_ge _ _ _ h2
  rw [List.length_replicate] at g1
  omega
end KBV
set_option maxHeartbeats 40000000 in
set_option maxRecDepth 100000 in
theorem lw_loop {p : Program} {l : Launch} {e : Env} {s : State} {m : MethodId} {below : List Frame} {meth : Method} {c : Code} {b L : Nat} {xs : Nat → Int32} {D : va_G} {cI cC cS : ClassId} {a a2 : Nat → Nat} (hL : L ≤ 260) (C0 : lw_At p s m meth c b L xs) (hN : kb_N s) (hK : va_K D vwCl [(cI, .int), (cC, .char), (cS, .object RX3)] s) : ∀ (z k : Nat), 60 - k < z → k ≤ 60 → ∀ (H : Heap) (locs : List Loc) (u v : KBS) (m1 m2 : Mo), bI u m1 → bI v m2 → PR (99 * k) m1 m2 → va_P D vwCl (bW cI cC cS a u ++ bW cI cC cS a2 v) H → va_D (fun q : Nat => s.heap.size ≤ q) (bW cI cC cS a u ++ bW cI cC cS a2 v) → va_S (fun q : Nat => s.heap.size ≤ q) s.heap H locs → ∀ ls : Array Slot, lv_has ls 5 [(4, .int (nI k)), (3, .int (nI 1)), (2, .ref (a2 0)), (1, .ref (a 0)), (0, .ref b)] → W p l e room_1 s m #[Value.ref b] below meth c H locs (200 + k) (5000 + 4 * k) (lw_Z below #[Value.ref b] s) (F0 m 21 ls []) := by
  have hA : ∀ q : Nat, s.heap.size ≤ q → (fun q : Nat => s.heap.size ≤ q) q := fun _ h => h
  obtain ⟨hx, hb, hr, hml, hown, hts0, hX, hbl, hlocks, hgv⟩ := id C0
  have hb : c.code = cL_law := hb
  have hown : s.vm.findClass RL = some m.cls := hown
  have hts : ∀ w ∈ wsL_law, w.before #[Value.ref b] s = true := fun w h => hts0 w (wsL_law_in w h)
  intro z
  induction z with
  | zero =>
    intro k hz
    exact absurd hz (Nat.not_lt_zero _)
  | succ z ih =>
    intro k hz hk60 H locs u v m1 m2 hin hip hR hP hD hS ls hl
    have h24 := hR.1.1.1.n.1
    refine lv_iload hx hb dL_law_21 (lv_at hl 0 rfl) ?_
    refine lv_bipush (v := nI 60) hx hb dL_law_23 (by decide) ?_
    refine kb_icmp_ge (tgt := 82) hx hb dL_law_25 (by decide) (by omega) (by omega) (fun c25 => ?_) (fun c25 => ?_)
    · refine lv_iload_n hx hb dL_law_82 rfl (lv_at hl 1 rfl) ?_
      refine kb_nif_eq (tgt := 119) hx hb dL_law_83 (by decide) (by decide) (fun c => absurd c (by decide)) (fun _ => ?_)
      refine lv_aload_n hx hb dL_law_86 rfl (lv_at hl 3 rfl) ?_
      refine kb_bSa (w := bW cI cC cS a) (As := [.ref (a 0)]) (rest := []) hx hb hml hts hown hN hK hP hD hS hA (c_L_isWell l D cI cC cS a (M := 9000) (by decide) hin ((hR.1.1).mono (by omega))) gL_law_L_isWell rfl ⟨rfl, rfl⟩ hdL_isWell.2 ⟨(Nat.le_of_ble_eq_true rfl), (Nat.le_of_ble_eq_true rfl)⟩ [0, 1, 2] rfl (fun _ => kb_blk _ _) rfl rfl hl.1 (Nat.le_of_ble_eq_true rfl) dL_law_87 ⟨(by show _ ≤ 600000; omega), (by show _ ≤ 7302250; omega)⟩ (fun r u_87 H locs hw hP hD hS => ?_)
      obtain ⟨hr_87, hin⟩ := hw
      subst hr_87
      refine kb_nif_eq (tgt := 119) hx hb dL_law_90 (by decide) (by decide) (fun c => absurd c (by decide)) (fun _ => ?_)
      refine lv_aload_n hx hb dL_law_93 rfl (lv_at hl 3 rfl) ?_
      refine lv_iconst (v := nI 1) hx hb dL_law_94 (by decide) ?_
      refine kb_bIa (w := bW cI cC cS a) (As := [.int (nI 1)]) (rest := []) hx hb hml hts hown hN hK hP hD hS hA (b_count l D cI cC cS a hin (nI 1)) gL_law_X4_count rfl ⟨rfl, rfl⟩ hdX4_count ⟨(Nat.le_of_ble_eq_true rfl), (Nat.le_of_ble_eq_true rfl)⟩ [0, 1, 2] rfl (ci := 4) rfl rfl rfl (fun _ => kb_blk _ _) rfl rfl hl.1 (Nat.le_of_ble_eq_true rfl) dL_law_95 ⟨(by show _ ≤ 600000; omega), (by show _ ≤ 7302250; omega)⟩ (fun r u_95 H locs hw hP hD hS => ?_)
      obtain ⟨hr_95, hin⟩ := hw
      subst hr_95
      refine kb_top (nI (nK (mo_g m1))) (coA_k (by decide)) ?_
      refine kb_nif_eq (tgt := 115) hx hb dL_law_98 (by decide) (by omega) (fun c98 => ?_) (fun c98 => ?_)
      · refine lv_iconst (v := nI 1) hx hb dL_law_115 (by decide) ?_
        refine lv_goto (tgt := 120) hx hb dL_law_116 (by decide) ?_
        refine W.widen (k := 600000) (n := 7302250) (by omega) (by omega) ?_
        refine va_forget hS.2.2 ?_
        exact lw_ret hx hb hr hlocks dL_law_120
      · refine lv_aload_n hx hb dL_law_101 rfl (lv_at hl 3 rfl) ?_
        refine lv_aload_n hx hb dL_law_102 rfl (lv_at hl 2 rfl) ?_
        refine lv_aload_n hx hb dL_law_103 rfl (lv_at hl 4 rfl) ?_
        refine lv_bipush (v := nI 60) hx hb dL_law_104 (by decide) ?_
        refine lw_cell (k := 60) (rest := [.ref (a2 0), .ref (a 0)]) hL (by omega) hx hb hml hts hown hX hbl hP hS ⟨(Nat.le_of_ble_eq_true rfl), (Nat.le_of_ble_eq_true rfl)⟩ rfl hl.1 (Nat.le_of_ble_eq_true rfl) dL_law_106 ⟨(by show _ ≤ 600000; omega), (by show _ ≤ 7302250; omega)⟩ (fun r_106 H locs hP hS => ?_)
        refine kb_bS1 (w := (fun z : KBS × KBS => bW cI cC cS a z.1 ++ bW cI cC cS a2 z.2)) (As := [.ref (a 0), .ref (a2 0), .int (r_106)]) (rest := []) hx hb hml hts hown hN hK hP hD hS hA (c_L_areAlike l D cI cC cS a a2 hin hip hR r_106) gL_law_L_areAlike rfl ⟨rfl, rfl⟩ hdL_areAlike.2 ⟨(Nat.le_of_ble_eq_true rfl), (Nat.le_of_ble_eq_true rfl)⟩ [0, 1, 2] rfl (fun z => kb_blk2 _ _ z) rfl rfl hl.1 (Nat.le_of_ble_eq_true rfl) dL_law_109 ⟨(by show _ ≤ 600000; omega), (by show _ ≤ 7302250; omega)⟩ (fun r u_109 H locs hw hP hD hS => ?_)
        obtain ⟨hr_109, hin, hip⟩ := hw
        subst hr_109
        refine kb_nif_eq (tgt := 119) hx hb dL_law_112 (by decide) (by decide) (fun c => absurd c (by decide)) (fun _ => ?_)
        refine lv_iconst (v := nI 1) hx hb dL_law_115 (by decide) ?_
        refine lv_goto (tgt := 120) hx hb dL_law_116 (by decide) ?_
        refine W.widen (k := 600000) (n := 7302250) (by omega) (by omega) ?_
        refine va_forget hS.2.2 ?_
        exact lw_ret hx hb hr hlocks dL_law_120
    · refine lv_iload_n hx hb dL_law_28 rfl (lv_at hl 1 rfl) ?_
      refine kb_nif_eq (tgt := 82) hx hb dL_law_29 (by decide) (by decide) (fun c => absurd c (by decide)) (fun _ => ?_)
      refine lv_aload_n hx hb dL_law_32 rfl (lv_at hl 3 rfl) ?_
      refine lv_aload_n hx hb dL_law_33 rfl (lv_at hl 2 rfl) ?_
      refine lv_aload_n hx hb dL_law_34 rfl (lv_at hl 4 rfl) ?_
      refine lv_iload hx hb dL_law_35 (lv_at hl 0 rfl) ?_
      refine lw_cell (k := k) (rest := [.ref (a2 0), .ref (a 0)]) hL (by omega) hx hb hml hts hown hX hbl hP hS ⟨(Nat.le_of_ble_eq_true rfl), (Nat.le_of_ble_eq_true rfl)⟩ rfl hl.1 (Nat.le_of_ble_eq_true rfl) dL_law_37 ⟨(by show _ ≤ 600000; omega), (by show _ ≤ 7302250; omega)⟩ (fun r_37 H locs hP hS => ?_)
      refine lv_aload_n hx hb dL_law_40 rfl (lv_at hl 4 rfl) ?_
      refine lv_iload hx hb dL_law_41 (lv_at hl 0 rfl) ?_
      refine lv_iconst (v := nI 1) hx hb dL_law_43 (by decide) ?_
      refine lv_iadd hx hb dL_law_44 ?_
      refine kb_top (nI (k + 1)) (nI_add k 1) ?_
      refine lw_cell (k := k + 1) (rest := [.int (r_37), .ref (a2 0), .ref (a 0)]) hL (by omega) hx hb hml hts hown hX hbl hP hS ⟨(Nat.le_of_ble_eq_true rfl), (Nat.le_of_ble_eq_true rfl)⟩ rfl hl.1 (Nat.le_of_ble_eq_true rfl) dL_law_45 ⟨(by show _ ≤ 600000; omega), (by show _ ≤ 7302250; omega)⟩ (fun r_45 H locs hP hS => ?_)
      refine lv_iconst (v := nI 2) hx hb dL_law_48 (by decide) ?_
      refine lv_ishr hx hb dL_law_49 ?_
      refine kb_bS1 (w := (fun z : KBS × KBS => bW cI cC cS a z.1 ++ bW cI cC cS a2 z.2)) (As := [.ref (a 0), .ref (a2 0), .int (r_37), .int (r_45 >>> (nI 2 &&& 31))]) (rest := []) hx hb hml hts hown hN hK hP hD hS hA (c_L_isStep l D cI cC cS a a2 (by omega) hin hip hR r_37 (r_45 >>> (nI 2 &&& 31))) gL_law_L_isStep rfl ⟨rfl, rfl⟩ hdL_isStep.2 ⟨(Nat.le_of_ble_eq_true rfl), (Nat.le_of_ble_eq_true rfl)⟩ [0, 1, 2] rfl (fun z => kb_blk2 _ _ z) rfl rfl hl.1 (Nat.le_of_ble_eq_true rfl) dL_law_50 ⟨(by show _ ≤ 600000; omega), (by show _ ≤ 7302250; omega)⟩ (fun r u_50 H locs hw hP hD hS => ?_)
      obtain ⟨hr_50, m3, m4, hin, hip, hR⟩ := hw
      subst hr_50
      obtain ⟨u_s, v_s⟩ := u_50
      have hin : bI u_s m3 := hin
      have hip : bI v_s m4 := hip
      have hP : va_P D vwCl (bW cI cC cS a u_s ++ bW cI cC cS a2 v_s) H := hP
      have hD : va_D (fun q : Nat => s.heap.size ≤ q) (bW cI cC cS a u_s ++ bW cI cC cS a2 v_s) := hD
      refine kb_nif_eq (tgt := 74) hx hb dL_law_53 (by decide) (by decide) (fun c => absurd c (by decide)) (fun _ => ?_)
      refine lv_iload hx hb dL_law_56 (lv_at hl 0 rfl) ?_
      refine lv_iconst (v := nI 3) hx hb dL_law_58 (by decide) ?_
      refine lv_irem hx hb dL_law_59 (by decide) ?_
      refine kb_top (nI (k % 3)) (pk_rem (by omega) (by decide) (by decide)) ?_
      refine kb_nif_gt (tgt := 70) hx hb dL_law_60 (by decide) (by omega) (fun c60 => ?_) (fun c60 => ?_)
      · refine lv_iconst (v := nI 1) hx hb dL_law_70 (by decide) ?_
        refine lv_goto (tgt := 75) hx hb dL_law_71 (by decide) ?_
        refine lv_istore_n (lv' := [(3, .int (nI 1)), (4, .int (nI k)), (2, .ref (a2 0)), (1, .ref (a 0)), (0, .ref b)]) hx hb dL_law_75 rfl hl (by decide) rfl (fun ls hl => ?_)
        refine lv_iinc (v := nI (k + 1)) (lv' := [(4, .int (nI (k + 1))), (3, .int (nI 1)), (2, .ref (a2 0)), (1, .ref (a 0)), (0, .ref b)]) hx hb dL_law_76 hl (k := 1) rfl (kb_inc1 k) (by decide) rfl (fun ls hl => ?_)
        refine lv_goto (tgt := 21) hx hb dL_law_79 (by decide) ?_
        refine W.widen (k := 200 + (k + 1)) (n := 5000 + 4 * (k + 1)) (by omega) (by omega) ?_
        exact ih (k + 1) (by omega) (by omega) H locs _ _ _ _ hin hip (hR.mono (by omega)) hP hD hS _ (lv_sub hl [0, 1, 2, 3, 4] rfl)
      · refine lv_aload_n hx hb dL_law_63 rfl (lv_at hl 3 rfl) ?_
        refine kb_bSa (w := bW cI cC cS a) (As := [.ref (a 0)]) (rest := []) hx hb hml hts hown hN hK hP hD hS hA (c_L_isWell l D cI cC cS a (M := 9000) (by decide) hin ((hR.1.1).mono (by omega))) gL_law_L_isWell rfl ⟨rfl, rfl⟩ hdL_isWell.2 ⟨(Nat.le_of_ble_eq_true rfl), (Nat.le_of_ble_eq_true rfl)⟩ [0, 1, 2] rfl (fun _ => kb_blk _ _) rfl rfl hl.1 (Nat.le_of_ble_eq_true rfl) dL_law_64 ⟨(by show _ ≤ 600000; omega), (by show _ ≤ 7302250; omega)⟩ (fun r u_64 H locs hw hP hD hS => ?_)
        obtain ⟨hr_64, hin⟩ := hw
        subst hr_64
        refine kb_nif_eq (tgt := 74) hx hb dL_law_67 (by decide) (by decide) (fun c => absurd c (by decide)) (fun _ => ?_)
        refine lv_iconst (v := nI 1) hx hb dL_law_70 (by decide) ?_
        refine lv_goto (tgt := 75) hx hb dL_law_71 (by decide) ?_
        refine lv_istore_n (lv' := [(3, .int (nI 1)), (4, .int (nI k)), (2, .ref (a2 0)), (1, .ref (a 0)), (0, .ref b)]) hx hb dL_law_75 rfl hl (by decide) rfl (fun ls hl => ?_)
        refine lv_iinc (v := nI (k + 1)) (lv' := [(4, .int (nI (k + 1))), (3, .int (nI 1)), (2, .ref (a2 0)), (1, .ref (a 0)), (0, .ref b)]) hx hb dL_law_76 hl (k := 1) rfl (kb_inc1 k) (by decide) rfl (fun ls hl => ?_)
        refine lv_goto (tgt := 21) hx hb dL_law_79 (by decide) ?_
        refine W.widen (k := 200 + (k + 1)) (n := 5000 + 4 * (k + 1)) (by omega) (by omega) ?_
        exact ih (k + 1) (by omega) (by omega) H locs _ _ _ _ hin hip (hR.mono (by omega)) hP hD hS _ (lv_sub hl [0, 1, 2, 3, 4] rfl)
