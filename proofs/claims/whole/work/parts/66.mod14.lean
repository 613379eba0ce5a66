abbrev rmX5_keep : Room := { frames := 0, cells := 0, slots := 0, locals := 0 }
theorem hdX5_keep : yX5_keep.cls = RX5 ∧ yX5_keep.cls ≠ "java/lang/invoke/MethodHandle" ∧ yX5_keep.cls ≠ "java/lang/invoke/VarHandle" ∧ (parseMethodDescriptor yX5_keep.desc).map (fun d => d.parameters.length) = some 0 := by decide +kernel
theorem inwX5_keep_X5 : ∀ w ∈ wsX50, w ∈ wsX5_keep := fun w h => List.mem_cons_of_mem _ (List.mem_append_right _ h)
set_option maxHeartbeats 4000000 in
set_option maxRecDepth 100000 in
theorem c_X5_keep (l : Launch) (D : va_G) (cI : ClassId) (b : Nat → Nat) (hL : Nat) (iK : Int32) (tL : Nat) (sP : Nat) (nU : Int32) (iS : Int32) (sN : Int32) (sR : Int32) (lE : Int32) (fI : Int32) (sC : Int32) (v : Nat → Int32) (g : Sg) (hv : rV v g) (ho : Ok g) (sn : Nat → Int32) : kb_I (S := (Nat → Int32)) D [(cI, .int)] l yX5_keep wsX5_keep rmX5_keep [.ref (b 0)] [((b 0), .inr (5, [.ref (b 1), .ref (b 2), .ref (b 3), .ref (b 4), .int (nI hL), .ref (b 5), .int (iK), .ref (b 6), .ref (b 7), .int (nI tL), .int (nI sP), .int (nU), .int (iS), .int (sN), .int (sR), .int (lE), .int (fI), .int (sC)])), ((b 1), .inl (cI, 217, .inl v)), ((b 5), .inl (cI, 217, .inl sn))] (fun (r : Int32) (u : (Nat → Int32)) => r = nI (nT g) ∧ rV u g) (fun (u : (Nat → Int32)) => [((b 0), .inr (5, [.ref (b 1), .ref (b 2), .ref (b 3), .ref (b 4), .int (nI hL), .ref (b 5), .int (nI 1), .ref (b 6), .ref (b 7), .int (nI tL), .int (nI sP), .int (nU), .int (iS), .int (sN), .int (sR), .int (lE), .int (fI), .int (sC)])), ((b 1), .inl (cI, 217, .inl v)), ((b 5), .inl (cI, 217, .inl u))]) 0 0 := by
  refine kb_I_of (cc := cX5_keep) (maxL := 2) (ret := (some .int)) (by decide) rfl (Nat.le_of_ble_eq_true rfl) ?_
  intro p e s mm args below meth c A hx hb hml hr hts hown hlocks hnm hA hN hK hP hD hS ls hl Q hQ
  have hl : lv_has ls 2 [(0, .ref (b 0))] := hl
  have hP : va_P D vwCl [((b 0), .inr (5, [.ref (b 1), .ref (b 2), .ref (b 3), .ref (b 4), .int (nI hL), .ref (b 5), .int (iK), .ref (b 6), .ref (b 7), .int (nI tL), .int (nI sP), .int (nU), .int (iS), .int (sN), .int (sR), .int (lE), .int (fI), .int (sC)])), ((b 1), .inl (cI, 217, .inl v)), ((b 5), .inl (cI, 217, .inl sn))] s.heap := hP
  have hD : va_D A [((b 0), .inr (5, [.ref (b 1), .ref (b 2), .ref (b 3), .ref (b 4), .int (nI hL), .ref (b 5), .int (iK), .ref (b 6), .ref (b 7), .int (nI tL), .int (nI sP), .int (nU), .int (iS), .int (sN), .int (sR), .int (lE), .int (fI), .int (sC)])), ((b 1), .inl (cI, 217, .inl v)), ((b 5), .inl (cI, 217, .inl sn))] := hD
  have fl22 := hts (.fieldLink RX5 22 "KingsBanquetModel" "snapshot" "[I") (by decide +kernel)
  have fl7 := hts (.fieldLink RX5 7 "KingsBanquetModel" "all" "[I") (by decide +kernel)
  have fl192 := hts (.fieldLink RX5 192 "KingsBanquetModel" "isKept" "I") (by decide +kernel)
  have hn := ho.n
  refine lv_iconst (v := nI 0) hx hb dX5_keep_0 (by decide) ?_
  refine lv_istore_n (lv' := [(1, .int (nI 0)), (0, .ref (b 0))]) hx hb dX5_keep_1 rfl hl (by decide) rfl (fun ls hl => ?_)
  have L_2 : ∀ (z : Nat) (i : Nat) (sc : Nat → Int32), (i ≤ 217) → (∀ j, j < i → sc j = v j) → (217 - i) < z → ∀ (H : Heap) (locs : List Loc), va_P D vwCl [((b 0), .inr (5, [.ref (b 1), .ref (b 2), .ref (b 3), .ref (b 4), .int (nI hL), .ref (b 5), .int (iK), .ref (b 6), .ref (b 7), .int (nI tL), .int (nI sP), .int (nU), .int (iS), .int (sN), .int (sR), .int (lE), .int (fI), .int (sC)])), ((b 1), .inl (cI, 217, .inl v)), ((b 5), .inl (cI, 217, .inl sc))] H → va_D A [((b 0), .inr (5, [.ref (b 1), .ref (b 2), .ref (b 3), .ref (b 4), .int (nI hL), .ref (b 5), .int (iK), .ref (b 6), .ref (b 7), .int (nI tL), .int (nI sP), .int (nU), .int (iS), .int (sN), .int (sR), .int (lE), .int (fI), .int (sC)])), ((b 1), .inl (cI, 217, .inl v)), ((b 5), .inl (cI, 217, .inl sc))] → va_S A s.heap H locs → ∀ ls : Array Slot, lv_has ls 2 [(1, .int (nI i)), (0, .ref (b 0))] → W p l e rmX5_keep s mm args below meth c H locs 0 0 Q (F0 mm 2 ls []) := by
    intro z
    induction z with
    | zero =>
      intro i sc _ _ hz
      exact absurd hz (Nat.not_lt_zero _)
    | succ z ih_2 =>
      intro i sc hi hc hz H locs hP hD hS ls hl
      refine lv_iload_n hx hb dX5_keep_2 rfl (lv_at hl 0 rfl) ?_
      refine lv_sipush (v := nI 217) hx hb dX5_keep_3 (by decide) ?_
      refine kb_icmp_ge (tgt := 27) hx hb dX5_keep_6 (by decide) (by omega) (by omega) (fun c6 => ?_) (fun c6 => ?_)
      · refine lv_aload_n hx hb dX5_keep_27 rfl (lv_at hl 1 rfl) ?_
        refine lv_iconst (v := nI 1) hx hb dX5_keep_28 (by decide) ?_
        refine va_put (D := D) (ci := 5) (v := .int (nI 1)) (ty := .int) (C := RX5) (T := TX5) (N := 18) hx hb hts inwX5_keep_X5 tyX5 tyX5_ok nmX5 hown hK hP hD hS 0 rfl rfl 6 (by decide) fl192 (fun _ h9 => h9) rfl (by decide +kernel) rfl rfl (Nat.le_of_ble_eq_true rfl) dX5_keep_29 (fun H locs hP hD hS => ?_)
        have hP : va_P D vwCl [((b 0), .inr (5, [.ref (b 1), .ref (b 2), .ref (b 3), .ref (b 4), .int (nI hL), .ref (b 5), .int (nI 1), .ref (b 6), .ref (b 7), .int (nI tL), .int (nI sP), .int (nU), .int (iS), .int (sN), .int (sR), .int (lE), .int (fI), .int (sC)])), ((b 1), .inl (cI, 217, .inl v)), ((b 5), .inl (cI, 217, .inl sc))] H := hP
        have hD : va_D A [((b 0), .inr (5, [.ref (b 1), .ref (b 2), .ref (b 3), .ref (b 4), .int (nI hL), .ref (b 5), .int (nI 1), .ref (b 6), .ref (b 7), .int (nI tL), .int (nI sP), .int (nU), .int (iS), .int (sN), .int (sR), .int (lE), .int (fI), .int (sC)])), ((b 1), .inl (cI, 217, .inl v)), ((b 5), .inl (cI, 217, .inl sc))] := hD
        refine lv_aload_n hx hb dX5_keep_32 rfl (lv_at hl 1 rfl) ?_
        refine va_get (D := D) (ci := 5) (v := .ref (b 1)) (C := RX5) (T := TX5) (N := 18) hx hb hts inwX5_keep_X5 hown hK hP 0 rfl rfl 0 (by decide) fl7 (fun _ h9 => h9) rfl dX5_keep_33 ?_
        refine lv_bipush (v := nI 11) hx hb dX5_keep_36 (by decide) ?_
        refine kb_iald hx hb hK hP 1 0 rfl rfl (by decide) (by omega) dX5_keep_38 ?_
        refine kb_top (nI (nT g)) hv.t ?_
        exact kb_iret (D := D) hQ hx hb hr hlocks hK hP hD hS dX5_keep_39 sc rfl (Nat.le_refl _) (Nat.le_refl _) (show (nI (nT g)) = nI (nT g) ∧ rV sc g from ⟨rfl, hv.of (fun j hj => hc j (by omega)) hn.2.1 hn.2.2⟩)
      · refine lv_aload_n hx hb dX5_keep_9 rfl (lv_at hl 1 rfl) ?_
        refine va_get (D := D) (ci := 5) (v := .ref (b 5)) (C := RX5) (T := TX5) (N := 18) hx hb hts inwX5_keep_X5 hown hK hP 0 rfl rfl 5 (by decide) fl22 (fun _ h9 => h9) rfl dX5_keep_10 ?_
        refine lv_iload_n hx hb dX5_keep_13 rfl (lv_at hl 0 rfl) ?_
        refine lv_aload_n hx hb dX5_keep_14 rfl (lv_at hl 1 rfl) ?_
        refine va_get (D := D) (ci := 5) (v := .ref (b 1)) (C := RX5) (T := TX5) (N := 18) hx hb hts inwX5_keep_X5 hown hK hP 0 rfl rfl 0 (by decide) fl7 (fun _ h9 => h9) rfl dX5_keep_15 ?_
        refine lv_iload_n hx hb dX5_keep_18 rfl (lv_at hl 0 rfl) ?_
        refine kb_iald hx hb hK hP 1 0 rfl rfl (by decide) (by omega) dX5_keep_19 ?_
        refine kb_iast hx hb hK hP hD hS 2 0 rfl rfl (by decide) (by omega) dX5_keep_20 (fun H locs hP hD hS => ?_)
        have hP : va_P D vwCl [((b 0), .inr (5, [.ref (b 1), .ref (b 2), .ref (b 3), .ref (b 4), .int (nI hL), .ref (b 5), .int (iK), .ref (b 6), .ref (b 7), .int (nI tL), .int (nI sP), .int (nU), .int (iS), .int (sN), .int (sR), .int (lE), .int (fI), .int (sC)])), ((b 1), .inl (cI, 217, .inl v)), ((b 5), .inl (cI, 217, .inl (upd sc i (v i))))] H := hP
        have hD : va_D A [((b 0), .inr (5, [.ref (b 1), .ref (b 2), .ref (b 3), .ref (b 4), .int (nI hL), .ref (b 5), .int (iK), .ref (b 6), .ref (b 7), .int (nI tL), .int (nI sP), .int (nU), .int (iS), .int (sN), .int (sR), .int (lE), .int (fI), .int (sC)])), ((b 1), .inl (cI, 217, .inl v)), ((b 5), .inl (cI, 217, .inl (upd sc i (v i))))] := hD
        refine lv_iinc (v := nI (i + 1)) (lv' := [(1, .int (nI (i + 1))), (0, .ref (b 0))]) hx hb dX5_keep_21 hl (k := 0) rfl (kb_inc1 i) (by decide) rfl (fun ls hl => ?_)
        refine lv_goto (tgt := 2) hx hb dX5_keep_24 (by decide) ?_
        exact ih_2 (i + 1) (upd sc i (v i)) (by omega) (cpy hc) (by omega) _ _ hP hD hS _ (lv_sub hl [0, 1] rfl)
  exact L_2 ((217 - 0) + 1) 0 sn (by omega) (fun j h => absurd h (Nat.not_lt_zero j)) (Nat.lt_succ_self _) _ _ hP hD hS _ (lv_sub hl [0, 1] rfl)
abbrev rmX5_thatDo : Room := { frames := 1, cells := 0, slots := 0, locals := 22 }
theorem hdX5_thatDo : yX5_thatDo.cls = RX5 ∧ yX5_thatDo.cls ≠ "java/lang/invoke/MethodHandle" ∧ yX5_thatDo.cls ≠ "java/lang/invoke/VarHandle" ∧ (parseMethodDescriptor yX5_thatDo.desc).map (fun d => d.parameters.length) = some 1 := by decide +kernel
theorem inwX5_thatDo_X5 : ∀ w ∈ wsX50, w ∈ wsX5_thatDo := fun w h => List.mem_cons_of_mem _ (List.mem_append_right _ h)
set_option maxHeartbeats 4000000 in
set_option maxRecDepth 100000 in
theorem c_X5_thatDo (l : Launch) (D : va_G) (cI : ClassId) (b : Nat → Nat) (hL : Nat) (iK : Int32) (tL : Nat) (sP : Nat) (nU : Int32) (iS : Int32) (sN : Int32) (sR : Int32) (lE : Int32) (fI : Int32) (sC : Int32) (v : Nat → Int32) (g : Sg) (hv : rV v g) (ho : Ok g) (w : Nat) (hw : w < 9) : kb_R D [(cI, .int)] l yX5_thatDo wsX5_thatDo rmX5_thatDo [.ref (b 0), .int (nI w)] [((b 0), .inr (5, [.ref (b 1), .ref (b 2), .ref (b 3), .ref (b 4), .int (nI hL), .ref (b 5), .int (iK), .ref (b 6), .ref (b 7), .int (nI tL), .int (nI sP), .int (nU), .int (iS), .int (sN), .int (sR), .int (lE), .int (fI), .int (sC)])), ((b 1), .inl (cI, 217, .inl v))] (nI (kdN g w)) := by
  refine kb_I_of (cc := cX5_thatDo) (maxL := 4) (ret := (some .int)) (by decide) rfl (Nat.le_of_ble_eq_true rfl) ?_
  intro p e s mm args below meth c A hx hb hml hr hts hown hlocks hnm hA hN hK hP hD hS ls hl Q hQ
  have hl : lv_has ls 4 [(0, .ref (b 0)), (1, .int (nI w))] := hl
  have hP : va_P D vwCl [((b 0), .inr (5, [.ref (b 1), .ref (b 2), .ref (b 3), .ref (b 4), .int (nI hL), .ref (b 5), .int (iK), .ref (b 6), .ref (b 7), .int (nI tL), .int (nI sP), .int (nU), .int (iS), .int (sN), .int (sR), .int (lE), .int (fI), .int (sC)])), ((b 1), .inl (cI, 217, .inl v))] s.heap := hP
  have hD : va_D A [((b 0), .inr (5, [.ref (b 1), .ref (b 2), .ref (b 3), .ref (b 4), .int (nI hL), .ref (b 5), .int (iK), .ref (b 6), .ref (b 7), .int (nI tL), .int (nI sP), .int (nU), .int (iS), .int (sN), .int (sR), .int (lE), .int (fI), .int (sC)])), ((b 1), .inl (cI, 217, .inl v))] := hD
  have fl7 := hts (.fieldLink RX5 7 "KingsBanquetModel" "all" "[I") (by decide +kernel)
  have hn := ho.n
  refine lv_iconst (v := nI 0) hx hb dX5_thatDo_0 (by decide) ?_
  refine lv_istore_n (lv' := [(2, .int (nI 0)), (0, .ref (b 0)), (1, .int (nI w))]) hx hb dX5_thatDo_1 rfl hl (by decide) rfl (fun ls hl => ?_)
  refine lv_iconst (v := nI 0) hx hb dX5_thatDo_2 (by decide) ?_
  refine lv_istore_n (lv' := [(3, .int (nI 0)), (2, .int (nI 0)), (0, .ref (b 0)), (1, .int (nI w))]) hx hb dX5_thatDo_3 rfl hl (by decide) rfl (fun ls hl => ?_)
  have L_4 : ∀ (z : Nat) (k : Nat), (k ≤ nK g) → (nK g - k) < z → ∀ (H : Heap) (locs : List Loc), va_P D vwCl [((b 0), .inr (5, [.ref (b 1), .ref (b 2), .ref (b 3), .ref (b 4), .int (nI hL), .ref (b 5), .int (iK), .ref (b 6), .ref (b 7), .int (nI tL), .int (nI sP), .int (nU), .int (iS), .int (sN), .int (sR), .int (lE), .int (fI), .int (sC)])), ((b 1), .inl (cI, 217, .inl v))] H → va_D A [((b 0), .inr (5, [.ref (b 1), .ref (b 2), .ref (b 3), .ref (b 4), .int (nI hL), .ref (b 5), .int (iK), .ref (b 6), .ref (b 7), .int (nI tL), .int (nI sP), .int (nU), .int (iS), .int (sN), .int (sR), .int (lE), .int (fI), .int (sC)])), ((b 1), .inl (cI, 217, .inl v))] → va_S A s.heap H locs → ∀ ls : Array Slot, lv_has ls 4 [(3, .int (nI k)), (2, .int (nI (cnt (fun k => decide (gD g k = w)) k))), (0, .ref (b 0)), (1, .int (nI w))] → W p l e rmX5_thatDo s mm args below meth c H locs 0 0 Q (F0 mm 4 ls []) := by
    intro z
    induction z with
    | zero =>
      intro k _ hz
      exact absurd hz (Nat.not_lt_zero _)
    | succ z ih_4 =>
      intro k hk hz H locs hP hD hS ls hl
      refine lv_iload_n hx hb dX5_thatDo_4 rfl (lv_at hl 0 rfl) ?_
      refine lv_aload_n hx hb dX5_thatDo_5 rfl (lv_at hl 2 rfl) ?_
      refine va_get (D := D) (ci := 5) (v := .ref (b 1)) (C := RX5) (T := TX5) (N := 18) hx hb hts inwX5_thatDo_X5 hown hK hP 0 rfl rfl 0 (by decide) fl7 (fun _ h9 => h9) rfl dX5_thatDo_6 ?_
      refine lv_iconst (v := nI 5) hx hb dX5_thatDo_9 (by decide) ?_
      refine kb_iald hx hb hK hP 1 0 rfl rfl (by decide) (by omega) dX5_thatDo_10 ?_
      refine kb_top (nI (nK g)) hv.k ?_
      refine kb_icmp_ge (tgt := 38) hx hb dX5_thatDo_11 (by decide) (by omega) (by omega) (fun c11 => ?_) (fun c11 => ?_)
      · refine lv_iload_n hx hb dX5_thatDo_38 rfl (lv_at hl 1 rfl) ?_
        exact kb_iret (D := D) hQ hx hb hr hlocks hK hP hD hS dX5_thatDo_39 () rfl (Nat.le_refl _) (Nat.le_refl _) (show nI (cnt (fun k => decide (gD g k = w)) k) = nI (kdN g w) from (by rw [show k = nK g by omega]; rfl))
      · refine lv_iload_n hx hb dX5_thatDo_14 rfl (lv_at hl 1 rfl) ?_
        refine lv_aload_n hx hb dX5_thatDo_15 rfl (lv_at hl 2 rfl) ?_
        refine lv_iload_n hx hb dX5_thatDo_16 rfl (lv_at hl 0 rfl) ?_
        refine lv_iconst (v := nI 3) hx hb dX5_thatDo_17 (by decide) ?_
        refine kb_vR (As := [.int (nI k), .int (nI 3)]) (rest := [.int (nI (cnt (fun k => decide (gD g k = w)) k))]) hx hb hml hts hown hN hK hP hD hS hA (c_X5_get l D cI b hL iK tL sP nU iS sN sR lE fI sC v k 3 (by omega) (by decide)) gX5_thatDo_X5_get rfl ⟨rfl, rfl⟩ hdX5_get ⟨Nat.le_of_ble_eq_true rfl, Nat.le_of_ble_eq_true rfl⟩ [0, 1] [0] rfl rfl rfl (ci := 5) rfl rfl rfl rfl rfl hl.1 (Nat.le_of_ble_eq_true rfl) dX5_thatDo_18 ⟨Nat.zero_le _, Nat.zero_le _⟩ (fun H locs hP hS => ?_)
        refine kb_top (nI (gD g k)) (hv.f (by omega)).2.2.2.1 ?_
        refine lv_iload_n hx hb dX5_thatDo_21 rfl (lv_at hl 3 rfl) ?_
        refine kb_icmp_ne (tgt := 29) hx hb dX5_thatDo_22 (by decide) (by have := (ho.k k (by omega)).1; omega) (by have := (ho.k k (by omega)).1; omega) (fun c22 => ?_) (fun c22 => ?_)
        · refine lv_iconst (v := nI 0) hx hb dX5_thatDo_29 (by decide) ?_
          refine lv_iadd hx hb dX5_thatDo_30 ?_
          refine kb_top (nI (cnt (fun k => decide (gD g k = w)) k + 0)) (nI_add (cnt (fun k => decide (gD g k = w)) k) 0) ?_
          refine kb_top (nI (cnt (fun k => decide (gD g k = w)) (k + 1))) (by rw [cnt_s]; first | rw [if_pos (decide_eq_true c22)] | rw [if_neg (by rw [decide_eq_false c22]; decide)]) ?_
          refine lv_istore_n (lv' := [(2, .int (nI (cnt (fun k => decide (gD g k = w)) (k + 1)))), (3, .int (nI k)), (0, .ref (b 0)), (1, .int (nI w))]) hx hb dX5_thatDo_31 rfl hl (by decide) rfl (fun ls hl => ?_)
          refine lv_iinc (v := nI (k + 1)) (lv' := [(3, .int (nI (k + 1))), (2, .int (nI (cnt (fun k => decide (gD g k = w)) (k + 1)))), (0, .ref (b 0)), (1, .int (nI w))]) hx hb dX5_thatDo_32 hl (k := 1) rfl (kb_inc1 k) (by decide) rfl (fun ls hl => ?_)
          refine lv_goto (tgt := 4) hx hb dX5_thatDo_35 (by decide) ?_
          exact ih_4 (k + 1) (by omega) (by omega) _ _ hP hD hS _ (lv_sub hl [0, 1, 2, 3] rfl)
        · refine lv_iconst (v := nI 1) hx hb dX5_thatDo_25 (by decide) ?_
          refine lv_goto (tgt := 30) hx hb dX5_thatDo_26 (by decide) ?_
          refine lv_iadd hx hb dX5_thatDo_30 ?_
          refine kb_top (nI (cnt (fun k => decide (gD g k = w)) k + 1)) (nI_add (cnt (fun k => decide (gD g k = w)) k) 1) ?_
          refine kb_top (nI (cnt (fun k => decide (gD g k = w)) (k + 1))) (by rw [cnt_s]; first | rw [if_pos (decide_eq_true c22)] | rw [if_neg (by rw [decide_eq_false c22]; decide)]) ?_
          refine lv_istore_n (lv' := [(2, .int (nI (cnt (fun k => decide (gD g k = w)) (k + 1)))), (3, .int (nI k)), (0, .ref (b 0)), (1, .int (nI w))]) hx hb dX5_thatDo_31 rfl hl (by decide) rfl (fun ls hl => ?_)
          refine lv_iinc (v := nI (k + 1)) (lv' := [(3, .int (nI (k + 1))), (2, .int (nI (cnt (fun k => decide (gD g k = w)) (k + 1)))), (0, .ref (b 0)), (1, .int (nI w))]) hx hb dX5_thatDo_32 hl (k := 1) rfl (kb_inc1 k) (by decide) rfl (fun ls hl => ?_)
          refine lv_goto (tgt := 4) hx hb dX5_thatDo_35 (by decide) ?_
          exact ih_4 (k + 1) (by omega) (by omega) _ _ hP hD hS _ (lv_sub hl [0, 1, 2, 3] rfl)
  exact L_4 ((nK g - 0) + 1) 0 (by omega) (Nat.lt_succ_self _) _ _ hP hD hS _ (lv_sub hl [0, 1, 2, 3] rfl)
