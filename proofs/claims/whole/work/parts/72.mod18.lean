abbrev rmX5_undo : Room := { frames := 0, cells := 0, slots := 0, locals := 0 }
theorem hdX5_undo : yX5_undo.cls = RX5 ∧ yX5_undo.cls ≠ "java/lang/invoke/MethodHandle" ∧ yX5_undo.cls ≠ "java/lang/invoke/VarHandle" ∧ (parseMethodDescriptor yX5_undo.desc).map (fun d => d.parameters.length) = some 0 := by decide +kernel
theorem inwX5_undo_X5 : ∀ w ∈ wsX50, w ∈ wsX5_undo := fun w h => List.mem_cons_of_mem _ (List.mem_append_right _ h)
set_option maxHeartbeats 4000000 in
set_option maxRecDepth 100000 in
theorem c_X5_undo (l : Launch) (D : va_G) (cI : ClassId) (b : Nat → Nat) (hL : Nat) (iK : Int32) (tL : Nat) (sP : Nat) (nU : Int32) (iS : Int32) (sN : Int32) (sR : Int32) (lE : Int32) (fI : Int32) (sC : Int32) (v : Nat → Int32) (g : Sg) (hv : rV v g) (ho : Ok g) (hs : Nat → Int32) (h : Nat → Sg) (hm : mH hs hL h) : kb_I (S := (Nat → Int32) × Nat) D [(cI, .int)] l yX5_undo wsX5_undo rmX5_undo [.ref (b 0)] [((b 0), .inr (5, [.ref (b 1), .ref (b 2), .ref (b 3), .ref (b 4), .int (nI hL), .ref (b 5), .int (iK), .ref (b 6), .ref (b 7), .int (nI tL), .int (nI sP), .int (nU), .int (iS), .int (sN), .int (sR), .int (lE), .int (fI), .int (sC)])), ((b 1), .inl (cI, 217, .inl v)), ((b 4), .inl (cI, 868, .inl hs))] (fun (r : Int32) (u : (Nat → Int32) × Nat) => r = (if hL = 0 then -5 else nI (hL - 1)) ∧ rV u.1 (if hL = 0 then g else h (hL - 1)) ∧ u.2 = hL - 1) (fun (u : (Nat → Int32) × Nat) => [((b 0), .inr (5, [.ref (b 1), .ref (b 2), .ref (b 3), .ref (b 4), .int (nI u.2), .ref (b 5), .int (iK), .ref (b 6), .ref (b 7), .int (nI tL), .int (nI sP), .int (nU), .int (iS), .int (sN), .int (sR), .int (lE), .int (fI), .int (sC)])), ((b 1), .inl (cI, 217, .inl u.1)), ((b 4), .inl (cI, 868, .inl hs))]) 0 0 := by
  refine kb_I_of (cc := cX5_undo) (maxL := 2) (ret := (some .int)) (by decide) rfl (Nat.le_of_ble_eq_true rfl) ?_
  intro p e s mm args below meth c A hx hb hml hr hts hown hlocks hnm hA hN hK hP hD hS ls hl Q hQ
  have hl : lv_has ls 2 [(0, .ref (b 0))] := hl
  have hP : va_P D vwCl [((b 0), .inr (5, [.ref (b 1), .ref (b 2), .ref (b 3), .ref (b 4), .int (nI hL), .ref (b 5), .int (iK), .ref (b 6), .ref (b 7), .int (nI tL), .int (nI sP), .int (nU), .int (iS), .int (sN), .int (sR), .int (lE), .int (fI), .int (sC)])), ((b 1), .inl (cI, 217, .inl v)), ((b 4), .inl (cI, 868, .inl hs))] s.heap := hP
  have hD : va_D A [((b 0), .inr (5, [.ref (b 1), .ref (b 2), .ref (b 3), .ref (b 4), .int (nI hL), .ref (b 5), .int (iK), .ref (b 6), .ref (b 7), .int (nI tL), .int (nI sP), .int (nU), .int (iS), .int (sN), .int (sR), .int (lE), .int (fI), .int (sC)])), ((b 1), .inl (cI, 217, .inl v)), ((b 4), .inl (cI, 868, .inl hs))] := hD
  have fl31 := hts (.fieldLink RX5 31 "KingsBanquetModel" "historyLong" "I") (by decide +kernel)
  have fl7 := hts (.fieldLink RX5 7 "KingsBanquetModel" "all" "[I") (by decide +kernel)
  have fl19 := hts (.fieldLink RX5 19 "KingsBanquetModel" "history" "[I") (by decide +kernel)
  have hh4 := hm.1
  refine lv_aload_n hx hb dX5_undo_0 rfl (lv_at hl 0 rfl) ?_
  refine va_get (D := D) (ci := 5) (v := .int (nI hL)) (C := RX5) (T := TX5) (N := 18) hx hb hts inwX5_undo_X5 hown hK hP 0 rfl rfl 4 (by decide) fl31 (fun _ h9 => h9) rfl dX5_undo_1 ?_
  refine kb_nif_ne (tgt := 10) hx hb dX5_undo_4 (by decide) (by omega) (fun c4 => ?_) (fun c4 => ?_)
  · refine lv_aload_n hx hb dX5_undo_10 rfl (lv_at hl 0 rfl) ?_
    refine lv_dup hx hb dX5_undo_11 rfl ?_
    refine va_get (D := D) (ci := 5) (v := .int (nI hL)) (C := RX5) (T := TX5) (N := 18) hx hb hts inwX5_undo_X5 hown hK hP 0 rfl rfl 4 (by decide) fl31 (fun _ h9 => h9) rfl dX5_undo_12 ?_
    refine lv_iconst (v := nI 1) hx hb dX5_undo_15 (by decide) ?_
    refine lv_isub hx hb dX5_undo_16 ?_
    refine kb_top (nI (hL - 1)) (pk_sub (by omega)) ?_
    refine va_put (D := D) (ci := 5) (v := .int (nI (hL - 1))) (ty := .int) (C := RX5) (T := TX5) (N := 18) hx hb hts inwX5_undo_X5 tyX5 tyX5_ok nmX5 hown hK hP hD hS 0 rfl rfl 4 (by decide) fl31 (fun _ h9 => h9) rfl (by decide +kernel) rfl rfl (Nat.le_of_ble_eq_true rfl) dX5_undo_17 (fun H locs hP hD hS => ?_)
    have hP : va_P D vwCl [((b 0), .inr (5, [.ref (b 1), .ref (b 2), .ref (b 3), .ref (b 4), .int (nI (hL - 1)), .ref (b 5), .int (iK), .ref (b 6), .ref (b 7), .int (nI tL), .int (nI sP), .int (nU), .int (iS), .int (sN), .int (sR), .int (lE), .int (fI), .int (sC)])), ((b 1), .inl (cI, 217, .inl v)), ((b 4), .inl (cI, 868, .inl hs))] H := hP
    have hD : va_D A [((b 0), .inr (5, [.ref (b 1), .ref (b 2), .ref (b 3), .ref (b 4), .int (nI (hL - 1)), .ref (b 5), .int (iK), .ref (b 6), .ref (b 7), .int (nI tL), .int (nI sP), .int (nU), .int (iS), .int (sN), .int (sR), .int (lE), .int (fI), .int (sC)])), ((b 1), .inl (cI, 217, .inl v)), ((b 4), .inl (cI, 868, .inl hs))] := hD
    refine lv_iconst (v := nI 0) hx hb dX5_undo_20 (by decide) ?_
    refine lv_istore_n (lv' := [(1, .int (nI 0)), (0, .ref (b 0))]) hx hb dX5_undo_21 rfl hl (by decide) rfl (fun ls hl => ?_)
    have L_22 : ∀ (z : Nat) (i : Nat) (vc : Nat → Int32), (i ≤ 217) → (∀ j, j < i → vc j = hs (217 * (hL - 1) + j)) → (217 - i) < z → ∀ (H : Heap) (locs : List Loc), va_P D vwCl [((b 0), .inr (5, [.ref (b 1), .ref (b 2), .ref (b 3), .ref (b 4), .int (nI (hL - 1)), .ref (b 5), .int (iK), .ref (b 6), .ref (b 7), .int (nI tL), .int (nI sP), .int (nU), .int (iS), .int (sN), .int (sR), .int (lE), .int (fI), .int (sC)])), ((b 1), .inl (cI, 217, .inl vc)), ((b 4), .inl (cI, 868, .inl hs))] H → va_D A [((b 0), .inr (5, [.ref (b 1), .ref (b 2), .ref (b 3), .ref (b 4), .int (nI (hL - 1)), .ref (b 5), .int (iK), .ref (b 6), .ref (b 7), .int (nI tL), .int (nI sP), .int (nU), .int (iS), .int (sN), .int (sR), .int (lE), .int (fI), .int (sC)])), ((b 1), .inl (cI, 217, .inl vc)), ((b 4), .inl (cI, 868, .inl hs))] → va_S A s.heap H locs → ∀ ls : Array Slot, lv_has ls 2 [(1, .int (nI i)), (0, .ref (b 0))] → W p l e rmX5_undo s mm args below meth c H locs 0 0 Q (F0 mm 22 ls []) := by
      intro z
      induction z with
      | zero =>
        intro i vc _ _ hz
        exact absurd hz (Nat.not_lt_zero _)
      | succ z ih_22 =>
        intro i vc hi hc hz H locs hP hD hS ls hl
        refine lv_iload_n hx hb dX5_undo_22 rfl (lv_at hl 0 rfl) ?_
        refine lv_sipush (v := nI 217) hx hb dX5_undo_23 (by decide) ?_
        refine kb_icmp_ge (tgt := 56) hx hb dX5_undo_26 (by decide) (by omega) (by omega) (fun c26 => ?_) (fun c26 => ?_)
        · refine lv_aload_n hx hb dX5_undo_56 rfl (lv_at hl 1 rfl) ?_
          refine va_get (D := D) (ci := 5) (v := .int (nI (hL - 1))) (C := RX5) (T := TX5) (N := 18) hx hb hts inwX5_undo_X5 hown hK hP 0 rfl rfl 4 (by decide) fl31 (fun _ h9 => h9) rfl dX5_undo_57 ?_
          exact kb_iret (D := D) hQ hx hb hr hlocks hK hP hD hS dX5_undo_60 (vc, hL - 1) rfl (Nat.le_refl _) (Nat.le_refl _) (show (nI (hL - 1)) = (if hL = 0 then -5 else nI (hL - 1)) ∧ rV vc (if hL = 0 then g else h (hL - 1)) ∧ (hL - 1) = hL - 1 from ⟨(if_neg c4).symm, by rw [if_neg c4]; have hq := hm.2 (hL - 1) (by omega); exact hq.1.of (fun j hj => hc j (by omega)) hq.2.n.2.1 hq.2.n.2.2, rfl⟩)
        · refine lv_aload_n hx hb dX5_undo_29 rfl (lv_at hl 1 rfl) ?_
          refine va_get (D := D) (ci := 5) (v := .ref (b 1)) (C := RX5) (T := TX5) (N := 18) hx hb hts inwX5_undo_X5 hown hK hP 0 rfl rfl 0 (by decide) fl7 (fun _ h9 => h9) rfl dX5_undo_30 ?_
          refine lv_iload_n hx hb dX5_undo_33 rfl (lv_at hl 0 rfl) ?_
          refine lv_aload_n hx hb dX5_undo_34 rfl (lv_at hl 1 rfl) ?_
          refine va_get (D := D) (ci := 5) (v := .ref (b 4)) (C := RX5) (T := TX5) (N := 18) hx hb hts inwX5_undo_X5 hown hK hP 0 rfl rfl 3 (by decide) fl19 (fun _ h9 => h9) rfl dX5_undo_35 ?_
          refine lv_sipush (v := nI 217) hx hb dX5_undo_38 (by decide) ?_
          refine lv_aload_n hx hb dX5_undo_41 rfl (lv_at hl 1 rfl) ?_
          refine va_get (D := D) (ci := 5) (v := .int (nI (hL - 1))) (C := RX5) (T := TX5) (N := 18) hx hb hts inwX5_undo_X5 hown hK hP 0 rfl rfl 4 (by decide) fl31 (fun _ h9 => h9) rfl dX5_undo_42 ?_
          refine lv_imul hx hb dX5_undo_45 ?_
          refine kb_top (nI (217 * (hL - 1))) (pk_mul 217 (hL - 1)) ?_
          refine lv_iload_n hx hb dX5_undo_46 rfl (lv_at hl 0 rfl) ?_
          refine lv_iadd hx hb dX5_undo_47 ?_
          refine kb_top (nI (217 * (hL - 1) + i)) (nI_add (217 * (hL - 1)) i) ?_
          refine kb_iald hx hb hK hP 2 0 rfl rfl (by decide) (by omega) dX5_undo_48 ?_
          refine kb_iast hx hb hK hP hD hS 1 0 rfl rfl (by decide) (by omega) dX5_undo_49 (fun H locs hP hD hS => ?_)
          have hP : va_P D vwCl [((b 0), .inr (5, [.ref (b 1), .ref (b 2), .ref (b 3), .ref (b 4), .int (nI (hL - 1)), .ref (b 5), .int (iK), .ref (b 6), .ref (b 7), .int (nI tL), .int (nI sP), .int (nU), .int (iS), .int (sN), .int (sR), .int (lE), .int (fI), .int (sC)])), ((b 1), .inl (cI, 217, .inl (upd vc i (hs (217 * (hL - 1) + i))))), ((b 4), .inl (cI, 868, .inl hs))] H := hP
          have hD : va_D A [((b 0), .inr (5, [.ref (b 1), .ref (b 2), .ref (b 3), .ref (b 4), .int (nI (hL - 1)), .ref (b 5), .int (iK), .ref (b 6), .ref (b 7), .int (nI tL), .int (nI sP), .int (nU), .int (iS), .int (sN), .int (sR), .int (lE), .int (fI), .int (sC)])), ((b 1), .inl (cI, 217, .inl (upd vc i (hs (217 * (hL - 1) + i))))), ((b 4), .inl (cI, 868, .inl hs))] := hD
          refine lv_iinc (v := nI (i + 1)) (lv' := [(1, .int (nI (i + 1))), (0, .ref (b 0))]) hx hb dX5_undo_50 hl (k := 0) rfl (kb_inc1 i) (by decide) rfl (fun ls hl => ?_)
          refine lv_goto (tgt := 22) hx hb dX5_undo_53 (by decide) ?_
          exact ih_22 (i + 1) (upd vc i (hs (217 * (hL - 1) + i))) (by omega) (cpy (v := fun j => hs (217 * (hL - 1) + j)) hc) (by omega) _ _ hP hD hS _ (lv_sub hl [0, 1] rfl)
    exact L_22 ((217 - 0) + 1) 0 v (by omega) (fun j h => absurd h (Nat.not_lt_zero j)) (Nat.lt_succ_self _) _ _ hP hD hS _ (lv_sub hl [0, 1] rfl)
  · refine lv_bipush (v := (-5)) hx hb dX5_undo_7 (by decide) ?_
    exact kb_iret (D := D) hQ hx hb hr hlocks hK hP hD hS dX5_undo_9 (v, hL) rfl (Nat.le_refl _) (Nat.le_refl _) (show (-5) = (if hL = 0 then -5 else nI (hL - 1)) ∧ rV v (if hL = 0 then g else h (hL - 1)) ∧ hL = hL - 1 from ⟨(if_pos c4).symm, by rw [if_pos c4]; exact hv, by omega⟩)
abbrev rmX5_restore : Room := { frames := 1, cells := 0, slots := 0, locals := 22 }
theorem hdX5_restore : yX5_restore.cls = RX5 ∧ yX5_restore.cls ≠ "java/lang/invoke/MethodHandle" ∧ yX5_restore.cls ≠ "java/lang/invoke/VarHandle" ∧ (parseMethodDescriptor yX5_restore.desc).map (fun d => d.parameters.length) = some 0 := by decide +kernel
theorem inwX5_restore_X5 : ∀ w ∈ wsX50, w ∈ wsX5_restore := fun w h => List.mem_cons_of_mem _ (List.mem_append_right _ h)
set_option maxHeartbeats 4000000 in
set_option maxRecDepth 100000 in
theorem c_X5_restore (l : Launch) (D : va_G) (cI : ClassId) (b : Nat → Nat) (hL : Nat) (iK : Int32) (tL : Nat) (sP : Nat) (nU : Int32) (iS : Int32) (sN : Int32) (sR : Int32) (lE : Int32) (fI : Int32) (sC : Int32) (v : Nat → Int32) (g : Sg) (hv : rV v g) (ho : Ok g) (kv : Nat → Int32) (hs : Nat → Int32) (sn : Nat → Int32) (kp : Bool) (gs : Sg) (hik : iK = kb_b kp) (hsn : kp = true → rV sn gs) (hos : Ok gs) (h : Nat → Sg) (hm : mH hs hL h) : kb_I (S := (Nat → Int32) × (Nat → Int32) × (Nat → Int32) × Nat) D [(cI, .int)] l yX5_restore wsX5_restore rmX5_restore [.ref (b 0)] [((b 0), .inr (5, [.ref (b 1), .ref (b 2), .ref (b 3), .ref (b 4), .int (nI hL), .ref (b 5), .int (iK), .ref (b 6), .ref (b 7), .int (nI tL), .int (nI sP), .int (nU), .int (iS), .int (sN), .int (sR), .int (lE), .int (fI), .int (sC)])), ((b 1), .inl (cI, 217, .inl v)), ((b 2), .inl (cI, 217, .inl kv)), ((b 4), .inl (cI, 868, .inl hs)), ((b 5), .inl (cI, 217, .inl sn))] (fun (r : Int32) (u : (Nat → Int32) × (Nat → Int32) × (Nat → Int32) × Nat) => r = rsA kp gs ∧ mQ (rsA kp gs) gs g h hL u.1 u.2.2.1 u.2.2.2) (fun (u : (Nat → Int32) × (Nat → Int32) × (Nat → Int32) × Nat) => [((b 0), .inr (5, [.ref (b 1), .ref (b 2), .ref (b 3), .ref (b 4), .int (nI u.2.2.2), .ref (b 5), .int (iK), .ref (b 6), .ref (b 7), .int (nI tL), .int (nI sP), .int (nU), .int (iS), .int (sN), .int (sR), .int (lE), .int (fI), .int (sC)])), ((b 1), .inl (cI, 217, .inl u.1)), ((b 2), .inl (cI, 217, .inl u.2.1)), ((b 4), .inl (cI, 868, .inl u.2.2.1)), ((b 5), .inl (cI, 217, .inl sn))]) 0 0 := by
  refine kb_I_of (cc := cX5_restore) (maxL := 2) (ret := (some .int)) (by decide) rfl (Nat.le_of_ble_eq_true rfl) ?_
  intro p e s mm args below meth c A hx hb hml hr hts hown hlocks hnm hA hN hK hP hD hS ls hl Q hQ
  have hl : lv_has ls 2 [(0, .ref (b 0))] := hl
  have hP : va_P D vwCl [((b 0), .inr (5, [.ref (b 1), .ref (b 2), .ref (b 3), .ref (b 4), .int (nI hL), .ref (b 5), .int (iK), .ref (b 6), .ref (b 7), .int (nI tL), .int (nI sP), .int (nU), .int (iS), .int (sN), .int (sR), .int (lE), .int (fI), .int (sC)])), ((b 1), .inl (cI, 217, .inl v)), ((b 2), .inl (cI, 217, .inl kv)), ((b 4), .inl (cI, 868, .inl hs)), ((b 5), .inl (cI, 217, .inl sn))] s.heap := hP
  have hD : va_D A [((b 0), .inr (5, [.ref (b 1), .ref (b 2), .ref (b 3), .ref (b 4), .int (nI hL), .ref (b 5), .int (iK), .ref (b 6), .ref (b 7), .int (nI tL), .int (nI sP), .int (nU), .int (iS), .int (sN), .int (sR), .int (lE), .int (fI), .int (sC)])), ((b 1), .inl (cI, 217, .inl v)), ((b 2), .inl (cI, 217, .inl kv)), ((b 4), .inl (cI, 868, .inl hs)), ((b 5), .inl (cI, 217, .inl sn))] := hD
  have fl192 := hts (.fieldLink RX5 192 "KingsBanquetModel" "isKept" "I") (by decide +kernel)
  have fl7 := hts (.fieldLink RX5 7 "KingsBanquetModel" "all" "[I") (by decide +kernel)
  have fl22 := hts (.fieldLink RX5 22 "KingsBanquetModel" "snapshot" "[I") (by decide +kernel)
  have hn := ho.n
  have hsn12 := hos.n
  refine lv_aload_n hx hb dX5_restore_0 rfl (lv_at hl 0 rfl) ?_
  refine va_get (D := D) (ci := 5) (v := .int (iK)) (C := RX5) (T := TX5) (N := 18) hx hb hts inwX5_restore_X5 hown hK hP 0 rfl rfl 6 (by decide) fl192 (fun _ h9 => h9) rfl dX5_restore_1 ?_
  refine lv_if_ne (tgt := 10) hx hb dX5_restore_4 (by decide) (fun c4 => ?_) (fun c4 => ?_)
  · refine lv_aload_n hx hb dX5_restore_10 rfl (lv_at hl 0 rfl) ?_
    refine kb_vV (As := []) (rest := []) hx hb hml hts hown hN hK hP hD hS hA (c_X5_keeps l D cI b hL iK tL sP nU iS sN sR lE fI sC v kv) gX5_restore_X5_keeps rfl ⟨rfl, rfl⟩ hdX5_keeps ⟨Nat.le_of_ble_eq_true rfl, Nat.le_of_ble_eq_true rfl⟩ [0, 1, 2] [0] rfl rfl rfl (ci := 5) rfl rfl rfl (fun _ => rfl) rfl rfl hl.1 (Nat.le_of_ble_eq_true rfl) dX5_restore_11 ⟨Nat.zero_le _, Nat.zero_le _⟩ (fun u H locs hw_11 hP hD hS => ?_)
    obtain ⟨vo_11, rfl⟩ : ∃ z, z = u := ⟨_, rfl⟩
    have hw_11 : ∀ j, j < 217 → vo_11 j = v j := hw_11
    have hP : va_P D vwCl [((b 0), .inr (5, [.ref (b 1), .ref (b 2), .ref (b 3), .ref (b 4), .int (nI hL), .ref (b 5), .int (iK), .ref (b 6), .ref (b 7), .int (nI tL), .int (nI sP), .int (nU), .int (iS), .int (sN), .int (sR), .int (lE), .int (fI), .int (sC)])), ((b 1), .inl (cI, 217, .inl v)), ((b 2), .inl (cI, 217, .inl vo_11)), ((b 4), .inl (cI, 868, .inl hs)), ((b 5), .inl (cI, 217, .inl sn))] H := hP
    have hD : va_D A [((b 0), .inr (5, [.ref (b 1), .ref (b 2), .ref (b 3), .ref (b 4), .int (nI hL), .ref (b 5), .int (iK), .ref (b 6), .ref (b 7), .int (nI tL), .int (nI sP), .int (nU), .int (iS), .int (sN), .int (sR), .int (lE), .int (fI), .int (sC)])), ((b 1), .inl (cI, 217, .inl v)), ((b 2), .inl (cI, 217, .inl vo_11)), ((b 4), .inl (cI, 868, .inl hs)), ((b 5), .inl (cI, 217, .inl sn))] := hD
    refine lv_iconst (v := nI 0) hx hb dX5_restore_14 (by decide) ?_
    refine lv_istore_n (lv' := [(1, .int (nI 0)), (0, .ref (b 0))]) hx hb dX5_restore_15 rfl hl (by decide) rfl (fun ls hl => ?_)
    have L_16 : ∀ (z : Nat) (i : Nat) (vc : Nat → Int32), (i ≤ 217) → (∀ j, j < i → vc j = sn j) → (217 - i) < z → ∀ (H : Heap) (locs : List Loc), va_P D vwCl [((b 0), .inr (5, [.ref (b 1), .ref (b 2), .ref (b 3), .ref (b 4), .int (nI hL), .ref (b 5), .int (iK), .ref (b 6), .ref (b 7), .int (nI tL), .int (nI sP), .int (nU), .int (iS), .int (sN), .int (sR), .int (lE), .int (fI), .int (sC)])), ((b 1), .inl (cI, 217, .inl vc)), ((b 2), .inl (cI, 217, .inl vo_11)), ((b 4), .inl (cI, 868, .inl hs)), ((b 5), .inl (cI, 217, .inl sn))] H → va_D A [((b 0), .inr (5, [.ref (b 1), .ref (b 2), .ref (b 3), .ref (b 4), .int (nI hL), .ref (b 5), .int (iK), .ref (b 6), .ref (b 7), .int (nI tL), .int (nI sP), .int (nU), .int (iS), .int (sN), .int (sR), .int (lE), .int (fI), .int (sC)])), ((b 1), .inl (cI, 217, .inl vc)), ((b 2), .inl (cI, 217, .inl vo_11)), ((b 4), .inl (cI, 868, .inl hs)), ((b 5), .inl (cI, 217, .inl sn))] → va_S A s.heap H locs → ∀ ls : Array Slot, lv_has ls 2 [(1, .int (nI i)), (0, .ref (b 0))] → W p l e rmX5_restore s mm args below meth c H locs 0 0 Q (F0 mm 16 ls []) := by
      intro z
      induction z with
      | zero =>
        intro i vc _ _ hz
        exact absurd hz (Nat.not_lt_zero _)
      | succ z ih_16 =>
        intro i vc hi hc hz H locs hP hD hS ls hl
        refine lv_iload_n hx hb dX5_restore_16 rfl (lv_at hl 0 rfl) ?_
        refine lv_sipush (v := nI 217) hx hb dX5_restore_17 (by decide) ?_
        refine kb_icmp_ge (tgt := 41) hx hb dX5_restore_20 (by decide) (by omega) (by omega) (fun c20 => ?_) (fun c20 => ?_)
        · have hgv : rV vc gs := (hsn (ik_1 hik c4)).of (fun j hj => hc j (by omega)) hsn12.2.1 hsn12.2.2
          refine lv_aload_n hx hb dX5_restore_41 rfl (lv_at hl 1 rfl) ?_
          refine lv_aload_n hx hb dX5_restore_42 rfl (lv_at hl 1 rfl) ?_
          refine va_get (D := D) (ci := 5) (v := .ref (b 1)) (C := RX5) (T := TX5) (N := 18) hx hb hts inwX5_restore_X5 hown hK hP 0 rfl rfl 0 (by decide) fl7 (fun _ h9 => h9) rfl dX5_restore_43 ?_
          refine lv_bipush (v := nI 11) hx hb dX5_restore_46 (by decide) ?_
          refine kb_iald hx hb hK hP 1 0 rfl rfl (by decide) (by omega) dX5_restore_48 ?_
          refine kb_top (nI (nT gs)) hgv.t ?_
          refine kb_vI (As := [.int (nI (nT gs))]) (rest := []) hx hb hml hts hown hN hK hP hD hS hA (c_X5_ends l D cI b hL iK tL sP nU iS sN sR lE fI sC vc vo_11 hs gs g hgv (hv.of (fun j hj => hw_11 j hj) hn.2.1 hn.2.2) ho h hm (nI (nT gs))) gX5_restore_X5_ends rfl ⟨rfl, rfl⟩ hdX5_ends ⟨Nat.le_of_ble_eq_true rfl, Nat.le_of_ble_eq_true rfl⟩ [0, 1, 2, 3] [0] rfl rfl rfl (ci := 5) rfl rfl rfl (fun _ => rfl) rfl rfl hl.1 (Nat.le_of_ble_eq_true rfl) dX5_restore_49 ⟨Nat.zero_le _, Nat.zero_le _⟩ (fun r_49 u H locs hw_49 hP hD hS => ?_)
          obtain ⟨vo_49, hso_49, hno_49⟩ := u
          have hw_49 : r_49 = (nI (nT gs)) ∧ mQ (nI (nT gs)) gs g h hL vo_49 hso_49 hno_49 := hw_49
          have hP : va_P D vwCl [((b 0), .inr (5, [.ref (b 1), .ref (b 2), .ref (b 3), .ref (b 4), .int (nI hno_49), .ref (b 5), .int (iK), .ref (b 6), .ref (b 7), .int (nI tL), .int (nI sP), .int (nU), .int (iS), .int (sN), .int (sR), .int (lE), .int (fI), .int (sC)])), ((b 1), .inl (cI, 217, .inl vo_49)), ((b 2), .inl (cI, 217, .inl vo_11)), ((b 4), .inl (cI, 868, .inl hso_49)), ((b 5), .inl (cI, 217, .inl sn))] H := hP
          have hD : va_D A [((b 0), .inr (5, [.ref (b 1), .ref (b 2), .ref (b 3), .ref (b 4), .int (nI hno_49), .ref (b 5), .int (iK), .ref (b 6), .ref (b 7), .int (nI tL), .int (nI sP), .int (nU), .int (iS), .int (sN), .int (sR), .int (lE), .int (fI), .int (sC)])), ((b 1), .inl (cI, 217, .inl vo_49)), ((b 2), .inl (cI, 217, .inl vo_11)), ((b 4), .inl (cI, 868, .inl hso_49)), ((b 5), .inl (cI, 217, .inl sn))] := hD
          exact kb_iret (D := D) hQ hx hb hr hlocks hK hP hD hS dX5_restore_52 (vo_49, vo_11, hso_49, hno_49) rfl (Nat.le_refl _) (Nat.le_refl _) (show r_49 = rsA kp gs ∧ mQ (rsA kp gs) gs g h hL vo_49 hso_49 hno_49 from (by rw [rsA_1 (ik_1 hik c4)]; exact hw_49))
        · refine lv_aload_n hx hb dX5_restore_23 rfl (lv_at hl 1 rfl) ?_
          refine va_get (D := D) (ci := 5) (v := .ref (b 1)) (C := RX5) (T := TX5) (N := 18) hx hb hts inwX5_restore_X5 hown hK hP 0 rfl rfl 0 (by decide) fl7 (fun _ h9 => h9) rfl dX5_restore_24 ?_
          refine lv_iload_n hx hb dX5_restore_27 rfl (lv_at hl 0 rfl) ?_
          refine lv_aload_n hx hb dX5_restore_28 rfl (lv_at hl 1 rfl) ?_
          refine va_get (D := D) (ci := 5) (v := .ref (b 5)) (C := RX5) (T := TX5) (N := 18) hx hb hts inwX5_restore_X5 hown hK hP 0 rfl rfl 5 (by decide) fl22 (fun _ h9 => h9) rfl dX5_restore_29 ?_
          refine lv_iload_n hx hb dX5_restore_32 rfl (lv_at hl 0 rfl) ?_
          refine kb_iald hx hb hK hP 4 0 rfl rfl (by decide) (by omega) dX5_restore_33 ?_
          refine kb_iast hx hb hK hP hD hS 1 0 rfl rfl (by decide) (by omega) dX5_restore_34 (fun H locs hP hD hS => ?_)
          have hP : va_P D vwCl [((b 0), .inr (5, [.ref (b 1), .ref (b 2), .ref (b 3), .ref (b 4), .int (nI hL), .ref (b 5), .int (iK), .ref (b 6), .ref (b 7), .int (nI tL), .int (nI sP), .int (nU), .int (iS), .int (sN), .int (sR), .int (lE), .int (fI), .int (sC)])), ((b 1), .inl (cI, 217, .inl (upd vc i (sn i)))), ((b 2), .inl (cI, 217, .inl vo_11)), ((b 4), .inl (cI, 868, .inl hs)), ((b 5), .inl (cI, 217, .inl sn))] H := hP
          have hD : va_D A [((b 0), .inr (5, [.ref (b 1), .ref (b 2), .ref (b 3), .ref (b 4), .int (nI hL), .ref (b 5), .int (iK), .ref (b 6), .ref (b 7), .int (nI tL), .int (nI sP), .int (nU), .int (iS), .int (sN), .int (sR), .int (lE), .int (fI), .int (sC)])), ((b 1), .inl (cI, 217, .inl (upd vc i (sn i)))), ((b 2), .inl (cI, 217, .inl vo_11)), ((b 4), .inl (cI, 868, .inl hs)), ((b 5), .inl (cI, 217, .inl sn))] := hD
          refine lv_iinc (v := nI (i + 1)) (lv' := [(1, .int (nI (i + 1))), (0, .ref (b 0))]) hx hb dX5_restore_35 hl (k := 0) rfl (kb_inc1 i) (by decide) rfl (fun ls hl => ?_)
          refine lv_goto (tgt := 16) hx hb dX5_restore_38 (by decide) ?_
          exact ih_16 (i + 1) (upd vc i (sn i)) (by omega) (cpy hc) (by omega) _ _ hP hD hS _ (lv_sub hl [0, 1] rfl)
    exact L_16 ((217 - 0) + 1) 0 v (by omega) (fun j h => absurd h (Nat.not_lt_zero j)) (Nat.lt_succ_self _) _ _ hP hD hS _ (lv_sub hl [0, 1] rfl)
  · refine lv_bipush (v := (-5)) hx hb dX5_restore_7 (by decide) ?_
    exact kb_iret (D := D) hQ hx hb hr hlocks hK hP hD hS dX5_restore_9 (v, kv, hs, hL) rfl (Nat.le_refl _) (Nat.le_refl _) (show (-5) = rsA kp gs ∧ mQ (rsA kp gs) gs g h hL v hs hL from (by rw [rsA_0 (ik_0 hik c4)]; exact ⟨rfl, mQ_n ng5 hv hm⟩))
abbrev rmX5_king : Room := { frames := 2, cells := 0, slots := 0, locals := 46 }
theorem hdX5_king : yX5_king.cls = RX5 ∧ yX5_king.cls ≠ "java/lang/invoke/MethodHandle" ∧ yX5_king.cls ≠ "java/lang/invoke/VarHandle" ∧ (parseMethodDescriptor yX5_king.desc).map (fun d => d.parameters.length) = some 2 := by decide +kernel
theorem inwX5_king_X5 : ∀ w ∈ wsX50, w ∈ wsX5_king := fun w h => List.mem_cons_of_mem _ (List.mem_append_right _ h)
set_option maxHeartbeats 4000000 in
set_option maxRecDepth 100000 in
theorem c_X5_king (l : Launch) (D : va_G) (cI : ClassId) (b : Nat → Nat) (hL : Nat) (iK : Int32) (tL : Nat) (sP : Nat) (nU : Int32) (iS : Int32) (sN : Int32) (sR : Int32) (lE : Int32) (fI : Int32) (sC : Int32) (v : Nat → Int32) (g : Sg) (hv : rV v g) (ho : Ok g) (x : Int32) (w : Int32) : kb_R D [(cI, .int)] l yX5_king wsX5_king rmX5_king [.ref (b 0), .int (x), .int (w)] [((b 0), .inr (5, [.ref (b 1), .ref (b 2), .ref (b 3), .ref (b 4), .int (nI hL), .ref (b 5), .int (iK), .ref (b 6), .ref (b 7), .int (nI tL), .int (nI sP), .int (nU), .int (iS), .int (sN), .int (sR), .int (lE), .int (fI), .int (sC)])), ((b 1), .inl (cI, 217, .inl v))] (kA g x w) := by
  refine kb_I_of (cc := cX5_king) (maxL := 3) (ret := (some .int)) (by decide) rfl (Nat.le_of_ble_eq_true rfl) ?_
  intro p e s mm args below meth c A hx hb hml hr hts hown hlocks hnm hA hN hK hP hD hS ls hl Q hQ
  have hl : lv_has ls 3 [(0, .ref (b 0)), (1, .int (x)), (2, .int (w))] := hl
  have hP : va_P D vwCl [((b 0), .inr (5, [.ref (b 1), .ref (b 2), .ref (b 3), .ref (b 4), .int (nI hL), .ref (b 5), .int (iK), .ref (b 6), .ref (b 7), .int (nI tL), .int (nI sP), .int (nU), .int (iS), .int (sN), .int (sR), .int (lE), .int (fI), .int (sC)])), ((b 1), .inl (cI, 217, .inl v))] s.heap := hP
  have hD : va_D A [((b 0), .inr (5, [.ref (b 1), .ref (b 2), .ref (b 3), .ref (b 4), .int (nI hL), .ref (b 5), .int (iK), .ref (b 6), .ref (b 7), .int (nI tL), .int (nI sP), .int (nU), .int (iS), .int (sN), .int (sR), .int (lE), .int (fI), .int (sC)])), ((b 1), .inl (cI, 217, .inl v))] := hD
  have hn := ho.n
  refine lv_aload_n hx hb dX5_king_0 rfl (lv_at hl 0 rfl) ?_
  refine lv_iload_n hx hb dX5_king_1 rfl (lv_at hl 1 rfl) ?_
  refine kb_vR (As := [.int (x)]) (rest := []) hx hb hml hts hown hN hK hP hD hS hA (c_X5_isKing l D cI b hL iK tL sP nU iS sN sR lE fI sC v (by first | assumption | omega) (by first | assumption | omega) (by first | assumption | omega) x) gX5_king_X5_isKing rfl ⟨rfl, rfl⟩ hdX5_isKing ⟨Nat.le_of_ble_eq_true rfl, Nat.le_of_ble_eq_true rfl⟩ [0, 1] [0] rfl rfl rfl (ci := 5) rfl rfl rfl rfl rfl hl.1 (Nat.le_of_ble_eq_true rfl) dX5_king_2 ⟨Nat.zero_le _, Nat.zero_le _⟩ (fun H locs hP hS => ?_)
  refine kb_bif_ne (tgt := 10) hx hb dX5_king_5 (by decide) (fun c5 => ?_) (fun c5 => ?_)
  · obtain ⟨k, hk, rfl⟩ := kIs_ex c5 (by omega)
    rcases kb_tab (n := 9) (by decide) w with hout | ⟨jw, hjw, rfl⟩
    · refine lv_iload_n hx hb dX5_king_10 rfl (lv_at hl 2 rfl) ?_
      refine lv_tableOut (tgt := 91) hx hb dX5_king_11 (by have := hout.2; omega) (by decide) ?_
      refine lv_bipush (v := (-2)) hx hb dX5_king_91 (by decide) ?_
      exact kb_iret (D := D) hQ hx hb hr hlocks hK hP hD hS dX5_king_93 () rfl (Nat.le_refl _) (Nat.le_refl _) (show (-2) = kA g (nI k) w from (kA_2 c5 hout.1).symm)
    · rcases (by omega : jw = 0 ∨ jw = 1 ∨ jw = 2 ∨ jw = 3 ∨ jw = 4 ∨ jw = 5 ∨ jw = 6 ∨ jw = 7 ∨ jw = 8) with rfl | rfl | rfl | rfl | rfl | rfl | rfl | rfl | rfl
      · refine lv_iload_n hx hb dX5_king_10 rfl (lv_at hl 2 rfl) ?_
        refine lv_tableIn (off := 49) (tgt := 60) hx hb dX5_king_11 (by decide) (by decide) (by decide) (by decide) ?_
        refine lv_aload_n hx hb dX5_king_60 rfl (lv_at hl 0 rfl) ?_
        refine lv_iload_n hx hb dX5_king_61 rfl (lv_at hl 1 rfl) ?_
        refine lv_iload_n hx hb dX5_king_62 rfl (lv_at hl 2 rfl) ?_
        refine kb_vR (As := [.int (nI k), .int (nI 0)]) (rest := []) hx hb hml hts hown hN hK hP hD hS hA (c_X5_get l D cI b hL iK tL sP nU iS sN sR lE fI sC v k 0 (by omega) (by decide)) gX5_king_X5_get rfl ⟨rfl, rfl⟩ hdX5_get ⟨Nat.le_of_ble_eq_true rfl, Nat.le_of_ble_eq_true rfl⟩ [0, 1] [0] rfl rfl rfl (ci := 5) rfl rfl rfl rfl rfl hl.1 (Nat.le_of_ble_eq_true rfl) dX5_king_63 ⟨Nat.zero_le _, Nat.zero_le _⟩ (fun H locs hP hS => ?_)
        exact kb_iret (D := D) hQ hx hb hr hlocks hK hP hD hS dX5_king_66 () rfl (Nat.le_refl _) (Nat.le_refl _) (show v (49 + 7 * k + 0) = kA g (nI k) (nI 0) from ((hv.f (k := k) (by omega)).1.trans (kA_3 (w := 0) c5 (by omega) (by decide)).symm))
      · refine lv_iload_n hx hb dX5_king_10 rfl (lv_at hl 2 rfl) ?_
        refine lv_tableIn (off := 49) (tgt := 60) hx hb dX5_king_11 (by decide) (by decide) (by decide) (by decide) ?_
        refine lv_aload_n hx hb dX5_king_60 rfl (lv_at hl 0 rfl) ?_
        refine lv_iload_n hx hb dX5_king_61 rfl (lv_at hl 1 rfl) ?_
        refine lv_iload_n hx hb dX5_king_62 rfl (lv_at hl 2 rfl) ?_
        refine kb_vR (As := [.int (nI k), .int (nI 1)]) (rest := []) hx hb hml hts hown hN hK hP hD hS hA (c_X5_get l D cI b hL iK tL sP nU iS sN sR lE fI sC v k 1 (by omega) (by decide)) gX5_king_X5_get rfl ⟨rfl, rfl⟩ hdX5_get ⟨Nat.le_of_ble_eq_true rfl, Nat.le_of_ble_eq_true rfl⟩ [0, 1] [0] rfl rfl rfl (ci := 5) rfl rfl rfl rfl rfl hl.1 (Nat.le_of_ble_eq_true rfl) dX5_king_63 ⟨Nat.zero_le _, Nat.zero_le _⟩ (fun H locs hP hS => ?_)
        exact kb_iret (D := D) hQ hx hb hr hlocks hK hP hD hS dX5_king_66 () rfl (Nat.le_refl _) (Nat.le_refl _) (show v (49 + 7 * k + 1) = kA g (nI k) (nI 1) from ((hv.f (k := k) (by omega)).2.1.trans (kA_3 (w := 1) c5 (by omega) (by decide)).symm))
      · refine lv_iload_n hx hb dX5_king_10 rfl (lv_at hl 2 rfl) ?_
        refine lv_tableIn (off := 49) (tgt := 60) hx hb dX5_king_11 (by decide) (by decide) (by decide) (by decide) ?_
        refine lv_aload_n hx hb dX5_king_60 rfl (lv_at hl 0 rfl) ?_
        refine lv_iload_n hx hb dX5_king_61 rfl (lv_at hl 1 rfl) ?_
        refine lv_iload_n hx hb dX5_king_62 rfl (lv_at hl 2 rfl) ?_
        refine kb_vR (As := [.int (nI k), .int (nI 2)]) (rest := []) hx hb hml hts hown hN hK hP hD hS hA (c_X5_get l D cI b hL iK tL sP nU iS sN sR lE fI sC v k 2 (by omega) (by decide)) gX5_king_X5_get rfl ⟨rfl, rfl⟩ hdX5_get ⟨Nat.le_of_ble_eq_true rfl, Nat.le_of_ble_eq_true rfl⟩ [0, 1] [0] rfl rfl rfl (ci := 5) rfl rfl rfl rfl rfl hl.1 (Nat.le_of_ble_eq_true rfl) dX5_king_63 ⟨Nat.zero_le _, Nat.zero_le _⟩ (fun H locs hP hS => ?_)
        exact kb_iret (D := D) hQ hx hb hr hlocks hK hP hD hS dX5_king_66 () rfl (Nat.le_refl _) (Nat.le_refl _) (show v (49 + 7 * k + 2) = kA g (nI k) (nI 2) from ((hv.f (k := k) (by omega)).2.2.1.trans (kA_3 (w := 2) c5 (by omega) (by decide)).symm))
      · refine lv_iload_n hx hb dX5_king_10 rfl (lv_at hl 2 rfl) ?_
        refine lv_tableIn (off := 49) (tgt := 60) hx hb dX5_king_11 (by decide) (by decide) (by decide) (by decide) ?_
        refine lv_aload_n hx hb dX5_king_60 rfl (lv_at hl 0 rfl) ?_
        refine lv_iload_n hx hb dX5_king_61 rfl (lv_at hl 1 rfl) ?_
        refine lv_iload_n hx hb dX5_king_62 rfl (lv_at hl 2 rfl) ?_
        refine kb_vR (As := [.int (nI k), .int (nI 3)]) (rest := []) hx hb hml hts hown hN hK hP hD hS hA (c_X5_get l D cI b hL iK tL sP nU iS sN sR lE fI sC v k 3 (by omega) (by decide)) gX5_king_X5_get rfl ⟨rfl, rfl⟩ hdX5_get ⟨Nat.le_of_ble_eq_true rfl, Nat.le_of_ble_eq_true rfl⟩ [0, 1] [0] rfl rfl rfl (ci := 5) rfl rfl rfl rfl rfl hl.1 (Nat.le_of_ble_eq_true rfl) dX5_king_63 ⟨Nat.zero_le _, Nat.zero_le _⟩ (fun H locs hP hS => ?_)
        exact kb_iret (D := D) hQ hx hb hr hlocks hK hP hD hS dX5_king_66 () rfl (Nat.le_refl _) (Nat.le_refl _) (show v (49 + 7 * k + 3) = kA g (nI k) (nI 3) from ((hv.f (k := k) (by omega)).2.2.2.1.trans (kA_3 (w := 3) c5 (by omega) (by decide)).symm))
      · refine lv_iload_n hx hb dX5_king_10 rfl (lv_at hl 2 rfl) ?_
        refine lv_tableIn (off := 56) (tgt := 67) hx hb dX5_king_11 (by decide) (by decide) (by decide) (by decide) ?_
        refine lv_aload_n hx hb dX5_king_67 rfl (lv_at hl 0 rfl) ?_
        refine lv_iload_n hx hb dX5_king_68 rfl (lv_at hl 1 rfl) ?_
        refine kb_vR (As := [.int (nI k)]) (rest := []) hx hb hml hts hown hN hK hP hD hS hA (c_X5_seatOf l D cI b hL iK tL sP nU iS sN sR lE fI sC v g hv ho k (by omega)) gX5_king_X5_seatOf rfl ⟨rfl, rfl⟩ hdX5_seatOf ⟨Nat.le_of_ble_eq_true rfl, Nat.le_of_ble_eq_true rfl⟩ [0, 1] [0] rfl rfl rfl (ci := 5) rfl rfl rfl rfl rfl hl.1 (Nat.le_of_ble_eq_true rfl) dX5_king_69 ⟨Nat.zero_le _, Nat.zero_le _⟩ (fun H locs hP hS => ?_)
        exact kb_iret (D := D) hQ hx hb hr hlocks hK hP hD hS dX5_king_72 () rfl (Nat.le_refl _) (Nat.le_refl _) (show oI (decide (plT g k < nT g)) (plT g k) = kA g (nI k) (nI 4) from (kA_3 (w := 4) c5 (by omega) (by decide)).symm)
      · refine lv_iload_n hx hb dX5_king_10 rfl (lv_at hl 2 rfl) ?_
        refine lv_tableIn (off := 62) (tgt := 73) hx hb dX5_king_11 (by decide) (by decide) (by decide) (by decide) ?_
        refine lv_aload_n hx hb dX5_king_73 rfl (lv_at hl 0 rfl) ?_
        refine lv_iload_n hx hb dX5_king_74 rfl (lv_at hl 1 rfl) ?_
        refine kb_vR (As := [.int (nI k)]) (rest := []) hx hb hml hts hown hN hK hP hD hS hA (c_X5_waitOf l D cI b hL iK tL sP nU iS sN sR lE fI sC v g hv ho k (by omega)) gX5_king_X5_waitOf rfl ⟨rfl, rfl⟩ hdX5_waitOf ⟨Nat.le_of_ble_eq_true rfl, Nat.le_of_ble_eq_true rfl⟩ [0, 1] [0] rfl rfl rfl (ci := 5) rfl rfl rfl rfl rfl hl.1 (Nat.le_of_ble_eq_true rfl) dX5_king_75 ⟨Nat.zero_le _, Nat.zero_le _⟩ (fun H locs hP hS => ?_)
        exact kb_iret (D := D) hQ hx hb hr hlocks hK hP hD hS dX5_king_78 () rfl (Nat.le_refl _) (Nat.le_refl _) (show oI (decide (plW g k < nW g)) (plW g k) = kA g (nI k) (nI 5) from (kA_3 (w := 5) c5 (by omega) (by decide)).symm)
      · refine lv_iload_n hx hb dX5_king_10 rfl (lv_at hl 2 rfl) ?_
        refine lv_tableIn (off := 68) (tgt := 79) hx hb dX5_king_11 (by decide) (by decide) (by decide) (by decide) ?_
        refine lv_aload_n hx hb dX5_king_79 rfl (lv_at hl 0 rfl) ?_
        refine lv_iload_n hx hb dX5_king_80 rfl (lv_at hl 1 rfl) ?_
        refine lv_iconst (v := nI 4) hx hb dX5_king_81 (by decide) ?_
        refine lv_iload_n hx hb dX5_king_82 rfl (lv_at hl 2 rfl) ?_
        refine lv_iadd hx hb dX5_king_83 ?_
        refine kb_top (nI 10) (nI_add 4 6) ?_
        refine lv_bipush (v := nI 6) hx hb dX5_king_84 (by decide) ?_
        refine lv_isub hx hb dX5_king_86 ?_
        refine kb_top (nI 4) (pk_sub (by omega)) ?_
        refine kb_vR (As := [.int (nI k), .int (nI 4)]) (rest := []) hx hb hml hts hown hN hK hP hD hS hA (c_X5_get l D cI b hL iK tL sP nU iS sN sR lE fI sC v k 4 (by omega) (by decide)) gX5_king_X5_get rfl ⟨rfl, rfl⟩ hdX5_get ⟨Nat.le_of_ble_eq_true rfl, Nat.le_of_ble_eq_true rfl⟩ [0, 1] [0] rfl rfl rfl (ci := 5) rfl rfl rfl rfl rfl hl.1 (Nat.le_of_ble_eq_true rfl) dX5_king_87 ⟨Nat.zero_le _, Nat.zero_le _⟩ (fun H locs hP hS => ?_)
        exact kb_iret (D := D) hQ hx hb hr hlocks hK hP hD hS dX5_king_90 () rfl (Nat.le_refl _) (Nat.le_refl _) (show v (49 + 7 * k + 4) = kA g (nI k) (nI 6) from ((hv.f (k := k) (by omega)).2.2.2.2.1.trans (kA_3 (w := 6) c5 (by omega) (by decide)).symm))
      · refine lv_iload_n hx hb dX5_king_10 rfl (lv_at hl 2 rfl) ?_
        refine lv_tableIn (off := 68) (tgt := 79) hx hb dX5_king_11 (by decide) (by decide) (by decide) (by decide) ?_
        refine lv_aload_n hx hb dX5_king_79 rfl (lv_at hl 0 rfl) ?_
        refine lv_iload_n hx hb dX5_king_80 rfl (lv_at hl 1 rfl) ?_
        refine lv_iconst (v := nI 4) hx hb dX5_king_81 (by decide) ?_
        refine lv_iload_n hx hb dX5_king_82 rfl (lv_at hl 2 rfl) ?_
        refine lv_iadd hx hb dX5_king_83 ?_
        refine kb_top (nI 11) (nI_add 4 7) ?_
        refine lv_bipush (v := nI 6) hx hb dX5_king_84 (by decide) ?_
        refine lv_isub hx hb dX5_king_86 ?_
        refine kb_top (nI 5) (pk_sub (by omega)) ?_
        refine kb_vR (As := [.int (nI k), .int (nI 5)]) (rest := []) hx hb hml hts hown hN hK hP hD hS hA (c_X5_get l D cI b hL iK tL sP nU iS sN sR lE fI sC v k 5 (by omega) (by decide)) gX5_king_X5_get rfl ⟨rfl, rfl⟩ hdX5_get ⟨Nat.le_of_ble_eq_true rfl, Nat.le_of_ble_eq_true rfl⟩ [0, 1] [0] rfl rfl rfl (ci := 5) rfl rfl rfl rfl rfl hl.1 (Nat.le_of_ble_eq_true rfl) dX5_king_87 ⟨Nat.zero_le _, Nat.zero_le _⟩ (fun H locs hP hS => ?_)
        exact kb_iret (D := D) hQ hx hb hr hlocks hK hP hD hS dX5_king_90 () rfl (Nat.le_refl _) (Nat.le_refl _) (show v (49 + 7 * k + 5) = kA g (nI k) (nI 7) from ((hv.f (k := k) (by omega)).2.2.2.2.2.1.trans (kA_3 (w := 7) c5 (by omega) (by decide)).symm))
      · refine lv_iload_n hx hb dX5_king_10 rfl (lv_at hl 2 rfl) ?_
        refine lv_tableIn (off := 68) (tgt := 79) hx hb dX5_king_11 (by decide) (by decide) (by decide) (by decide) ?_
        refine lv_aload_n hx hb dX5_king_79 rfl (lv_at hl 0 rfl) ?_
        refine lv_iload_n hx hb dX5_king_80 rfl (lv_at hl 1 rfl) ?_
        refine lv_iconst (v := nI 4) hx hb dX5_king_81 (by decide) ?_
        refine lv_iload_n hx hb dX5_king_82 rfl (lv_at hl 2 rfl) ?_
        refine lv_iadd hx hb dX5_king_83 ?_
        refine kb_top (nI 12) (nI_add 4 8) ?_
        refine lv_bipush (v := nI 6) hx hb dX5_king_84 (by decide) ?_
        refine lv_isub hx hb dX5_king_86 ?_
        refine kb_top (nI 6) (pk_sub (by omega)) ?_
        refine kb_vR (As := [.int (nI k), .int (nI 6)]) (rest := []) hx hb hml hts hown hN hK hP hD hS hA (c_X5_get l D cI b hL iK tL sP nU iS sN sR lE fI sC v k 6 (by omega) (by decide)) gX5_king_X5_get rfl ⟨rfl, rfl⟩ hdX5_get ⟨Nat.le_of_ble_eq_true rfl, Nat.le_of_ble_eq_true rfl⟩ [0, 1] [0] rfl rfl rfl (ci := 5) rfl rfl rfl rfl rfl hl.1 (Nat.le_of_ble_eq_true rfl) dX5_king_87 ⟨Nat.zero_le _, Nat.zero_le _⟩ (fun H locs hP hS => ?_)
        exact kb_iret (D := D) hQ hx hb hr hlocks hK hP hD hS dX5_king_90 () rfl (Nat.le_refl _) (Nat.le_refl _) (show v (49 + 7 * k + 6) = kA g (nI k) (nI 8) from ((hv.f (k := k) (by omega)).2.2.2.2.2.2.trans (kA_3 (w := 8) c5 (by omega) (by decide)).symm))
  · refine lv_iconst (v := (-1)) hx hb dX5_king_8 (by decide) ?_
    exact kb_iret (D := D) hQ hx hb hr hlocks hK hP hD hS dX5_king_9 () rfl (Nat.le_refl _) (Nat.le_refl _) (show (-1) = kA g x w from (kA_1 c5).symm)
abbrev rmX5_reason : Room := { frames := 2, cells := 0, slots := 0, locals := 46 }
theorem hdX5_reason : yX5_reason.cls = RX5 ∧ yX5_reason.cls ≠ "java/lang/invoke/MethodHandle" ∧ yX5_reason.cls ≠ "java/lang/invoke/VarHandle" ∧ (parseMethodDescriptor yX5_reason.desc).map (fun d => d.parameters.length) = some 2 := by decide +kernel
theorem inwX5_reason_X5 : ∀ w ∈ wsX50, w ∈ wsX5_reason := fun w h => List.mem_cons_of_mem _ (List.mem_append_right _ h)
set_option maxHeartbeats 4000000 in
set_option maxRecDepth 100000 in
theorem c_X5_reason (l : Launch) (D : va_G) (cI : ClassId) (b : Nat → Nat) (hL : Nat) (iK : Int32) (tL : Nat) (sP : Nat) (nU : Int32) (iS : Int32) (sN : Int32) (sR : Int32) (lE : Int32) (fI : Int32) (sC : Int32) (v : Nat → Int32) (g : Sg) (hv : rV v g) (ho : Ok g) (x : Int32) (y : Int32) : kb_R D [(cI, .int)] l yX5_reason wsX5_reason rmX5_reason [.ref (b 0), .int (x), .int (y)] [((b 0), .inr (5, [.ref (b 1), .ref (b 2), .ref (b 3), .ref (b 4), .int (nI hL), .ref (b 5), .int (iK), .ref (b 6), .ref (b 7), .int (nI tL), .int (nI sP), .int (nU), .int (iS), .int (sN), .int (sR), .int (lE), .int (fI), .int (sC)])), ((b 1), .inl (cI, 217, .inl v))] (reA g x y) := by
  refine kb_I_of (cc := cX5_reason) (maxL := 5) (ret := (some .int)) (by decide) rfl (Nat.le_of_ble_eq_true rfl) ?_
  intro p e s mm args below meth c A hx hb hml hr hts hown hlocks hnm hA hN hK hP hD hS ls hl Q hQ
  have hl : lv_has ls 5 [(0, .ref (b 0)), (1, .int (x)), (2, .int (y))] := hl
  have hP : va_P D vwCl [((b 0), .inr (5, [.ref (b 1), .ref (b 2), .ref (b 3), .ref (b 4), .int (nI hL), .ref (b 5), .int (iK), .ref (b 6), .ref (b 7), .int (nI tL), .int (nI sP), .int (nU), .int (iS), .int (sN), .int (sR), .int (lE), .int (fI), .int (sC)])), ((b 1), .inl (cI, 217, .inl v))] s.heap := hP
  have hD : va_D A [((b 0), .inr (5, [.ref (b 1), .ref (b 2), .ref (b 3), .ref (b 4), .int (nI hL), .ref (b 5), .int (iK), .ref (b 6), .ref (b 7), .int (nI tL), .int (nI sP), .int (nU), .int (iS), .int (sN), .int (sR), .int (lE), .int (fI), .int (sC)])), ((b 1), .inl (cI, 217, .inl v))] := hD
  have hn := ho.n
  refine lv_aload_n hx hb dX5_reason_0 rfl (lv_at hl 0 rfl) ?_
  refine lv_iload_n hx hb dX5_reason_1 rfl (lv_at hl 1 rfl) ?_
  refine kb_vR (As := [.int (x)]) (rest := []) hx hb hml hts hown hN hK hP hD hS hA (c_X5_isKing l D cI b hL iK tL sP nU iS sN sR lE fI sC v g hv ho x) gX5_reason_X5_isKing rfl ⟨rfl, rfl⟩ hdX5_isKing ⟨Nat.le_of_ble_eq_true rfl, Nat.le_of_ble_eq_true rfl⟩ [0, 1] [0] rfl rfl rfl (ci := 5) rfl rfl rfl rfl rfl hl.1 (Nat.le_of_ble_eq_true rfl) dX5_reason_2 ⟨Nat.zero_le _, Nat.zero_le _⟩ (fun H locs hP hS => ?_)
  refine kb_bif_eq (tgt := 16) hx hb dX5_reason_5 (by decide) (fun c5 => ?_) (fun c5 => ?_)
  · refine lv_iconst (v := (-1)) hx hb dX5_reason_16 (by decide) ?_
    exact kb_iret (D := D) hQ hx hb hr hlocks hK hP hD hS dX5_reason_17 () rfl (Nat.le_refl _) (Nat.le_refl _) (show (-1) = reA g x y from (by first | exact (reA_1 (Or.inl c5)).symm | exact (reA_1 (Or.inr c13)).symm))
  · refine lv_aload_n hx hb dX5_reason_8 rfl (lv_at hl 0 rfl) ?_
    refine lv_iload_n hx hb dX5_reason_9 rfl (lv_at hl 2 rfl) ?_
    refine kb_vR (As := [.int (y)]) (rest := []) hx hb hml hts hown hN hK hP hD hS hA (c_X5_isKing l D cI b hL iK tL sP nU iS sN sR lE fI sC v g hv ho y) gX5_reason_X5_isKing rfl ⟨rfl, rfl⟩ hdX5_isKing ⟨Nat.le_of_ble_eq_true rfl, Nat.le_of_ble_eq_true rfl⟩ [0, 1] [0] rfl rfl rfl (ci := 5) rfl rfl rfl rfl rfl hl.1 (Nat.le_of_ble_eq_true rfl) dX5_reason_10 ⟨Nat.zero_le _, Nat.zero_le _⟩ (fun H locs hP hS => ?_)
    refine kb_bif_ne (tgt := 18) hx hb dX5_reason_13 (by decide) (fun c13 => ?_) (fun c13 => ?_)
    · obtain ⟨k, hk, rfl⟩ := kIs_ex c5 (by omega)
      obtain ⟨ot, hot, rfl⟩ := kIs_ex c13 (by omega)
      refine lv_iload_n hx hb dX5_reason_18 rfl (lv_at hl 1 rfl) ?_
      refine lv_iload_n hx hb dX5_reason_19 rfl (lv_at hl 2 rfl) ?_
      refine kb_icmp_ne (tgt := 26) hx hb dX5_reason_20 (by decide) (by omega) (by omega) (fun c20 => ?_) (fun c20 => ?_)
      · have hkk := ho.k k hk
        have hoo := ho.k ot hot
        have hpk := plT_le g k
        have hpo := plT_le g ot
        refine lv_aload_n hx hb dX5_reason_26 rfl (lv_at hl 0 rfl) ?_
        refine lv_iload_n hx hb dX5_reason_27 rfl (lv_at hl 1 rfl) ?_
        refine kb_vR (As := [.int (nI k)]) (rest := []) hx hb hml hts hown hN hK hP hD hS hA (c_X5_seatOf l D cI b hL iK tL sP nU iS sN sR lE fI sC v g hv ho k (by omega)) gX5_reason_X5_seatOf rfl ⟨rfl, rfl⟩ hdX5_seatOf ⟨Nat.le_of_ble_eq_true rfl, Nat.le_of_ble_eq_true rfl⟩ [0, 1] [0] rfl rfl rfl (ci := 5) rfl rfl rfl rfl rfl hl.1 (Nat.le_of_ble_eq_true rfl) dX5_reason_28 ⟨Nat.zero_le _, Nat.zero_le _⟩ (fun H locs hP hS => ?_)
        refine lv_istore_n (lv' := [(3, .int (oI (decide (plT g k < nT g)) (plT g k))), (0, .ref (b 0)), (1, .int (nI k)), (2, .int (nI ot))]) hx hb dX5_reason_31 rfl hl (by decide) rfl (fun ls hl => ?_)
        refine lv_aload_n hx hb dX5_reason_32 rfl (lv_at hl 1 rfl) ?_
        refine lv_iload_n hx hb dX5_reason_33 rfl (lv_at hl 3 rfl) ?_
        refine kb_vR (As := [.int (nI ot)]) (rest := []) hx hb hml hts hown hN hK hP hD hS hA (c_X5_seatOf l D cI b hL iK tL sP nU iS sN sR lE fI sC v g hv ho ot (by omega)) gX5_reason_X5_seatOf rfl ⟨rfl, rfl⟩ hdX5_seatOf ⟨Nat.le_of_ble_eq_true rfl, Nat.le_of_ble_eq_true rfl⟩ [0, 1] [0] rfl rfl rfl (ci := 5) rfl rfl rfl rfl rfl hl.1 (Nat.le_of_ble_eq_true rfl) dX5_reason_34 ⟨Nat.zero_le _, Nat.zero_le _⟩ (fun H locs hP hS => ?_)
        refine lv_istore (lv' := [(4, .int (oI (decide (plT g ot < nT g)) (plT g ot))), (3, .int (oI (decide (plT g k < nT g)) (plT g k))), (0, .ref (b 0)), (1, .int (nI k)), (2, .int (nI ot))]) hx hb dX5_reason_37 hl (by decide) rfl (fun ls hl => ?_)
        refine lv_iload_n hx hb dX5_reason_39 rfl (lv_at hl 1 rfl) ?_
        refine lv_bipush (v := (-5)) hx hb dX5_reason_40 (by decide) ?_
        refine lv_icmp_eq (tgt := 58) hx hb dX5_reason_42 (by decide) (fun c42 => ?_) (fun c42 => ?_)
        · refine lv_iconst (v := nI 1) hx hb dX5_reason_58 (by decide) ?_
          exact kb_iret (D := D) hQ hx hb hr hlocks hK hP hD hS dX5_reason_59 () rfl (Nat.le_refl _) (Nat.le_refl _) (show nI 1 = reA g (nI k) (nI ot) from ((reA_3 c5 c13 (by omega) (by omega) c20).trans (by first | exact (why_1 (fun q => oI_y5 (by omega) c42 q.1)) | exact (why_1 (fun q => oI_y5 (by omega) c49 q.2.1)) | exact (why_1 (fun q => q.2.2 (by omega))))).symm)
        · refine lv_iload hx hb dX5_reason_45 (lv_at hl 0 rfl) ?_
          refine lv_bipush (v := (-5)) hx hb dX5_reason_47 (by decide) ?_
          refine lv_icmp_eq (tgt := 58) hx hb dX5_reason_49 (by decide) (fun c49 => ?_) (fun c49 => ?_)
          · refine lv_iconst (v := nI 1) hx hb dX5_reason_58 (by decide) ?_
            exact kb_iret (D := D) hQ hx hb hr hlocks hK hP hD hS dX5_reason_59 () rfl (Nat.le_refl _) (Nat.le_refl _) (show nI 1 = reA g (nI k) (nI ot) from ((reA_3 c5 c13 (by omega) (by omega) c20).trans (by first | exact (why_1 (fun q => oI_y5 (by omega) c42 q.1)) | exact (why_1 (fun q => oI_y5 (by omega) c49 q.2.1)) | exact (why_1 (fun q => q.2.2 (by omega))))).symm)
          · rw [oI_t (oI_n5 c42), oI_t (oI_n5 c49)] at hl
            refine lv_iload_n hx hb dX5_reason_52 rfl (lv_at hl 1 rfl) ?_
            refine lv_iload hx hb dX5_reason_53 (lv_at hl 0 rfl) ?_
            refine kb_icmp_le (tgt := 60) hx hb dX5_reason_55 (by decide) (by omega) (by omega) (fun c55 => ?_) (fun c55 => ?_)
            · refine lv_aload_n hx hb dX5_reason_60 rfl (lv_at hl 2 rfl) ?_
              refine lv_iload_n hx hb dX5_reason_61 rfl (lv_at hl 4 rfl) ?_
              refine lv_iload_n hx hb dX5_reason_62 rfl (lv_at hl 3 rfl) ?_
              refine kb_vR (As := [.int (nI ot), .int (nI k)]) (rest := []) hx hb hml hts hown hN hK hP hD hS hA (c_X5_isGreater l D cI b hL iK tL sP nU iS sN sR lE fI sC v g hv ho ot k hot hk) gX5_reason_X5_isGreater rfl ⟨rfl, rfl⟩ hdX5_isGreater ⟨Nat.le_of_ble_eq_true rfl, Nat.le_of_ble_eq_true rfl⟩ [0, 1] [0] rfl rfl rfl (ci := 5) rfl rfl rfl rfl rfl hl.1 (Nat.le_of_ble_eq_true rfl) dX5_reason_63 ⟨Nat.zero_le _, Nat.zero_le _⟩ (fun H locs hP hS => ?_)
              refine kb_bif_eq (tgt := 71) hx hb dX5_reason_66 (by decide) (fun c66 => ?_) (fun c66 => ?_)
              · refine lv_aload_n hx hb dX5_reason_71 rfl (lv_at hl 2 rfl) ?_
                refine lv_iload_n hx hb dX5_reason_72 rfl (lv_at hl 3 rfl) ?_
                refine lv_iconst (v := nI 0) hx hb dX5_reason_73 (by decide) ?_
                refine kb_vR (As := [.int (nI k), .int (nI 0)]) (rest := []) hx hb hml hts hown hN hK hP hD hS hA (c_X5_get l D cI b hL iK tL sP nU iS sN sR lE fI sC v k 0 (by omega) (by decide)) gX5_reason_X5_get rfl ⟨rfl, rfl⟩ hdX5_get ⟨Nat.le_of_ble_eq_true rfl, Nat.le_of_ble_eq_true rfl⟩ [0, 1] [0] rfl rfl rfl (ci := 5) rfl rfl rfl rfl rfl hl.1 (Nat.le_of_ble_eq_true rfl) dX5_reason_74 ⟨Nat.zero_le _, Nat.zero_le _⟩ (fun H locs hP hS => ?_)
                refine kb_top (nI (gC g k)) (hv.f (by omega)).1 ?_
                refine lv_aload_n hx hb dX5_reason_77 rfl (lv_at hl 2 rfl) ?_
                refine lv_iload_n hx hb dX5_reason_78 rfl (lv_at hl 4 rfl) ?_
                refine lv_iconst (v := nI 0) hx hb dX5_reason_79 (by decide) ?_
                refine kb_vR (As := [.int (nI ot), .int (nI 0)]) (rest := [.int (nI (gC g k))]) hx hb hml hts hown hN hK hP hD hS hA (c_X5_get l D cI b hL iK tL sP nU iS sN sR lE fI sC v ot 0 (by omega) (by decide)) gX5_reason_X5_get rfl ⟨rfl, rfl⟩ hdX5_get ⟨Nat.le_of_ble_eq_true rfl, Nat.le_of_ble_eq_true rfl⟩ [0, 1] [0] rfl rfl rfl (ci := 5) rfl rfl rfl rfl rfl hl.1 (Nat.le_of_ble_eq_true rfl) dX5_reason_80 ⟨Nat.zero_le _, Nat.zero_le _⟩ (fun H locs hP hS => ?_)
                refine kb_top (nI (gC g ot)) (hv.f (by omega)).1 ?_
                refine kb_icmp_le (tgt := 90) hx hb dX5_reason_83 (by decide) (by omega) (by omega) (fun c83 => ?_) (fun c83 => ?_)
                · refine lv_aload_n hx hb dX5_reason_90 rfl (lv_at hl 2 rfl) ?_
                  refine lv_iload_n hx hb dX5_reason_91 rfl (lv_at hl 3 rfl) ?_
                  refine lv_iconst (v := nI 1) hx hb dX5_reason_92 (by decide) ?_
                  refine kb_vR (As := [.int (nI k), .int (nI 1)]) (rest := []) hx hb hml hts hown hN hK hP hD hS hA (c_X5_get l D cI b hL iK tL sP nU iS sN sR lE fI sC v k 1 (by omega) (by decide)) gX5_reason_X5_get rfl ⟨rfl, rfl⟩ hdX5_get ⟨Nat.le_of_ble_eq_true rfl, Nat.le_of_ble_eq_true rfl⟩ [0, 1] [0] rfl rfl rfl (ci := 5) rfl rfl rfl rfl rfl hl.1 (Nat.le_of_ble_eq_true rfl) dX5_reason_93 ⟨Nat.zero_le _, Nat.zero_le _⟩ (fun H locs hP hS => ?_)
                  refine kb_top (nI (gA g k)) (hv.f (by omega)).2.1 ?_
                  refine lv_aload_n hx hb dX5_reason_96 rfl (lv_at hl 2 rfl) ?_
                  refine lv_iload_n hx hb dX5_reason_97 rfl (lv_at hl 4 rfl) ?_
                  refine lv_iconst (v := nI 1) hx hb dX5_reason_98 (by decide) ?_
                  refine kb_vR (As := [.int (nI ot), .int (nI 1)]) (rest := [.int (nI (gA g k))]) hx hb hml hts hown hN hK hP hD hS hA (c_X5_get l D cI b hL iK tL sP nU iS sN sR lE fI sC v ot 1 (by omega) (by decide)) gX5_reason_X5_get rfl ⟨rfl, rfl⟩ hdX5_get ⟨Nat.le_of_ble_eq_true rfl, Nat.le_of_ble_eq_true rfl⟩ [0, 1] [0] rfl rfl rfl (ci := 5) rfl rfl rfl rfl rfl hl.1 (Nat.le_of_ble_eq_true rfl) dX5_reason_99 ⟨Nat.zero_le _, Nat.zero_le _⟩ (fun H locs hP hS => ?_)
                  refine kb_top (nI (gA g ot)) (hv.f (by omega)).2.1 ?_
                  refine kb_icmp_le (tgt := 109) hx hb dX5_reason_102 (by decide) (by omega) (by omega) (fun c102 => ?_) (fun c102 => ?_)
                  · refine lv_iconst (v := nI 4) hx hb dX5_reason_109 (by decide) ?_
                    exact kb_iret (D := D) hQ hx hb hr hlocks hK hP hD hS dX5_reason_110 () rfl (Nat.le_refl _) (Nat.le_refl _) (show nI 4 = reA g (nI k) (nI ot) from ((reA_3 c5 c13 (by omega) (by omega) c20).trans (by rw [(why_2 ⟨oI_n5 c42, oI_n5 c49, by omega⟩), if_neg (of_decide_eq_false c66)]; first | rw [if_pos (by omega)] | rw [if_neg (by omega), if_pos (by omega)] | rw [if_neg (by omega), if_neg (by omega)])).symm)
                  · refine lv_iconst (v := nI 3) hx hb dX5_reason_105 (by decide) ?_
                    refine lv_goto (tgt := 110) hx hb dX5_reason_106 (by decide) ?_
                    exact kb_iret (D := D) hQ hx hb hr hlocks hK hP hD hS dX5_reason_110 () rfl (Nat.le_refl _) (Nat.le_refl _) (show nI 3 = reA g (nI k) (nI ot) from ((reA_3 c5 c13 (by omega) (by omega) c20).trans (by rw [(why_2 ⟨oI_n5 c42, oI_n5 c49, by omega⟩), if_neg (of_decide_eq_false c66)]; first | rw [if_pos (by omega)] | rw [if_neg (by omega), if_pos (by omega)] | rw [if_neg (by omega), if_neg (by omega)])).symm)
                · refine lv_iconst (v := nI 0) hx hb dX5_reason_86 (by decide) ?_
                  refine lv_goto (tgt := 110) hx hb dX5_reason_87 (by decide) ?_
                  exact kb_iret (D := D) hQ hx hb hr hlocks hK hP hD hS dX5_reason_110 () rfl (Nat.le_refl _) (Nat.le_refl _) (show nI 0 = reA g (nI k) (nI ot) from ((reA_3 c5 c13 (by omega) (by omega) c20).trans (by rw [(why_2 ⟨oI_n5 c42, oI_n5 c49, by omega⟩), if_neg (of_decide_eq_false c66)]; first | rw [if_pos (by omega)] | rw [if_neg (by omega), if_pos (by omega)] | rw [if_neg (by omega), if_neg (by omega)])).symm)
              · refine lv_iconst (v := nI 2) hx hb dX5_reason_69 (by decide) ?_
                exact kb_iret (D := D) hQ hx hb hr hlocks hK hP hD hS dX5_reason_70 () rfl (Nat.le_refl _) (Nat.le_refl _) (show nI 2 = reA g (nI k) (nI ot) from ((reA_3 c5 c13 (by omega) (by omega) c20).trans (by rw [(why_2 ⟨oI_n5 c42, oI_n5 c49, by omega⟩), if_pos (of_decide_eq_true c66)])).symm)
            · refine lv_iconst (v := nI 1) hx hb dX5_reason_58 (by decide) ?_
              exact kb_iret (D := D) hQ hx hb hr hlocks hK hP hD hS dX5_reason_59 () rfl (Nat.le_refl _) (Nat.le_refl _) (show nI 1 = reA g (nI k) (nI ot) from ((reA_3 c5 c13 (by omega) (by omega) c20).trans (by first | exact (why_1 (fun q => oI_y5 (by omega) c42 q.1)) | exact (why_1 (fun q => oI_y5 (by omega) c49 q.2.1)) | exact (why_1 (fun q => q.2.2 (by omega))))).symm)
      · refine lv_bipush (v := (-2)) hx hb dX5_reason_23 (by decide) ?_
        exact kb_iret (D := D) hQ hx hb hr hlocks hK hP hD hS dX5_reason_25 () rfl (Nat.le_refl _) (Nat.le_refl _) (show (-2) = reA g (nI k) (nI ot) from (reA_2 c5 c13 (congrArg nI c20)).symm)
    · refine lv_iconst (v := (-1)) hx hb dX5_reason_16 (by decide) ?_
      exact kb_iret (D := D) hQ hx hb hr hlocks hK hP hD hS dX5_reason_17 () rfl (Nat.le_refl _) (Nat.le_refl _) (show (-1) = reA g x y from (by first | exact (reA_1 (Or.inl c5)).symm | exact (reA_1 (Or.inr c13)).symm))
abbrev rmX5_wrongPairs : Room := { frames := 2, cells := 0, slots := 0, locals := 46 }
theorem hdX5_wrongPairs : yX5_wrongPairs.cls = RX5 ∧ yX5_wrongPairs.cls ≠ "java/lang/invoke/MethodHandle" ∧ yX5_wrongPairs.cls ≠ "java/lang/invoke/VarHandle" ∧ (parseMethodDescriptor yX5_wrongPairs.desc).map (fun d => d.parameters.length) = some 0 := by decide +kernel
theorem inwX5_wrongPairs_X5 : ∀ w ∈ wsX50, w ∈ wsX5_wrongPairs := fun w h => List.mem_cons_of_mem _ (List.mem_append_right _ h)
set_option maxHeartbeats 4000000 in
set_option maxRecDepth 100000 in
theorem c_X5_wrongPairs (l : Launch) (D : va_G) (cI : ClassId) (b : Nat → Nat) (hL : Nat) (iK : Int32) (tL : Nat) (sP : Nat) (nU : Int32) (iS : Int32) (sN : Int32) (sR : Int32) (lE : Int32) (fI : Int32) (sC : Int32) (v : Nat → Int32) (g : Sg) (hv : rV v g) (ho : Ok g) : kb_R D [(cI, .int)] l yX5_wrongPairs wsX5_wrongPairs rmX5_wrongPairs [.ref (b 0)] [((b 0), .inr (5, [.ref (b 1), .ref (b 2), .ref (b 3), .ref (b 4), .int (nI hL), .ref (b 5), .int (iK), .ref (b 6), .ref (b 7), .int (nI tL), .int (nI sP), .int (nU), .int (iS), .int (sN), .int (sR), .int (lE), .int (fI), .int (sC)])), ((b 1), .inl (cI, 217, .inl v))] (nI (wp g)) := by
  refine kb_I_of (cc := cX5_wrongPairs) (maxL := 4) (ret := (some .int)) (by decide) rfl (Nat.le_of_ble_eq_true rfl) ?_
  intro p e s mm args below meth c A hx hb hml hr hts hown hlocks hnm hA hN hK hP hD hS ls hl Q hQ
  have hl : lv_has ls 4 [(0, .ref (b 0))] := hl
  have hP : va_P D vwCl [((b 0), .inr (5, [.ref (b 1), .ref (b 2), .ref (b 3), .ref (b 4), .int (nI hL), .ref (b 5), .int (iK), .ref (b 6), .ref (b 7), .int (nI tL), .int (nI sP), .int (nU), .int (iS), .int (sN), .int (sR), .int (lE), .int (fI), .int (sC)])), ((b 1), .inl (cI, 217, .inl v))] s.heap := hP
  have hD : va_D A [((b 0), .inr (5, [.ref (b 1), .ref (b 2), .ref (b 3), .ref (b 4), .int (nI hL), .ref (b 5), .int (iK), .ref (b 6), .ref (b 7), .int (nI tL), .int (nI sP), .int (nU), .int (iS), .int (sN), .int (sR), .int (lE), .int (fI), .int (sC)])), ((b 1), .inl (cI, 217, .inl v))] := hD
  have fl7 := hts (.fieldLink RX5 7 "KingsBanquetModel" "all" "[I") (by decide +kernel)
  have hn := ho.n
  refine lv_iconst (v := nI 0) hx hb dX5_wrongPairs_0 (by decide) ?_
  refine lv_istore_n (lv' := [(1, .int (nI 0)), (0, .ref (b 0))]) hx hb dX5_wrongPairs_1 rfl hl (by decide) rfl (fun ls hl => ?_)
  refine lv_iconst (v := nI 0) hx hb dX5_wrongPairs_2 (by decide) ?_
  refine lv_istore_n (lv' := [(2, .int (nI 0)), (1, .int (nI 0)), (0, .ref (b 0))]) hx hb dX5_wrongPairs_3 rfl hl (by decide) rfl (fun ls hl => ?_)
  have L_4 : ∀ (z : Nat) (i : Nat) (n : Nat), (i ≤ nT g) → (n = wpS g i) → (nT g - i) < z → ∀ (H : Heap) (locs : List Loc), va_P D vwCl [((b 0), .inr (5, [.ref (b 1), .ref (b 2), .ref (b 3), .ref (b 4), .int (nI hL), .ref (b 5), .int (iK), .ref (b 6), .ref (b 7), .int (nI tL), .int (nI sP), .int (nU), .int (iS), .int (sN), .int (sR), .int (lE), .int (fI), .int (sC)])), ((b 1), .inl (cI, 217, .inl v))] H → va_D A [((b 0), .inr (5, [.ref (b 1), .ref (b 2), .ref (b 3), .ref (b 4), .int (nI hL), .ref (b 5), .int (iK), .ref (b 6), .ref (b 7), .int (nI tL), .int (nI sP), .int (nU), .int (iS), .int (sN), .int (sR), .int (lE), .int (fI), .int (sC)])), ((b 1), .inl (cI, 217, .inl v))] → va_S A s.heap H locs → ∀ ls : Array Slot, lv_has ls 4 [(2, .int (nI i)), (1, .int (nI n)), (0, .ref (b 0))] → W p l e rmX5_wrongPairs s mm args below meth c H locs 0 0 Q (F0 mm 4 ls []) := by
    intro z
    induction z with
    | zero =>
      intro i n _ _ hz
      exact absurd hz (Nat.not_lt_zero _)
    | succ z ih_4 =>
      intro i n hi hn1 hz H locs hP hD hS ls hl
      refine lv_iload_n hx hb dX5_wrongPairs_4 rfl (lv_at hl 0 rfl) ?_
      refine lv_aload_n hx hb dX5_wrongPairs_5 rfl (lv_at hl 2 rfl) ?_
      refine va_get (D := D) (ci := 5) (v := .ref (b 1)) (C := RX5) (T := TX5) (N := 18) hx hb hts inwX5_wrongPairs_X5 hown hK hP 0 rfl rfl 0 (by decide) fl7 (fun _ h9 => h9) rfl dX5_wrongPairs_6 ?_
      refine lv_bipush (v := nI 11) hx hb dX5_wrongPairs_9 (by decide) ?_
      refine kb_iald hx hb hK hP 1 0 rfl rfl (by decide) (by omega) dX5_wrongPairs_11 ?_
      refine kb_top (nI (nT g)) hv.t ?_
      refine kb_icmp_ge (tgt := 75) hx hb dX5_wrongPairs_12 (by decide) (by omega) (by omega) (fun c12 => ?_) (fun c12 => ?_)
      · refine lv_iload_n hx hb dX5_wrongPairs_75 rfl (lv_at hl 1 rfl) ?_
        exact kb_iret (D := D) hQ hx hb hr hlocks hK hP hD hS dX5_wrongPairs_76 () rfl (Nat.le_refl _) (Nat.le_refl _) (show nI n = nI (wp g) from (congrArg nI (wpP_4 hn1 (by omega))))
      · refine lv_iload_n hx hb dX5_wrongPairs_15 rfl (lv_at hl 0 rfl) ?_
        refine lv_iconst (v := nI 1) hx hb dX5_wrongPairs_16 (by decide) ?_
        refine lv_iadd hx hb dX5_wrongPairs_17 ?_
        refine kb_top (nI (i + 1)) (nI_add i 1) ?_
        refine lv_istore_n (lv' := [(3, .int (nI (i + 1))), (2, .int (nI i)), (1, .int (nI n)), (0, .ref (b 0))]) hx hb dX5_wrongPairs_18 rfl hl (by decide) rfl (fun ls hl => ?_)
        have L_19 : ∀ (z : Nat) (q : Nat) (n : Nat), (i < q ∧ q ≤ nT g) → (n = wpS g i + cnt (wpP g i) q) → (nT g - q) < z → ∀ (H : Heap) (locs : List Loc), va_P D vwCl [((b 0), .inr (5, [.ref (b 1), .ref (b 2), .ref (b 3), .ref (b 4), .int (nI hL), .ref (b 5), .int (iK), .ref (b 6), .ref (b 7), .int (nI tL), .int (nI sP), .int (nU), .int (iS), .int (sN), .int (sR), .int (lE), .int (fI), .int (sC)])), ((b 1), .inl (cI, 217, .inl v))] H → va_D A [((b 0), .inr (5, [.ref (b 1), .ref (b 2), .ref (b 3), .ref (b 4), .int (nI hL), .ref (b 5), .int (iK), .ref (b 6), .ref (b 7), .int (nI tL), .int (nI sP), .int (nU), .int (iS), .int (sN), .int (sR), .int (lE), .int (fI), .int (sC)])), ((b 1), .inl (cI, 217, .inl v))] → va_S A s.heap H locs → ∀ ls : Array Slot, lv_has ls 4 [(3, .int (nI q)), (2, .int (nI i)), (1, .int (nI n)), (0, .ref (b 0))] → W p l e rmX5_wrongPairs s mm args below meth c H locs 0 0 Q (F0 mm 19 ls []) := by
          intro z
          induction z with
          | zero =>
            intro q n _ _ hz
            exact absurd hz (Nat.not_lt_zero _)
          | succ z ih_19 =>
            intro q n hq hn2 hz H locs hP hD hS ls hl
            refine lv_iload_n hx hb dX5_wrongPairs_19 rfl (lv_at hl 0 rfl) ?_
            refine lv_aload_n hx hb dX5_wrongPairs_20 rfl (lv_at hl 3 rfl) ?_
            refine va_get (D := D) (ci := 5) (v := .ref (b 1)) (C := RX5) (T := TX5) (N := 18) hx hb hts inwX5_wrongPairs_X5 hown hK hP 0 rfl rfl 0 (by decide) fl7 (fun _ h9 => h9) rfl dX5_wrongPairs_21 ?_
            refine lv_bipush (v := nI 11) hx hb dX5_wrongPairs_24 (by decide) ?_
            refine kb_iald hx hb hK hP 1 0 rfl rfl (by decide) (by omega) dX5_wrongPairs_26 ?_
            refine kb_top (nI (nT g)) hv.t ?_
            refine kb_icmp_ge (tgt := 69) hx hb dX5_wrongPairs_27 (by decide) (by omega) (by omega) (fun c27 => ?_) (fun c27 => ?_)
            · refine lv_iinc (v := nI (i + 1)) (lv' := [(2, .int (nI (i + 1))), (3, .int (nI q)), (1, .int (nI n)), (0, .ref (b 0))]) hx hb dX5_wrongPairs_69 hl (k := 1) rfl (kb_inc1 i) (by decide) rfl (fun ls hl => ?_)
              refine lv_goto (tgt := 4) hx hb dX5_wrongPairs_72 (by decide) ?_
              exact ih_4 (i + 1) n (by omega) (wpP_3 hn2 (by omega)) (by omega) _ _ hP hD hS _ (lv_sub hl [0, 2, 3] rfl)
            · refine lv_iload_n hx hb dX5_wrongPairs_30 rfl (lv_at hl 2 rfl) ?_
              refine lv_aload_n hx hb dX5_wrongPairs_31 rfl (lv_at hl 3 rfl) ?_
              refine lv_aload_n hx hb dX5_wrongPairs_32 rfl (lv_at hl 3 rfl) ?_
              refine va_get (D := D) (ci := 5) (v := .ref (b 1)) (C := RX5) (T := TX5) (N := 18) hx hb hts inwX5_wrongPairs_X5 hown hK hP 0 rfl rfl 0 (by decide) fl7 (fun _ h9 => h9) rfl dX5_wrongPairs_33 ?_
              refine lv_bipush (v := nI 12) hx hb dX5_wrongPairs_36 (by decide) ?_
              refine lv_iload_n hx hb dX5_wrongPairs_38 rfl (lv_at hl 0 rfl) ?_
              refine lv_iadd hx hb dX5_wrongPairs_39 ?_
              refine kb_top (nI (12 + q)) (nI_add 12 q) ?_
              refine kb_iald hx hb hK hP 1 0 rfl rfl (by decide) (by omega) dX5_wrongPairs_40 ?_
              refine kb_top (nI (gT g q)) (hv.s (by omega)) ?_
              refine lv_aload_n hx hb dX5_wrongPairs_41 rfl (lv_at hl 3 rfl) ?_
              refine va_get (D := D) (ci := 5) (v := .ref (b 1)) (C := RX5) (T := TX5) (N := 18) hx hb hts inwX5_wrongPairs_X5 hown hK hP 0 rfl rfl 0 (by decide) fl7 (fun _ h9 => h9) rfl dX5_wrongPairs_42 ?_
              refine lv_bipush (v := nI 12) hx hb dX5_wrongPairs_45 (by decide) ?_
              refine lv_iload_n hx hb dX5_wrongPairs_47 rfl (lv_at hl 1 rfl) ?_
              refine lv_iadd hx hb dX5_wrongPairs_48 ?_
              refine kb_top (nI (12 + i)) (nI_add 12 i) ?_
              refine kb_iald hx hb hK hP 1 0 rfl rfl (by decide) (by omega) dX5_wrongPairs_49 ?_
              refine kb_top (nI (gT g i)) (hv.s (by omega)) ?_
              refine kb_vR (As := [.int (nI (gT g q)), .int (nI (gT g i))]) (rest := [.int (nI n)]) hx hb hml hts hown hN hK hP hD hS hA (c_X5_isGreater l D cI b hL iK tL sP nU iS sN sR lE fI sC v g hv ho (gT g q) (gT g i) ((ho.t q (by omega)).1) ((ho.t i (by omega)).1)) gX5_wrongPairs_X5_isGreater rfl ⟨rfl, rfl⟩ hdX5_isGreater ⟨Nat.le_of_ble_eq_true rfl, Nat.le_of_ble_eq_true rfl⟩ [0, 1] [0] rfl rfl rfl (ci := 5) rfl rfl rfl rfl rfl hl.1 (Nat.le_of_ble_eq_true rfl) dX5_wrongPairs_50 ⟨Nat.zero_le _, Nat.zero_le _⟩ (fun H locs hP hS => ?_)
              refine kb_bif_eq (tgt := 60) hx hb dX5_wrongPairs_53 (by decide) (fun c53 => ?_) (fun c53 => ?_)
              · refine lv_iconst (v := nI 0) hx hb dX5_wrongPairs_60 (by decide) ?_
                refine lv_iadd hx hb dX5_wrongPairs_61 ?_
                refine kb_top (nI (n + 0)) (nI_add n 0) ?_
                refine lv_istore_n (lv' := [(1, .int (nI (n + 0))), (3, .int (nI q)), (2, .int (nI i)), (0, .ref (b 0))]) hx hb dX5_wrongPairs_62 rfl hl (by decide) rfl (fun ls hl => ?_)
                refine lv_iinc (v := nI (q + 1)) (lv' := [(3, .int (nI (q + 1))), (1, .int (nI (n + 0))), (2, .int (nI i)), (0, .ref (b 0))]) hx hb dX5_wrongPairs_63 hl (k := 1) rfl (kb_inc1 q) (by decide) rfl (fun ls hl => ?_)
                refine lv_goto (tgt := 19) hx hb dX5_wrongPairs_66 (by decide) ?_
                exact ih_19 (q + 1) (n + 0) (by omega) (by first | exact wpP_1 hn2 hq.1 c53 | exact wpP_2 hn2 c53) (by omega) _ _ hP hD hS _ (lv_sub hl [0, 2, 1, 3] rfl)
              · refine lv_iconst (v := nI 1) hx hb dX5_wrongPairs_56 (by decide) ?_
                refine lv_goto (tgt := 61) hx hb dX5_wrongPairs_57 (by decide) ?_
                refine lv_iadd hx hb dX5_wrongPairs_61 ?_
                refine kb_top (nI (n + 1)) (nI_add n 1) ?_
                refine lv_istore_n (lv' := [(1, .int (nI (n + 1))), (3, .int (nI q)), (2, .int (nI i)), (0, .ref (b 0))]) hx hb dX5_wrongPairs_62 rfl hl (by decide) rfl (fun ls hl => ?_)
                refine lv_iinc (v := nI (q + 1)) (lv' := [(3, .int (nI (q + 1))), (1, .int (nI (n + 1))), (2, .int (nI i)), (0, .ref (b 0))]) hx hb dX5_wrongPairs_63 hl (k := 1) rfl (kb_inc1 q) (by decide) rfl (fun ls hl => ?_)
                refine lv_goto (tgt := 19) hx hb dX5_wrongPairs_66 (by decide) ?_
                exact ih_19 (q + 1) (n + 1) (by omega) (by first | exact wpP_1 hn2 hq.1 c53 | exact wpP_2 hn2 c53) (by omega) _ _ hP hD hS _ (lv_sub hl [0, 2, 1, 3] rfl)
        exact L_19 ((nT g - (i + 1)) + 1) (i + 1) n (by omega) (by rw [wpP_0]; exact hn1) (Nat.lt_succ_self _) _ _ hP hD hS _ (lv_sub hl [0, 1, 2, 3] rfl)
  exact L_4 ((nT g - 0) + 1) 0 0 (by omega) rfl (Nat.lt_succ_self _) _ _ hP hD hS _ (lv_sub hl [0, 1, 2] rfl)
abbrev rmX5_dueSeat : Room := { frames := 1, cells := 0, slots := 0, locals := 25 }
theorem hdX5_dueSeat : yX5_dueSeat.cls = RX5 ∧ yX5_dueSeat.cls ≠ "java/lang/invoke/MethodHandle" ∧ yX5_dueSeat.cls ≠ "java/lang/invoke/VarHandle" ∧ (parseMethodDescriptor yX5_dueSeat.desc).map (fun d => d.parameters.length) = some 2 := by decide +kernel
theorem inwX5_dueSeat_X5 : ∀ w ∈ wsX50, w ∈ wsX5_dueSeat := fun w h => List.mem_cons_of_mem _ (List.mem_append_right _ h)
set_option maxHeartbeats 4000000 in
set_option maxRecDepth 100000 in
theorem c_X5_dueSeat (l : Launch) (D : va_G) (cI : ClassId) (b : Nat → Nat) (hL : Nat) (iK : Int32) (tL : Nat) (sP : Nat) (nU : Int32) (iS : Int32) (sN : Int32) (sR : Int32) (lE : Int32) (fI : Int32) (sC : Int32) (v : Nat → Int32) (g : Sg) (hv : rV v g) (ho : Ok g) (x : Int32) (y : Int32) : kb_R D [(cI, .int)] l yX5_dueSeat wsX5_dueSeat rmX5_dueSeat [.ref (b 0), .int (x), .int (y)] [((b 0), .inr (5, [.ref (b 1), .ref (b 2), .ref (b 3), .ref (b 4), .int (nI hL), .ref (b 5), .int (iK), .ref (b 6), .ref (b 7), .int (nI tL), .int (nI sP), .int (nU), .int (iS), .int (sN), .int (sR), .int (lE), .int (fI), .int (sC)])), ((b 1), .inl (cI, 217, .inl v))] (dsA g x y) := by
  refine kb_I_of (cc := cX5_dueSeat) (maxL := 6) (ret := (some .int)) (by decide) rfl (Nat.le_of_ble_eq_true rfl) ?_
  intro p e s mm args below meth c A hx hb hml hr hts hown hlocks hnm hA hN hK hP hD hS ls hl Q hQ
  have hl : lv_has ls 6 [(0, .ref (b 0)), (1, .int (x)), (2, .int (y))] := hl
  have hP : va_P D vwCl [((b 0), .inr (5, [.ref (b 1), .ref (b 2), .ref (b 3), .ref (b 4), .int (nI hL), .ref (b 5), .int (iK), .ref (b 6), .ref (b 7), .int (nI tL), .int (nI sP), .int (nU), .int (iS), .int (sN), .int (sR), .int (lE), .int (fI), .int (sC)])), ((b 1), .inl (cI, 217, .inl v))] s.heap := hP
  have hD : va_D A [((b 0), .inr (5, [.ref (b 1), .ref (b 2), .ref (b 3), .ref (b 4), .int (nI hL), .ref (b 5), .int (iK), .ref (b 6), .ref (b 7), .int (nI tL), .int (nI sP), .int (nU), .int (iS), .int (sN), .int (sR), .int (lE), .int (fI), .int (sC)])), ((b 1), .inl (cI, 217, .inl v))] := hD
  have fl7 := hts (.fieldLink RX5 7 "KingsBanquetModel" "all" "[I") (by decide +kernel)
  have hn := ho.n
  refine lv_iload_n hx hb dX5_dueSeat_0 rfl (lv_at hl 1 rfl) ?_
  refine lv_i2l (v := (x).toInt64) hx hb dX5_dueSeat_1 rfl ?_
  refine lv_lconst (v := lN 1) hx hb dX5_dueSeat_2 (by decide) ?_
  refine lv_ldc2 (v := 9) hx hb hown (hts (.constantLong RX5 95 (9)) (by decide +kernel)) dX5_dueSeat_3 ?_
  refine kb_topl (lN 9) (by decide) ?_
  refine kb_sR (As := [.long ((x).toInt64), .long (lN 1), .long (lN 9)]) (rest := []) hx hb hml hts hown hN hK hP hD hS hA (c_X5_in l D ((x).toInt64) (lN 1) (lN 9)) gX5_dueSeat_X5_in rfl ⟨rfl, rfl⟩ hdX5_in.2 ⟨Nat.le_of_ble_eq_true rfl, Nat.le_of_ble_eq_true rfl⟩ [] [] rfl rfl rfl rfl rfl hl.1 (Nat.le_of_ble_eq_true rfl) dX5_dueSeat_6 ⟨Nat.zero_le _, Nat.zero_le _⟩ (fun H locs hP hS => ?_)
  refine kb_top (kb_b (isIn x 1 9)) (congrArg kb_b (inL_c (by decide) (by decide))) ?_
  refine kb_bif_eq (tgt := 24) hx hb dX5_dueSeat_9 (by decide) (fun c9 => ?_) (fun c9 => ?_)
  · refine lv_bipush (v := (-2)) hx hb dX5_dueSeat_24 (by decide) ?_
    exact kb_iret (D := D) hQ hx hb hr hlocks hK hP hD hS dX5_dueSeat_26 () rfl (Nat.le_refl _) (Nat.le_refl _) (show (-2) = dsA g x y from (dsA_1 (by first | exact Or.inl c9 | exact Or.inr c21)).symm)
  · refine lv_iload_n hx hb dX5_dueSeat_12 rfl (lv_at hl 2 rfl) ?_
    refine lv_i2l (v := (y).toInt64) hx hb dX5_dueSeat_13 rfl ?_
    refine lv_lconst (v := lN 0) hx hb dX5_dueSeat_14 (by decide) ?_
    refine lv_ldc2 (v := 120) hx hb hown (hts (.constantLong RX5 97 (120)) (by decide +kernel)) dX5_dueSeat_15 ?_
    refine kb_topl (lN 120) (by decide) ?_
    refine kb_sR (As := [.long ((y).toInt64), .long (lN 0), .long (lN 120)]) (rest := []) hx hb hml hts hown hN hK hP hD hS hA (c_X5_in l D ((y).toInt64) (lN 0) (lN 120)) gX5_dueSeat_X5_in rfl ⟨rfl, rfl⟩ hdX5_in.2 ⟨Nat.le_of_ble_eq_true rfl, Nat.le_of_ble_eq_true rfl⟩ [] [] rfl rfl rfl rfl rfl hl.1 (Nat.le_of_ble_eq_true rfl) dX5_dueSeat_18 ⟨Nat.zero_le _, Nat.zero_le _⟩ (fun H locs hP hS => ?_)
    refine kb_top (kb_b (isIn y 0 120)) (congrArg kb_b (inL_c (by decide) (by decide))) ?_
    refine kb_bif_ne (tgt := 27) hx hb dX5_dueSeat_21 (by decide) (fun c21 => ?_) (fun c21 => ?_)
    · obtain ⟨x', hx1, hx9, rfl⟩ := isIn_ex (by decide) (by decide) c9
      obtain ⟨y', hy1, hy9, rfl⟩ := isIn_ex (by decide) (by decide) c21
      refine lv_iconst (v := nI 0) hx hb dX5_dueSeat_27 (by decide) ?_
      refine lv_istore_n (lv' := [(3, .int (nI 0)), (0, .ref (b 0)), (1, .int (nI x')), (2, .int (nI y'))]) hx hb dX5_dueSeat_28 rfl hl (by decide) rfl (fun ls hl => ?_)
      refine lv_iconst (v := nI 0) hx hb dX5_dueSeat_29 (by decide) ?_
      refine lv_istore (lv' := [(4, .int (nI 0)), (3, .int (nI 0)), (0, .ref (b 0)), (1, .int (nI x')), (2, .int (nI y'))]) hx hb dX5_dueSeat_30 hl (by decide) rfl (fun ls hl => ?_)
      have L_32 : ∀ (z : Nat) (i : Nat), (i ≤ nT g) → (nT g - i) < z → ∀ (H : Heap) (locs : List Loc), va_P D vwCl [((b 0), .inr (5, [.ref (b 1), .ref (b 2), .ref (b 3), .ref (b 4), .int (nI hL), .ref (b 5), .int (iK), .ref (b 6), .ref (b 7), .int (nI tL), .int (nI sP), .int (nU), .int (iS), .int (sN), .int (sR), .int (lE), .int (fI), .int (sC)])), ((b 1), .inl (cI, 217, .inl v))] H → va_D A [((b 0), .inr (5, [.ref (b 1), .ref (b 2), .ref (b 3), .ref (b 4), .int (nI hL), .ref (b 5), .int (iK), .ref (b 6), .ref (b 7), .int (nI tL), .int (nI sP), .int (nU), .int (iS), .int (sN), .int (sR), .int (lE), .int (fI), .int (sC)])), ((b 1), .inl (cI, 217, .inl v))] → va_S A s.heap H locs → ∀ ls : Array Slot, lv_has ls 6 [(4, .int (nI i)), (3, .int (nI (cnt (dsP g x' y') i))), (0, .ref (b 0)), (1, .int (nI x')), (2, .int (nI y'))] → W p l e rmX5_dueSeat s mm args below meth c H locs 0 0 Q (F0 mm 32 ls []) := by
        intro z
        induction z with
        | zero =>
          intro i _ hz
          exact absurd hz (Nat.not_lt_zero _)
        | succ z ih_32 =>
          intro i hi hz H locs hP hD hS ls hl
          refine lv_iload hx hb dX5_dueSeat_32 (lv_at hl 0 rfl) ?_
          refine lv_aload_n hx hb dX5_dueSeat_34 rfl (lv_at hl 2 rfl) ?_
          refine va_get (D := D) (ci := 5) (v := .ref (b 1)) (C := RX5) (T := TX5) (N := 18) hx hb hts inwX5_dueSeat_X5 hown hK hP 0 rfl rfl 0 (by decide) fl7 (fun _ h9 => h9) rfl dX5_dueSeat_35 ?_
          refine lv_bipush (v := nI 11) hx hb dX5_dueSeat_38 (by decide) ?_
          refine kb_iald hx hb hK hP 1 0 rfl rfl (by decide) (by omega) dX5_dueSeat_40 ?_
          refine kb_top (nI (nT g)) hv.t ?_
          refine kb_icmp_ge (tgt := 103) hx hb dX5_dueSeat_41 (by decide) (by omega) (by omega) (fun c41 => ?_) (fun c41 => ?_)
          · refine lv_iload_n hx hb dX5_dueSeat_103 rfl (lv_at hl 1 rfl) ?_
            exact kb_iret (D := D) hQ hx hb hr hlocks hK hP hD hS dX5_dueSeat_104 () rfl (Nat.le_refl _) (Nat.le_refl _) (show nI (cnt (dsP g x' y') i) = dsA g (nI x') (nI y') from ((congrArg nI (by rw [show i = nT g by omega]; exact dsP_e ho hx9 hy9)).trans (dsA_2 c9 c21 (by omega) (by omega)).symm))
          · refine lv_aload_n hx hb dX5_dueSeat_44 rfl (lv_at hl 2 rfl) ?_
            refine va_get (D := D) (ci := 5) (v := .ref (b 1)) (C := RX5) (T := TX5) (N := 18) hx hb hts inwX5_dueSeat_X5 hown hK hP 0 rfl rfl 0 (by decide) fl7 (fun _ h9 => h9) rfl dX5_dueSeat_45 ?_
            refine lv_bipush (v := nI 12) hx hb dX5_dueSeat_48 (by decide) ?_
            refine lv_iload hx hb dX5_dueSeat_50 (lv_at hl 0 rfl) ?_
            refine lv_iadd hx hb dX5_dueSeat_52 ?_
            refine kb_top (nI (12 + i)) (nI_add 12 i) ?_
            refine kb_iald hx hb hK hP 1 0 rfl rfl (by decide) (by omega) dX5_dueSeat_53 ?_
            refine kb_top (nI (gT g i)) (hv.s (by omega)) ?_
            refine lv_istore (lv' := [(5, .int (nI (gT g i))), (4, .int (nI i)), (3, .int (nI (cnt (dsP g x' y') i))), (0, .ref (b 0)), (1, .int (nI x')), (2, .int (nI y'))]) hx hb dX5_dueSeat_54 hl (by decide) rfl (fun ls hl => ?_)
            have hgk := (ho.t i (by omega)).1
            have hkk := ho.k _ hgk
            refine lv_iload_n hx hb dX5_dueSeat_56 rfl (lv_at hl 2 rfl) ?_
            refine lv_aload_n hx hb dX5_dueSeat_57 rfl (lv_at hl 3 rfl) ?_
            refine lv_iload hx hb dX5_dueSeat_58 (lv_at hl 0 rfl) ?_
            refine lv_iconst (v := nI 0) hx hb dX5_dueSeat_60 (by decide) ?_
            refine kb_vR (As := [.int (nI (gT g i)), .int (nI 0)]) (rest := [.int (nI (cnt (dsP g x' y') i))]) hx hb hml hts hown hN hK hP hD hS hA (c_X5_get l D cI b hL iK tL sP nU iS sN sR lE fI sC v (gT g i) 0 (by omega) (by decide)) gX5_dueSeat_X5_get rfl ⟨rfl, rfl⟩ hdX5_get ⟨Nat.le_of_ble_eq_true rfl, Nat.le_of_ble_eq_true rfl⟩ [0, 1] [0] rfl rfl rfl (ci := 5) rfl rfl rfl rfl rfl hl.1 (Nat.le_of_ble_eq_true rfl) dX5_dueSeat_61 ⟨Nat.zero_le _, Nat.zero_le _⟩ (fun H locs hP hS => ?_)
            refine kb_top (nI (gC g (gT g i))) (hv.f (by omega)).1 ?_
            refine lv_iload_n hx hb dX5_dueSeat_64 rfl (lv_at hl 4 rfl) ?_
            refine kb_icmp_gt (tgt := 90) hx hb dX5_dueSeat_65 (by decide) (by omega) (by omega) (fun c65 => ?_) (fun c65 => ?_)
            · refine lv_iconst (v := nI 1) hx hb dX5_dueSeat_90 (by decide) ?_
              refine lv_goto (tgt := 95) hx hb dX5_dueSeat_91 (by decide) ?_
              refine lv_iadd hx hb dX5_dueSeat_95 ?_
              refine kb_top (nI (cnt (dsP g x' y') i + 1)) (nI_add (cnt (dsP g x' y') i) 1) ?_
              refine kb_top (nI (cnt (dsP g x' y') (i + 1))) (by rw [cnt_s]; first | rw [if_pos (dsP_t (by omega))] | rw [if_neg (dsP_f (by omega))]) ?_
              refine lv_istore_n (lv' := [(3, .int (nI (cnt (dsP g x' y') (i + 1)))), (5, .int (nI (gT g i))), (4, .int (nI i)), (0, .ref (b 0)), (1, .int (nI x')), (2, .int (nI y'))]) hx hb dX5_dueSeat_96 rfl hl (by decide) rfl (fun ls hl => ?_)
              refine lv_iinc (v := nI (i + 1)) (lv' := [(4, .int (nI (i + 1))), (3, .int (nI (cnt (dsP g x' y') (i + 1)))), (5, .int (nI (gT g i))), (0, .ref (b 0)), (1, .int (nI x')), (2, .int (nI y'))]) hx hb dX5_dueSeat_97 hl (k := 2) rfl (kb_inc1 i) (by decide) rfl (fun ls hl => ?_)
              refine lv_goto (tgt := 32) hx hb dX5_dueSeat_100 (by decide) ?_
              exact ih_32 (i + 1) (by omega) (by omega) _ _ hP hD hS _ (lv_sub hl [0, 1, 3, 4, 5] rfl)
            · refine lv_aload_n hx hb dX5_dueSeat_68 rfl (lv_at hl 3 rfl) ?_
              refine lv_iload hx hb dX5_dueSeat_69 (lv_at hl 0 rfl) ?_
              refine lv_iconst (v := nI 0) hx hb dX5_dueSeat_71 (by decide) ?_
              refine kb_vR (As := [.int (nI (gT g i)), .int (nI 0)]) (rest := [.int (nI (cnt (dsP g x' y') i))]) hx hb hml hts hown hN hK hP hD hS hA (c_X5_get l D cI b hL iK tL sP nU iS sN sR lE fI sC v (gT g i) 0 (by omega) (by decide)) gX5_dueSeat_X5_get rfl ⟨rfl, rfl⟩ hdX5_get ⟨Nat.le_of_ble_eq_true rfl, Nat.le_of_ble_eq_true rfl⟩ [0, 1] [0] rfl rfl rfl (ci := 5) rfl rfl rfl rfl rfl hl.1 (Nat.le_of_ble_eq_true rfl) dX5_dueSeat_72 ⟨Nat.zero_le _, Nat.zero_le _⟩ (fun H locs hP hS => ?_)
              refine kb_top (nI (gC g (gT g i))) (hv.f (by omega)).1 ?_
              refine lv_iload_n hx hb dX5_dueSeat_75 rfl (lv_at hl 4 rfl) ?_
              refine kb_icmp_ne (tgt := 94) hx hb dX5_dueSeat_76 (by decide) (by omega) (by omega) (fun c76 => ?_) (fun c76 => ?_)
              · refine lv_iconst (v := nI 0) hx hb dX5_dueSeat_94 (by decide) ?_
                refine lv_iadd hx hb dX5_dueSeat_95 ?_
                refine kb_top (nI (cnt (dsP g x' y') i + 0)) (nI_add (cnt (dsP g x' y') i) 0) ?_
                refine kb_top (nI (cnt (dsP g x' y') (i + 1))) (by rw [cnt_s]; first | rw [if_pos (dsP_t (by omega))] | rw [if_neg (dsP_f (by omega))]) ?_
                refine lv_istore_n (lv' := [(3, .int (nI (cnt (dsP g x' y') (i + 1)))), (5, .int (nI (gT g i))), (4, .int (nI i)), (0, .ref (b 0)), (1, .int (nI x')), (2, .int (nI y'))]) hx hb dX5_dueSeat_96 rfl hl (by decide) rfl (fun ls hl => ?_)
                refine lv_iinc (v := nI (i + 1)) (lv' := [(4, .int (nI (i + 1))), (3, .int (nI (cnt (dsP g x' y') (i + 1)))), (5, .int (nI (gT g i))), (0, .ref (b 0)), (1, .int (nI x')), (2, .int (nI y'))]) hx hb dX5_dueSeat_97 hl (k := 2) rfl (kb_inc1 i) (by decide) rfl (fun ls hl => ?_)
                refine lv_goto (tgt := 32) hx hb dX5_dueSeat_100 (by decide) ?_
                exact ih_32 (i + 1) (by omega) (by omega) _ _ hP hD hS _ (lv_sub hl [0, 1, 3, 4, 5] rfl)
              · refine lv_aload_n hx hb dX5_dueSeat_79 rfl (lv_at hl 3 rfl) ?_
                refine lv_iload hx hb dX5_dueSeat_80 (lv_at hl 0 rfl) ?_
                refine lv_iconst (v := nI 1) hx hb dX5_dueSeat_82 (by decide) ?_
                refine kb_vR (As := [.int (nI (gT g i)), .int (nI 1)]) (rest := [.int (nI (cnt (dsP g x' y') i))]) hx hb hml hts hown hN hK hP hD hS hA (c_X5_get l D cI b hL iK tL sP nU iS sN sR lE fI sC v (gT g i) 1 (by omega) (by decide)) gX5_dueSeat_X5_get rfl ⟨rfl, rfl⟩ hdX5_get ⟨Nat.le_of_ble_eq_true rfl, Nat.le_of_ble_eq_true rfl⟩ [0, 1] [0] rfl rfl rfl (ci := 5) rfl rfl rfl rfl rfl hl.1 (Nat.le_of_ble_eq_true rfl) dX5_dueSeat_83 ⟨Nat.zero_le _, Nat.zero_le _⟩ (fun H locs hP hS => ?_)
                refine kb_top (nI (gA g (gT g i))) (hv.f (by omega)).2.1 ?_
                refine lv_iload_n hx hb dX5_dueSeat_86 rfl (lv_at hl 5 rfl) ?_
                refine kb_icmp_lt (tgt := 94) hx hb dX5_dueSeat_87 (by decide) (by omega) (by omega) (fun c87 => ?_) (fun c87 => ?_)
                · refine lv_iconst (v := nI 0) hx hb dX5_dueSeat_94 (by decide) ?_
                  refine lv_iadd hx hb dX5_dueSeat_95 ?_
                  refine kb_top (nI (cnt (dsP g x' y') i + 0)) (nI_add (cnt (dsP g x' y') i) 0) ?_
                  refine kb_top (nI (cnt (dsP g x' y') (i + 1))) (by rw [cnt_s]; first | rw [if_pos (dsP_t (by omega))] | rw [if_neg (dsP_f (by omega))]) ?_
                  refine lv_istore_n (lv' := [(3, .int (nI (cnt (dsP g x' y') (i + 1)))), (5, .int (nI (gT g i))), (4, .int (nI i)), (0, .ref (b 0)), (1, .int (nI x')), (2, .int (nI y'))]) hx hb dX5_dueSeat_96 rfl hl (by decide) rfl (fun ls hl => ?_)
                  refine lv_iinc (v := nI (i + 1)) (lv' := [(4, .int (nI (i + 1))), (3, .int (nI (cnt (dsP g x' y') (i + 1)))), (5, .int (nI (gT g i))), (0, .ref (b 0)), (1, .int (nI x')), (2, .int (nI y'))]) hx hb dX5_dueSeat_97 hl (k := 2) rfl (kb_inc1 i) (by decide) rfl (fun ls hl => ?_)
                  refine lv_goto (tgt := 32) hx hb dX5_dueSeat_100 (by decide) ?_
                  exact ih_32 (i + 1) (by omega) (by omega) _ _ hP hD hS _ (lv_sub hl [0, 1, 3, 4, 5] rfl)
                · refine lv_iconst (v := nI 1) hx hb dX5_dueSeat_90 (by decide) ?_
                  refine lv_goto (tgt := 95) hx hb dX5_dueSeat_91 (by decide) ?_
                  refine lv_iadd hx hb dX5_dueSeat_95 ?_
                  refine kb_top (nI (cnt (dsP g x' y') i + 1)) (nI_add (cnt (dsP g x' y') i) 1) ?_
                  refine kb_top (nI (cnt (dsP g x' y') (i + 1))) (by rw [cnt_s]; first | rw [if_pos (dsP_t (by omega))] | rw [if_neg (dsP_f (by omega))]) ?_
                  refine lv_istore_n (lv' := [(3, .int (nI (cnt (dsP g x' y') (i + 1)))), (5, .int (nI (gT g i))), (4, .int (nI i)), (0, .ref (b 0)), (1, .int (nI x')), (2, .int (nI y'))]) hx hb dX5_dueSeat_96 rfl hl (by decide) rfl (fun ls hl => ?_)
                  refine lv_iinc (v := nI (i + 1)) (lv' := [(4, .int (nI (i + 1))), (3, .int (nI (cnt (dsP g x' y') (i + 1)))), (5, .int (nI (gT g i))), (0, .ref (b 0)), (1, .int (nI x')), (2, .int (nI y'))]) hx hb dX5_dueSeat_97 hl (k := 2) rfl (kb_inc1 i) (by decide) rfl (fun ls hl => ?_)
                  refine lv_goto (tgt := 32) hx hb dX5_dueSeat_100 (by decide) ?_
                  exact ih_32 (i + 1) (by omega) (by omega) _ _ hP hD hS _ (lv_sub hl [0, 1, 3, 4, 5] rfl)
      exact L_32 ((nT g - 0) + 1) 0 (by omega) (Nat.lt_succ_self _) _ _ hP hD hS _ (lv_sub hl [0, 1, 2, 3, 4] rfl)
    · refine lv_bipush (v := (-2)) hx hb dX5_dueSeat_24 (by decide) ?_
      exact kb_iret (D := D) hQ hx hb hr hlocks hK hP hD hS dX5_dueSeat_26 () rfl (Nat.le_refl _) (Nat.le_refl _) (show (-2) = dsA g x y from (dsA_1 (by first | exact Or.inl c9 | exact Or.inr c21)).symm)
abbrev rmX5_changesNeeded : Room := { frames := 4, cells := 0, slots := 0, locals := 88 }
theorem hdX5_changesNeeded : yX5_changesNeeded.cls = RX5 ∧ yX5_changesNeeded.cls ≠ "java/lang/invoke/MethodHandle" ∧ yX5_changesNeeded.cls ≠ "java/lang/invoke/VarHandle" ∧ (parseMethodDescriptor yX5_changesNeeded.desc).map (fun d => d.parameters.length) = some 0 := by decide +kernel
theorem inwX5_changesNeeded_X5 : ∀ w ∈ wsX50, w ∈ wsX5_changesNeeded := fun w h => List.mem_cons_of_mem _ (List.mem_append_right _ h)
set_option maxHeartbeats 4000000 in
set_option maxRecDepth 100000 in
theorem c_X5_changesNeeded (l : Launch) (D : va_G) (cI : ClassId) (b : Nat → Nat) (hL : Nat) (iK : Int32) (tL : Nat) (sP : Nat) (nU : Int32) (iS : Int32) (sN : Int32) (sR : Int32) (lE : Int32) (fI : Int32) (sC : Int32) (v : Nat → Int32) (g : Sg) (hv : rV v g) (ho : Ok g) (t3 : Nat → Int32) : kb_I (S := (Nat → Int32) × (Nat → Int32)) D [(cI, .int)] l yX5_changesNeeded wsX5_changesNeeded rmX5_changesNeeded [.ref (b 0)] [((b 0), .inr (5, [.ref (b 1), .ref (b 2), .ref (b 3), .ref (b 4), .int (nI hL), .ref (b 5), .int (iK), .ref (b 6), .ref (b 7), .int (nI tL), .int (nI sP), .int (nU), .int (iS), .int (sN), .int (sR), .int (lE), .int (fI), .int (sC)])), ((b 1), .inl (cI, 217, .inl v)), ((b 3), .inl (cI, 217, .inl t3))] (fun (r : Int32) (u : (Nat → Int32) × (Nat → Int32)) => r = nI (wp g) ∧ rV u.1 g) (fun (u : (Nat → Int32) × (Nat → Int32)) => [((b 0), .inr (5, [.ref (b 1), .ref (b 2), .ref (b 3), .ref (b 4), .int (nI hL), .ref (b 5), .int (iK), .ref (b 6), .ref (b 7), .int (nI tL), .int (nI sP), .int (nU), .int (iS), .int (sN), .int (sR), .int (lE), .int (fI), .int (sC)])), ((b 1), .inl (cI, 217, .inl u.1)), ((b 3), .inl (cI, 217, .inl u.2))]) 0 0 := by
  refine kb_I_of (cc := cX5_changesNeeded) (maxL := 3) (ret := (some .int)) (by decide) rfl (Nat.le_of_ble_eq_true rfl) ?_
  intro p e s mm args below meth c A hx hb hml hr hts hown hlocks hnm hA hN hK hP hD hS ls hl Q hQ
  have hl : lv_has ls 3 [(0, .ref (b 0))] := hl
  have hP : va_P D vwCl [((b 0), .inr (5, [.ref (b 1), .ref (b 2), .ref (b 3), .ref (b 4), .int (nI hL), .ref (b 5), .int (iK), .ref (b 6), .ref (b 7), .int (nI tL), .int (nI sP), .int (nU), .int (iS), .int (sN), .int (sR), .int (lE), .int (fI), .int (sC)])), ((b 1), .inl (cI, 217, .inl v)), ((b 3), .inl (cI, 217, .inl t3))] s.heap := hP
  have hD : va_D A [((b 0), .inr (5, [.ref (b 1), .ref (b 2), .ref (b 3), .ref (b 4), .int (nI hL), .ref (b 5), .int (iK), .ref (b 6), .ref (b 7), .int (nI tL), .int (nI sP), .int (nU), .int (iS), .int (sN), .int (sR), .int (lE), .int (fI), .int (sC)])), ((b 1), .inl (cI, 217, .inl v)), ((b 3), .inl (cI, 217, .inl t3))] := hD
  have hn := ho.n
  refine lv_aload_n hx hb dX5_changesNeeded_0 rfl (lv_at hl 0 rfl) ?_
  refine kb_vV (As := []) (rest := []) hx hb hml hts hown hN hK hP hD hS hA (c_X5_tries l D cI b hL iK tL sP nU iS sN sR lE fI sC v t3) gX5_changesNeeded_X5_tries rfl ⟨rfl, rfl⟩ hdX5_tries ⟨Nat.le_of_ble_eq_true rfl, Nat.le_of_ble_eq_true rfl⟩ [0, 1, 2] [0] rfl rfl rfl (ci := 5) rfl rfl rfl (fun _ => rfl) rfl rfl hl.1 (Nat.le_of_ble_eq_true rfl) dX5_changesNeeded_1 ⟨Nat.zero_le _, Nat.zero_le _⟩ (fun u H locs hw_1 hP hD hS => ?_)
  obtain ⟨vo_1, rfl⟩ : ∃ z, z = u := ⟨_, rfl⟩
  have hw_1 : ∀ j, j < 217 → vo_1 j = v j := hw_1
  have hP : va_P D vwCl [((b 0), .inr (5, [.ref (b 1), .ref (b 2), .ref (b 3), .ref (b 4), .int (nI hL), .ref (b 5), .int (iK), .ref (b 6), .ref (b 7), .int (nI tL), .int (nI sP), .int (nU), .int (iS), .int (sN), .int (sR), .int (lE), .int (fI), .int (sC)])), ((b 1), .inl (cI, 217, .inl v)), ((b 3), .inl (cI, 217, .inl vo_1))] H := hP
  have hD : va_D A [((b 0), .inr (5, [.ref (b 1), .ref (b 2), .ref (b 3), .ref (b 4), .int (nI hL), .ref (b 5), .int (iK), .ref (b 6), .ref (b 7), .int (nI tL), .int (nI sP), .int (nU), .int (iS), .int (sN), .int (sR), .int (lE), .int (fI), .int (sC)])), ((b 1), .inl (cI, 217, .inl v)), ((b 3), .inl (cI, 217, .inl vo_1))] := hD
  refine lv_iconst (v := nI 0) hx hb dX5_changesNeeded_4 (by decide) ?_
  refine lv_istore_n (lv' := [(1, .int (nI 0)), (0, .ref (b 0))]) hx hb dX5_changesNeeded_5 rfl hl (by decide) rfl (fun ls hl => ?_)
  refine lv_aload_n hx hb dX5_changesNeeded_6 rfl (lv_at hl 1 rfl) ?_
  refine kb_vR (As := []) (rest := []) hx hb hml hts hown hN hK hP hD hS hA (c_X5_firstWrong l D cI b hL iK tL sP nU iS sN sR lE fI sC v g hv ho) gX5_changesNeeded_X5_firstWrong rfl ⟨rfl, rfl⟩ hdX5_firstWrong ⟨Nat.le_of_ble_eq_true rfl, Nat.le_of_ble_eq_true rfl⟩ [0, 1] [0] rfl rfl rfl (ci := 5) rfl rfl rfl rfl rfl hl.1 (Nat.le_of_ble_eq_true rfl) dX5_changesNeeded_7 ⟨Nat.zero_le _, Nat.zero_le _⟩ (fun H locs hP hS => ?_)
  refine lv_istore_n (lv' := [(2, .int (fwI g)), (1, .int (nI 0)), (0, .ref (b 0))]) hx hb dX5_changesNeeded_10 rfl hl (by decide) rfl (fun ls hl => ?_)
  have L_11 : ∀ (z : Nat) (n : Nat) (h : Sg) (vc : Nat → Int32), (Ok h) → (rV vc h) → (wp h + n = wp g) → (wp h) < z → ∀ (H : Heap) (locs : List Loc), va_P D vwCl [((b 0), .inr (5, [.ref (b 1), .ref (b 2), .ref (b 3), .ref (b 4), .int (nI hL), .ref (b 5), .int (iK), .ref (b 6), .ref (b 7), .int (nI tL), .int (nI sP), .int (nU), .int (iS), .int (sN), .int (sR), .int (lE), .int (fI), .int (sC)])), ((b 1), .inl (cI, 217, .inl vc)), ((b 3), .inl (cI, 217, .inl vo_1))] H → va_D A [((b 0), .inr (5, [.ref (b 1), .ref (b 2), .ref (b 3), .ref (b 4), .int (nI hL), .ref (b 5), .int (iK), .ref (b 6), .ref (b 7), .int (nI tL), .int (nI sP), .int (nU), .int (iS), .int (sN), .int (sR), .int (lE), .int (fI), .int (sC)])), ((b 1), .inl (cI, 217, .inl vc)), ((b 3), .inl (cI, 217, .inl vo_1))] → va_S A s.heap H locs → ∀ ls : Array Slot, lv_has ls 3 [(2, .int (fwI h)), (1, .int (nI n)), (0, .ref (b 0))] → W p l e rmX5_changesNeeded s mm args below meth c H locs 0 0 Q (F0 mm 11 ls []) := by
    intro z
    induction z with
    | zero =>
      intro n h vc _ _ _ hz
      exact absurd hz (Nat.not_lt_zero _)
    | succ z ih_11 =>
      intro n h vc hh hvc hwp hz H locs hP hD hS ls hl
      refine lv_iload_n hx hb dX5_changesNeeded_11 rfl (lv_at hl 0 rfl) ?_
      refine lv_bipush (v := (-5)) hx hb dX5_changesNeeded_12 (by decide) ?_
      refine lv_icmp_eq (tgt := 33) hx hb dX5_changesNeeded_14 (by decide) (fun c14 => ?_) (fun c14 => ?_)
      · refine lv_aload_n hx hb dX5_changesNeeded_33 rfl (lv_at hl 2 rfl) ?_
        refine kb_vV (As := []) (rest := []) hx hb hml hts hown hN hK hP hD hS hA (c_X5_comesBack l D cI b hL iK tL sP nU iS sN sR lE fI sC vo_1 vc) gX5_changesNeeded_X5_comesBack rfl ⟨rfl, rfl⟩ hdX5_comesBack ⟨Nat.le_of_ble_eq_true rfl, Nat.le_of_ble_eq_true rfl⟩ [0, 1, 2] [0] rfl rfl rfl (ci := 5) rfl rfl rfl (fun _ => rfl) rfl rfl hl.1 (Nat.le_of_ble_eq_true rfl) dX5_changesNeeded_34 ⟨Nat.zero_le _, Nat.zero_le _⟩ (fun u H locs hw_34 hP hD hS => ?_)
        obtain ⟨vo_34, rfl⟩ : ∃ z, z = u := ⟨_, rfl⟩
        have hw_34 : ∀ j, j < 217 → vo_34 j = vo_1 j := hw_34
        have hP : va_P D vwCl [((b 0), .inr (5, [.ref (b 1), .ref (b 2), .ref (b 3), .ref (b 4), .int (nI hL), .ref (b 5), .int (iK), .ref (b 6), .ref (b 7), .int (nI tL), .int (nI sP), .int (nU), .int (iS), .int (sN), .int (sR), .int (lE), .int (fI), .int (sC)])), ((b 1), .inl (cI, 217, .inl vo_34)), ((b 3), .inl (cI, 217, .inl vo_1))] H := hP
        have hD : va_D A [((b 0), .inr (5, [.ref (b 1), .ref (b 2), .ref (b 3), .ref (b 4), .int (nI hL), .ref (b 5), .int (iK), .ref (b 6), .ref (b 7), .int (nI tL), .int (nI sP), .int (nU), .int (iS), .int (sN), .int (sR), .int (lE), .int (fI), .int (sC)])), ((b 1), .inl (cI, 217, .inl vo_34)), ((b 3), .inl (cI, 217, .inl vo_1))] := hD
        refine lv_iload_n hx hb dX5_changesNeeded_37 rfl (lv_at hl 1 rfl) ?_
        exact kb_iret (D := D) hQ hx hb hr hlocks hK hP hD hS dX5_changesNeeded_38 (vo_34, vo_1) rfl (Nat.le_refl _) (Nat.le_refl _) (show (nI n) = nI (wp g) ∧ rV vo_34 g from ⟨congrArg nI (by have := wp_no (fwI_n5 hh c14); omega), hv.of (fun j hj => (hw_34 j hj).trans (hw_1 j hj)) hn.2.1 hn.2.2⟩)
      · have hfw := fwI_ex hh c14
        rw [fwI_1 hfw] at hl
        refine lv_aload_n hx hb dX5_changesNeeded_17 rfl (lv_at hl 2 rfl) ?_
        refine lv_iload_n hx hb dX5_changesNeeded_18 rfl (lv_at hl 0 rfl) ?_
        refine kb_vV (As := [.int (nI (fw h))]) (rest := []) hx hb hml hts hown hN hK hP hD hS hA (c_X5_swaps l D cI b hL iK tL sP nU iS sN sR lE fI sC vc (fw h) (by have := hh.n.2.1; omega)) gX5_changesNeeded_X5_swaps rfl ⟨rfl, rfl⟩ hdX5_swaps ⟨Nat.le_of_ble_eq_true rfl, Nat.le_of_ble_eq_true rfl⟩ [0, 1] [0] rfl rfl rfl (ci := 5) rfl rfl rfl (fun _ => rfl) rfl rfl hl.1 (Nat.le_of_ble_eq_true rfl) dX5_changesNeeded_19 ⟨Nat.zero_le _, Nat.zero_le _⟩ (fun u H locs hw_19 hP hD hS => ?_)
        have hw_19 : True := hw_19
        have hP : va_P D vwCl [((b 0), .inr (5, [.ref (b 1), .ref (b 2), .ref (b 3), .ref (b 4), .int (nI hL), .ref (b 5), .int (iK), .ref (b 6), .ref (b 7), .int (nI tL), .int (nI sP), .int (nU), .int (iS), .int (sN), .int (sR), .int (lE), .int (fI), .int (sC)])), ((b 1), .inl (cI, 217, .inl (upd (upd vc (12 + (fw h)) (vc (12 + (fw h) + 1))) (12 + (fw h) + 1) (vc (12 + (fw h)))))), ((b 3), .inl (cI, 217, .inl vo_1))] H := hP
        have hD : va_D A [((b 0), .inr (5, [.ref (b 1), .ref (b 2), .ref (b 3), .ref (b 4), .int (nI hL), .ref (b 5), .int (iK), .ref (b 6), .ref (b 7), .int (nI tL), .int (nI sP), .int (nU), .int (iS), .int (sN), .int (sR), .int (lE), .int (fI), .int (sC)])), ((b 1), .inl (cI, 217, .inl (upd (upd vc (12 + (fw h)) (vc (12 + (fw h) + 1))) (12 + (fw h) + 1) (vc (12 + (fw h)))))), ((b 3), .inl (cI, 217, .inl vo_1))] := hD
        refine lv_iinc (v := nI (n + 1)) (lv' := [(1, .int (nI (n + 1))), (2, .int (nI (fw h))), (0, .ref (b 0))]) hx hb dX5_changesNeeded_22 hl (k := 1) rfl (kb_inc1 n) (by decide) rfl (fun ls hl => ?_)
        refine lv_aload_n hx hb dX5_changesNeeded_25 rfl (lv_at hl 2 rfl) ?_
        refine kb_vR (As := []) (rest := []) hx hb hml hts hown hN hK hP hD hS hA (c_X5_firstWrong l D cI b hL iK tL sP nU iS sN sR lE fI sC (upd (upd vc (12 + (fw h)) (vc (12 + (fw h) + 1))) (12 + (fw h) + 1) (vc (12 + (fw h)))) (uC (oSw h (fw h)) (gc h 10)) (rV_swN hvc (by omega) hh.n.2.1 hh.n.2.2) (uC_ok (oSw_ok hh (by omega)))) gX5_changesNeeded_X5_firstWrong rfl ⟨rfl, rfl⟩ hdX5_firstWrong ⟨Nat.le_of_ble_eq_true rfl, Nat.le_of_ble_eq_true rfl⟩ [0, 1] [0] rfl rfl rfl (ci := 5) rfl rfl rfl rfl rfl hl.1 (Nat.le_of_ble_eq_true rfl) dX5_changesNeeded_26 ⟨Nat.zero_le _, Nat.zero_le _⟩ (fun H locs hP hS => ?_)
        refine lv_istore_n (lv' := [(2, .int (fwI (uC (oSw h (fw h)) (gc h 10)))), (1, .int (nI (n + 1))), (0, .ref (b 0))]) hx hb dX5_changesNeeded_29 rfl hl (by decide) rfl (fun ls hl => ?_)
        refine lv_goto (tgt := 11) hx hb dX5_changesNeeded_30 (by decide) ?_
        exact ih_11 (n + 1) (uC (oSw h (fw h)) (gc h 10)) (upd (upd vc (12 + (fw h)) (vc (12 + (fw h) + 1))) (12 + (fw h) + 1) (vc (12 + (fw h)))) (uC_ok (oSw_ok hh (by omega))) (rV_swN hvc (by omega) hh.n.2.1 hh.n.2.2) (by have q1 := wp_sw hfw; rw [uC_wp]; omega) (by have q1 := wp_sw hfw; rw [uC_wp]; omega) _ _ hP hD hS _ (lv_sub hl [0, 1, 2] rfl)
  exact L_11 ((wp g) + 1) 0 g v ho hv rfl (Nat.lt_succ_self _) _ _ hP hD hS _ (lv_sub hl [0, 1, 2] rfl)
abbrev rmX5_ifRounds : Room := { frames := 6, cells := 0, slots := 0, locals := 131 }
theorem hdX5_ifRounds : yX5_ifRounds.cls = RX5 ∧ yX5_ifRounds.cls ≠ "java/lang/invoke/MethodHandle" ∧ yX5_ifRounds.cls ≠ "java/lang/invoke/VarHandle" ∧ (parseMethodDescriptor yX5_ifRounds.desc).map (fun d => d.parameters.length) = some 1 := by decide +kernel
theorem inwX5_ifRounds_X5 : ∀ w ∈ wsX50, w ∈ wsX5_ifRounds := fun w h => List.mem_cons_of_mem _ (List.mem_append_right _ h)
set_option maxHeartbeats 4000000 in
set_option maxRecDepth 100000 in
theorem c_X5_ifRounds (l : Launch) (D : va_G) (cI : ClassId) (b : Nat → Nat) (hL : Nat) (iK : Int32) (tL : Nat) (sP : Nat) (nU : Int32) (iS : Int32) (sN : Int32) (sR : Int32) (lE : Int32) (fI : Int32) (sC : Int32) (v : Nat → Int32) (g : Sg) (hv : rV v g) (ho : Ok g) (t3 : Nat → Int32) (lf : Nat → Int32) (x : Int32) : kb_I (S := (Nat → Int32) × (Nat → Int32) × (Nat → Int32)) D [(cI, .int)] l yX5_ifRounds wsX5_ifRounds rmX5_ifRounds [.ref (b 0), .int (x)] [((b 0), .inr (5, [.ref (b 1), .ref (b 2), .ref (b 3), .ref (b 4), .int (nI hL), .ref (b 5), .int (iK), .ref (b 6), .ref (b 7), .int (nI tL), .int (nI sP), .int (nU), .int (iS), .int (sN), .int (sR), .int (lE), .int (fI), .int (sC)])), ((b 1), .inl (cI, 217, .inl v)), ((b 3), .inl (cI, 217, .inl t3)), ((b 6), .inl (cI, 12, .inl lf))] (fun (r : Int32) (u : (Nat → Int32) × (Nat → Int32) × (Nat → Int32)) => r = irA g x ∧ rV u.1 g) (fun (u : (Nat → Int32) × (Nat → Int32) × (Nat → Int32)) => [((b 0), .inr (5, [.ref (b 1), .ref (b 2), .ref (b 3), .ref (b 4), .int (nI hL), .ref (b 5), .int (iK), .ref (b 6), .ref (b 7), .int (nI tL), .int (nI sP), .int (nU), .int (iS), .int (sN), .int (sR), .int (lE), .int (fI), .int (sC)])), ((b 1), .inl (cI, 217, .inl u.1)), ((b 3), .inl (cI, 217, .inl u.2.1)), ((b 6), .inl (cI, 12, .inl u.2.2))]) 0 0 := by
  refine kb_I_of (cc := cX5_ifRounds) (maxL := 4) (ret := (some .int)) (by decide) rfl (Nat.le_of_ble_eq_true rfl) ?_
  intro p e s mm args below meth c A hx hb hml hr hts hown hlocks hnm hA hN hK hP hD hS ls hl Q hQ
  have hl : lv_has ls 4 [(0, .ref (b 0)), (1, .int (x))] := hl
  have hP : va_P D vwCl [((b 0), .inr (5, [.ref (b 1), .ref (b 2), .ref (b 3), .ref (b 4), .int (nI hL), .ref (b 5), .int (iK), .ref (b 6), .ref (b 7), .int (nI tL), .int (nI sP), .int (nU), .int (iS), .int (sN), .int (sR), .int (lE), .int (fI), .int (sC)])), ((b 1), .inl (cI, 217, .inl v)), ((b 3), .inl (cI, 217, .inl t3)), ((b 6), .inl (cI, 12, .inl lf))] s.heap := hP
  have hD : va_D A [((b 0), .inr (5, [.ref (b 1), .ref (b 2), .ref (b 3), .ref (b 4), .int (nI hL), .ref (b 5), .int (iK), .ref (b 6), .ref (b 7), .int (nI tL), .int (nI sP), .int (nU), .int (iS), .int (sN), .int (sR), .int (lE), .int (fI), .int (sC)])), ((b 1), .inl (cI, 217, .inl v)), ((b 3), .inl (cI, 217, .inl t3)), ((b 6), .inl (cI, 12, .inl lf))] := hD
  have hn := ho.n
  refine lv_iload_n hx hb dX5_ifRounds_0 rfl (lv_at hl 1 rfl) ?_
  refine lv_i2l (v := (x).toInt64) hx hb dX5_ifRounds_1 rfl ?_
  refine lv_lconst (v := lN 1) hx hb dX5_ifRounds_2 (by decide) ?_
  refine lv_ldc2 (v := 30) hx hb hown (hts (.constantLong RX5 203 (30)) (by decide +kernel)) dX5_ifRounds_3 ?_
  refine kb_topl (lN 30) (by decide) ?_
  refine kb_sR (As := [.long ((x).toInt64), .long (lN 1), .long (lN 30)]) (rest := []) hx hb hml hts hown hN hK hP hD hS hA (c_X5_in l D ((x).toInt64) (lN 1) (lN 30)) gX5_ifRounds_X5_in rfl ⟨rfl, rfl⟩ hdX5_in.2 ⟨Nat.le_of_ble_eq_true rfl, Nat.le_of_ble_eq_true rfl⟩ [] [] rfl rfl rfl rfl rfl hl.1 (Nat.le_of_ble_eq_true rfl) dX5_ifRounds_6 ⟨Nat.zero_le _, Nat.zero_le _⟩ (fun H locs hP hS => ?_)
  refine kb_top (kb_b (isIn x 1 30)) (congrArg kb_b (inL_c (by decide) (by decide))) ?_
  refine kb_bif_ne (tgt := 15) hx hb dX5_ifRounds_9 (by decide) (fun c9 => ?_) (fun c9 => ?_)
  · obtain ⟨j, hj1, hj9, rfl⟩ := isIn_ex (by decide) (by decide) c9
    refine lv_aload_n hx hb dX5_ifRounds_15 rfl (lv_at hl 0 rfl) ?_
    refine kb_vV (As := []) (rest := []) hx hb hml hts hown hN hK hP hD hS hA (c_X5_tries l D cI b hL iK tL sP nU iS sN sR lE fI sC v t3) gX5_ifRounds_X5_tries rfl ⟨rfl, rfl⟩ hdX5_tries ⟨Nat.le_of_ble_eq_true rfl, Nat.le_of_ble_eq_true rfl⟩ [0, 1, 2] [0] rfl rfl rfl (ci := 5) rfl rfl rfl (fun _ => rfl) rfl rfl hl.1 (Nat.le_of_ble_eq_true rfl) dX5_ifRounds_16 ⟨Nat.zero_le _, Nat.zero_le _⟩ (fun u H locs hw_16 hP hD hS => ?_)
    obtain ⟨vo_16, rfl⟩ : ∃ z, z = u := ⟨_, rfl⟩
    have hw_16 : ∀ j, j < 217 → vo_16 j = v j := hw_16
    have hP : va_P D vwCl [((b 0), .inr (5, [.ref (b 1), .ref (b 2), .ref (b 3), .ref (b 4), .int (nI hL), .ref (b 5), .int (iK), .ref (b 6), .ref (b 7), .int (nI tL), .int (nI sP), .int (nU), .int (iS), .int (sN), .int (sR), .int (lE), .int (fI), .int (sC)])), ((b 1), .inl (cI, 217, .inl v)), ((b 3), .inl (cI, 217, .inl vo_16)), ((b 6), .inl (cI, 12, .inl lf))] H := hP
    have hD : va_D A [((b 0), .inr (5, [.ref (b 1), .ref (b 2), .ref (b 3), .ref (b 4), .int (nI hL), .ref (b 5), .int (iK), .ref (b 6), .ref (b 7), .int (nI tL), .int (nI sP), .int (nU), .int (iS), .int (sN), .int (sR), .int (lE), .int (fI), .int (sC)])), ((b 1), .inl (cI, 217, .inl v)), ((b 3), .inl (cI, 217, .inl vo_16)), ((b 6), .inl (cI, 12, .inl lf))] := hD
    refine lv_iconst (v := nI 0) hx hb dX5_ifRounds_19 (by decide) ?_
    refine lv_istore_n (lv' := [(2, .int (nI 0)), (0, .ref (b 0)), (1, .int (nI j))]) hx hb dX5_ifRounds_20 rfl hl (by decide) rfl (fun ls hl => ?_)
    refine lv_iconst (v := nI 0) hx hb dX5_ifRounds_21 (by decide) ?_
    refine lv_istore_n (lv' := [(3, .int (nI 0)), (2, .int (nI 0)), (0, .ref (b 0)), (1, .int (nI j))]) hx hb dX5_ifRounds_22 rfl hl (by decide) rfl (fun ls hl => ?_)
    have L_23 : ∀ (z : Nat) (i : Nat) (nn : Int32) (h : Sg) (vc : Nat → Int32) (lc : Nat → Int32), (i ≤ j) → (Ok h) → (rV vc h) → (rdN j g = rdN (j - i) h) → (nn = gc h 6 - gc g 6) → (j - i) < z → ∀ (H : Heap) (locs : List Loc), va_P D vwCl [((b 0), .inr (5, [.ref (b 1), .ref (b 2), .ref (b 3), .ref (b 4), .int (nI hL), .ref (b 5), .int (iK), .ref (b 6), .ref (b 7), .int (nI tL), .int (nI sP), .int (nU), .int (iS), .int (sN), .int (sR), .int (lE), .int (fI), .int (sC)])), ((b 1), .inl (cI, 217, .inl vc)), ((b 3), .inl (cI, 217, .inl vo_16)), ((b 6), .inl (cI, 12, .inl lc))] H → va_D A [((b 0), .inr (5, [.ref (b 1), .ref (b 2), .ref (b 3), .ref (b 4), .int (nI hL), .ref (b 5), .int (iK), .ref (b 6), .ref (b 7), .int (nI tL), .int (nI sP), .int (nU), .int (iS), .int (sN), .int (sR), .int (lE), .int (fI), .int (sC)])), ((b 1), .inl (cI, 217, .inl vc)), ((b 3), .inl (cI, 217, .inl vo_16)), ((b 6), .inl (cI, 12, .inl lc))] → va_S A s.heap H locs → ∀ ls : Array Slot, lv_has ls 4 [(3, .int (nI i)), (2, .int (nn)), (0, .ref (b 0)), (1, .int (nI j))] → W p l e rmX5_ifRounds s mm args below meth c H locs 0 0 Q (F0 mm 23 ls []) := by
      intro z
      induction z with
      | zero =>
        intro i nn h vc lc _ _ _ _ _ hz
        exact absurd hz (Nat.not_lt_zero _)
      | succ z ih_23 =>
        intro i nn h vc lc hi hh hvc he hnn hz H locs hP hD hS ls hl
        refine lv_iload_n hx hb dX5_ifRounds_23 rfl (lv_at hl 0 rfl) ?_
        refine lv_iload_n hx hb dX5_ifRounds_24 rfl (lv_at hl 3 rfl) ?_
        refine kb_icmp_ge (tgt := 41) hx hb dX5_ifRounds_25 (by decide) (by omega) (by omega) (fun c25 => ?_) (fun c25 => ?_)
        · refine lv_aload_n hx hb dX5_ifRounds_41 rfl (lv_at hl 2 rfl) ?_
          refine kb_vV (As := []) (rest := []) hx hb hml hts hown hN hK hP hD hS hA (c_X5_comesBack l D cI b hL iK tL sP nU iS sN sR lE fI sC vo_16 vc) gX5_ifRounds_X5_comesBack rfl ⟨rfl, rfl⟩ hdX5_comesBack ⟨Nat.le_of_ble_eq_true rfl, Nat.le_of_ble_eq_true rfl⟩ [0, 1, 2] [0] rfl rfl rfl (ci := 5) rfl rfl rfl (fun _ => rfl) rfl rfl hl.1 (Nat.le_of_ble_eq_true rfl) dX5_ifRounds_42 ⟨Nat.zero_le _, Nat.zero_le _⟩ (fun u H locs hw_42 hP hD hS => ?_)
          obtain ⟨vo_42, rfl⟩ : ∃ z, z = u := ⟨_, rfl⟩
          have hw_42 : ∀ j, j < 217 → vo_42 j = vo_16 j := hw_42
          have hP : va_P D vwCl [((b 0), .inr (5, [.ref (b 1), .ref (b 2), .ref (b 3), .ref (b 4), .int (nI hL), .ref (b 5), .int (iK), .ref (b 6), .ref (b 7), .int (nI tL), .int (nI sP), .int (nU), .int (iS), .int (sN), .int (sR), .int (lE), .int (fI), .int (sC)])), ((b 1), .inl (cI, 217, .inl vo_42)), ((b 3), .inl (cI, 217, .inl vo_16)), ((b 6), .inl (cI, 12, .inl lc))] H := hP
          have hD : va_D A [((b 0), .inr (5, [.ref (b 1), .ref (b 2), .ref (b 3), .ref (b 4), .int (nI hL), .ref (b 5), .int (iK), .ref (b 6), .ref (b 7), .int (nI tL), .int (nI sP), .int (nU), .int (iS), .int (sN), .int (sR), .int (lE), .int (fI), .int (sC)])), ((b 1), .inl (cI, 217, .inl vo_42)), ((b 3), .inl (cI, 217, .inl vo_16)), ((b 6), .inl (cI, 12, .inl lc))] := hD
          refine lv_iload_n hx hb dX5_ifRounds_45 rfl (lv_at hl 1 rfl) ?_
          exact kb_iret (D := D) hQ hx hb hr hlocks hK hP hD hS dX5_ifRounds_46 (vo_42, vo_16, lc) rfl (Nat.le_refl _) (Nat.le_refl _) (show nn = irA g (nI j) ∧ rV vo_42 g from ⟨by rw [irA_2 (by omega) (by omega), he, show j - i = 0 by omega]; exact hnn, hv.of (fun j hj => (hw_42 j hj).trans (hw_16 j hj)) hn.2.1 hn.2.2⟩)
        · refine lv_iload_n hx hb dX5_ifRounds_28 rfl (lv_at hl 1 rfl) ?_
          refine lv_aload_n hx hb dX5_ifRounds_29 rfl (lv_at hl 2 rfl) ?_
          refine kb_vI (As := []) (rest := [.int (nn)]) hx hb hml hts hown hN hK hP hD hS hA (c_X5_rounds l D cI b hL iK tL sP nU iS sN sR lE fI sC vc h hvc hh lc) gX5_ifRounds_X5_rounds rfl ⟨rfl, rfl⟩ hdX5_rounds ⟨Nat.le_of_ble_eq_true rfl, Nat.le_of_ble_eq_true rfl⟩ [0, 1, 3] [0] rfl rfl rfl (ci := 5) rfl rfl rfl (fun _ => rfl) rfl rfl hl.1 (Nat.le_of_ble_eq_true rfl) dX5_ifRounds_30 ⟨Nat.zero_le _, Nat.zero_le _⟩ (fun r_30 u H locs hw_30 hP hD hS => ?_)
          obtain ⟨vo_30, lo_30⟩ := u
          have hw_30 : rV vo_30 (oRnd h) ∧ gc (oRnd h) 6 = gc h 6 + r_30 := hw_30
          have hP : va_P D vwCl [((b 0), .inr (5, [.ref (b 1), .ref (b 2), .ref (b 3), .ref (b 4), .int (nI hL), .ref (b 5), .int (iK), .ref (b 6), .ref (b 7), .int (nI tL), .int (nI sP), .int (nU), .int (iS), .int (sN), .int (sR), .int (lE), .int (fI), .int (sC)])), ((b 1), .inl (cI, 217, .inl vo_30)), ((b 3), .inl (cI, 217, .inl vo_16)), ((b 6), .inl (cI, 12, .inl lo_30))] H := hP
          have hD : va_D A [((b 0), .inr (5, [.ref (b 1), .ref (b 2), .ref (b 3), .ref (b 4), .int (nI hL), .ref (b 5), .int (iK), .ref (b 6), .ref (b 7), .int (nI tL), .int (nI sP), .int (nU), .int (iS), .int (sN), .int (sR), .int (lE), .int (fI), .int (sC)])), ((b 1), .inl (cI, 217, .inl vo_30)), ((b 3), .inl (cI, 217, .inl vo_16)), ((b 6), .inl (cI, 12, .inl lo_30))] := hD
          refine lv_iadd hx hb dX5_ifRounds_33 ?_
          refine lv_istore_n (lv' := [(2, .int (nn + r_30)), (3, .int (nI i)), (0, .ref (b 0)), (1, .int (nI j))]) hx hb dX5_ifRounds_34 rfl hl (by decide) rfl (fun ls hl => ?_)
          refine lv_iinc (v := nI (i + 1)) (lv' := [(3, .int (nI (i + 1))), (2, .int (nn + r_30)), (0, .ref (b 0)), (1, .int (nI j))]) hx hb dX5_ifRounds_35 hl (k := 1) rfl (kb_inc1 i) (by decide) rfl (fun ls hl => ?_)
          refine lv_goto (tgt := 23) hx hb dX5_ifRounds_38 (by decide) ?_
          exact ih_23 (i + 1) (nn + r_30) (oRnd h) vo_30 lo_30 (by omega) (oRnd_ok hh) hw_30.1 (by rw [he, show j - i = j - (i + 1) + 1 by omega]; rfl) (by rw [hnn, hw_30.2, i32_sr]) (by omega) _ _ hP hD hS _ (lv_sub hl [0, 1, 2, 3] rfl)
    exact L_23 ((j - 0) + 1) 0 (nI 0) g v lf (by omega) ho hv rfl (Int32.sub_self _).symm (Nat.lt_succ_self _) _ _ hP hD hS _ (lv_sub hl [0, 1, 2, 3] rfl)
  · refine lv_bipush (v := (-2)) hx hb dX5_ifRounds_12 (by decide) ?_
    exact kb_iret (D := D) hQ hx hb hr hlocks hK hP hD hS dX5_ifRounds_14 (v, t3, lf) rfl (Nat.le_refl _) (Nat.le_refl _) (show (-2) = irA g x ∧ rV v g from ⟨(irA_1 c9).symm, hv⟩)
abbrev rmX5_dueIn : Room := { frames := 5, cells := 0, slots := 0, locals := 110 }
theorem hdX5_dueIn : yX5_dueIn.cls = RX5 ∧ yX5_dueIn.cls ≠ "java/lang/invoke/MethodHandle" ∧ yX5_dueIn.cls ≠ "java/lang/invoke/VarHandle" ∧ (parseMethodDescriptor yX5_dueIn.desc).map (fun d => d.parameters.length) = some 1 := by decide +kernel
theorem inwX5_dueIn_X5 : ∀ w ∈ wsX50, w ∈ wsX5_dueIn := fun w h => List.mem_cons_of_mem _ (List.mem_append_right _ h)
set_option maxHeartbeats 4000000 in
set_option maxRecDepth 100000 in
theorem c_X5_dueIn (l : Launch) (D : va_G) (cI : ClassId) (b : Nat → Nat) (hL : Nat) (iK : Int32) (tL : Nat) (sP : Nat) (nU : Int32) (iS : Int32) (sN : Int32) (sR : Int32) (lE : Int32) (fI : Int32) (sC : Int32) (v : Nat → Int32) (g : Sg) (hv : rV v g) (ho : Ok g) (t3 : Nat → Int32) (x : Int32) : kb_I (S := (Nat → Int32) × (Nat → Int32)) D [(cI, .int)] l yX5_dueIn wsX5_dueIn rmX5_dueIn [.ref (b 0), .int (x)] [((b 0), .inr (5, [.ref (b 1), .ref (b 2), .ref (b 3), .ref (b 4), .int (nI hL), .ref (b 5), .int (iK), .ref (b 6), .ref (b 7), .int (nI tL), .int (nI sP), .int (nU), .int (iS), .int (sN), .int (sR), .int (lE), .int (fI), .int (sC)])), ((b 1), .inl (cI, 217, .inl v)), ((b 3), .inl (cI, 217, .inl t3))] (fun (r : Int32) (u : (Nat → Int32) × (Nat → Int32)) => r = diA g x ∧ rV u.1 g) (fun (u : (Nat → Int32) × (Nat → Int32)) => [((b 0), .inr (5, [.ref (b 1), .ref (b 2), .ref (b 3), .ref (b 4), .int (nI hL), .ref (b 5), .int (iK), .ref (b 6), .ref (b 7), .int (nI tL), .int (nI sP), .int (nU), .int (iS), .int (sN), .int (sR), .int (lE), .int (fI), .int (sC)])), ((b 1), .inl (cI, 217, .inl u.1)), ((b 3), .inl (cI, 217, .inl u.2))]) 0 0 := by
  refine kb_I_of (cc := cX5_dueIn) (maxL := 3) (ret := (some .int)) (by decide) rfl (Nat.le_of_ble_eq_true rfl) ?_
  intro p e s mm args below meth c A hx hb hml hr hts hown hlocks hnm hA hN hK hP hD hS ls hl Q hQ
  have hl : lv_has ls 3 [(0, .ref (b 0)), (1, .int (x))] := hl
  have hP : va_P D vwCl [((b 0), .inr (5, [.ref (b 1), .ref (b 2), .ref (b 3), .ref (b 4), .int (nI hL), .ref (b 5), .int (iK), .ref (b 6), .ref (b 7), .int (nI tL), .int (nI sP), .int (nU), .int (iS), .int (sN), .int (sR), .int (lE), .int (fI), .int (sC)])), ((b 1), .inl (cI, 217, .inl v)), ((b 3), .inl (cI, 217, .inl t3))] s.heap := hP
  have hD : va_D A [((b 0), .inr (5, [.ref (b 1), .ref (b 2), .ref (b 3), .ref (b 4), .int (nI hL), .ref (b 5), .int (iK), .ref (b 6), .ref (b 7), .int (nI tL), .int (nI sP), .int (nU), .int (iS), .int (sN), .int (sR), .int (lE), .int (fI), .int (sC)])), ((b 1), .inl (cI, 217, .inl v)), ((b 3), .inl (cI, 217, .inl t3))] := hD
  have hn := ho.n
  obtain ⟨ev, hev, hev9⟩ := ho.c2
  refine lv_aload_n hx hb dX5_dueIn_0 rfl (lv_at hl 0 rfl) ?_
  refine lv_iload_n hx hb dX5_dueIn_1 rfl (lv_at hl 1 rfl) ?_
  refine kb_vR (As := [.int (x)]) (rest := []) hx hb hml hts hown hN hK hP hD hS hA (c_X5_isKing l D cI b hL iK tL sP nU iS sN sR lE fI sC v g hv ho x) gX5_dueIn_X5_isKing rfl ⟨rfl, rfl⟩ hdX5_isKing ⟨Nat.le_of_ble_eq_true rfl, Nat.le_of_ble_eq_true rfl⟩ [0, 1] [0] rfl rfl rfl (ci := 5) rfl rfl rfl rfl rfl hl.1 (Nat.le_of_ble_eq_true rfl) dX5_dueIn_2 ⟨Nat.zero_le _, Nat.zero_le _⟩ (fun H locs hP hS => ?_)
  refine kb_bif_ne (tgt := 10) hx hb dX5_dueIn_5 (by decide) (fun c5 => ?_) (fun c5 => ?_)
  · obtain ⟨k, hk, rfl⟩ := kIs_ex c5 (by omega)
    have hpk := plT_le g k
    refine lv_aload_n hx hb dX5_dueIn_10 rfl (lv_at hl 0 rfl) ?_
    refine lv_iload_n hx hb dX5_dueIn_11 rfl (lv_at hl 1 rfl) ?_
    refine kb_vR (As := [.int (nI k)]) (rest := []) hx hb hml hts hown hN hK hP hD hS hA (c_X5_seatOf l D cI b hL iK tL sP nU iS sN sR lE fI sC v g hv ho k (by omega)) gX5_dueIn_X5_seatOf rfl ⟨rfl, rfl⟩ hdX5_seatOf ⟨Nat.le_of_ble_eq_true rfl, Nat.le_of_ble_eq_true rfl⟩ [0, 1] [0] rfl rfl rfl (ci := 5) rfl rfl rfl rfl rfl hl.1 (Nat.le_of_ble_eq_true rfl) dX5_dueIn_12 ⟨Nat.zero_le _, Nat.zero_le _⟩ (fun H locs hP hS => ?_)
    refine lv_bipush (v := (-5)) hx hb dX5_dueIn_15 (by decide) ?_
    refine lv_icmp_ne (tgt := 23) hx hb dX5_dueIn_17 (by decide) (fun c17 => ?_) (fun c17 => ?_)
    · have hd0 : gD g k = 2 := (plT_lt ho hk).mp (oI_n5 c17)
      refine lv_aload_n hx hb dX5_dueIn_23 rfl (lv_at hl 0 rfl) ?_
      refine kb_vV (As := []) (rest := []) hx hb hml hts hown hN hK hP hD hS hA (c_X5_tries l D cI b hL iK tL sP nU iS sN sR lE fI sC v t3) gX5_dueIn_X5_tries rfl ⟨rfl, rfl⟩ hdX5_tries ⟨Nat.le_of_ble_eq_true rfl, Nat.le_of_ble_eq_true rfl⟩ [0, 1, 2] [0] rfl rfl rfl (ci := 5) rfl rfl rfl (fun _ => rfl) rfl rfl hl.1 (Nat.le_of_ble_eq_true rfl) dX5_dueIn_24 ⟨Nat.zero_le _, Nat.zero_le _⟩ (fun u H locs hw_24 hP hD hS => ?_)
      obtain ⟨vo_24, rfl⟩ : ∃ z, z = u := ⟨_, rfl⟩
      have hw_24 : ∀ j, j < 217 → vo_24 j = v j := hw_24
      have hP : va_P D vwCl [((b 0), .inr (5, [.ref (b 1), .ref (b 2), .ref (b 3), .ref (b 4), .int (nI hL), .ref (b 5), .int (iK), .ref (b 6), .ref (b 7), .int (nI tL), .int (nI sP), .int (nU), .int (iS), .int (sN), .int (sR), .int (lE), .int (fI), .int (sC)])), ((b 1), .inl (cI, 217, .inl v)), ((b 3), .inl (cI, 217, .inl vo_24))] H := hP
      have hD : va_D A [((b 0), .inr (5, [.ref (b 1), .ref (b 2), .ref (b 3), .ref (b 4), .int (nI hL), .ref (b 5), .int (iK), .ref (b 6), .ref (b 7), .int (nI tL), .int (nI sP), .int (nU), .int (iS), .int (sN), .int (sR), .int (lE), .int (fI), .int (sC)])), ((b 1), .inl (cI, 217, .inl v)), ((b 3), .inl (cI, 217, .inl vo_24))] := hD
      refine lv_iconst (v := nI 0) hx hb dX5_dueIn_27 (by decide) ?_
      refine lv_istore_n (lv' := [(2, .int (nI 0)), (0, .ref (b 0)), (1, .int (nI k))]) hx hb dX5_dueIn_28 rfl hl (by decide) rfl (fun ls hl => ?_)
      have L_29 : ∀ (z : Nat) (i : Nat) (h : Sg) (vc : Nat → Int32), (i ≤ 101) → (Ok h) → (rV vc h) → (nK h = nK g) → (gD h k = 2) → (gc h 2 = nI ev) → (dI 101 0 g k = dI (101 - i) i h k) → (101 - i) < z → ∀ (H : Heap) (locs : List Loc), va_P D vwCl [((b 0), .inr (5, [.ref (b 1), .ref (b 2), .ref (b 3), .ref (b 4), .int (nI hL), .ref (b 5), .int (iK), .ref (b 6), .ref (b 7), .int (nI tL), .int (nI sP), .int (nU), .int (iS), .int (sN), .int (sR), .int (lE), .int (fI), .int (sC)])), ((b 1), .inl (cI, 217, .inl vc)), ((b 3), .inl (cI, 217, .inl vo_24))] H → va_D A [((b 0), .inr (5, [.ref (b 1), .ref (b 2), .ref (b 3), .ref (b 4), .int (nI hL), .ref (b 5), .int (iK), .ref (b 6), .ref (b 7), .int (nI tL), .int (nI sP), .int (nU), .int (iS), .int (sN), .int (sR), .int (lE), .int (fI), .int (sC)])), ((b 1), .inl (cI, 217, .inl vc)), ((b 3), .inl (cI, 217, .inl vo_24))] → va_S A s.heap H locs → ∀ ls : Array Slot, lv_has ls 3 [(2, .int (nI i)), (0, .ref (b 0)), (1, .int (nI k))] → W p l e rmX5_dueIn s mm args below meth c H locs 0 0 Q (F0 mm 29 ls []) := by
        intro z
        induction z with
        | zero =>
          intro i h vc _ _ _ _ _ _ _ hz
          exact absurd hz (Nat.not_lt_zero _)
        | succ z ih_29 =>
          intro i h vc hi hh hvc hnK hd2 hg2 he hz H locs hP hD hS ls hl
          refine lv_iload_n hx hb dX5_dueIn_29 rfl (lv_at hl 0 rfl) ?_
          refine lv_bipush (v := nI 100) hx hb dX5_dueIn_30 (by decide) ?_
          refine kb_icmp_gt (tgt := 57) hx hb dX5_dueIn_32 (by decide) (by omega) (by omega) (fun c32 => ?_) (fun c32 => ?_)
          · refine lv_aload_n hx hb dX5_dueIn_57 rfl (lv_at hl 1 rfl) ?_
            refine kb_vV (As := []) (rest := []) hx hb hml hts hown hN hK hP hD hS hA (c_X5_comesBack l D cI b hL iK tL sP nU iS sN sR lE fI sC vo_24 vc) gX5_dueIn_X5_comesBack rfl ⟨rfl, rfl⟩ hdX5_comesBack ⟨Nat.le_of_ble_eq_true rfl, Nat.le_of_ble_eq_true rfl⟩ [0, 1, 2] [0] rfl rfl rfl (ci := 5) rfl rfl rfl (fun _ => rfl) rfl rfl hl.1 (Nat.le_of_ble_eq_true rfl) dX5_dueIn_58 ⟨Nat.zero_le _, Nat.zero_le _⟩ (fun u H locs hw_58 hP hD hS => ?_)
            obtain ⟨vo_58, rfl⟩ : ∃ z, z = u := ⟨_, rfl⟩
            have hw_58 : ∀ j, j < 217 → vo_58 j = vo_24 j := hw_58
            have hP : va_P D vwCl [((b 0), .inr (5, [.ref (b 1), .ref (b 2), .ref (b 3), .ref (b 4), .int (nI hL), .ref (b 5), .int (iK), .ref (b 6), .ref (b 7), .int (nI tL), .int (nI sP), .int (nU), .int (iS), .int (sN), .int (sR), .int (lE), .int (fI), .int (sC)])), ((b 1), .inl (cI, 217, .inl vo_58)), ((b 3), .inl (cI, 217, .inl vo_24))] H := hP
            have hD : va_D A [((b 0), .inr (5, [.ref (b 1), .ref (b 2), .ref (b 3), .ref (b 4), .int (nI hL), .ref (b 5), .int (iK), .ref (b 6), .ref (b 7), .int (nI tL), .int (nI sP), .int (nU), .int (iS), .int (sN), .int (sR), .int (lE), .int (fI), .int (sC)])), ((b 1), .inl (cI, 217, .inl vo_58)), ((b 3), .inl (cI, 217, .inl vo_24))] := hD
            refine lv_iload_n hx hb dX5_dueIn_61 rfl (lv_at hl 0 rfl) ?_
            refine lv_bipush (v := nI 100) hx hb dX5_dueIn_62 (by decide) ?_
            refine kb_icmp_le (tgt := 72) hx hb dX5_dueIn_64 (by decide) (by omega) (by omega) (fun c64 => ?_) (fun c64 => ?_)
            · exfalso; omega
            · refine lv_bipush (v := (-5)) hx hb dX5_dueIn_67 (by decide) ?_
              refine lv_goto (tgt := 73) hx hb dX5_dueIn_69 (by decide) ?_
              exact kb_iret (D := D) hQ hx hb hr hlocks hK hP hD hS dX5_dueIn_73 (vo_58, vo_24) rfl (Nat.le_refl _) (Nat.le_refl _) (show (-5) = diA g (nI k) ∧ rV vo_58 g from ⟨by rw [diA_d c5 (by omega) hd0, he, show 101 - i = 0 by omega]; rfl, hv.of (fun j hj => (hw_58 j hj).trans (hw_24 j hj)) hn.2.1 hn.2.2⟩)
          · have hkT : plT h k < nT h := (plT_lt hh (by omega)).mpr hd2
            refine lv_aload_n hx hb dX5_dueIn_35 rfl (lv_at hl 1 rfl) ?_
            refine lv_aload_n hx hb dX5_dueIn_36 rfl (lv_at hl 1 rfl) ?_
            refine lv_iload_n hx hb dX5_dueIn_37 rfl (lv_at hl 2 rfl) ?_
            refine kb_vR (As := [.int (nI k)]) (rest := [.ref (b 0)]) hx hb hml hts hown hN hK hP hD hS hA (c_X5_seatOf l D cI b hL iK tL sP nU iS sN sR lE fI sC vc h hvc hh k (by omega)) gX5_dueIn_X5_seatOf rfl ⟨rfl, rfl⟩ hdX5_seatOf ⟨Nat.le_of_ble_eq_true rfl, Nat.le_of_ble_eq_true rfl⟩ [0, 1] [0] rfl rfl rfl (ci := 5) rfl rfl rfl rfl rfl hl.1 (Nat.le_of_ble_eq_true rfl) dX5_dueIn_38 ⟨Nat.zero_le _, Nat.zero_le _⟩ (fun H locs hP hS => ?_)
            refine kb_top (nI (plT h k)) (oI_t hkT) ?_
            refine kb_vR (As := [.int (nI (plT h k))]) (rest := []) hx hb hml hts hown hN hK hP hD hS hA (c_X5_isSlightedAt l D cI b hL iK tL sP nU iS sN sR lE fI sC vc h hvc hh (plT h k) hkT) gX5_dueIn_X5_isSlightedAt rfl ⟨rfl, rfl⟩ hdX5_isSlightedAt ⟨Nat.le_of_ble_eq_true rfl, Nat.le_of_ble_eq_true rfl⟩ [0, 1] [0] rfl rfl rfl (ci := 5) rfl rfl rfl rfl rfl hl.1 (Nat.le_of_ble_eq_true rfl) dX5_dueIn_41 ⟨Nat.zero_le _, Nat.zero_le _⟩ (fun H locs hP hS => ?_)
            refine kb_bif_eq (tgt := 57) hx hb dX5_dueIn_44 (by decide) (fun c44 => ?_) (fun c44 => ?_)
            · refine lv_aload_n hx hb dX5_dueIn_57 rfl (lv_at hl 1 rfl) ?_
              refine kb_vV (As := []) (rest := []) hx hb hml hts hown hN hK hP hD hS hA (c_X5_comesBack l D cI b hL iK tL sP nU iS sN sR lE fI sC vo_24 vc) gX5_dueIn_X5_comesBack rfl ⟨rfl, rfl⟩ hdX5_comesBack ⟨Nat.le_of_ble_eq_true rfl, Nat.le_of_ble_eq_true rfl⟩ [0, 1, 2] [0] rfl rfl rfl (ci := 5) rfl rfl rfl (fun _ => rfl) rfl rfl hl.1 (Nat.le_of_ble_eq_true rfl) dX5_dueIn_58 ⟨Nat.zero_le _, Nat.zero_le _⟩ (fun u H locs hw_58 hP hD hS => ?_)
              obtain ⟨vo_58, rfl⟩ : ∃ z, z = u := ⟨_, rfl⟩
              have hw_58 : ∀ j, j < 217 → vo_58 j = vo_24 j := hw_58
              have hP : va_P D vwCl [((b 0), .inr (5, [.ref (b 1), .ref (b 2), .ref (b 3), .ref (b 4), .int (nI hL), .ref (b 5), .int (iK), .ref (b 6), .ref (b 7), .int (nI tL), .int (nI sP), .int (nU), .int (iS), .int (sN), .int (sR), .int (lE), .int (fI), .int (sC)])), ((b 1), .inl (cI, 217, .inl vo_58)), ((b 3), .inl (cI, 217, .inl vo_24))] H := hP
              have hD : va_D A [((b 0), .inr (5, [.ref (b 1), .ref (b 2), .ref (b 3), .ref (b 4), .int (nI hL), .ref (b 5), .int (iK), .ref (b 6), .ref (b 7), .int (nI tL), .int (nI sP), .int (nU), .int (iS), .int (sN), .int (sR), .int (lE), .int (fI), .int (sC)])), ((b 1), .inl (cI, 217, .inl vo_58)), ((b 3), .inl (cI, 217, .inl vo_24))] := hD
              refine lv_iload_n hx hb dX5_dueIn_61 rfl (lv_at hl 0 rfl) ?_
              refine lv_bipush (v := nI 100) hx hb dX5_dueIn_62 (by decide) ?_
              refine kb_icmp_le (tgt := 72) hx hb dX5_dueIn_64 (by decide) (by omega) (by omega) (fun c64 => ?_) (fun c64 => ?_)
              · refine lv_iload_n hx hb dX5_dueIn_72 rfl (lv_at hl 0 rfl) ?_
                exact kb_iret (D := D) hQ hx hb hr hlocks hK hP hD hS dX5_dueIn_73 (vo_58, vo_24) rfl (Nat.le_refl _) (Nat.le_refl _) (show (nI i) = diA g (nI k) ∧ rV vo_58 g from ⟨((dI_e he (by omega) c44).symm.trans (diA_d c5 (by omega) hd0).symm), hv.of (fun j hj => (hw_58 j hj).trans (hw_24 j hj)) hn.2.1 hn.2.2⟩)
              · exfalso; omega
            · refine lv_aload_n hx hb dX5_dueIn_47 rfl (lv_at hl 1 rfl) ?_
              refine kb_vV (As := []) (rest := []) hx hb hml hts hown hN hK hP hD hS hA (c_X5_envoysGo l D cI b hL iK tL sP nU iS sN sR lE fI sC vc h hvc hh) gX5_dueIn_X5_envoysGo rfl ⟨rfl, rfl⟩ hdX5_envoysGo ⟨Nat.le_of_ble_eq_true rfl, Nat.le_of_ble_eq_true rfl⟩ [0, 1] [0] rfl rfl rfl (ci := 5) rfl rfl rfl (fun _ => rfl) rfl rfl hl.1 (Nat.le_of_ble_eq_true rfl) dX5_dueIn_48 ⟨Nat.zero_le _, Nat.zero_le _⟩ (fun u H locs hw_48 hP hD hS => ?_)
              obtain ⟨vo_48, rfl⟩ : ∃ z, z = u := ⟨_, rfl⟩
              have hw_48 : rV vo_48 (oEnv (gc h 2).toNatClampNeg h) := hw_48
              have hP : va_P D vwCl [((b 0), .inr (5, [.ref (b 1), .ref (b 2), .ref (b 3), .ref (b 4), .int (nI hL), .ref (b 5), .int (iK), .ref (b 6), .ref (b 7), .int (nI tL), .int (nI sP), .int (nU), .int (iS), .int (sN), .int (sR), .int (lE), .int (fI), .int (sC)])), ((b 1), .inl (cI, 217, .inl vo_48)), ((b 3), .inl (cI, 217, .inl vo_24))] H := hP
              have hD : va_D A [((b 0), .inr (5, [.ref (b 1), .ref (b 2), .ref (b 3), .ref (b 4), .int (nI hL), .ref (b 5), .int (iK), .ref (b 6), .ref (b 7), .int (nI tL), .int (nI sP), .int (nU), .int (iS), .int (sN), .int (sR), .int (lE), .int (fI), .int (sC)])), ((b 1), .inl (cI, 217, .inl vo_48)), ((b 3), .inl (cI, 217, .inl vo_24))] := hD
              refine lv_iinc (v := nI (i + 1)) (lv' := [(2, .int (nI (i + 1))), (0, .ref (b 0)), (1, .int (nI k))]) hx hb dX5_dueIn_51 hl (k := 0) rfl (kb_inc1 i) (by decide) rfl (fun ls hl => ?_)
              refine lv_goto (tgt := 29) hx hb dX5_dueIn_54 (by decide) ?_
              exact ih_29 (i + 1) (oEnv ev h) vo_48 (by omega) (oEnv_ok ev hh) (by have q := hw_48; rw [hg2, nI_clamp (by omega)] at q; exact q) ((oEnv_nK ev h).trans hnK) (by rw [(oEnv_eq ev h).2.2.2.2.2.1]; exact hd2) ((oEnv_gc ev h (by decide)).trans hg2) (dI_s (n := 0) he (by omega) c44 hg2 (by omega)) (by omega) _ _ hP hD hS _ (lv_sub hl [0, 1, 2] rfl)
      exact L_29 ((101 - 0) + 1) 0 g v (by omega) ho hv rfl hd0 hev rfl (Nat.lt_succ_self _) _ _ hP hD hS _ (lv_sub hl [0, 1, 2] rfl)
    · refine lv_bipush (v := (-4)) hx hb dX5_dueIn_20 (by decide) ?_
      exact kb_iret (D := D) hQ hx hb hr hlocks hK hP hD hS dX5_dueIn_22 (v, t3) rfl (Nat.le_refl _) (Nat.le_refl _) (show (-4) = diA g (nI k) ∧ rV v g from ⟨(diA_4 c5 (by omega) (fun q => oI_y5 (by omega) c17 ((plT_lt ho hk).mpr q))).symm, hv⟩)
  · refine lv_iconst (v := (-1)) hx hb dX5_dueIn_8 (by decide) ?_
    exact kb_iret (D := D) hQ hx hb hr hlocks hK hP hD hS dX5_dueIn_9 (v, t3) rfl (Nat.le_refl _) (Nat.le_refl _) (show (-1) = diA g x ∧ rV v g from ⟨(diA_1 c5).symm, hv⟩)
abbrev rmX5_count : Room := { frames := 2, cells := 0, slots := 0, locals := 45 }
theorem hdX5_count : yX5_count.cls = RX5 ∧ yX5_count.cls ≠ "java/lang/invoke/MethodHandle" ∧ yX5_count.cls ≠ "java/lang/invoke/VarHandle" ∧ (parseMethodDescriptor yX5_count.desc).map (fun d => d.parameters.length) = some 1 := by decide +kernel
theorem inwX5_count_X5 : ∀ w ∈ wsX50, w ∈ wsX5_count := fun w h => List.mem_cons_of_mem _ (List.mem_append_right _ h)
set_option maxHeartbeats 4000000 in
set_option maxRecDepth 100000 in
theorem c_X5_count (l : Launch) (D : va_G) (cI : ClassId) (b : Nat → Nat) (hL : Nat) (iK : Int32) (tL : Nat) (sP : Nat) (nU : Int32) (iS : Int32) (sN : Int32) (sR : Int32) (lE : Int32) (fI : Int32) (sC : Int32) (v : Nat → Int32) (g : Sg) (hv : rV v g) (ho : Ok g) (x : Int32) : kb_R D [(cI, .int)] l yX5_count wsX5_count rmX5_count [.ref (b 0), .int (x)] [((b 0), .inr (5, [.ref (b 1), .ref (b 2), .ref (b 3), .ref (b 4), .int (nI hL), .ref (b 5), .int (iK), .ref (b 6), .ref (b 7), .int (nI tL), .int (nI sP), .int (nU), .int (iS), .int (sN), .int (sR), .int (lE), .int (fI), .int (sC)])), ((b 1), .inl (cI, 217, .inl v))] (coA g hL tL x) := by
  refine kb_I_of (cc := cX5_count) (maxL := 2) (ret := (some .int)) (by decide) rfl (Nat.le_of_ble_eq_true rfl) ?_
  intro p e s mm args below meth c A hx hb hml hr hts hown hlocks hnm hA hN hK hP hD hS ls hl Q hQ
  have hl : lv_has ls 2 [(0, .ref (b 0)), (1, .int (x))] := hl
  have hP : va_P D vwCl [((b 0), .inr (5, [.ref (b 1), .ref (b 2), .ref (b 3), .ref (b 4), .int (nI hL), .ref (b 5), .int (iK), .ref (b 6), .ref (b 7), .int (nI tL), .int (nI sP), .int (nU), .int (iS), .int (sN), .int (sR), .int (lE), .int (fI), .int (sC)])), ((b 1), .inl (cI, 217, .inl v))] s.heap := hP
  have hD : va_D A [((b 0), .inr (5, [.ref (b 1), .ref (b 2), .ref (b 3), .ref (b 4), .int (nI hL), .ref (b 5), .int (iK), .ref (b 6), .ref (b 7), .int (nI tL), .int (nI sP), .int (nU), .int (iS), .int (sN), .int (sR), .int (lE), .int (fI), .int (sC)])), ((b 1), .inl (cI, 217, .inl v))] := hD
  have fl7 := hts (.fieldLink RX5 7 "KingsBanquetModel" "all" "[I") (by decide +kernel)
  have fl31 := hts (.fieldLink RX5 31 "KingsBanquetModel" "historyLong" "I") (by decide +kernel)
  have fl143 := hts (.fieldLink RX5 143 "KingsBanquetModel" "textLong" "I") (by decide +kernel)
  have hn := ho.n
  rcases kb_tab (n := 17) (by decide) x with hout | ⟨jw, hjw, rfl⟩
  · refine lv_iload_n hx hb dX5_count_0 rfl (lv_at hl 1 rfl) ?_
    refine lv_tableOut (tgt := 134) hx hb dX5_count_1 (by have := hout.2; omega) (by decide) ?_
    refine lv_bipush (v := (-2)) hx hb dX5_count_134 (by decide) ?_
    exact kb_iret (D := D) hQ hx hb hr hlocks hK hP hD hS dX5_count_136 () rfl (Nat.le_refl _) (Nat.le_refl _) (show (-2) = coA g hL tL x from (coA_2 hout.1).symm)
  · rcases (by omega : jw = 0 ∨ jw = 1 ∨ jw = 2 ∨ jw = 3 ∨ jw = 4 ∨ jw = 5 ∨ jw = 6 ∨ jw = 7 ∨ jw = 8 ∨ jw = 9 ∨ jw = 10 ∨ jw = 11 ∨ jw = 12 ∨ jw = 13 ∨ jw = 14 ∨ jw = 15 ∨ jw = 16) with rfl | rfl | rfl | rfl | rfl | rfl | rfl | rfl | rfl | rfl | rfl | rfl | rfl | rfl | rfl | rfl | rfl
    · refine lv_iload_n hx hb dX5_count_0 rfl (lv_at hl 1 rfl) ?_
      refine lv_tableIn (off := 83) (tgt := 84) hx hb dX5_count_1 (by decide) (by decide) (by decide) (by decide) ?_
      refine lv_aload_n hx hb dX5_count_84 rfl (lv_at hl 0 rfl) ?_
      refine va_get (D := D) (ci := 5) (v := .ref (b 1)) (C := RX5) (T := TX5) (N := 18) hx hb hts inwX5_count_X5 hown hK hP 0 rfl rfl 0 (by decide) fl7 (fun _ h9 => h9) rfl dX5_count_85 ?_
      refine lv_iconst (v := nI 4) hx hb dX5_count_88 (by decide) ?_
      refine lv_iload_n hx hb dX5_count_89 rfl (lv_at hl 1 rfl) ?_
      refine lv_iadd hx hb dX5_count_90 ?_
      refine kb_top (nI 4) (nI_add 4 0) ?_
      refine kb_iald hx hb hK hP 1 0 rfl rfl (by decide) (by omega) dX5_count_91 ?_
      exact kb_iret (D := D) hQ hx hb hr hlocks hK hP hD hS dX5_count_92 () rfl (Nat.le_refl _) (Nat.le_refl _) (show v 4 = coA g hL tL (nI 0) from (hv.m.trans (coA_w (w := 0) (by decide)).symm))
    · refine lv_iload_n hx hb dX5_count_0 rfl (lv_at hl 1 rfl) ?_
      refine lv_tableIn (off := 83) (tgt := 84) hx hb dX5_count_1 (by decide) (by decide) (by decide) (by decide) ?_
      refine lv_aload_n hx hb dX5_count_84 rfl (lv_at hl 0 rfl) ?_
      refine va_get (D := D) (ci := 5) (v := .ref (b 1)) (C := RX5) (T := TX5) (N := 18) hx hb hts inwX5_count_X5 hown hK hP 0 rfl rfl 0 (by decide) fl7 (fun _ h9 => h9) rfl dX5_count_85 ?_
      refine lv_iconst (v := nI 4) hx hb dX5_count_88 (by decide) ?_
      refine lv_iload_n hx hb dX5_count_89 rfl (lv_at hl 1 rfl) ?_
      refine lv_iadd hx hb dX5_count_90 ?_
      refine kb_top (nI 5) (nI_add 4 1) ?_
      refine kb_iald hx hb hK hP 1 0 rfl rfl (by decide) (by omega) dX5_count_91 ?_
      exact kb_iret (D := D) hQ hx hb hr hlocks hK hP hD hS dX5_count_92 () rfl (Nat.le_refl _) (Nat.le_refl _) (show v 5 = coA g hL tL (nI 1) from (hv.k.trans (coA_w (w := 1) (by decide)).symm))
    · refine lv_iload_n hx hb dX5_count_0 rfl (lv_at hl 1 rfl) ?_
      refine lv_tableIn (off := 92) (tgt := 93) hx hb dX5_count_1 (by decide) (by decide) (by decide) (by decide) ?_
      refine lv_aload_n hx hb dX5_count_93 rfl (lv_at hl 0 rfl) ?_
      refine lv_iload_n hx hb dX5_count_94 rfl (lv_at hl 1 rfl) ?_
      refine lv_iconst (v := nI 2) hx hb dX5_count_95 (by decide) ?_
      refine lv_isub hx hb dX5_count_96 ?_
      refine kb_top (nI 0) (pk_sub (by omega)) ?_
      refine kb_vR (As := [.int (nI 0)]) (rest := []) hx hb hml hts hown hN hK hP hD hS hA (c_X5_thatDo l D cI b hL iK tL sP nU iS sN sR lE fI sC v g hv ho 0 (by decide)) gX5_count_X5_thatDo rfl ⟨rfl, rfl⟩ hdX5_thatDo ⟨Nat.le_of_ble_eq_true rfl, Nat.le_of_ble_eq_true rfl⟩ [0, 1] [0] rfl rfl rfl (ci := 5) rfl rfl rfl rfl rfl hl.1 (Nat.le_of_ble_eq_true rfl) dX5_count_97 ⟨Nat.zero_le _, Nat.zero_le _⟩ (fun H locs hP hS => ?_)
      exact kb_iret (D := D) hQ hx hb hr hlocks hK hP hD hS dX5_count_100 () rfl (Nat.le_refl _) (Nat.le_refl _) (show nI (kdN g 0) = coA g hL tL (nI 2) from (coA_w (w := 2) (by decide)).symm)
    · refine lv_iload_n hx hb dX5_count_0 rfl (lv_at hl 1 rfl) ?_
      refine lv_tableIn (off := 92) (tgt := 93) hx hb dX5_count_1 (by decide) (by decide) (by decide) (by decide) ?_
      refine lv_aload_n hx hb dX5_count_93 rfl (lv_at hl 0 rfl) ?_
      refine lv_iload_n hx hb dX5_count_94 rfl (lv_at hl 1 rfl) ?_
      refine lv_iconst (v := nI 2) hx hb dX5_count_95 (by decide) ?_
      refine lv_isub hx hb dX5_count_96 ?_
      refine kb_top (nI 1) (pk_sub (by omega)) ?_
      refine kb_vR (As := [.int (nI 1)]) (rest := []) hx hb hml hts hown hN hK hP hD hS hA (c_X5_thatDo l D cI b hL iK tL sP nU iS sN sR lE fI sC v g hv ho 1 (by decide)) gX5_count_X5_thatDo rfl ⟨rfl, rfl⟩ hdX5_thatDo ⟨Nat.le_of_ble_eq_true rfl, Nat.le_of_ble_eq_true rfl⟩ [0, 1] [0] rfl rfl rfl (ci := 5) rfl rfl rfl rfl rfl hl.1 (Nat.le_of_ble_eq_true rfl) dX5_count_97 ⟨Nat.zero_le _, Nat.zero_le _⟩ (fun H locs hP hS => ?_)
      exact kb_iret (D := D) hQ hx hb hr hlocks hK hP hD hS dX5_count_100 () rfl (Nat.le_refl _) (Nat.le_refl _) (show nI (kdN g 1) = coA g hL tL (nI 3) from (coA_w (w := 3) (by decide)).symm)
    · refine lv_iload_n hx hb dX5_count_0 rfl (lv_at hl 1 rfl) ?_
      refine lv_tableIn (off := 92) (tgt := 93) hx hb dX5_count_1 (by decide) (by decide) (by decide) (by decide) ?_
      refine lv_aload_n hx hb dX5_count_93 rfl (lv_at hl 0 rfl) ?_
      refine lv_iload_n hx hb dX5_count_94 rfl (lv_at hl 1 rfl) ?_
      refine lv_iconst (v := nI 2) hx hb dX5_count_95 (by decide) ?_
      refine lv_isub hx hb dX5_count_96 ?_
      refine kb_top (nI 2) (pk_sub (by omega)) ?_
      refine kb_vR (As := [.int (nI 2)]) (rest := []) hx hb hml hts hown hN hK hP hD hS hA (c_X5_thatDo l D cI b hL iK tL sP nU iS sN sR lE fI sC v g hv ho 2 (by decide)) gX5_count_X5_thatDo rfl ⟨rfl, rfl⟩ hdX5_thatDo ⟨Nat.le_of_ble_eq_true rfl, Nat.le_of_ble_eq_true rfl⟩ [0, 1] [0] rfl rfl rfl (ci := 5) rfl rfl rfl rfl rfl hl.1 (Nat.le_of_ble_eq_true rfl) dX5_count_97 ⟨Nat.zero_le _, Nat.zero_le _⟩ (fun H locs hP hS => ?_)
      exact kb_iret (D := D) hQ hx hb hr hlocks hK hP hD hS dX5_count_100 () rfl (Nat.le_refl _) (Nat.le_refl _) (show nI (kdN g 2) = coA g hL tL (nI 4) from (coA_w (w := 4) (by decide)).symm)
    · refine lv_iload_n hx hb dX5_count_0 rfl (lv_at hl 1 rfl) ?_
      refine lv_tableIn (off := 92) (tgt := 93) hx hb dX5_count_1 (by decide) (by decide) (by decide) (by decide) ?_
      refine lv_aload_n hx hb dX5_count_93 rfl (lv_at hl 0 rfl) ?_
      refine lv_iload_n hx hb dX5_count_94 rfl (lv_at hl 1 rfl) ?_
      refine lv_iconst (v := nI 2) hx hb dX5_count_95 (by decide) ?_
      refine lv_isub hx hb dX5_count_96 ?_
      refine kb_top (nI 3) (pk_sub (by omega)) ?_
      refine kb_vR (As := [.int (nI 3)]) (rest := []) hx hb hml hts hown hN hK hP hD hS hA (c_X5_thatDo l D cI b hL iK tL sP nU iS sN sR lE fI sC v g hv ho 3 (by decide)) gX5_count_X5_thatDo rfl ⟨rfl, rfl⟩ hdX5_thatDo ⟨Nat.le_of_ble_eq_true rfl, Nat.le_of_ble_eq_true rfl⟩ [0, 1] [0] rfl rfl rfl (ci := 5) rfl rfl rfl rfl rfl hl.1 (Nat.le_of_ble_eq_true rfl) dX5_count_97 ⟨Nat.zero_le _, Nat.zero_le _⟩ (fun H locs hP hS => ?_)
      exact kb_iret (D := D) hQ hx hb hr hlocks hK hP hD hS dX5_count_100 () rfl (Nat.le_refl _) (Nat.le_refl _) (show nI (kdN g 3) = coA g hL tL (nI 5) from (coA_w (w := 5) (by decide)).symm)
    · refine lv_iload_n hx hb dX5_count_0 rfl (lv_at hl 1 rfl) ?_
      refine lv_tableIn (off := 100) (tgt := 101) hx hb dX5_count_1 (by decide) (by decide) (by decide) (by decide) ?_
      refine lv_aload_n hx hb dX5_count_101 rfl (lv_at hl 0 rfl) ?_
      refine va_get (D := D) (ci := 5) (v := .ref (b 1)) (C := RX5) (T := TX5) (N := 18) hx hb hts inwX5_count_X5 hown hK hP 0 rfl rfl 0 (by decide) fl7 (fun _ h9 => h9) rfl dX5_count_102 ?_
      refine lv_bipush (v := nI 6) hx hb dX5_count_105 (by decide) ?_
      refine lv_iload_n hx hb dX5_count_107 rfl (lv_at hl 1 rfl) ?_
      refine lv_iadd hx hb dX5_count_108 ?_
      refine kb_top (nI 12) (nI_add 6 6) ?_
      refine lv_bipush (v := nI 6) hx hb dX5_count_109 (by decide) ?_
      refine lv_isub hx hb dX5_count_111 ?_
      refine kb_top (nI 6) (pk_sub (by omega)) ?_
      refine kb_iald hx hb hK hP 1 0 rfl rfl (by decide) (by omega) dX5_count_112 ?_
      exact kb_iret (D := D) hQ hx hb hr hlocks hK hP hD hS dX5_count_113 () rfl (Nat.le_refl _) (Nat.le_refl _) (show v 6 = coA g hL tL (nI 6) from ((hv.a (by decide) (by decide)).trans (coA_w (w := 6) (by decide)).symm))
    · refine lv_iload_n hx hb dX5_count_0 rfl (lv_at hl 1 rfl) ?_
      refine lv_tableIn (off := 100) (tgt := 101) hx hb dX5_count_1 (by decide) (by decide) (by decide) (by decide) ?_
      refine lv_aload_n hx hb dX5_count_101 rfl (lv_at hl 0 rfl) ?_
      refine va_get (D := D) (ci := 5) (v := .ref (b 1)) (C := RX5) (T := TX5) (N := 18) hx hb hts inwX5_count_X5 hown hK hP 0 rfl rfl 0 (by decide) fl7 (fun _ h9 => h9) rfl dX5_count_102 ?_
      refine lv_bipush (v := nI 6) hx hb dX5_count_105 (by decide) ?_
      refine lv_iload_n hx hb dX5_count_107 rfl (lv_at hl 1 rfl) ?_
      refine lv_iadd hx hb dX5_count_108 ?_
      refine kb_top (nI 13) (nI_add 6 7) ?_
      refine lv_bipush (v := nI 6) hx hb dX5_count_109 (by decide) ?_
      refine lv_isub hx hb dX5_count_111 ?_
      refine kb_top (nI 7) (pk_sub (by omega)) ?_
      refine kb_iald hx hb hK hP 1 0 rfl rfl (by decide) (by omega) dX5_count_112 ?_
      exact kb_iret (D := D) hQ hx hb hr hlocks hK hP hD hS dX5_count_113 () rfl (Nat.le_refl _) (Nat.le_refl _) (show v 7 = coA g hL tL (nI 7) from ((hv.a (by decide) (by decide)).trans (coA_w (w := 7) (by decide)).symm))
    · refine lv_iload_n hx hb dX5_count_0 rfl (lv_at hl 1 rfl) ?_
      refine lv_tableIn (off := 100) (tgt := 101) hx hb dX5_count_1 (by decide) (by decide) (by decide) (by decide) ?_
      refine lv_aload_n hx hb dX5_count_101 rfl (lv_at hl 0 rfl) ?_
      refine va_get (D := D) (ci := 5) (v := .ref (b 1)) (C := RX5) (T := TX5) (N := 18) hx hb hts inwX5_count_X5 hown hK hP 0 rfl rfl 0 (by decide) fl7 (fun _ h9 => h9) rfl dX5_count_102 ?_
      refine lv_bipush (v := nI 6) hx hb dX5_count_105 (by decide) ?_
      refine lv_iload_n hx hb dX5_count_107 rfl (lv_at hl 1 rfl) ?_
      refine lv_iadd hx hb dX5_count_108 ?_
      refine kb_top (nI 14) (nI_add 6 8) ?_
      refine lv_bipush (v := nI 6) hx hb dX5_count_109 (by decide) ?_
      refine lv_isub hx hb dX5_count_111 ?_
      refine kb_top (nI 8) (pk_sub (by omega)) ?_
      refine kb_iald hx hb hK hP 1 0 rfl rfl (by decide) (by omega) dX5_count_112 ?_
      exact kb_iret (D := D) hQ hx hb hr hlocks hK hP hD hS dX5_count_113 () rfl (Nat.le_refl _) (Nat.le_refl _) (show v 8 = coA g hL tL (nI 8) from ((hv.a (by decide) (by decide)).trans (coA_w (w := 8) (by decide)).symm))
    · refine lv_iload_n hx hb dX5_count_0 rfl (lv_at hl 1 rfl) ?_
      refine lv_tableIn (off := 100) (tgt := 101) hx hb dX5_count_1 (by decide) (by decide) (by decide) (by decide) ?_
      refine lv_aload_n hx hb dX5_count_101 rfl (lv_at hl 0 rfl) ?_
      refine va_get (D := D) (ci := 5) (v := .ref (b 1)) (C := RX5) (T := TX5) (N := 18) hx hb hts inwX5_count_X5 hown hK hP 0 rfl rfl 0 (by decide) fl7 (fun _ h9 => h9) rfl dX5_count_102 ?_
      refine lv_bipush (v := nI 6) hx hb dX5_count_105 (by decide) ?_
      refine lv_iload_n hx hb dX5_count_107 rfl (lv_at hl 1 rfl) ?_
      refine lv_iadd hx hb dX5_count_108 ?_
      refine kb_top (nI 15) (nI_add 6 9) ?_
      refine lv_bipush (v := nI 6) hx hb dX5_count_109 (by decide) ?_
      refine lv_isub hx hb dX5_count_111 ?_
      refine kb_top (nI 9) (pk_sub (by omega)) ?_
      refine kb_iald hx hb hK hP 1 0 rfl rfl (by decide) (by omega) dX5_count_112 ?_
      exact kb_iret (D := D) hQ hx hb hr hlocks hK hP hD hS dX5_count_113 () rfl (Nat.le_refl _) (Nat.le_refl _) (show v 9 = coA g hL tL (nI 9) from ((hv.a (by decide) (by decide)).trans (coA_w (w := 9) (by decide)).symm))
    · refine lv_iload_n hx hb dX5_count_0 rfl (lv_at hl 1 rfl) ?_
      refine lv_tableIn (off := 100) (tgt := 101) hx hb dX5_count_1 (by decide) (by decide) (by decide) (by decide) ?_
      refine lv_aload_n hx hb dX5_count_101 rfl (lv_at hl 0 rfl) ?_
      refine va_get (D := D) (ci := 5) (v := .ref (b 1)) (C := RX5) (T := TX5) (N := 18) hx hb hts inwX5_count_X5 hown hK hP 0 rfl rfl 0 (by decide) fl7 (fun _ h9 => h9) rfl dX5_count_102 ?_
      refine lv_bipush (v := nI 6) hx hb dX5_count_105 (by decide) ?_
      refine lv_iload_n hx hb dX5_count_107 rfl (lv_at hl 1 rfl) ?_
      refine lv_iadd hx hb dX5_count_108 ?_
      refine kb_top (nI 16) (nI_add 6 10) ?_
      refine lv_bipush (v := nI 6) hx hb dX5_count_109 (by decide) ?_
      refine lv_isub hx hb dX5_count_111 ?_
      refine kb_top (nI 10) (pk_sub (by omega)) ?_
      refine kb_iald hx hb hK hP 1 0 rfl rfl (by decide) (by omega) dX5_count_112 ?_
      exact kb_iret (D := D) hQ hx hb hr hlocks hK hP hD hS dX5_count_113 () rfl (Nat.le_refl _) (Nat.le_refl _) (show v 10 = coA g hL tL (nI 10) from ((hv.a (by decide) (by decide)).trans (coA_w (w := 10) (by decide)).symm))
    · refine lv_iload_n hx hb dX5_count_0 rfl (lv_at hl 1 rfl) ?_
      refine lv_tableIn (off := 113) (tgt := 114) hx hb dX5_count_1 (by decide) (by decide) (by decide) (by decide) ?_
      refine lv_aload_n hx hb dX5_count_114 rfl (lv_at hl 0 rfl) ?_
      refine va_get (D := D) (ci := 5) (v := .ref (b 1)) (C := RX5) (T := TX5) (N := 18) hx hb hts inwX5_count_X5 hown hK hP 0 rfl rfl 0 (by decide) fl7 (fun _ h9 => h9) rfl dX5_count_115 ?_
      refine lv_iload_n hx hb dX5_count_118 rfl (lv_at hl 1 rfl) ?_
      refine lv_bipush (v := nI 11) hx hb dX5_count_119 (by decide) ?_
      refine lv_isub hx hb dX5_count_121 ?_
      refine kb_top (nI 0) (pk_sub (by omega)) ?_
      refine kb_iald hx hb hK hP 1 0 rfl rfl (by decide) (by omega) dX5_count_122 ?_
      exact kb_iret (D := D) hQ hx hb hr hlocks hK hP hD hS dX5_count_123 () rfl (Nat.le_refl _) (Nat.le_refl _) (show v 0 = coA g hL tL (nI 11) from ((hv.c (by decide)).trans (coA_w (w := 11) (by decide)).symm))
    · refine lv_iload_n hx hb dX5_count_0 rfl (lv_at hl 1 rfl) ?_
      refine lv_tableIn (off := 113) (tgt := 114) hx hb dX5_count_1 (by decide) (by decide) (by decide) (by decide) ?_
      refine lv_aload_n hx hb dX5_count_114 rfl (lv_at hl 0 rfl) ?_
      refine va_get (D := D) (ci := 5) (v := .ref (b 1)) (C := RX5) (T := TX5) (N := 18) hx hb hts inwX5_count_X5 hown hK hP 0 rfl rfl 0 (by decide) fl7 (fun _ h9 => h9) rfl dX5_count_115 ?_
      refine lv_iload_n hx hb dX5_count_118 rfl (lv_at hl 1 rfl) ?_
      refine lv_bipush (v := nI 11) hx hb dX5_count_119 (by decide) ?_
      refine lv_isub hx hb dX5_count_121 ?_
      refine kb_top (nI 1) (pk_sub (by omega)) ?_
      refine kb_iald hx hb hK hP 1 0 rfl rfl (by decide) (by omega) dX5_count_122 ?_
      exact kb_iret (D := D) hQ hx hb hr hlocks hK hP hD hS dX5_count_123 () rfl (Nat.le_refl _) (Nat.le_refl _) (show v 1 = coA g hL tL (nI 12) from ((hv.c (by decide)).trans (coA_w (w := 12) (by decide)).symm))
    · refine lv_iload_n hx hb dX5_count_0 rfl (lv_at hl 1 rfl) ?_
      refine lv_tableIn (off := 113) (tgt := 114) hx hb dX5_count_1 (by decide) (by decide) (by decide) (by decide) ?_
      refine lv_aload_n hx hb dX5_count_114 rfl (lv_at hl 0 rfl) ?_
      refine va_get (D := D) (ci := 5) (v := .ref (b 1)) (C := RX5) (T := TX5) (N := 18) hx hb hts inwX5_count_X5 hown hK hP 0 rfl rfl 0 (by decide) fl7 (fun _ h9 => h9) rfl dX5_count_115 ?_
      refine lv_iload_n hx hb dX5_count_118 rfl (lv_at hl 1 rfl) ?_
      refine lv_bipush (v := nI 11) hx hb dX5_count_119 (by decide) ?_
      refine lv_isub hx hb dX5_count_121 ?_
      refine kb_top (nI 2) (pk_sub (by omega)) ?_
      refine kb_iald hx hb hK hP 1 0 rfl rfl (by decide) (by omega) dX5_count_122 ?_
      exact kb_iret (D := D) hQ hx hb hr hlocks hK hP hD hS dX5_count_123 () rfl (Nat.le_refl _) (Nat.le_refl _) (show v 2 = coA g hL tL (nI 13) from ((hv.c (by decide)).trans (coA_w (w := 13) (by decide)).symm))
    · refine lv_iload_n hx hb dX5_count_0 rfl (lv_at hl 1 rfl) ?_
      refine lv_tableIn (off := 113) (tgt := 114) hx hb dX5_count_1 (by decide) (by decide) (by decide) (by decide) ?_
      refine lv_aload_n hx hb dX5_count_114 rfl (lv_at hl 0 rfl) ?_
      refine va_get (D := D) (ci := 5) (v := .ref (b 1)) (C := RX5) (T := TX5) (N := 18) hx hb hts inwX5_count_X5 hown hK hP 0 rfl rfl 0 (by decide) fl7 (fun _ h9 => h9) rfl dX5_count_115 ?_
      refine lv_iload_n hx hb dX5_count_118 rfl (lv_at hl 1 rfl) ?_
      refine lv_bipush (v := nI 11) hx hb dX5_count_119 (by decide) ?_
      refine lv_isub hx hb dX5_count_121 ?_
      refine kb_top (nI 3) (pk_sub (by omega)) ?_
      refine kb_iald hx hb hK hP 1 0 rfl rfl (by decide) (by omega) dX5_count_122 ?_
      exact kb_iret (D := D) hQ hx hb hr hlocks hK hP hD hS dX5_count_123 () rfl (Nat.le_refl _) (Nat.le_refl _) (show v 3 = coA g hL tL (nI 14) from ((hv.c (by decide)).trans (coA_w (w := 14) (by decide)).symm))
    · refine lv_iload_n hx hb dX5_count_0 rfl (lv_at hl 1 rfl) ?_
      refine lv_tableIn (off := 123) (tgt := 124) hx hb dX5_count_1 (by decide) (by decide) (by decide) (by decide) ?_
      refine lv_aload_n hx hb dX5_count_124 rfl (lv_at hl 0 rfl) ?_
      refine va_get (D := D) (ci := 5) (v := .int (nI hL)) (C := RX5) (T := TX5) (N := 18) hx hb hts inwX5_count_X5 hown hK hP 0 rfl rfl 4 (by decide) fl31 (fun _ h9 => h9) rfl dX5_count_125 ?_
      exact kb_iret (D := D) hQ hx hb hr hlocks hK hP hD hS dX5_count_128 () rfl (Nat.le_refl _) (Nat.le_refl _) (show nI hL = coA g hL tL (nI 15) from coA_15.symm)
    · refine lv_iload_n hx hb dX5_count_0 rfl (lv_at hl 1 rfl) ?_
      refine lv_tableIn (off := 128) (tgt := 129) hx hb dX5_count_1 (by decide) (by decide) (by decide) (by decide) ?_
      refine lv_aload_n hx hb dX5_count_129 rfl (lv_at hl 0 rfl) ?_
      refine va_get (D := D) (ci := 5) (v := .int (nI tL)) (C := RX5) (T := TX5) (N := 18) hx hb hts inwX5_count_X5 hown hK hP 0 rfl rfl 9 (by decide) fl143 (fun _ h9 => h9) rfl dX5_count_130 ?_
      exact kb_iret (D := D) hQ hx hb hr hlocks hK hP hD hS dX5_count_133 () rfl (Nat.le_refl _) (Nat.le_refl _) (show nI tL = coA g hL tL (nI 16) from coA_16.symm)
