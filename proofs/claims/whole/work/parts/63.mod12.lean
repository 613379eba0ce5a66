abbrev rmX5_takesOne : Room := { frames := 2, cells := 0, slots := 0, locals := 47 }
theorem hdX5_takesOne : yX5_takesOne.cls = RX5 ∧ yX5_takesOne.cls ≠ "java/lang/invoke/MethodHandle" ∧ yX5_takesOne.cls ≠ "java/lang/invoke/VarHandle" ∧ (parseMethodDescriptor yX5_takesOne.desc).map (fun d => d.parameters.length) = some 1 := by decide +kernel
theorem inwX5_takesOne_X5 : ∀ w ∈ wsX50, w ∈ wsX5_takesOne := fun w h => List.mem_cons_of_mem _ (List.mem_append_right _ h)
set_option maxHeartbeats 4000000 in
set_option maxRecDepth 100000 in
theorem c_X5_takesOne (l : Launch) (D : va_G) (cI : ClassId) (b : Nat → Nat) (hL : Nat) (iK : Int32) (tL : Nat) (sP : Nat) (nU : Int32) (iS : Int32) (sN : Int32) (sR : Int32) (lE : Int32) (fI : Int32) (sC : Int32) (t : Nat → Int32) (tx : Nat → Nat) (htx : tOk t tx tL) (x : Nat) (hx6 : x < 65536) (hsp : sP ≤ 60) : kb_I (S := Nat) D [(cI, .int)] l yX5_takesOne wsX5_takesOne rmX5_takesOne [.ref (b 0), .int (nI x)] [((b 0), .inr (5, [.ref (b 1), .ref (b 2), .ref (b 3), .ref (b 4), .int (nI hL), .ref (b 5), .int (iK), .ref (b 6), .ref (b 7), .int (nI tL), .int (nI sP), .int (nU), .int (iS), .int (sN), .int (sR), .int (lE), .int (fI), .int (sC)])), ((b 7), .inl (cI, 60, .inl t))] (fun (r : Int32) (u : Nat) => r = kb_b (decide (cd tx tL sP = x)) ∧ u = if cd tx tL sP = x then sP + 1 else sP) (fun (u : Nat) => [((b 0), .inr (5, [.ref (b 1), .ref (b 2), .ref (b 3), .ref (b 4), .int (nI hL), .ref (b 5), .int (iK), .ref (b 6), .ref (b 7), .int (nI tL), .int (nI u), .int (nU), .int (iS), .int (sN), .int (sR), .int (lE), .int (fI), .int (sC)])), ((b 7), .inl (cI, 60, .inl t))]) 0 0 := by
  refine kb_I_of (cc := cX5_takesOne) (maxL := 3) (ret := (some .boolean)) (by decide) rfl (Nat.le_of_ble_eq_true rfl) ?_
  intro p e s mm args below meth c A hx hb hml hr hts hown hlocks hnm hA hN hK hP hD hS ls hl Q hQ
  have hl : lv_has ls 3 [(0, .ref (b 0)), (1, .int (nI x))] := hl
  have hP : va_P D vwCl [((b 0), .inr (5, [.ref (b 1), .ref (b 2), .ref (b 3), .ref (b 4), .int (nI hL), .ref (b 5), .int (iK), .ref (b 6), .ref (b 7), .int (nI tL), .int (nI sP), .int (nU), .int (iS), .int (sN), .int (sR), .int (lE), .int (fI), .int (sC)])), ((b 7), .inl (cI, 60, .inl t))] s.heap := hP
  have hD : va_D A [((b 0), .inr (5, [.ref (b 1), .ref (b 2), .ref (b 3), .ref (b 4), .int (nI hL), .ref (b 5), .int (iK), .ref (b 6), .ref (b 7), .int (nI tL), .int (nI sP), .int (nU), .int (iS), .int (sN), .int (sR), .int (lE), .int (fI), .int (sC)])), ((b 7), .inl (cI, 60, .inl t))] := hD
  have fl146 := hts (.fieldLink RX5 146 "KingsBanquetModel" "spot" "I") (by decide +kernel)
  refine lv_aload_n hx hb dX5_takesOne_0 rfl (lv_at hl 0 rfl) ?_
  refine lv_iload_n hx hb dX5_takesOne_1 rfl (lv_at hl 1 rfl) ?_
  refine lv_iload_n hx hb dX5_takesOne_2 rfl (lv_at hl 1 rfl) ?_
  refine kb_vR (As := [.int (nI x), .int (nI x)]) (rest := []) hx hb hml hts hown hN hK hP hD hS hA (c_X5_isHere l D cI b hL iK tL sP nU iS sN sR lE fI sC t (by first | assumption | omega) htx x x hx6 hx6 hsp) gX5_takesOne_X5_isHere rfl ⟨rfl, rfl⟩ hdX5_isHere ⟨Nat.le_of_ble_eq_true rfl, Nat.le_of_ble_eq_true rfl⟩ [0, 1] [0] rfl rfl rfl (ci := 5) rfl rfl rfl rfl rfl hl.1 (Nat.le_of_ble_eq_true rfl) dX5_takesOne_3 ⟨Nat.zero_le _, Nat.zero_le _⟩ (fun H locs hP hS => ?_)
  refine kb_top (kb_b (decide (cd tx tL sP = x))) (congrArg kb_b (hre_cd hx6)) ?_
  refine lv_istore_n (lv' := [(2, .int (kb_b (decide (cd tx tL sP = x)))), (0, .ref (b 0)), (1, .int (nI x))]) hx hb dX5_takesOne_6 rfl hl (by decide) rfl (fun ls hl => ?_)
  refine lv_aload_n hx hb dX5_takesOne_7 rfl (lv_at hl 1 rfl) ?_
  refine lv_dup hx hb dX5_takesOne_8 rfl ?_
  refine va_get (D := D) (ci := 5) (v := .int (nI sP)) (C := RX5) (T := TX5) (N := 18) hx hb hts inwX5_takesOne_X5 hown hK hP 0 rfl rfl 10 (by decide) fl146 (fun _ h9 => h9) rfl dX5_takesOne_9 ?_
  refine lv_iload_n hx hb dX5_takesOne_12 rfl (lv_at hl 0 rfl) ?_
  refine kb_bif_eq (tgt := 20) hx hb dX5_takesOne_13 (by decide) (fun c13 => ?_) (fun c13 => ?_)
  · refine lv_iconst (v := nI 0) hx hb dX5_takesOne_20 (by decide) ?_
    refine lv_iadd hx hb dX5_takesOne_21 ?_
    refine kb_top (nI (sP + 0)) (nI_add sP 0) ?_
    refine va_put (D := D) (ci := 5) (v := .int (nI (sP + 0))) (ty := .int) (C := RX5) (T := TX5) (N := 18) hx hb hts inwX5_takesOne_X5 tyX5 tyX5_ok nmX5 hown hK hP hD hS 0 rfl rfl 10 (by decide) fl146 (fun _ h9 => h9) rfl (by decide +kernel) rfl rfl (Nat.le_of_ble_eq_true rfl) dX5_takesOne_22 (fun H locs hP hD hS => ?_)
    have hP : va_P D vwCl [((b 0), .inr (5, [.ref (b 1), .ref (b 2), .ref (b 3), .ref (b 4), .int (nI hL), .ref (b 5), .int (iK), .ref (b 6), .ref (b 7), .int (nI tL), .int (nI (sP + 0)), .int (nU), .int (iS), .int (sN), .int (sR), .int (lE), .int (fI), .int (sC)])), ((b 7), .inl (cI, 60, .inl t))] H := hP
    have hD : va_D A [((b 0), .inr (5, [.ref (b 1), .ref (b 2), .ref (b 3), .ref (b 4), .int (nI hL), .ref (b 5), .int (iK), .ref (b 6), .ref (b 7), .int (nI tL), .int (nI (sP + 0)), .int (nU), .int (iS), .int (sN), .int (sR), .int (lE), .int (fI), .int (sC)])), ((b 7), .inl (cI, 60, .inl t))] := hD
    refine lv_iload_n hx hb dX5_takesOne_25 rfl (lv_at hl 0 rfl) ?_
    exact kb_zret (D := D) hQ hx hb hr hlocks hK hP hD hS dX5_takesOne_26 (kb_b_n _) (sP + 0) rfl (Nat.le_refl _) (Nat.le_refl _) (show (kb_b (decide (cd tx tL sP = x))) = kb_b (decide (cd tx tL sP = x)) ∧ (sP + 0) = if cd tx tL sP = x then sP + 1 else sP from ⟨by rw [c13], (if_neg (of_decide_eq_false c13)).symm⟩)
  · refine lv_iconst (v := nI 1) hx hb dX5_takesOne_16 (by decide) ?_
    refine lv_goto (tgt := 21) hx hb dX5_takesOne_17 (by decide) ?_
    refine lv_iadd hx hb dX5_takesOne_21 ?_
    refine kb_top (nI (sP + 1)) (nI_add sP 1) ?_
    refine va_put (D := D) (ci := 5) (v := .int (nI (sP + 1))) (ty := .int) (C := RX5) (T := TX5) (N := 18) hx hb hts inwX5_takesOne_X5 tyX5 tyX5_ok nmX5 hown hK hP hD hS 0 rfl rfl 10 (by decide) fl146 (fun _ h9 => h9) rfl (by decide +kernel) rfl rfl (Nat.le_of_ble_eq_true rfl) dX5_takesOne_22 (fun H locs hP hD hS => ?_)
    have hP : va_P D vwCl [((b 0), .inr (5, [.ref (b 1), .ref (b 2), .ref (b 3), .ref (b 4), .int (nI hL), .ref (b 5), .int (iK), .ref (b 6), .ref (b 7), .int (nI tL), .int (nI (sP + 1)), .int (nU), .int (iS), .int (sN), .int (sR), .int (lE), .int (fI), .int (sC)])), ((b 7), .inl (cI, 60, .inl t))] H := hP
    have hD : va_D A [((b 0), .inr (5, [.ref (b 1), .ref (b 2), .ref (b 3), .ref (b 4), .int (nI hL), .ref (b 5), .int (iK), .ref (b 6), .ref (b 7), .int (nI tL), .int (nI (sP + 1)), .int (nU), .int (iS), .int (sN), .int (sR), .int (lE), .int (fI), .int (sC)])), ((b 7), .inl (cI, 60, .inl t))] := hD
    refine lv_iload_n hx hb dX5_takesOne_25 rfl (lv_at hl 0 rfl) ?_
    exact kb_zret (D := D) hQ hx hb hr hlocks hK hP hD hS dX5_takesOne_26 (kb_b_n _) (sP + 1) rfl (Nat.le_refl _) (Nat.le_refl _) (show (kb_b (decide (cd tx tL sP = x))) = kb_b (decide (cd tx tL sP = x)) ∧ (sP + 1) = if cd tx tL sP = x then sP + 1 else sP from ⟨by rw [c13], (if_pos (of_decide_eq_true c13)).symm⟩)
