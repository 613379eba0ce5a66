abbrev rmX5_clearText : Room := { frames := 0, cells := 0, slots := 0, locals := 0 }
theorem hdX5_clearText : yX5_clearText.cls = RX5 ∧ yX5_clearText.cls ≠ "java/lang/invoke/MethodHandle" ∧ yX5_clearText.cls ≠ "java/lang/invoke/VarHandle" ∧ (parseMethodDescriptor yX5_clearText.desc).map (fun d => d.parameters.length) = some 0 := by decide +kernel
theorem inwX5_clearText_X5 : ∀ w ∈ wsX50, w ∈ wsX5_clearText := fun w h => List.mem_cons_of_mem _ (List.mem_append_right _ h)
set_option maxHeartbeats 4000000 in
set_option maxRecDepth 100000 in
theorem c_X5_clearText (l : Launch) (D : va_G) (cI : ClassId) (b : Nat → Nat) (hL : Nat) (iK : Int32) (tL : Nat) (sP : Nat) (nU : Int32) (iS : Int32) (sN : Int32) (sR : Int32) (lE : Int32) (fI : Int32) (sC : Int32) : kb_I (S := Unit) D [(cI, .int)] l yX5_clearText wsX5_clearText rmX5_clearText [.ref (b 0)] [((b 0), .inr (5, [.ref (b 1), .ref (b 2), .ref (b 3), .ref (b 4), .int (nI hL), .ref (b 5), .int (iK), .ref (b 6), .ref (b 7), .int (nI tL), .int (nI sP), .int (nU), .int (iS), .int (sN), .int (sR), .int (lE), .int (fI), .int (sC)]))] (fun (r : Int32) (u : Unit) => r = nI tL) (fun (u : Unit) => [((b 0), .inr (5, [.ref (b 1), .ref (b 2), .ref (b 3), .ref (b 4), .int (nI hL), .ref (b 5), .int (iK), .ref (b 6), .ref (b 7), .int (nI 0), .int (nI sP), .int (nU), .int (iS), .int (sN), .int (sR), .int (lE), .int (fI), .int (sC)]))]) 0 0 := by
  refine kb_I_of (cc := cX5_clearText) (maxL := 2) (ret := (some .int)) (by decide) rfl (Nat.le_of_ble_eq_true rfl) ?_
  intro p e s mm args below meth c A hx hb hml hr hts hown hlocks hnm hA hN hK hP hD hS ls hl Q hQ
  have hl : lv_has ls 2 [(0, .ref (b 0))] := hl
  have hP : va_P D vwCl [((b 0), .inr (5, [.ref (b 1), .ref (b 2), .ref (b 3), .ref (b 4), .int (nI hL), .ref (b 5), .int (iK), .ref (b 6), .ref (b 7), .int (nI tL), .int (nI sP), .int (nU), .int (iS), .int (sN), .int (sR), .int (lE), .int (fI), .int (sC)]))] s.heap := hP
  have hD : va_D A [((b 0), .inr (5, [.ref (b 1), .ref (b 2), .ref (b 3), .ref (b 4), .int (nI hL), .ref (b 5), .int (iK), .ref (b 6), .ref (b 7), .int (nI tL), .int (nI sP), .int (nU), .int (iS), .int (sN), .int (sR), .int (lE), .int (fI), .int (sC)]))] := hD
  have fl143 := hts (.fieldLink RX5 143 "KingsBanquetModel" "textLong" "I") (by decide +kernel)
  refine lv_aload_n hx hb dX5_clearText_0 rfl (lv_at hl 0 rfl) ?_
  refine va_get (D := D) (ci := 5) (v := .int (nI tL)) (C := RX5) (T := TX5) (N := 18) hx hb hts inwX5_clearText_X5 hown hK hP 0 rfl rfl 9 (by decide) fl143 (fun _ h9 => h9) rfl dX5_clearText_1 ?_
  refine lv_istore_n (lv' := [(1, .int (nI tL)), (0, .ref (b 0))]) hx hb dX5_clearText_4 rfl hl (by decide) rfl (fun ls hl => ?_)
  refine lv_aload_n hx hb dX5_clearText_5 rfl (lv_at hl 1 rfl) ?_
  refine lv_iconst (v := nI 0) hx hb dX5_clearText_6 (by decide) ?_
  refine va_put (D := D) (ci := 5) (v := .int (nI 0)) (ty := .int) (C := RX5) (T := TX5) (N := 18) hx hb hts inwX5_clearText_X5 tyX5 tyX5_ok nmX5 hown hK hP hD hS 0 rfl rfl 9 (by decide) fl143 (fun _ h9 => h9) rfl (by decide +kernel) rfl rfl (Nat.le_of_ble_eq_true rfl) dX5_clearText_7 (fun H locs hP hD hS => ?_)
  have hP : va_P D vwCl [((b 0), .inr (5, [.ref (b 1), .ref (b 2), .ref (b 3), .ref (b 4), .int (nI hL), .ref (b 5), .int (iK), .ref (b 6), .ref (b 7), .int (nI 0), .int (nI sP), .int (nU), .int (iS), .int (sN), .int (sR), .int (lE), .int (fI), .int (sC)]))] H := hP
  have hD : va_D A [((b 0), .inr (5, [.ref (b 1), .ref (b 2), .ref (b 3), .ref (b 4), .int (nI hL), .ref (b 5), .int (iK), .ref (b 6), .ref (b 7), .int (nI 0), .int (nI sP), .int (nU), .int (iS), .int (sN), .int (sR), .int (lE), .int (fI), .int (sC)]))] := hD
  refine lv_iload_n hx hb dX5_clearText_10 rfl (lv_at hl 0 rfl) ?_
  exact kb_iret (D := D) hQ hx hb hr hlocks hK hP hD hS dX5_clearText_11 () rfl (Nat.le_refl _) (Nat.le_refl _) (show (nI tL) = nI tL from rfl)
abbrev rmX5_type : Room := { frames := 0, cells := 0, slots := 0, locals := 0 }
theorem hdX5_type : yX5_type.cls = RX5 ∧ yX5_type.cls ≠ "java/lang/invoke/MethodHandle" ∧ yX5_type.cls ≠ "java/lang/invoke/VarHandle" ∧ (parseMethodDescriptor yX5_type.desc).map (fun d => d.parameters.length) = some 1 := by decide +kernel
theorem inwX5_type_X5 : ∀ w ∈ wsX50, w ∈ wsX5_type := fun w h => List.mem_cons_of_mem _ (List.mem_append_right _ h)
set_option maxHeartbeats 4000000 in
set_option maxRecDepth 100000 in
theorem c_X5_type (l : Launch) (D : va_G) (cI : ClassId) (b : Nat → Nat) (hL : Nat) (iK : Int32) (tL : Nat) (sP : Nat) (nU : Int32) (iS : Int32) (sN : Int32) (sR : Int32) (lE : Int32) (fI : Int32) (sC : Int32) (t : Nat → Int32) (x : Nat) (h60 : tL ≤ 60) : kb_I (S := Nat × (Nat → Int32)) D [(cI, .int)] l yX5_type wsX5_type rmX5_type [.ref (b 0), .int (nI x)] [((b 0), .inr (5, [.ref (b 1), .ref (b 2), .ref (b 3), .ref (b 4), .int (nI hL), .ref (b 5), .int (iK), .ref (b 6), .ref (b 7), .int (nI tL), .int (nI sP), .int (nU), .int (iS), .int (sN), .int (sR), .int (lE), .int (fI), .int (sC)])), ((b 7), .inl (cI, 60, .inl t))] (fun (r : Int32) (u : Nat × (Nat → Int32)) => (tL = 60 ∧ r = -3 ∧ u.1 = tL ∧ u.2 = t) ∨ (tL < 60 ∧ r = nI (tL + 1) ∧ u.1 = tL + 1 ∧ u.2 = upd t tL (nI x))) (fun (u : Nat × (Nat → Int32)) => [((b 0), .inr (5, [.ref (b 1), .ref (b 2), .ref (b 3), .ref (b 4), .int (nI hL), .ref (b 5), .int (iK), .ref (b 6), .ref (b 7), .int (nI u.1), .int (nI sP), .int (nU), .int (iS), .int (sN), .int (sR), .int (lE), .int (fI), .int (sC)])), ((b 7), .inl (cI, 60, .inl u.2))]) 0 0 := by
  refine kb_I_of (cc := cX5_type) (maxL := 2) (ret := (some .int)) (by decide) rfl (Nat.le_of_ble_eq_true rfl) ?_
  intro p e s mm args below meth c A hx hb hml hr hts hown hlocks hnm hA hN hK hP hD hS ls hl Q hQ
  have hl : lv_has ls 2 [(0, .ref (b 0)), (1, .int (nI x))] := hl
  have hP : va_P D vwCl [((b 0), .inr (5, [.ref (b 1), .ref (b 2), .ref (b 3), .ref (b 4), .int (nI hL), .ref (b 5), .int (iK), .ref (b 6), .ref (b 7), .int (nI tL), .int (nI sP), .int (nU), .int (iS), .int (sN), .int (sR), .int (lE), .int (fI), .int (sC)])), ((b 7), .inl (cI, 60, .inl t))] s.heap := hP
  have hD : va_D A [((b 0), .inr (5, [.ref (b 1), .ref (b 2), .ref (b 3), .ref (b 4), .int (nI hL), .ref (b 5), .int (iK), .ref (b 6), .ref (b 7), .int (nI tL), .int (nI sP), .int (nU), .int (iS), .int (sN), .int (sR), .int (lE), .int (fI), .int (sC)])), ((b 7), .inl (cI, 60, .inl t))] := hD
  have fl143 := hts (.fieldLink RX5 143 "KingsBanquetModel" "textLong" "I") (by decide +kernel)
  have fl28 := hts (.fieldLink RX5 28 "KingsBanquetModel" "text" "[I") (by decide +kernel)
  refine lv_aload_n hx hb dX5_type_0 rfl (lv_at hl 0 rfl) ?_
  refine va_get (D := D) (ci := 5) (v := .int (nI tL)) (C := RX5) (T := TX5) (N := 18) hx hb hts inwX5_type_X5 hown hK hP 0 rfl rfl 9 (by decide) fl143 (fun _ h9 => h9) rfl dX5_type_1 ?_
  refine lv_bipush (v := nI 60) hx hb dX5_type_4 (by decide) ?_
  refine kb_icmp_ne (tgt := 12) hx hb dX5_type_6 (by decide) (by omega) (by omega) (fun c6 => ?_) (fun c6 => ?_)
  · refine lv_aload_n hx hb dX5_type_12 rfl (lv_at hl 0 rfl) ?_
    refine va_get (D := D) (ci := 5) (v := .ref (b 7)) (C := RX5) (T := TX5) (N := 18) hx hb hts inwX5_type_X5 hown hK hP 0 rfl rfl 8 (by decide) fl28 (fun _ h9 => h9) rfl dX5_type_13 ?_
    refine lv_aload_n hx hb dX5_type_16 rfl (lv_at hl 0 rfl) ?_
    refine va_get (D := D) (ci := 5) (v := .int (nI tL)) (C := RX5) (T := TX5) (N := 18) hx hb hts inwX5_type_X5 hown hK hP 0 rfl rfl 9 (by decide) fl143 (fun _ h9 => h9) rfl dX5_type_17 ?_
    refine lv_iload_n hx hb dX5_type_20 rfl (lv_at hl 1 rfl) ?_
    refine kb_iast hx hb hK hP hD hS 1 0 rfl rfl (by decide) (by omega) dX5_type_21 (fun H locs hP hD hS => ?_)
    have hP : va_P D vwCl [((b 0), .inr (5, [.ref (b 1), .ref (b 2), .ref (b 3), .ref (b 4), .int (nI hL), .ref (b 5), .int (iK), .ref (b 6), .ref (b 7), .int (nI tL), .int (nI sP), .int (nU), .int (iS), .int (sN), .int (sR), .int (lE), .int (fI), .int (sC)])), ((b 7), .inl (cI, 60, .inl (upd t tL (nI x))))] H := hP
    have hD : va_D A [((b 0), .inr (5, [.ref (b 1), .ref (b 2), .ref (b 3), .ref (b 4), .int (nI hL), .ref (b 5), .int (iK), .ref (b 6), .ref (b 7), .int (nI tL), .int (nI sP), .int (nU), .int (iS), .int (sN), .int (sR), .int (lE), .int (fI), .int (sC)])), ((b 7), .inl (cI, 60, .inl (upd t tL (nI x))))] := hD
    refine lv_aload_n hx hb dX5_type_22 rfl (lv_at hl 0 rfl) ?_
    refine lv_dup hx hb dX5_type_23 rfl ?_
    refine va_get (D := D) (ci := 5) (v := .int (nI tL)) (C := RX5) (T := TX5) (N := 18) hx hb hts inwX5_type_X5 hown hK hP 0 rfl rfl 9 (by decide) fl143 (fun _ h9 => h9) rfl dX5_type_24 ?_
    refine lv_iconst (v := nI 1) hx hb dX5_type_27 (by decide) ?_
    refine lv_iadd hx hb dX5_type_28 ?_
    refine kb_top (nI (tL + 1)) (nI_add tL 1) ?_
    refine va_put (D := D) (ci := 5) (v := .int (nI (tL + 1))) (ty := .int) (C := RX5) (T := TX5) (N := 18) hx hb hts inwX5_type_X5 tyX5 tyX5_ok nmX5 hown hK hP hD hS 0 rfl rfl 9 (by decide) fl143 (fun _ h9 => h9) rfl (by decide +kernel) rfl rfl (Nat.le_of_ble_eq_true rfl) dX5_type_29 (fun H locs hP hD hS => ?_)
    have hP : va_P D vwCl [((b 0), .inr (5, [.ref (b 1), .ref (b 2), .ref (b 3), .ref (b 4), .int (nI hL), .ref (b 5), .int (iK), .ref (b 6), .ref (b 7), .int (nI (tL + 1)), .int (nI sP), .int (nU), .int (iS), .int (sN), .int (sR), .int (lE), .int (fI), .int (sC)])), ((b 7), .inl (cI, 60, .inl (upd t tL (nI x))))] H := hP
    have hD : va_D A [((b 0), .inr (5, [.ref (b 1), .ref (b 2), .ref (b 3), .ref (b 4), .int (nI hL), .ref (b 5), .int (iK), .ref (b 6), .ref (b 7), .int (nI (tL + 1)), .int (nI sP), .int (nU), .int (iS), .int (sN), .int (sR), .int (lE), .int (fI), .int (sC)])), ((b 7), .inl (cI, 60, .inl (upd t tL (nI x))))] := hD
    refine lv_aload_n hx hb dX5_type_32 rfl (lv_at hl 0 rfl) ?_
    refine va_get (D := D) (ci := 5) (v := .int (nI (tL + 1))) (C := RX5) (T := TX5) (N := 18) hx hb hts inwX5_type_X5 hown hK hP 0 rfl rfl 9 (by decide) fl143 (fun _ h9 => h9) rfl dX5_type_33 ?_
    exact kb_iret (D := D) hQ hx hb hr hlocks hK hP hD hS dX5_type_36 (tL + 1, upd t tL (nI x)) rfl (Nat.le_refl _) (Nat.le_refl _) (show (tL = 60 ∧ (nI (tL + 1)) = -3 ∧ (tL + 1) = tL ∧ (upd t tL (nI x)) = t) ∨ (tL < 60 ∧ (nI (tL + 1)) = nI (tL + 1) ∧ (tL + 1) = tL + 1 ∧ (upd t tL (nI x)) = upd t tL (nI x)) from (Or.inr ⟨by omega, rfl, rfl, rfl⟩))
  · refine lv_bipush (v := (-3)) hx hb dX5_type_9 (by decide) ?_
    exact kb_iret (D := D) hQ hx hb hr hlocks hK hP hD hS dX5_type_11 (tL, t) rfl (Nat.le_refl _) (Nat.le_refl _) (show (tL = 60 ∧ (-3) = -3 ∧ tL = tL ∧ t = t) ∨ (tL < 60 ∧ (-3) = nI (tL + 1) ∧ tL = tL + 1 ∧ t = upd t tL (nI x)) from (Or.inl ⟨by omega, rfl, rfl, rfl⟩))
abbrev rmX5_isHere : Room := { frames := 1, cells := 0, slots := 0, locals := 25 }
theorem hdX5_isHere : yX5_isHere.cls = RX5 ∧ yX5_isHere.cls ≠ "java/lang/invoke/MethodHandle" ∧ yX5_isHere.cls ≠ "java/lang/invoke/VarHandle" ∧ (parseMethodDescriptor yX5_isHere.desc).map (fun d => d.parameters.length) = some 2 := by decide +kernel
theorem inwX5_isHere_X5 : ∀ w ∈ wsX50, w ∈ wsX5_isHere := fun w h => List.mem_cons_of_mem _ (List.mem_append_right _ h)
set_option maxHeartbeats 4000000 in
set_option maxRecDepth 100000 in
theorem c_X5_isHere (l : Launch) (D : va_G) (cI : ClassId) (b : Nat → Nat) (hL : Nat) (iK : Int32) (tL : Nat) (sP : Nat) (nU : Int32) (iS : Int32) (sN : Int32) (sR : Int32) (lE : Int32) (fI : Int32) (sC : Int32) (t : Nat → Int32) (tx : Nat → Nat) (htx : tOk t tx tL) (lo : Nat) (hi : Nat) (hlo : lo < 65536) (hhi : hi < 65536) (hsp : sP ≤ 60) : kb_R D [(cI, .int)] l yX5_isHere wsX5_isHere rmX5_isHere [.ref (b 0), .int (nI lo), .int (nI hi)] [((b 0), .inr (5, [.ref (b 1), .ref (b 2), .ref (b 3), .ref (b 4), .int (nI hL), .ref (b 5), .int (iK), .ref (b 6), .ref (b 7), .int (nI tL), .int (nI sP), .int (nU), .int (iS), .int (sN), .int (sR), .int (lE), .int (fI), .int (sC)])), ((b 7), .inl (cI, 60, .inl t))] (kb_b (hre tx tL sP lo hi)) := by
  refine kb_I_of (cc := cX5_isHere) (maxL := 3) (ret := (some .boolean)) (by decide) rfl (Nat.le_of_ble_eq_true rfl) ?_
  intro p e s mm args below meth c A hx hb hml hr hts hown hlocks hnm hA hN hK hP hD hS ls hl Q hQ
  have hl : lv_has ls 3 [(0, .ref (b 0)), (1, .int (nI lo)), (2, .int (nI hi))] := hl
  have hP : va_P D vwCl [((b 0), .inr (5, [.ref (b 1), .ref (b 2), .ref (b 3), .ref (b 4), .int (nI hL), .ref (b 5), .int (iK), .ref (b 6), .ref (b 7), .int (nI tL), .int (nI sP), .int (nU), .int (iS), .int (sN), .int (sR), .int (lE), .int (fI), .int (sC)])), ((b 7), .inl (cI, 60, .inl t))] s.heap := hP
  have hD : va_D A [((b 0), .inr (5, [.ref (b 1), .ref (b 2), .ref (b 3), .ref (b 4), .int (nI hL), .ref (b 5), .int (iK), .ref (b 6), .ref (b 7), .int (nI tL), .int (nI sP), .int (nU), .int (iS), .int (sN), .int (sR), .int (lE), .int (fI), .int (sC)])), ((b 7), .inl (cI, 60, .inl t))] := hD
  have fl146 := hts (.fieldLink RX5 146 "KingsBanquetModel" "spot" "I") (by decide +kernel)
  have fl143 := hts (.fieldLink RX5 143 "KingsBanquetModel" "textLong" "I") (by decide +kernel)
  have fl28 := hts (.fieldLink RX5 28 "KingsBanquetModel" "text" "[I") (by decide +kernel)
  have hn := htx.1
  refine lv_aload_n hx hb dX5_isHere_0 rfl (lv_at hl 0 rfl) ?_
  refine va_get (D := D) (ci := 5) (v := .int (nI sP)) (C := RX5) (T := TX5) (N := 18) hx hb hts inwX5_isHere_X5 hown hK hP 0 rfl rfl 10 (by decide) fl146 (fun _ h9 => h9) rfl dX5_isHere_1 ?_
  refine lv_aload_n hx hb dX5_isHere_4 rfl (lv_at hl 0 rfl) ?_
  refine va_get (D := D) (ci := 5) (v := .int (nI tL)) (C := RX5) (T := TX5) (N := 18) hx hb hts inwX5_isHere_X5 hown hK hP 0 rfl rfl 9 (by decide) fl143 (fun _ h9 => h9) rfl dX5_isHere_5 ?_
  refine kb_icmp_ge (tgt := 35) hx hb dX5_isHere_8 (by decide) (by omega) (by omega) (fun c8 => ?_) (fun c8 => ?_)
  · refine lv_iconst (v := nI 0) hx hb dX5_isHere_35 (by decide) ?_
    exact kb_zret (D := D) hQ hx hb hr hlocks hK hP hD hS dX5_isHere_36 rfl () rfl (Nat.le_refl _) (Nat.le_refl _) (show nI 0 = kb_b (hre tx tL sP lo hi) from (by first | exact hre_1 (by omega) c28 | exact hre_0 c28 | exact hre_n (by omega)))
  · have hcx := (htx.2 sP (by omega)).2
    refine lv_aload_n hx hb dX5_isHere_11 rfl (lv_at hl 0 rfl) ?_
    refine va_get (D := D) (ci := 5) (v := .ref (b 7)) (C := RX5) (T := TX5) (N := 18) hx hb hts inwX5_isHere_X5 hown hK hP 0 rfl rfl 8 (by decide) fl28 (fun _ h9 => h9) rfl dX5_isHere_12 ?_
    refine lv_aload_n hx hb dX5_isHere_15 rfl (lv_at hl 0 rfl) ?_
    refine va_get (D := D) (ci := 5) (v := .int (nI sP)) (C := RX5) (T := TX5) (N := 18) hx hb hts inwX5_isHere_X5 hown hK hP 0 rfl rfl 10 (by decide) fl146 (fun _ h9 => h9) rfl dX5_isHere_16 ?_
    refine kb_iald hx hb hK hP 1 0 rfl rfl (by decide) (by omega) dX5_isHere_19 ?_
    refine kb_top (nI (tx sP)) (htx.2 sP (by omega)).1 ?_
    refine lv_i2l (v := (nI (tx sP)).toInt64) hx hb dX5_isHere_20 rfl ?_
    refine lv_iload_n hx hb dX5_isHere_21 rfl (lv_at hl 1 rfl) ?_
    refine lv_i2l (v := (nI lo).toInt64) hx hb dX5_isHere_22 rfl ?_
    refine lv_iload_n hx hb dX5_isHere_23 rfl (lv_at hl 2 rfl) ?_
    refine lv_i2l (v := (nI hi).toInt64) hx hb dX5_isHere_24 rfl ?_
    refine kb_sR (As := [.long ((nI (tx sP)).toInt64), .long ((nI lo).toInt64), .long ((nI hi).toInt64)]) (rest := []) hx hb hml hts hown hN hK hP hD hS hA (c_X5_in l D ((nI (tx sP)).toInt64) ((nI lo).toInt64) ((nI hi).toInt64)) gX5_isHere_X5_in rfl ⟨rfl, rfl⟩ hdX5_in.2 ⟨Nat.le_of_ble_eq_true rfl, Nat.le_of_ble_eq_true rfl⟩ [] [] rfl rfl rfl rfl rfl hl.1 (Nat.le_of_ble_eq_true rfl) dX5_isHere_25 ⟨Nat.zero_le _, Nat.zero_le _⟩ (fun H locs hP hS => ?_)
    refine kb_top (kb_b (decide (lo ≤ tx sP ∧ tx sP ≤ hi))) (congrArg kb_b (inL_n (by omega) (by omega) (by omega))) ?_
    refine kb_bif_eq (tgt := 35) hx hb dX5_isHere_28 (by decide) (fun c28 => ?_) (fun c28 => ?_)
    · refine lv_iconst (v := nI 0) hx hb dX5_isHere_35 (by decide) ?_
      exact kb_zret (D := D) hQ hx hb hr hlocks hK hP hD hS dX5_isHere_36 rfl () rfl (Nat.le_refl _) (Nat.le_refl _) (show nI 0 = kb_b (hre tx tL sP lo hi) from (by first | exact hre_1 (by omega) c28 | exact hre_0 c28 | exact hre_n (by omega)))
    · refine lv_iconst (v := nI 1) hx hb dX5_isHere_31 (by decide) ?_
      refine lv_goto (tgt := 36) hx hb dX5_isHere_32 (by decide) ?_
      exact kb_zret (D := D) hQ hx hb hr hlocks hK hP hD hS dX5_isHere_36 rfl () rfl (Nat.le_refl _) (Nat.le_refl _) (show nI 1 = kb_b (hre tx tL sP lo hi) from (by first | exact hre_1 (by omega) c28 | exact hre_0 c28 | exact hre_n (by omega)))
