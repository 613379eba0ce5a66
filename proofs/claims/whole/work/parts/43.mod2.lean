abbrev rmX5_seatOf : Room := { frames := 1, cells := 0, slots := 0, locals := 24 }
theorem hdX5_seatOf : yX5_seatOf.cls = RX5 ∧ yX5_seatOf.cls ≠ "java/lang/invoke/MethodHandle" ∧ yX5_seatOf.cls ≠ "java/lang/invoke/VarHandle" ∧ (parseMethodDescriptor yX5_seatOf.desc).map (fun d => d.parameters.length) = some 1 := by decide +kernel
theorem inwX5_seatOf_X5 : ∀ w ∈ wsX50, w ∈ wsX5_seatOf := fun w h => List.mem_cons_of_mem _ (List.mem_append_right _ h)
set_option maxHeartbeats 4000000 in
set_option maxRecDepth 100000 in
theorem c_X5_seatOf (l : Launch) (D : va_G) (cI : ClassId) (b : Nat → Nat) (hL : Nat) (iK : Int32) (tL : Nat) (sP : Nat) (nU : Int32) (iS : Int32) (sN : Int32) (sR : Int32) (lE : Int32) (fI : Int32) (sC : Int32) (v : Nat → Int32) (g : Sg) (hv : rV v g) (ho : Ok g) (k : Nat) (hk : k < 24) : kb_R D [(cI, .int)] l yX5_seatOf wsX5_seatOf rmX5_seatOf [.ref (b 0), .int (nI k)] [((b 0), .inr (5, [.ref (b 1), .ref (b 2), .ref (b 3), .ref (b 4), .int (nI hL), .ref (b 5), .int (iK), .ref (b 6), .ref (b 7), .int (nI tL), .int (nI sP), .int (nU), .int (iS), .int (sN), .int (sR), .int (lE), .int (fI), .int (sC)])), ((b 1), .inl (cI, 217, .inl v))] (oI (decide (plT g k < nT g)) (plT g k)) := by
  refine kb_I_of (cc := cX5_seatOf) (maxL := 2) (ret := (some .int)) (by decide) rfl (Nat.le_of_ble_eq_true rfl) ?_
  intro p e s mm args below meth c A hx hb hml hr hts hown hlocks hnm hA hN hK hP hD hS ls hl Q hQ
  have hl : lv_has ls 2 [(0, .ref (b 0)), (1, .int (nI k))] := hl
  have hP : va_P D vwCl [((b 0), .inr (5, [.ref (b 1), .ref (b 2), .ref (b 3), .ref (b 4), .int (nI hL), .ref (b 5), .int (iK), .ref (b 6), .ref (b 7), .int (nI tL), .int (nI sP), .int (nU), .int (iS), .int (sN), .int (sR), .int (lE), .int (fI), .int (sC)])), ((b 1), .inl (cI, 217, .inl v))] s.heap := hP
  have hD : va_D A [((b 0), .inr (5, [.ref (b 1), .ref (b 2), .ref (b 3), .ref (b 4), .int (nI hL), .ref (b 5), .int (iK), .ref (b 6), .ref (b 7), .int (nI tL), .int (nI sP), .int (nU), .int (iS), .int (sN), .int (sR), .int (lE), .int (fI), .int (sC)])), ((b 1), .inl (cI, 217, .inl v))] := hD
  have fl7 := hts (.fieldLink RX5 7 "KingsBanquetModel" "all" "[I") (by decide +kernel)
  have hn := ho.n
  refine lv_aload_n hx hb dX5_seatOf_0 rfl (lv_at hl 0 rfl) ?_
  refine lv_bipush (v := nI 12) hx hb dX5_seatOf_1 (by decide) ?_
  refine lv_aload_n hx hb dX5_seatOf_3 rfl (lv_at hl 0 rfl) ?_
  refine va_get (D := D) (ci := 5) (v := .ref (b 1)) (C := RX5) (T := TX5) (N := 18) hx hb hts inwX5_seatOf_X5 hown hK hP 0 rfl rfl 0 (by decide) fl7 (fun _ h9 => h9) rfl dX5_seatOf_4 ?_
  refine lv_bipush (v := nI 11) hx hb dX5_seatOf_7 (by decide) ?_
  refine kb_iald hx hb hK hP 1 0 rfl rfl (by decide) (by omega) dX5_seatOf_9 ?_
  refine kb_top (nI (nT g)) hv.t ?_
  refine lv_iload_n hx hb dX5_seatOf_10 rfl (lv_at hl 1 rfl) ?_
  refine kb_vR (As := [.int (nI 12), .int (nI (nT g)), .int (nI k)]) (rest := []) hx hb hml hts hown hN hK hP hD hS hA (c_X5_placeIn l D cI b hL iK tL sP nU iS sN sR lE fI sC v 12 (nT g) (nI k) (by omega)) gX5_seatOf_X5_placeIn rfl ⟨rfl, rfl⟩ hdX5_placeIn ⟨Nat.le_of_ble_eq_true rfl, Nat.le_of_ble_eq_true rfl⟩ [0, 1] [0] rfl rfl rfl (ci := 5) rfl rfl rfl rfl rfl hl.1 (Nat.le_of_ble_eq_true rfl) dX5_seatOf_11 ⟨Nat.zero_le _, Nat.zero_le _⟩ (fun H locs hP hS => ?_)
  exact kb_iret (D := D) hQ hx hb hr hlocks hK hP hD hS dX5_seatOf_14 () rfl (Nat.le_refl _) (Nat.le_refl _) (show rFind (fun j => v (12 + j)) (nT g) (nI k) = oI (decide (plT g k < nT g)) (plT g k) from (rT_find ho hv.rT hk))
abbrev rmX5_waitOf : Room := { frames := 1, cells := 0, slots := 0, locals := 24 }
theorem hdX5_waitOf : yX5_waitOf.cls = RX5 ∧ yX5_waitOf.cls ≠ "java/lang/invoke/MethodHandle" ∧ yX5_waitOf.cls ≠ "java/lang/invoke/VarHandle" ∧ (parseMethodDescriptor yX5_waitOf.desc).map (fun d => d.parameters.length) = some 1 := by decide +kernel
theorem inwX5_waitOf_X5 : ∀ w ∈ wsX50, w ∈ wsX5_waitOf := fun w h => List.mem_cons_of_mem _ (List.mem_append_right _ h)
set_option maxHeartbeats 4000000 in
set_option maxRecDepth 100000 in
theorem c_X5_waitOf (l : Launch) (D : va_G) (cI : ClassId) (b : Nat → Nat) (hL : Nat) (iK : Int32) (tL : Nat) (sP : Nat) (nU : Int32) (iS : Int32) (sN : Int32) (sR : Int32) (lE : Int32) (fI : Int32) (sC : Int32) (v : Nat → Int32) (g : Sg) (hv : rV v g) (ho : Ok g) (k : Nat) (hk : k < 24) : kb_R D [(cI, .int)] l yX5_waitOf wsX5_waitOf rmX5_waitOf [.ref (b 0), .int (nI k)] [((b 0), .inr (5, [.ref (b 1), .ref (b 2), .ref (b 3), .ref (b 4), .int (nI hL), .ref (b 5), .int (iK), .ref (b 6), .ref (b 7), .int (nI tL), .int (nI sP), .int (nU), .int (iS), .int (sN), .int (sR), .int (lE), .int (fI), .int (sC)])), ((b 1), .inl (cI, 217, .inl v))] (oI (decide (plW g k < nW g)) (plW g k)) := by
  refine kb_I_of (cc := cX5_waitOf) (maxL := 2) (ret := (some .int)) (by decide) rfl (Nat.le_of_ble_eq_true rfl) ?_
  intro p e s mm args below meth c A hx hb hml hr hts hown hlocks hnm hA hN hK hP hD hS ls hl Q hQ
  have hl : lv_has ls 2 [(0, .ref (b 0)), (1, .int (nI k))] := hl
  have hP : va_P D vwCl [((b 0), .inr (5, [.ref (b 1), .ref (b 2), .ref (b 3), .ref (b 4), .int (nI hL), .ref (b 5), .int (iK), .ref (b 6), .ref (b 7), .int (nI tL), .int (nI sP), .int (nU), .int (iS), .int (sN), .int (sR), .int (lE), .int (fI), .int (sC)])), ((b 1), .inl (cI, 217, .inl v))] s.heap := hP
  have hD : va_D A [((b 0), .inr (5, [.ref (b 1), .ref (b 2), .ref (b 3), .ref (b 4), .int (nI hL), .ref (b 5), .int (iK), .ref (b 6), .ref (b 7), .int (nI tL), .int (nI sP), .int (nU), .int (iS), .int (sN), .int (sR), .int (lE), .int (fI), .int (sC)])), ((b 1), .inl (cI, 217, .inl v))] := hD
  have fl7 := hts (.fieldLink RX5 7 "KingsBanquetModel" "all" "[I") (by decide +kernel)
  have hn := ho.n
  refine lv_aload_n hx hb dX5_waitOf_0 rfl (lv_at hl 0 rfl) ?_
  refine lv_bipush (v := nI 25) hx hb dX5_waitOf_1 (by decide) ?_
  refine lv_aload_n hx hb dX5_waitOf_3 rfl (lv_at hl 0 rfl) ?_
  refine va_get (D := D) (ci := 5) (v := .ref (b 1)) (C := RX5) (T := TX5) (N := 18) hx hb hts inwX5_waitOf_X5 hown hK hP 0 rfl rfl 0 (by decide) fl7 (fun _ h9 => h9) rfl dX5_waitOf_4 ?_
  refine lv_bipush (v := nI 24) hx hb dX5_waitOf_7 (by decide) ?_
  refine kb_iald hx hb hK hP 1 0 rfl rfl (by decide) (by omega) dX5_waitOf_9 ?_
  refine kb_top (nI (nW g)) hv.w ?_
  refine lv_iload_n hx hb dX5_waitOf_10 rfl (lv_at hl 1 rfl) ?_
  refine kb_vR (As := [.int (nI 25), .int (nI (nW g)), .int (nI k)]) (rest := []) hx hb hml hts hown hN hK hP hD hS hA (c_X5_placeIn l D cI b hL iK tL sP nU iS sN sR lE fI sC v 25 (nW g) (nI k) (by omega)) gX5_waitOf_X5_placeIn rfl ⟨rfl, rfl⟩ hdX5_placeIn ⟨Nat.le_of_ble_eq_true rfl, Nat.le_of_ble_eq_true rfl⟩ [0, 1] [0] rfl rfl rfl (ci := 5) rfl rfl rfl rfl rfl hl.1 (Nat.le_of_ble_eq_true rfl) dX5_waitOf_11 ⟨Nat.zero_le _, Nat.zero_le _⟩ (fun H locs hP hS => ?_)
  exact kb_iret (D := D) hQ hx hb hr hlocks hK hP hD hS dX5_waitOf_14 () rfl (Nat.le_refl _) (Nat.le_refl _) (show rFind (fun j => v (25 + j)) (nW g) (nI k) = oI (decide (plW g k < nW g)) (plW g k) from (rM_find ho hv.rM hk))
abbrev rmX5_isWrong : Room := { frames := 2, cells := 0, slots := 0, locals := 46 }
theorem hdX5_isWrong : yX5_isWrong.cls = RX5 ∧ yX5_isWrong.cls ≠ "java/lang/invoke/MethodHandle" ∧ yX5_isWrong.cls ≠ "java/lang/invoke/VarHandle" ∧ (parseMethodDescriptor yX5_isWrong.desc).map (fun d => d.parameters.length) = some 1 := by decide +kernel
theorem inwX5_isWrong_X5 : ∀ w ∈ wsX50, w ∈ wsX5_isWrong := fun w h => List.mem_cons_of_mem _ (List.mem_append_right _ h)
set_option maxHeartbeats 4000000 in
set_option maxRecDepth 100000 in
theorem c_X5_isWrong (l : Launch) (D : va_G) (cI : ClassId) (b : Nat → Nat) (hL : Nat) (iK : Int32) (tL : Nat) (sP : Nat) (nU : Int32) (iS : Int32) (sN : Int32) (sR : Int32) (lE : Int32) (fI : Int32) (sC : Int32) (v : Nat → Int32) (g : Sg) (hv : rV v g) (ho : Ok g) (i : Nat) (hi : i + 1 < nT g) : kb_R D [(cI, .int)] l yX5_isWrong wsX5_isWrong rmX5_isWrong [.ref (b 0), .int (nI i)] [((b 0), .inr (5, [.ref (b 1), .ref (b 2), .ref (b 3), .ref (b 4), .int (nI hL), .ref (b 5), .int (iK), .ref (b 6), .ref (b 7), .int (nI tL), .int (nI sP), .int (nU), .int (iS), .int (sN), .int (sR), .int (lE), .int (fI), .int (sC)])), ((b 1), .inl (cI, 217, .inl v))] (kb_b (wrg g i)) := by
  refine kb_I_of (cc := cX5_isWrong) (maxL := 2) (ret := (some .boolean)) (by decide) rfl (Nat.le_of_ble_eq_true rfl) ?_
  intro p e s mm args below meth c A hx hb hml hr hts hown hlocks hnm hA hN hK hP hD hS ls hl Q hQ
  have hl : lv_has ls 2 [(0, .ref (b 0)), (1, .int (nI i))] := hl
  have hP : va_P D vwCl [((b 0), .inr (5, [.ref (b 1), .ref (b 2), .ref (b 3), .ref (b 4), .int (nI hL), .ref (b 5), .int (iK), .ref (b 6), .ref (b 7), .int (nI tL), .int (nI sP), .int (nU), .int (iS), .int (sN), .int (sR), .int (lE), .int (fI), .int (sC)])), ((b 1), .inl (cI, 217, .inl v))] s.heap := hP
  have hD : va_D A [((b 0), .inr (5, [.ref (b 1), .ref (b 2), .ref (b 3), .ref (b 4), .int (nI hL), .ref (b 5), .int (iK), .ref (b 6), .ref (b 7), .int (nI tL), .int (nI sP), .int (nU), .int (iS), .int (sN), .int (sR), .int (lE), .int (fI), .int (sC)])), ((b 1), .inl (cI, 217, .inl v))] := hD
  have fl7 := hts (.fieldLink RX5 7 "KingsBanquetModel" "all" "[I") (by decide +kernel)
  have hn := ho.n
  refine lv_aload_n hx hb dX5_isWrong_0 rfl (lv_at hl 0 rfl) ?_
  refine lv_aload_n hx hb dX5_isWrong_1 rfl (lv_at hl 0 rfl) ?_
  refine va_get (D := D) (ci := 5) (v := .ref (b 1)) (C := RX5) (T := TX5) (N := 18) hx hb hts inwX5_isWrong_X5 hown hK hP 0 rfl rfl 0 (by decide) fl7 (fun _ h9 => h9) rfl dX5_isWrong_2 ?_
  refine lv_bipush (v := nI 12) hx hb dX5_isWrong_5 (by decide) ?_
  refine lv_iload_n hx hb dX5_isWrong_7 rfl (lv_at hl 1 rfl) ?_
  refine lv_iadd hx hb dX5_isWrong_8 ?_
  refine kb_top (nI (12 + i)) (nI_add 12 i) ?_
  refine lv_iconst (v := nI 1) hx hb dX5_isWrong_9 (by decide) ?_
  refine lv_iadd hx hb dX5_isWrong_10 ?_
  refine kb_top (nI (12 + i + 1)) (nI_add (12 + i) 1) ?_
  refine kb_iald hx hb hK hP 1 0 rfl rfl (by decide) (by omega) dX5_isWrong_11 ?_
  refine kb_top (nI (gT g (i + 1))) (hv.s1 hi) ?_
  refine lv_aload_n hx hb dX5_isWrong_12 rfl (lv_at hl 0 rfl) ?_
  refine va_get (D := D) (ci := 5) (v := .ref (b 1)) (C := RX5) (T := TX5) (N := 18) hx hb hts inwX5_isWrong_X5 hown hK hP 0 rfl rfl 0 (by decide) fl7 (fun _ h9 => h9) rfl dX5_isWrong_13 ?_
  refine lv_bipush (v := nI 12) hx hb dX5_isWrong_16 (by decide) ?_
  refine lv_iload_n hx hb dX5_isWrong_18 rfl (lv_at hl 1 rfl) ?_
  refine lv_iadd hx hb dX5_isWrong_19 ?_
  refine kb_top (nI (12 + i)) (nI_add 12 i) ?_
  refine kb_iald hx hb hK hP 1 0 rfl rfl (by decide) (by omega) dX5_isWrong_20 ?_
  refine kb_top (nI (gT g i)) (hv.s (by omega)) ?_
  refine kb_vR (As := [.int (nI (gT g (i + 1))), .int (nI (gT g i))]) (rest := []) hx hb hml hts hown hN hK hP hD hS hA (c_X5_isGreater l D cI b hL iK tL sP nU iS sN sR lE fI sC v (by first | assumption | omega) (by first | assumption | omega) (by first | assumption | omega) (gT g (i + 1)) (gT g i) ((ho.t (i + 1) (by omega)).1) ((ho.t i (by omega)).1)) gX5_isWrong_X5_isGreater rfl ⟨rfl, rfl⟩ hdX5_isGreater ⟨Nat.le_of_ble_eq_true rfl, Nat.le_of_ble_eq_true rfl⟩ [0, 1] [0] rfl rfl rfl (ci := 5) rfl rfl rfl rfl rfl hl.1 (Nat.le_of_ble_eq_true rfl) dX5_isWrong_21 ⟨Nat.zero_le _, Nat.zero_le _⟩ (fun H locs hP hS => ?_)
  exact kb_zret (D := D) hQ hx hb hr hlocks hK hP hD hS dX5_isWrong_24 (kb_b_n _) () rfl (Nat.le_refl _) (Nat.le_refl _) (show kb_b (gtr g (gT g (i + 1)) (gT g i)) = kb_b (wrg g i) from rfl)
abbrev rmX5_swaps : Room := { frames := 0, cells := 0, slots := 0, locals := 0 }
theorem hdX5_swaps : yX5_swaps.cls = RX5 ∧ yX5_swaps.cls ≠ "java/lang/invoke/MethodHandle" ∧ yX5_swaps.cls ≠ "java/lang/invoke/VarHandle" ∧ (parseMethodDescriptor yX5_swaps.desc).map (fun d => d.parameters.length) = some 1 := by decide +kernel
theorem inwX5_swaps_X5 : ∀ w ∈ wsX50, w ∈ wsX5_swaps := fun w h => List.mem_cons_of_mem _ (List.mem_append_right _ h)
set_option maxHeartbeats 4000000 in
set_option maxRecDepth 100000 in
theorem c_X5_swaps (l : Launch) (D : va_G) (cI : ClassId) (b : Nat → Nat) (hL : Nat) (iK : Int32) (tL : Nat) (sP : Nat) (nU : Int32) (iS : Int32) (sN : Int32) (sR : Int32) (lE : Int32) (fI : Int32) (sC : Int32) (v : Nat → Int32) (i : Nat) (hi : i + 1 < 12) : kb_V (S := Unit) D [(cI, .int)] l yX5_swaps wsX5_swaps rmX5_swaps [.ref (b 0), .int (nI i)] [((b 0), .inr (5, [.ref (b 1), .ref (b 2), .ref (b 3), .ref (b 4), .int (nI hL), .ref (b 5), .int (iK), .ref (b 6), .ref (b 7), .int (nI tL), .int (nI sP), .int (nU), .int (iS), .int (sN), .int (sR), .int (lE), .int (fI), .int (sC)])), ((b 1), .inl (cI, 217, .inl v))] (fun (u : Unit) => True) (fun (u : Unit) => [((b 0), .inr (5, [.ref (b 1), .ref (b 2), .ref (b 3), .ref (b 4), .int (nI hL), .ref (b 5), .int (iK), .ref (b 6), .ref (b 7), .int (nI tL), .int (nI sP), .int (nU), .int (iS), .int (sN), .int (sR), .int (lE), .int (fI), .int (sC)])), ((b 1), .inl (cI, 217, .inl (upd (upd v (12 + i) (v (12 + i + 1))) (12 + i + 1) (v (12 + i)))))]) 0 0 := by
  refine kb_V_of (cc := cX5_swaps) (maxL := 3) (ret := none) (by decide) rfl (Nat.le_of_ble_eq_true rfl) ?_
  intro p e s mm args below meth c A hx hb hml hr hts hown hlocks hnm hA hN hK hP hD hS ls hl Q hQ
  have hl : lv_has ls 3 [(0, .ref (b 0)), (1, .int (nI i))] := hl
  have hP : va_P D vwCl [((b 0), .inr (5, [.ref (b 1), .ref (b 2), .ref (b 3), .ref (b 4), .int (nI hL), .ref (b 5), .int (iK), .ref (b 6), .ref (b 7), .int (nI tL), .int (nI sP), .int (nU), .int (iS), .int (sN), .int (sR), .int (lE), .int (fI), .int (sC)])), ((b 1), .inl (cI, 217, .inl v))] s.heap := hP
  have hD : va_D A [((b 0), .inr (5, [.ref (b 1), .ref (b 2), .ref (b 3), .ref (b 4), .int (nI hL), .ref (b 5), .int (iK), .ref (b 6), .ref (b 7), .int (nI tL), .int (nI sP), .int (nU), .int (iS), .int (sN), .int (sR), .int (lE), .int (fI), .int (sC)])), ((b 1), .inl (cI, 217, .inl v))] := hD
  have fl7 := hts (.fieldLink RX5 7 "KingsBanquetModel" "all" "[I") (by decide +kernel)
  refine lv_aload_n hx hb dX5_swaps_0 rfl (lv_at hl 0 rfl) ?_
  refine va_get (D := D) (ci := 5) (v := .ref (b 1)) (C := RX5) (T := TX5) (N := 18) hx hb hts inwX5_swaps_X5 hown hK hP 0 rfl rfl 0 (by decide) fl7 (fun _ h9 => h9) rfl dX5_swaps_1 ?_
  refine lv_bipush (v := nI 12) hx hb dX5_swaps_4 (by decide) ?_
  refine lv_iload_n hx hb dX5_swaps_6 rfl (lv_at hl 1 rfl) ?_
  refine lv_iadd hx hb dX5_swaps_7 ?_
  refine kb_top (nI (12 + i)) (nI_add 12 i) ?_
  refine kb_iald hx hb hK hP 1 0 rfl rfl (by decide) (by omega) dX5_swaps_8 ?_
  refine lv_istore_n (lv' := [(2, .int (v (12 + i))), (0, .ref (b 0)), (1, .int (nI i))]) hx hb dX5_swaps_9 rfl hl (by decide) rfl (fun ls hl => ?_)
  refine lv_aload_n hx hb dX5_swaps_10 rfl (lv_at hl 1 rfl) ?_
  refine va_get (D := D) (ci := 5) (v := .ref (b 1)) (C := RX5) (T := TX5) (N := 18) hx hb hts inwX5_swaps_X5 hown hK hP 0 rfl rfl 0 (by decide) fl7 (fun _ h9 => h9) rfl dX5_swaps_11 ?_
  refine lv_bipush (v := nI 12) hx hb dX5_swaps_14 (by decide) ?_
  refine lv_iload_n hx hb dX5_swaps_16 rfl (lv_at hl 2 rfl) ?_
  refine lv_iadd hx hb dX5_swaps_17 ?_
  refine kb_top (nI (12 + i)) (nI_add 12 i) ?_
  refine lv_aload_n hx hb dX5_swaps_18 rfl (lv_at hl 1 rfl) ?_
  refine va_get (D := D) (ci := 5) (v := .ref (b 1)) (C := RX5) (T := TX5) (N := 18) hx hb hts inwX5_swaps_X5 hown hK hP 0 rfl rfl 0 (by decide) fl7 (fun _ h9 => h9) rfl dX5_swaps_19 ?_
  refine lv_bipush (v := nI 12) hx hb dX5_swaps_22 (by decide) ?_
  refine lv_iload_n hx hb dX5_swaps_24 rfl (lv_at hl 2 rfl) ?_
  refine lv_iadd hx hb dX5_swaps_25 ?_
  refine kb_top (nI (12 + i)) (nI_add 12 i) ?_
  refine lv_iconst (v := nI 1) hx hb dX5_swaps_26 (by decide) ?_
  refine lv_iadd hx hb dX5_swaps_27 ?_
  refine kb_top (nI (12 + i + 1)) (nI_add (12 + i) 1) ?_
  refine kb_iald hx hb hK hP 1 0 rfl rfl (by decide) (by omega) dX5_swaps_28 ?_
  refine kb_iast hx hb hK hP hD hS 1 0 rfl rfl (by decide) (by omega) dX5_swaps_29 (fun H locs hP hD hS => ?_)
  have hP : va_P D vwCl [((b 0), .inr (5, [.ref (b 1), .ref (b 2), .ref (b 3), .ref (b 4), .int (nI hL), .ref (b 5), .int (iK), .ref (b 6), .ref (b 7), .int (nI tL), .int (nI sP), .int (nU), .int (iS), .int (sN), .int (sR), .int (lE), .int (fI), .int (sC)])), ((b 1), .inl (cI, 217, .inl (upd v (12 + i) (v (12 + i + 1)))))] H := hP
  have hD : va_D A [((b 0), .inr (5, [.ref (b 1), .ref (b 2), .ref (b 3), .ref (b 4), .int (nI hL), .ref (b 5), .int (iK), .ref (b 6), .ref (b 7), .int (nI tL), .int (nI sP), .int (nU), .int (iS), .int (sN), .int (sR), .int (lE), .int (fI), .int (sC)])), ((b 1), .inl (cI, 217, .inl (upd v (12 + i) (v (12 + i + 1)))))] := hD
  refine lv_aload_n hx hb dX5_swaps_30 rfl (lv_at hl 1 rfl) ?_
  refine va_get (D := D) (ci := 5) (v := .ref (b 1)) (C := RX5) (T := TX5) (N := 18) hx hb hts inwX5_swaps_X5 hown hK hP 0 rfl rfl 0 (by decide) fl7 (fun _ h9 => h9) rfl dX5_swaps_31 ?_
  refine lv_bipush (v := nI 12) hx hb dX5_swaps_34 (by decide) ?_
  refine lv_iload_n hx hb dX5_swaps_36 rfl (lv_at hl 2 rfl) ?_
  refine lv_iadd hx hb dX5_swaps_37 ?_
  refine kb_top (nI (12 + i)) (nI_add 12 i) ?_
  refine lv_iconst (v := nI 1) hx hb dX5_swaps_38 (by decide) ?_
  refine lv_iadd hx hb dX5_swaps_39 ?_
  refine kb_top (nI (12 + i + 1)) (nI_add (12 + i) 1) ?_
  refine lv_iload_n hx hb dX5_swaps_40 rfl (lv_at hl 0 rfl) ?_
  refine kb_iast hx hb hK hP hD hS 1 0 rfl rfl (by decide) (by omega) dX5_swaps_41 (fun H locs hP hD hS => ?_)
  have hP : va_P D vwCl [((b 0), .inr (5, [.ref (b 1), .ref (b 2), .ref (b 3), .ref (b 4), .int (nI hL), .ref (b 5), .int (iK), .ref (b 6), .ref (b 7), .int (nI tL), .int (nI sP), .int (nU), .int (iS), .int (sN), .int (sR), .int (lE), .int (fI), .int (sC)])), ((b 1), .inl (cI, 217, .inl (upd (upd v (12 + i) (v (12 + i + 1))) (12 + i + 1) (v (12 + i)))))] H := hP
  have hD : va_D A [((b 0), .inr (5, [.ref (b 1), .ref (b 2), .ref (b 3), .ref (b 4), .int (nI hL), .ref (b 5), .int (iK), .ref (b 6), .ref (b 7), .int (nI tL), .int (nI sP), .int (nU), .int (iS), .int (sN), .int (sR), .int (lE), .int (fI), .int (sC)])), ((b 1), .inl (cI, 217, .inl (upd (upd v (12 + i) (v (12 + i + 1))) (12 + i + 1) (v (12 + i)))))] := hD
  exact kb_vret (D := D) hQ hx hb hr hlocks hK hP hD hS dX5_swaps_42 () rfl (Nat.le_refl _) (Nat.le_refl _) (show True from trivial)
abbrev rmX5_isSlightedAt : Room := { frames := 2, cells := 0, slots := 0, locals := 46 }
theorem hdX5_isSlightedAt : yX5_isSlightedAt.cls = RX5 ∧ yX5_isSlightedAt.cls ≠ "java/lang/invoke/MethodHandle" ∧ yX5_isSlightedAt.cls ≠ "java/lang/invoke/VarHandle" ∧ (parseMethodDescriptor yX5_isSlightedAt.desc).map (fun d => d.parameters.length) = some 1 := by decide +kernel
theorem inwX5_isSlightedAt_X5 : ∀ w ∈ wsX50, w ∈ wsX5_isSlightedAt := fun w h => List.mem_cons_of_mem _ (List.mem_append_right _ h)
set_option maxHeartbeats 4000000 in
set_option maxRecDepth 100000 in
theorem c_X5_isSlightedAt (l : Launch) (D : va_G) (cI : ClassId) (b : Nat → Nat) (hL : Nat) (iK : Int32) (tL : Nat) (sP : Nat) (nU : Int32) (iS : Int32) (sN : Int32) (sR : Int32) (lE : Int32) (fI : Int32) (sC : Int32) (v : Nat → Int32) (g : Sg) (hv : rV v g) (ho : Ok g) (i : Nat) (hi : i < nT g) : kb_R D [(cI, .int)] l yX5_isSlightedAt wsX5_isSlightedAt rmX5_isSlightedAt [.ref (b 0), .int (nI i)] [((b 0), .inr (5, [.ref (b 1), .ref (b 2), .ref (b 3), .ref (b 4), .int (nI hL), .ref (b 5), .int (iK), .ref (b 6), .ref (b 7), .int (nI tL), .int (nI sP), .int (nU), .int (iS), .int (sN), .int (sR), .int (lE), .int (fI), .int (sC)])), ((b 1), .inl (cI, 217, .inl v))] (kb_b (sl g i)) := by
  refine kb_I_of (cc := cX5_isSlightedAt) (maxL := 4) (ret := (some .boolean)) (by decide) rfl (Nat.le_of_ble_eq_true rfl) ?_
  intro p e s mm args below meth c A hx hb hml hr hts hown hlocks hnm hA hN hK hP hD hS ls hl Q hQ
  have hl : lv_has ls 4 [(0, .ref (b 0)), (1, .int (nI i))] := hl
  have hP : va_P D vwCl [((b 0), .inr (5, [.ref (b 1), .ref (b 2), .ref (b 3), .ref (b 4), .int (nI hL), .ref (b 5), .int (iK), .ref (b 6), .ref (b 7), .int (nI tL), .int (nI sP), .int (nU), .int (iS), .int (sN), .int (sR), .int (lE), .int (fI), .int (sC)])), ((b 1), .inl (cI, 217, .inl v))] s.heap := hP
  have hD : va_D A [((b 0), .inr (5, [.ref (b 1), .ref (b 2), .ref (b 3), .ref (b 4), .int (nI hL), .ref (b 5), .int (iK), .ref (b 6), .ref (b 7), .int (nI tL), .int (nI sP), .int (nU), .int (iS), .int (sN), .int (sR), .int (lE), .int (fI), .int (sC)])), ((b 1), .inl (cI, 217, .inl v))] := hD
  have fl7 := hts (.fieldLink RX5 7 "KingsBanquetModel" "all" "[I") (by decide +kernel)
  have hn := ho.n
  refine lv_iconst (v := nI 0) hx hb dX5_isSlightedAt_0 (by decide) ?_
  refine lv_istore_n (lv' := [(2, .int (nI 0)), (0, .ref (b 0)), (1, .int (nI i))]) hx hb dX5_isSlightedAt_1 rfl hl (by decide) rfl (fun ls hl => ?_)
  refine lv_iconst (v := nI 0) hx hb dX5_isSlightedAt_2 (by decide) ?_
  refine lv_istore_n (lv' := [(3, .int (nI 0)), (2, .int (nI 0)), (0, .ref (b 0)), (1, .int (nI i))]) hx hb dX5_isSlightedAt_3 rfl hl (by decide) rfl (fun ls hl => ?_)
  have L_4 : ∀ (z : Nat) (a : Nat) (qb : Bool), (a ≤ i) → (qb = sb g i a) → (i - a) < z → ∀ (H : Heap) (locs : List Loc), va_P D vwCl [((b 0), .inr (5, [.ref (b 1), .ref (b 2), .ref (b 3), .ref (b 4), .int (nI hL), .ref (b 5), .int (iK), .ref (b 6), .ref (b 7), .int (nI tL), .int (nI sP), .int (nU), .int (iS), .int (sN), .int (sR), .int (lE), .int (fI), .int (sC)])), ((b 1), .inl (cI, 217, .inl v))] H → va_D A [((b 0), .inr (5, [.ref (b 1), .ref (b 2), .ref (b 3), .ref (b 4), .int (nI hL), .ref (b 5), .int (iK), .ref (b 6), .ref (b 7), .int (nI tL), .int (nI sP), .int (nU), .int (iS), .int (sN), .int (sR), .int (lE), .int (fI), .int (sC)])), ((b 1), .inl (cI, 217, .inl v))] → va_S A s.heap H locs → ∀ ls : Array Slot, lv_has ls 4 [(3, .int (nI a)), (2, .int (kb_b qb)), (0, .ref (b 0)), (1, .int (nI i))] → W p l e rmX5_isSlightedAt s mm args below meth c H locs 0 0 Q (F0 mm 4 ls []) := by
    intro z
    induction z with
    | zero =>
      intro a qb _ _ hz
      exact absurd hz (Nat.not_lt_zero _)
    | succ z ih_4 =>
      intro a qb ha hq hz H locs hP hD hS ls hl
      refine lv_iload_n hx hb dX5_isSlightedAt_4 rfl (lv_at hl 0 rfl) ?_
      refine lv_iload_n hx hb dX5_isSlightedAt_5 rfl (lv_at hl 3 rfl) ?_
      refine kb_icmp_ge (tgt := 50) hx hb dX5_isSlightedAt_6 (by decide) (by omega) (by omega) (fun c6 => ?_) (fun c6 => ?_)
      · refine lv_iload_n hx hb dX5_isSlightedAt_50 rfl (lv_at hl 1 rfl) ?_
        exact kb_zret (D := D) hQ hx hb hr hlocks hK hP hD hS dX5_isSlightedAt_51 (kb_b_n _) () rfl (Nat.le_refl _) (Nat.le_refl _) (show kb_b qb = kb_b (sl g i) from (by rw [hq, show a = i by omega]; rfl))
      · refine lv_iload_n hx hb dX5_isSlightedAt_9 rfl (lv_at hl 1 rfl) ?_
        refine kb_bif_ne (tgt := 38) hx hb dX5_isSlightedAt_10 (by decide) (fun c10 => ?_) (fun c10 => ?_)
        · refine lv_iconst (v := nI 1) hx hb dX5_isSlightedAt_38 (by decide) ?_
          refine lv_goto (tgt := 43) hx hb dX5_isSlightedAt_39 (by decide) ?_
          refine lv_istore_n (lv' := [(2, .int (nI 1)), (3, .int (nI a)), (0, .ref (b 0)), (1, .int (nI i))]) hx hb dX5_isSlightedAt_43 rfl hl (by decide) rfl (fun ls hl => ?_)
          refine lv_iinc (v := nI (a + 1)) (lv' := [(3, .int (nI (a + 1))), (2, .int (nI 1)), (0, .ref (b 0)), (1, .int (nI i))]) hx hb dX5_isSlightedAt_44 hl (k := 1) rfl (kb_inc1 a) (by decide) rfl (fun ls hl => ?_)
          refine lv_goto (tgt := 4) hx hb dX5_isSlightedAt_47 (by decide) ?_
          exact ih_4 (a + 1) true (by omega) (by first | exact sb_t hq c10 | exact sb_p c35 | exact sb_f hq c10 c35) (by omega) _ _ hP hD hS _ (lv_sub hl [0, 1, 2, 3] rfl)
        · refine lv_aload_n hx hb dX5_isSlightedAt_13 rfl (lv_at hl 2 rfl) ?_
          refine lv_aload_n hx hb dX5_isSlightedAt_14 rfl (lv_at hl 2 rfl) ?_
          refine va_get (D := D) (ci := 5) (v := .ref (b 1)) (C := RX5) (T := TX5) (N := 18) hx hb hts inwX5_isSlightedAt_X5 hown hK hP 0 rfl rfl 0 (by decide) fl7 (fun _ h9 => h9) rfl dX5_isSlightedAt_15 ?_
          refine lv_bipush (v := nI 12) hx hb dX5_isSlightedAt_18 (by decide) ?_
          refine lv_iload_n hx hb dX5_isSlightedAt_20 rfl (lv_at hl 3 rfl) ?_
          refine lv_iadd hx hb dX5_isSlightedAt_21 ?_
          refine kb_top (nI (12 + i)) (nI_add 12 i) ?_
          refine kb_iald hx hb hK hP 1 0 rfl rfl (by decide) (by omega) dX5_isSlightedAt_22 ?_
          refine kb_top (nI (gT g i)) (hv.s (by omega)) ?_
          refine lv_aload_n hx hb dX5_isSlightedAt_23 rfl (lv_at hl 2 rfl) ?_
          refine va_get (D := D) (ci := 5) (v := .ref (b 1)) (C := RX5) (T := TX5) (N := 18) hx hb hts inwX5_isSlightedAt_X5 hown hK hP 0 rfl rfl 0 (by decide) fl7 (fun _ h9 => h9) rfl dX5_isSlightedAt_24 ?_
          refine lv_bipush (v := nI 12) hx hb dX5_isSlightedAt_27 (by decide) ?_
          refine lv_iload_n hx hb dX5_isSlightedAt_29 rfl (lv_at hl 0 rfl) ?_
          refine lv_iadd hx hb dX5_isSlightedAt_30 ?_
          refine kb_top (nI (12 + a)) (nI_add 12 a) ?_
          refine kb_iald hx hb hK hP 1 0 rfl rfl (by decide) (by omega) dX5_isSlightedAt_31 ?_
          refine kb_top (nI (gT g a)) (hv.s (by omega)) ?_
          refine kb_vR (As := [.int (nI (gT g i)), .int (nI (gT g a))]) (rest := []) hx hb hml hts hown hN hK hP hD hS hA (c_X5_isGreater l D cI b hL iK tL sP nU iS sN sR lE fI sC v (by first | assumption | omega) (by first | assumption | omega) (by first | assumption | omega) (gT g i) (gT g a) ((ho.t i (by omega)).1) ((ho.t a (by omega)).1)) gX5_isSlightedAt_X5_isGreater rfl ⟨rfl, rfl⟩ hdX5_isGreater ⟨Nat.le_of_ble_eq_true rfl, Nat.le_of_ble_eq_true rfl⟩ [0, 1] [0] rfl rfl rfl (ci := 5) rfl rfl rfl rfl rfl hl.1 (Nat.le_of_ble_eq_true rfl) dX5_isSlightedAt_32 ⟨Nat.zero_le _, Nat.zero_le _⟩ (fun H locs hP hS => ?_)
          refine kb_bif_eq (tgt := 42) hx hb dX5_isSlightedAt_35 (by decide) (fun c35 => ?_) (fun c35 => ?_)
          · refine lv_iconst (v := nI 0) hx hb dX5_isSlightedAt_42 (by decide) ?_
            refine lv_istore_n (lv' := [(2, .int (nI 0)), (3, .int (nI a)), (0, .ref (b 0)), (1, .int (nI i))]) hx hb dX5_isSlightedAt_43 rfl hl (by decide) rfl (fun ls hl => ?_)
            refine lv_iinc (v := nI (a + 1)) (lv' := [(3, .int (nI (a + 1))), (2, .int (nI 0)), (0, .ref (b 0)), (1, .int (nI i))]) hx hb dX5_isSlightedAt_44 hl (k := 1) rfl (kb_inc1 a) (by decide) rfl (fun ls hl => ?_)
            refine lv_goto (tgt := 4) hx hb dX5_isSlightedAt_47 (by decide) ?_
            exact ih_4 (a + 1) false (by omega) (by first | exact sb_t hq c10 | exact sb_p c35 | exact sb_f hq c10 c35) (by omega) _ _ hP hD hS _ (lv_sub hl [0, 1, 2, 3] rfl)
          · refine lv_iconst (v := nI 1) hx hb dX5_isSlightedAt_38 (by decide) ?_
            refine lv_goto (tgt := 43) hx hb dX5_isSlightedAt_39 (by decide) ?_
            refine lv_istore_n (lv' := [(2, .int (nI 1)), (3, .int (nI a)), (0, .ref (b 0)), (1, .int (nI i))]) hx hb dX5_isSlightedAt_43 rfl hl (by decide) rfl (fun ls hl => ?_)
            refine lv_iinc (v := nI (a + 1)) (lv' := [(3, .int (nI (a + 1))), (2, .int (nI 1)), (0, .ref (b 0)), (1, .int (nI i))]) hx hb dX5_isSlightedAt_44 hl (k := 1) rfl (kb_inc1 a) (by decide) rfl (fun ls hl => ?_)
            refine lv_goto (tgt := 4) hx hb dX5_isSlightedAt_47 (by decide) ?_
            exact ih_4 (a + 1) true (by omega) (by first | exact sb_t hq c10 | exact sb_p c35 | exact sb_f hq c10 c35) (by omega) _ _ hP hD hS _ (lv_sub hl [0, 1, 2, 3] rfl)
  exact L_4 ((i - 0) + 1) 0 false (by omega) rfl (Nat.lt_succ_self _) _ _ hP hD hS _ (lv_sub hl [0, 1, 2, 3] rfl)
abbrev rmX5_firstWrong : Room := { frames := 3, cells := 0, slots := 0, locals := 67 }
theorem hdX5_firstWrong : yX5_firstWrong.cls = RX5 ∧ yX5_firstWrong.cls ≠ "java/lang/invoke/MethodHandle" ∧ yX5_firstWrong.cls ≠ "java/lang/invoke/VarHandle" ∧ (parseMethodDescriptor yX5_firstWrong.desc).map (fun d => d.parameters.length) = some 0 := by decide +kernel
theorem inwX5_firstWrong_X5 : ∀ w ∈ wsX50, w ∈ wsX5_firstWrong := fun w h => List.mem_cons_of_mem _ (List.mem_append_right _ h)
set_option maxHeartbeats 4000000 in
set_option maxRecDepth 100000 in
theorem c_X5_firstWrong (l : Launch) (D : va_G) (cI : ClassId) (b : Nat → Nat) (hL : Nat) (iK : Int32) (tL : Nat) (sP : Nat) (nU : Int32) (iS : Int32) (sN : Int32) (sR : Int32) (lE : Int32) (fI : Int32) (sC : Int32) (v : Nat → Int32) (g : Sg) (hv : rV v g) (ho : Ok g) : kb_R D [(cI, .int)] l yX5_firstWrong wsX5_firstWrong rmX5_firstWrong [.ref (b 0)] [((b 0), .inr (5, [.ref (b 1), .ref (b 2), .ref (b 3), .ref (b 4), .int (nI hL), .ref (b 5), .int (iK), .ref (b 6), .ref (b 7), .int (nI tL), .int (nI sP), .int (nU), .int (iS), .int (sN), .int (sR), .int (lE), .int (fI), .int (sC)])), ((b 1), .inl (cI, 217, .inl v))] (fwI g) := by
  refine kb_I_of (cc := cX5_firstWrong) (maxL := 2) (ret := (some .int)) (by decide) rfl (Nat.le_of_ble_eq_true rfl) ?_
  intro p e s mm args below meth c A hx hb hml hr hts hown hlocks hnm hA hN hK hP hD hS ls hl Q hQ
  have hl : lv_has ls 2 [(0, .ref (b 0))] := hl
  have hP : va_P D vwCl [((b 0), .inr (5, [.ref (b 1), .ref (b 2), .ref (b 3), .ref (b 4), .int (nI hL), .ref (b 5), .int (iK), .ref (b 6), .ref (b 7), .int (nI tL), .int (nI sP), .int (nU), .int (iS), .int (sN), .int (sR), .int (lE), .int (fI), .int (sC)])), ((b 1), .inl (cI, 217, .inl v))] s.heap := hP
  have hD : va_D A [((b 0), .inr (5, [.ref (b 1), .ref (b 2), .ref (b 3), .ref (b 4), .int (nI hL), .ref (b 5), .int (iK), .ref (b 6), .ref (b 7), .int (nI tL), .int (nI sP), .int (nU), .int (iS), .int (sN), .int (sR), .int (lE), .int (fI), .int (sC)])), ((b 1), .inl (cI, 217, .inl v))] := hD
  have fl7 := hts (.fieldLink RX5 7 "KingsBanquetModel" "all" "[I") (by decide +kernel)
  have hn := ho.n
  refine lv_iconst (v := nI 0) hx hb dX5_firstWrong_0 (by decide) ?_
  refine lv_istore_n (lv' := [(1, .int (nI 0)), (0, .ref (b 0))]) hx hb dX5_firstWrong_1 rfl hl (by decide) rfl (fun ls hl => ?_)
  have L_2 : ∀ (z : Nat) (i : Nat), (i ≤ nT g) → (∀ j, j < i → wrg g j = false) → (nT g - i) < z → ∀ (H : Heap) (locs : List Loc), va_P D vwCl [((b 0), .inr (5, [.ref (b 1), .ref (b 2), .ref (b 3), .ref (b 4), .int (nI hL), .ref (b 5), .int (iK), .ref (b 6), .ref (b 7), .int (nI tL), .int (nI sP), .int (nU), .int (iS), .int (sN), .int (sR), .int (lE), .int (fI), .int (sC)])), ((b 1), .inl (cI, 217, .inl v))] H → va_D A [((b 0), .inr (5, [.ref (b 1), .ref (b 2), .ref (b 3), .ref (b 4), .int (nI hL), .ref (b 5), .int (iK), .ref (b 6), .ref (b 7), .int (nI tL), .int (nI sP), .int (nU), .int (iS), .int (sN), .int (sR), .int (lE), .int (fI), .int (sC)])), ((b 1), .inl (cI, 217, .inl v))] → va_S A s.heap H locs → ∀ ls : Array Slot, lv_has ls 2 [(1, .int (nI i)), (0, .ref (b 0))] → W p l e rmX5_firstWrong s mm args below meth c H locs 0 0 Q (F0 mm 2 ls []) := by
    intro z
    induction z with
    | zero =>
      intro i _ _ hz
      exact absurd hz (Nat.not_lt_zero _)
    | succ z ih_2 =>
      intro i hi hm hz H locs hP hD hS ls hl
      refine lv_iload_n hx hb dX5_firstWrong_2 rfl (lv_at hl 0 rfl) ?_
      refine lv_iconst (v := nI 1) hx hb dX5_firstWrong_3 (by decide) ?_
      refine lv_iadd hx hb dX5_firstWrong_4 ?_
      refine kb_top (nI (i + 1)) (nI_add i 1) ?_
      refine lv_aload_n hx hb dX5_firstWrong_5 rfl (lv_at hl 1 rfl) ?_
      refine va_get (D := D) (ci := 5) (v := .ref (b 1)) (C := RX5) (T := TX5) (N := 18) hx hb hts inwX5_firstWrong_X5 hown hK hP 0 rfl rfl 0 (by decide) fl7 (fun _ h9 => h9) rfl dX5_firstWrong_6 ?_
      refine lv_bipush (v := nI 11) hx hb dX5_firstWrong_9 (by decide) ?_
      refine kb_iald hx hb hK hP 1 0 rfl rfl (by decide) (by omega) dX5_firstWrong_11 ?_
      refine kb_top (nI (nT g)) hv.t ?_
      refine kb_icmp_ge (tgt := 31) hx hb dX5_firstWrong_12 (by decide) (by omega) (by omega) (fun c12 => ?_) (fun c12 => ?_)
      · refine lv_bipush (v := (-5)) hx hb dX5_firstWrong_31 (by decide) ?_
        exact kb_iret (D := D) hQ hx hb hr hlocks hK hP hD hS dX5_firstWrong_33 () rfl (Nat.le_refl _) (Nat.le_refl _) (show (-5) = fwI g from (fwI_0 (fun q => by have := fw_wrg q; rw [hm _ (by omega)] at this; cases this)).symm)
      · refine lv_aload_n hx hb dX5_firstWrong_15 rfl (lv_at hl 1 rfl) ?_
        refine lv_iload_n hx hb dX5_firstWrong_16 rfl (lv_at hl 0 rfl) ?_
        refine kb_vR (As := [.int (nI i)]) (rest := []) hx hb hml hts hown hN hK hP hD hS hA (c_X5_isWrong l D cI b hL iK tL sP nU iS sN sR lE fI sC v (by first | assumption | omega) (by first | assumption | omega) (by first | assumption | omega) i (by omega)) gX5_firstWrong_X5_isWrong rfl ⟨rfl, rfl⟩ hdX5_isWrong ⟨Nat.le_of_ble_eq_true rfl, Nat.le_of_ble_eq_true rfl⟩ [0, 1] [0] rfl rfl rfl (ci := 5) rfl rfl rfl rfl rfl hl.1 (Nat.le_of_ble_eq_true rfl) dX5_firstWrong_17 ⟨Nat.zero_le _, Nat.zero_le _⟩ (fun H locs hP hS => ?_)
        refine kb_bif_eq (tgt := 25) hx hb dX5_firstWrong_20 (by decide) (fun c20 => ?_) (fun c20 => ?_)
        · refine lv_iinc (v := nI (i + 1)) (lv' := [(1, .int (nI (i + 1))), (0, .ref (b 0))]) hx hb dX5_firstWrong_25 hl (k := 0) rfl (kb_inc1 i) (by decide) rfl (fun ls hl => ?_)
          refine lv_goto (tgt := 2) hx hb dX5_firstWrong_28 (by decide) ?_
          exact ih_2 (i + 1) (by omega) (lt_s hm c20) (by omega) _ _ hP hD hS _ (lv_sub hl [0, 1] rfl)
        · refine lv_iload_n hx hb dX5_firstWrong_23 rfl (lv_at hl 0 rfl) ?_
          exact kb_iret (D := D) hQ hx hb hr hlocks hK hP hD hS dX5_firstWrong_24 () rfl (Nat.le_refl _) (Nat.le_refl _) (show nI i = fwI g from ((congrArg (fun b => oI b i) (decide_eq_true (by omega))).symm.trans (congrArg (fun z => oI (decide (z < nT g - 1)) z) (ff_eq hm c20 (by omega)).symm) : nI i = fwI g))
  exact L_2 ((nT g - 0) + 1) 0 (by omega) (fun j h => absurd h (Nat.not_lt_zero j)) (Nat.lt_succ_self _) _ _ hP hD hS _ (lv_sub hl [0, 1] rfl)
abbrev rmX5_keeps : Room := { frames := 0, cells := 0, slots := 0, locals := 0 }
theorem hdX5_keeps : yX5_keeps.cls = RX5 ∧ yX5_keeps.cls ≠ "java/lang/invoke/MethodHandle" ∧ yX5_keeps.cls ≠ "java/lang/invoke/VarHandle" ∧ (parseMethodDescriptor yX5_keeps.desc).map (fun d => d.parameters.length) = some 0 := by decide +kernel
theorem inwX5_keeps_X5 : ∀ w ∈ wsX50, w ∈ wsX5_keeps := fun w h => List.mem_cons_of_mem _ (List.mem_append_right _ h)
set_option maxHeartbeats 4000000 in
set_option maxRecDepth 100000 in
theorem c_X5_keeps (l : Launch) (D : va_G) (cI : ClassId) (b : Nat → Nat) (hL : Nat) (iK : Int32) (tL : Nat) (sP : Nat) (nU : Int32) (iS : Int32) (sN : Int32) (sR : Int32) (lE : Int32) (fI : Int32) (sC : Int32) (v : Nat → Int32) (v2 : Nat → Int32) : kb_V (S := (Nat → Int32)) D [(cI, .int)] l yX5_keeps wsX5_keeps rmX5_keeps [.ref (b 0)] [((b 0), .inr (5, [.ref (b 1), .ref (b 2), .ref (b 3), .ref (b 4), .int (nI hL), .ref (b 5), .int (iK), .ref (b 6), .ref (b 7), .int (nI tL), .int (nI sP), .int (nU), .int (iS), .int (sN), .int (sR), .int (lE), .int (fI), .int (sC)])), ((b 1), .inl (cI, 217, .inl v)), ((b 2), .inl (cI, 217, .inl v2))] (fun (u : (Nat → Int32)) => ∀ j, j < 217 → u j = v j) (fun (u : (Nat → Int32)) => [((b 0), .inr (5, [.ref (b 1), .ref (b 2), .ref (b 3), .ref (b 4), .int (nI hL), .ref (b 5), .int (iK), .ref (b 6), .ref (b 7), .int (nI tL), .int (nI sP), .int (nU), .int (iS), .int (sN), .int (sR), .int (lE), .int (fI), .int (sC)])), ((b 1), .inl (cI, 217, .inl v)), ((b 2), .inl (cI, 217, .inl u))]) 0 0 := by
  refine kb_V_of (cc := cX5_keeps) (maxL := 2) (ret := none) (by decide) rfl (Nat.le_of_ble_eq_true rfl) ?_
  intro p e s mm args below meth c A hx hb hml hr hts hown hlocks hnm hA hN hK hP hD hS ls hl Q hQ
  have hl : lv_has ls 2 [(0, .ref (b 0))] := hl
  have hP : va_P D vwCl [((b 0), .inr (5, [.ref (b 1), .ref (b 2), .ref (b 3), .ref (b 4), .int (nI hL), .ref (b 5), .int (iK), .ref (b 6), .ref (b 7), .int (nI tL), .int (nI sP), .int (nU), .int (iS), .int (sN), .int (sR), .int (lE), .int (fI), .int (sC)])), ((b 1), .inl (cI, 217, .inl v)), ((b 2), .inl (cI, 217, .inl v2))] s.heap := hP
  have hD : va_D A [((b 0), .inr (5, [.ref (b 1), .ref (b 2), .ref (b 3), .ref (b 4), .int (nI hL), .ref (b 5), .int (iK), .ref (b 6), .ref (b 7), .int (nI tL), .int (nI sP), .int (nU), .int (iS), .int (sN), .int (sR), .int (lE), .int (fI), .int (sC)])), ((b 1), .inl (cI, 217, .inl v)), ((b 2), .inl (cI, 217, .inl v2))] := hD
  have fl13 := hts (.fieldLink RX5 13 "KingsBanquetModel" "kept" "[I") (by decide +kernel)
  have fl7 := hts (.fieldLink RX5 7 "KingsBanquetModel" "all" "[I") (by decide +kernel)
  refine lv_iconst (v := nI 0) hx hb dX5_keeps_0 (by decide) ?_
  refine lv_istore_n (lv' := [(1, .int (nI 0)), (0, .ref (b 0))]) hx hb dX5_keeps_1 rfl hl (by decide) rfl (fun ls hl => ?_)
  have L_2 : ∀ (z : Nat) (i : Nat) (vc : Nat → Int32), (i ≤ 217) → (∀ j, j < i → vc j = v j) → (217 - i) < z → ∀ (H : Heap) (locs : List Loc), va_P D vwCl [((b 0), .inr (5, [.ref (b 1), .ref (b 2), .ref (b 3), .ref (b 4), .int (nI hL), .ref (b 5), .int (iK), .ref (b 6), .ref (b 7), .int (nI tL), .int (nI sP), .int (nU), .int (iS), .int (sN), .int (sR), .int (lE), .int (fI), .int (sC)])), ((b 1), .inl (cI, 217, .inl v)), ((b 2), .inl (cI, 217, .inl vc))] H → va_D A [((b 0), .inr (5, [.ref (b 1), .ref (b 2), .ref (b 3), .ref (b 4), .int (nI hL), .ref (b 5), .int (iK), .ref (b 6), .ref (b 7), .int (nI tL), .int (nI sP), .int (nU), .int (iS), .int (sN), .int (sR), .int (lE), .int (fI), .int (sC)])), ((b 1), .inl (cI, 217, .inl v)), ((b 2), .inl (cI, 217, .inl vc))] → va_S A s.heap H locs → ∀ ls : Array Slot, lv_has ls 2 [(1, .int (nI i)), (0, .ref (b 0))] → W p l e rmX5_keeps s mm args below meth c H locs 0 0 Q (F0 mm 2 ls []) := by
    intro z
    induction z with
    | zero =>
      intro i vc _ _ hz
      exact absurd hz (Nat.not_lt_zero _)
    | succ z ih_2 =>
      intro i vc hi hc hz H locs hP hD hS ls hl
      refine lv_iload_n hx hb dX5_keeps_2 rfl (lv_at hl 0 rfl) ?_
      refine lv_sipush (v := nI 217) hx hb dX5_keeps_3 (by decide) ?_
      refine kb_icmp_ge (tgt := 27) hx hb dX5_keeps_6 (by decide) (by omega) (by omega) (fun c6 => ?_) (fun c6 => ?_)
      · exact kb_vret (D := D) hQ hx hb hr hlocks hK hP hD hS dX5_keeps_27 vc rfl (Nat.le_refl _) (Nat.le_refl _) (show ∀ j, j < 217 → vc j = v j from (fun j hj => hc j (by omega)))
      · refine lv_aload_n hx hb dX5_keeps_9 rfl (lv_at hl 1 rfl) ?_
        refine va_get (D := D) (ci := 5) (v := .ref (b 2)) (C := RX5) (T := TX5) (N := 18) hx hb hts inwX5_keeps_X5 hown hK hP 0 rfl rfl 1 (by decide) fl13 (fun _ h9 => h9) rfl dX5_keeps_10 ?_
        refine lv_iload_n hx hb dX5_keeps_13 rfl (lv_at hl 0 rfl) ?_
        refine lv_aload_n hx hb dX5_keeps_14 rfl (lv_at hl 1 rfl) ?_
        refine va_get (D := D) (ci := 5) (v := .ref (b 1)) (C := RX5) (T := TX5) (N := 18) hx hb hts inwX5_keeps_X5 hown hK hP 0 rfl rfl 0 (by decide) fl7 (fun _ h9 => h9) rfl dX5_keeps_15 ?_
        refine lv_iload_n hx hb dX5_keeps_18 rfl (lv_at hl 0 rfl) ?_
        refine kb_iald hx hb hK hP 1 0 rfl rfl (by decide) (by omega) dX5_keeps_19 ?_
        refine kb_iast hx hb hK hP hD hS 2 0 rfl rfl (by decide) (by omega) dX5_keeps_20 (fun H locs hP hD hS => ?_)
        have hP : va_P D vwCl [((b 0), .inr (5, [.ref (b 1), .ref (b 2), .ref (b 3), .ref (b 4), .int (nI hL), .ref (b 5), .int (iK), .ref (b 6), .ref (b 7), .int (nI tL), .int (nI sP), .int (nU), .int (iS), .int (sN), .int (sR), .int (lE), .int (fI), .int (sC)])), ((b 1), .inl (cI, 217, .inl v)), ((b 2), .inl (cI, 217, .inl (upd vc i (v i))))] H := hP
        have hD : va_D A [((b 0), .inr (5, [.ref (b 1), .ref (b 2), .ref (b 3), .ref (b 4), .int (nI hL), .ref (b 5), .int (iK), .ref (b 6), .ref (b 7), .int (nI tL), .int (nI sP), .int (nU), .int (iS), .int (sN), .int (sR), .int (lE), .int (fI), .int (sC)])), ((b 1), .inl (cI, 217, .inl v)), ((b 2), .inl (cI, 217, .inl (upd vc i (v i))))] := hD
        refine lv_iinc (v := nI (i + 1)) (lv' := [(1, .int (nI (i + 1))), (0, .ref (b 0))]) hx hb dX5_keeps_21 hl (k := 0) rfl (kb_inc1 i) (by decide) rfl (fun ls hl => ?_)
        refine lv_goto (tgt := 2) hx hb dX5_keeps_24 (by decide) ?_
        exact ih_2 (i + 1) (upd vc i (v i)) (by omega) (cpy hc) (by omega) _ _ hP hD hS _ (lv_sub hl [0, 1] rfl)
  exact L_2 ((217 - 0) + 1) 0 v2 (by omega) (fun j h => absurd h (Nat.not_lt_zero j)) (Nat.lt_succ_self _) _ _ hP hD hS _ (lv_sub hl [0, 1] rfl)
abbrev rmX5_tries : Room := { frames := 0, cells := 0, slots := 0, locals := 0 }
theorem hdX5_tries : yX5_tries.cls = RX5 ∧ yX5_tries.cls ≠ "java/lang/invoke/MethodHandle" ∧ yX5_tries.cls ≠ "java/lang/invoke/VarHandle" ∧ (parseMethodDescriptor yX5_tries.desc).map (fun d => d.parameters.length) = some 0 := by decide +kernel
theorem inwX5_tries_X5 : ∀ w ∈ wsX50, w ∈ wsX5_tries := fun w h => List.mem_cons_of_mem _ (List.mem_append_right _ h)
set_option maxHeartbeats 4000000 in
set_option maxRecDepth 100000 in
theorem c_X5_tries (l : Launch) (D : va_G) (cI : ClassId) (b : Nat → Nat) (hL : Nat) (iK : Int32) (tL : Nat) (sP : Nat) (nU : Int32) (iS : Int32) (sN : Int32) (sR : Int32) (lE : Int32) (fI : Int32) (sC : Int32) (v : Nat → Int32) (v3 : Nat → Int32) : kb_V (S := (Nat → Int32)) D [(cI, .int)] l yX5_tries wsX5_tries rmX5_tries [.ref (b 0)] [((b 0), .inr (5, [.ref (b 1), .ref (b 2), .ref (b 3), .ref (b 4), .int (nI hL), .ref (b 5), .int (iK), .ref (b 6), .ref (b 7), .int (nI tL), .int (nI sP), .int (nU), .int (iS), .int (sN), .int (sR), .int (lE), .int (fI), .int (sC)])), ((b 1), .inl (cI, 217, .inl v)), ((b 3), .inl (cI, 217, .inl v3))] (fun (u : (Nat → Int32)) => ∀ j, j < 217 → u j = v j) (fun (u : (Nat → Int32)) => [((b 0), .inr (5, [.ref (b 1), .ref (b 2), .ref (b 3), .ref (b 4), .int (nI hL), .ref (b 5), .int (iK), .ref (b 6), .ref (b 7), .int (nI tL), .int (nI sP), .int (nU), .int (iS), .int (sN), .int (sR), .int (lE), .int (fI), .int (sC)])), ((b 1), .inl (cI, 217, .inl v)), ((b 3), .inl (cI, 217, .inl u))]) 0 0 := by
  refine kb_V_of (cc := cX5_tries) (maxL := 2) (ret := none) (by decide) rfl (Nat.le_of_ble_eq_true rfl) ?_
  intro p e s mm args below meth c A hx hb hml hr hts hown hlocks hnm hA hN hK hP hD hS ls hl Q hQ
  have hl : lv_has ls 2 [(0, .ref (b 0))] := hl
  have hP : va_P D vwCl [((b 0), .inr (5, [.ref (b 1), .ref (b 2), .ref (b 3), .ref (b 4), .int (nI hL), .ref (b 5), .int (iK), .ref (b 6), .ref (b 7), .int (nI tL), .int (nI sP), .int (nU), .int (iS), .int (sN), .int (sR), .int (lE), .int (fI), .int (sC)])), ((b 1), .inl (cI, 217, .inl v)), ((b 3), .inl (cI, 217, .inl v3))] s.heap := hP
  have hD : va_D A [((b 0), .inr (5, [.ref (b 1), .ref (b 2), .ref (b 3), .ref (b 4), .int (nI hL), .ref (b 5), .int (iK), .ref (b 6), .ref (b 7), .int (nI tL), .int (nI sP), .int (nU), .int (iS), .int (sN), .int (sR), .int (lE), .int (fI), .int (sC)])), ((b 1), .inl (cI, 217, .inl v)), ((b 3), .inl (cI, 217, .inl v3))] := hD
  have fl16 := hts (.fieldLink RX5 16 "KingsBanquetModel" "tried" "[I") (by decide +kernel)
  have fl7 := hts (.fieldLink RX5 7 "KingsBanquetModel" "all" "[I") (by decide +kernel)
  refine lv_iconst (v := nI 0) hx hb dX5_tries_0 (by decide) ?_
  refine lv_istore_n (lv' := [(1, .int (nI 0)), (0, .ref (b 0))]) hx hb dX5_tries_1 rfl hl (by decide) rfl (fun ls hl => ?_)
  have L_2 : ∀ (z : Nat) (i : Nat) (vc : Nat → Int32), (i ≤ 217) → (∀ j, j < i → vc j = v j) → (217 - i) < z → ∀ (H : Heap) (locs : List Loc), va_P D vwCl [((b 0), .inr (5, [.ref (b 1), .ref (b 2), .ref (b 3), .ref (b 4), .int (nI hL), .ref (b 5), .int (iK), .ref (b 6), .ref (b 7), .int (nI tL), .int (nI sP), .int (nU), .int (iS), .int (sN), .int (sR), .int (lE), .int (fI), .int (sC)])), ((b 1), .inl (cI, 217, .inl v)), ((b 3), .inl (cI, 217, .inl vc))] H → va_D A [((b 0), .inr (5, [.ref (b 1), .ref (b 2), .ref (b 3), .ref (b 4), .int (nI hL), .ref (b 5), .int (iK), .ref (b 6), .ref (b 7), .int (nI tL), .int (nI sP), .int (nU), .int (iS), .int (sN), .int (sR), .int (lE), .int (fI), .int (sC)])), ((b 1), .inl (cI, 217, .inl v)), ((b 3), .inl (cI, 217, .inl vc))] → va_S A s.heap H locs → ∀ ls : Array Slot, lv_has ls 2 [(1, .int (nI i)), (0, .ref (b 0))] → W p l e rmX5_tries s mm args below meth c H locs 0 0 Q (F0 mm 2 ls []) := by
    intro z
    induction z with
    | zero =>
      intro i vc _ _ hz
      exact absurd hz (Nat.not_lt_zero _)
    | succ z ih_2 =>
      intro i vc hi hc hz H locs hP hD hS ls hl
      refine lv_iload_n hx hb dX5_tries_2 rfl (lv_at hl 0 rfl) ?_
      refine lv_sipush (v := nI 217) hx hb dX5_tries_3 (by decide) ?_
      refine kb_icmp_ge (tgt := 27) hx hb dX5_tries_6 (by decide) (by omega) (by omega) (fun c6 => ?_) (fun c6 => ?_)
      · exact kb_vret (D := D) hQ hx hb hr hlocks hK hP hD hS dX5_tries_27 vc rfl (Nat.le_refl _) (Nat.le_refl _) (show ∀ j, j < 217 → vc j = v j from (fun j hj => hc j (by omega)))
      · refine lv_aload_n hx hb dX5_tries_9 rfl (lv_at hl 1 rfl) ?_
        refine va_get (D := D) (ci := 5) (v := .ref (b 3)) (C := RX5) (T := TX5) (N := 18) hx hb hts inwX5_tries_X5 hown hK hP 0 rfl rfl 2 (by decide) fl16 (fun _ h9 => h9) rfl dX5_tries_10 ?_
        refine lv_iload_n hx hb dX5_tries_13 rfl (lv_at hl 0 rfl) ?_
        refine lv_aload_n hx hb dX5_tries_14 rfl (lv_at hl 1 rfl) ?_
        refine va_get (D := D) (ci := 5) (v := .ref (b 1)) (C := RX5) (T := TX5) (N := 18) hx hb hts inwX5_tries_X5 hown hK hP 0 rfl rfl 0 (by decide) fl7 (fun _ h9 => h9) rfl dX5_tries_15 ?_
        refine lv_iload_n hx hb dX5_tries_18 rfl (lv_at hl 0 rfl) ?_
        refine kb_iald hx hb hK hP 1 0 rfl rfl (by decide) (by omega) dX5_tries_19 ?_
        refine kb_iast hx hb hK hP hD hS 2 0 rfl rfl (by decide) (by omega) dX5_tries_20 (fun H locs hP hD hS => ?_)
        have hP : va_P D vwCl [((b 0), .inr (5, [.ref (b 1), .ref (b 2), .ref (b 3), .ref (b 4), .int (nI hL), .ref (b 5), .int (iK), .ref (b 6), .ref (b 7), .int (nI tL), .int (nI sP), .int (nU), .int (iS), .int (sN), .int (sR), .int (lE), .int (fI), .int (sC)])), ((b 1), .inl (cI, 217, .inl v)), ((b 3), .inl (cI, 217, .inl (upd vc i (v i))))] H := hP
        have hD : va_D A [((b 0), .inr (5, [.ref (b 1), .ref (b 2), .ref (b 3), .ref (b 4), .int (nI hL), .ref (b 5), .int (iK), .ref (b 6), .ref (b 7), .int (nI tL), .int (nI sP), .int (nU), .int (iS), .int (sN), .int (sR), .int (lE), .int (fI), .int (sC)])), ((b 1), .inl (cI, 217, .inl v)), ((b 3), .inl (cI, 217, .inl (upd vc i (v i))))] := hD
        refine lv_iinc (v := nI (i + 1)) (lv' := [(1, .int (nI (i + 1))), (0, .ref (b 0))]) hx hb dX5_tries_21 hl (k := 0) rfl (kb_inc1 i) (by decide) rfl (fun ls hl => ?_)
        refine lv_goto (tgt := 2) hx hb dX5_tries_24 (by decide) ?_
        exact ih_2 (i + 1) (upd vc i (v i)) (by omega) (cpy hc) (by omega) _ _ hP hD hS _ (lv_sub hl [0, 1] rfl)
  exact L_2 ((217 - 0) + 1) 0 v3 (by omega) (fun j h => absurd h (Nat.not_lt_zero j)) (Nat.lt_succ_self _) _ _ hP hD hS _ (lv_sub hl [0, 1] rfl)
abbrev rmX5_comesBack : Room := { frames := 0, cells := 0, slots := 0, locals := 0 }
theorem hdX5_comesBack : yX5_comesBack.cls = RX5 ∧ yX5_comesBack.cls ≠ "java/lang/invoke/MethodHandle" ∧ yX5_comesBack.cls ≠ "java/lang/invoke/VarHandle" ∧ (parseMethodDescriptor yX5_comesBack.desc).map (fun d => d.parameters.length) = some 0 := by decide +kernel
theorem inwX5_comesBack_X5 : ∀ w ∈ wsX50, w ∈ wsX5_comesBack := fun w h => List.mem_cons_of_mem _ (List.mem_append_right _ h)
set_option maxHeartbeats 4000000 in
set_option maxRecDepth 100000 in
theorem c_X5_comesBack (l : Launch) (D : va_G) (cI : ClassId) (b : Nat → Nat) (hL : Nat) (iK : Int32) (tL : Nat) (sP : Nat) (nU : Int32) (iS : Int32) (sN : Int32) (sR : Int32) (lE : Int32) (fI : Int32) (sC : Int32) (v3 : Nat → Int32) (v : Nat → Int32) : kb_V (S := (Nat → Int32)) D [(cI, .int)] l yX5_comesBack wsX5_comesBack rmX5_comesBack [.ref (b 0)] [((b 0), .inr (5, [.ref (b 1), .ref (b 2), .ref (b 3), .ref (b 4), .int (nI hL), .ref (b 5), .int (iK), .ref (b 6), .ref (b 7), .int (nI tL), .int (nI sP), .int (nU), .int (iS), .int (sN), .int (sR), .int (lE), .int (fI), .int (sC)])), ((b 1), .inl (cI, 217, .inl v)), ((b 3), .inl (cI, 217, .inl v3))] (fun (u : (Nat → Int32)) => ∀ j, j < 217 → u j = v3 j) (fun (u : (Nat → Int32)) => [((b 0), .inr (5, [.ref (b 1), .ref (b 2), .ref (b 3), .ref (b 4), .int (nI hL), .ref (b 5), .int (iK), .ref (b 6), .ref (b 7), .int (nI tL), .int (nI sP), .int (nU), .int (iS), .int (sN), .int (sR), .int (lE), .int (fI), .int (sC)])), ((b 1), .inl (cI, 217, .inl u)), ((b 3), .inl (cI, 217, .inl v3))]) 0 0 := by
  refine kb_V_of (cc := cX5_comesBack) (maxL := 2) (ret := none) (by decide) rfl (Nat.le_of_ble_eq_true rfl) ?_
  intro p e s mm args below meth c A hx hb hml hr hts hown hlocks hnm hA hN hK hP hD hS ls hl Q hQ
  have hl : lv_has ls 2 [(0, .ref (b 0))] := hl
  have hP : va_P D vwCl [((b 0), .inr (5, [.ref (b 1), .ref (b 2), .ref (b 3), .ref (b 4), .int (nI hL), .ref (b 5), .int (iK), .ref (b 6), .ref (b 7), .int (nI tL), .int (nI sP), .int (nU), .int (iS), .int (sN), .int (sR), .int (lE), .int (fI), .int (sC)])), ((b 1), .inl (cI, 217, .inl v)), ((b 3), .inl (cI, 217, .inl v3))] s.heap := hP
  have hD : va_D A [((b 0), .inr (5, [.ref (b 1), .ref (b 2), .ref (b 3), .ref (b 4), .int (nI hL), .ref (b 5), .int (iK), .ref (b 6), .ref (b 7), .int (nI tL), .int (nI sP), .int (nU), .int (iS), .int (sN), .int (sR), .int (lE), .int (fI), .int (sC)])), ((b 1), .inl (cI, 217, .inl v)), ((b 3), .inl (cI, 217, .inl v3))] := hD
  have fl7 := hts (.fieldLink RX5 7 "KingsBanquetModel" "all" "[I") (by decide +kernel)
  have fl16 := hts (.fieldLink RX5 16 "KingsBanquetModel" "tried" "[I") (by decide +kernel)
  refine lv_iconst (v := nI 0) hx hb dX5_comesBack_0 (by decide) ?_
  refine lv_istore_n (lv' := [(1, .int (nI 0)), (0, .ref (b 0))]) hx hb dX5_comesBack_1 rfl hl (by decide) rfl (fun ls hl => ?_)
  have L_2 : ∀ (z : Nat) (i : Nat) (vc : Nat → Int32), (i ≤ 217) → (∀ j, j < i → vc j = v3 j) → (217 - i) < z → ∀ (H : Heap) (locs : List Loc), va_P D vwCl [((b 0), .inr (5, [.ref (b 1), .ref (b 2), .ref (b 3), .ref (b 4), .int (nI hL), .ref (b 5), .int (iK), .ref (b 6), .ref (b 7), .int (nI tL), .int (nI sP), .int (nU), .int (iS), .int (sN), .int (sR), .int (lE), .int (fI), .int (sC)])), ((b 1), .inl (cI, 217, .inl vc)), ((b 3), .inl (cI, 217, .inl v3))] H → va_D A [((b 0), .inr (5, [.ref (b 1), .ref (b 2), .ref (b 3), .ref (b 4), .int (nI hL), .ref (b 5), .int (iK), .ref (b 6), .ref (b 7), .int (nI tL), .int (nI sP), .int (nU), .int (iS), .int (sN), .int (sR), .int (lE), .int (fI), .int (sC)])), ((b 1), .inl (cI, 217, .inl vc)), ((b 3), .inl (cI, 217, .inl v3))] → va_S A s.heap H locs → ∀ ls : Array Slot, lv_has ls 2 [(1, .int (nI i)), (0, .ref (b 0))] → W p l e rmX5_comesBack s mm args below meth c H locs 0 0 Q (F0 mm 2 ls []) := by
    intro z
    induction z with
    | zero =>
      intro i vc _ _ hz
      exact absurd hz (Nat.not_lt_zero _)
    | succ z ih_2 =>
      intro i vc hi hc hz H locs hP hD hS ls hl
      refine lv_iload_n hx hb dX5_comesBack_2 rfl (lv_at hl 0 rfl) ?_
      refine lv_sipush (v := nI 217) hx hb dX5_comesBack_3 (by decide) ?_
      refine kb_icmp_ge (tgt := 27) hx hb dX5_comesBack_6 (by decide) (by omega) (by omega) (fun c6 => ?_) (fun c6 => ?_)
      · exact kb_vret (D := D) hQ hx hb hr hlocks hK hP hD hS dX5_comesBack_27 vc rfl (Nat.le_refl _) (Nat.le_refl _) (show ∀ j, j < 217 → vc j = v3 j from (fun j hj => hc j (by omega)))
      · refine lv_aload_n hx hb dX5_comesBack_9 rfl (lv_at hl 1 rfl) ?_
        refine va_get (D := D) (ci := 5) (v := .ref (b 1)) (C := RX5) (T := TX5) (N := 18) hx hb hts inwX5_comesBack_X5 hown hK hP 0 rfl rfl 0 (by decide) fl7 (fun _ h9 => h9) rfl dX5_comesBack_10 ?_
        refine lv_iload_n hx hb dX5_comesBack_13 rfl (lv_at hl 0 rfl) ?_
        refine lv_aload_n hx hb dX5_comesBack_14 rfl (lv_at hl 1 rfl) ?_
        refine va_get (D := D) (ci := 5) (v := .ref (b 3)) (C := RX5) (T := TX5) (N := 18) hx hb hts inwX5_comesBack_X5 hown hK hP 0 rfl rfl 2 (by decide) fl16 (fun _ h9 => h9) rfl dX5_comesBack_15 ?_
        refine lv_iload_n hx hb dX5_comesBack_18 rfl (lv_at hl 0 rfl) ?_
        refine kb_iald hx hb hK hP 2 0 rfl rfl (by decide) (by omega) dX5_comesBack_19 ?_
        refine kb_iast hx hb hK hP hD hS 1 0 rfl rfl (by decide) (by omega) dX5_comesBack_20 (fun H locs hP hD hS => ?_)
        have hP : va_P D vwCl [((b 0), .inr (5, [.ref (b 1), .ref (b 2), .ref (b 3), .ref (b 4), .int (nI hL), .ref (b 5), .int (iK), .ref (b 6), .ref (b 7), .int (nI tL), .int (nI sP), .int (nU), .int (iS), .int (sN), .int (sR), .int (lE), .int (fI), .int (sC)])), ((b 1), .inl (cI, 217, .inl (upd vc i (v3 i)))), ((b 3), .inl (cI, 217, .inl v3))] H := hP
        have hD : va_D A [((b 0), .inr (5, [.ref (b 1), .ref (b 2), .ref (b 3), .ref (b 4), .int (nI hL), .ref (b 5), .int (iK), .ref (b 6), .ref (b 7), .int (nI tL), .int (nI sP), .int (nU), .int (iS), .int (sN), .int (sR), .int (lE), .int (fI), .int (sC)])), ((b 1), .inl (cI, 217, .inl (upd vc i (v3 i)))), ((b 3), .inl (cI, 217, .inl v3))] := hD
        refine lv_iinc (v := nI (i + 1)) (lv' := [(1, .int (nI (i + 1))), (0, .ref (b 0))]) hx hb dX5_comesBack_21 hl (k := 0) rfl (kb_inc1 i) (by decide) rfl (fun ls hl => ?_)
        refine lv_goto (tgt := 2) hx hb dX5_comesBack_24 (by decide) ?_
        exact ih_2 (i + 1) (upd vc i (v3 i)) (by omega) (cpy hc) (by omega) _ _ hP hD hS _ (lv_sub hl [0, 1] rfl)
  exact L_2 ((217 - 0) + 1) 0 v (by omega) (fun j h => absurd h (Nat.not_lt_zero j)) (Nat.lt_succ_self _) _ _ hP hD hS _ (lv_sub hl [0, 1] rfl)
