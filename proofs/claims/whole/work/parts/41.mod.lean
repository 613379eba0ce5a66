abbrev rmX5_in : Room := { frames := 0, cells := 0, slots := 0, locals := 0 }
theorem hdX5_in : yX5_in.cls = RX5 ∧ yX5_in.cls ≠ "java/lang/invoke/MethodHandle" ∧ yX5_in.cls ≠ "java/lang/invoke/VarHandle" ∧ (parseMethodDescriptor yX5_in.desc).map (fun d => d.parameters.length) = some 3 := by decide +kernel
set_option maxHeartbeats 4000000 in
set_option maxRecDepth 100000 in
theorem c_X5_in (l : Launch) (D : va_G) (x : Int64) (lo : Int64) (hi : Int64) : kb_R D [] l yX5_in wsX5_in rmX5_in [.long (x), .long (lo), .long (hi)] [] (kb_b (inL x lo hi)) := by
  refine kb_I_of (cc := cX5_in) (maxL := 6) (ret := (some .boolean)) (by decide) rfl (Nat.le_of_ble_eq_true rfl) ?_
  intro p e s mm args below meth c A hx hb hml hr hts hown hlocks hnm hA hN hK hP hD hS ls hl Q hQ
  have hl : lv_has ls 6 [(0, .long (x)), (2, .long (lo)), (4, .long (hi))] := hl
  have hP : va_P D vwCl [] s.heap := hP
  have hD : va_D A [] := hD
  refine lv_lload_n hx hb dX5_in_0 rfl (lv_at hl 0 rfl) ?_
  refine lv_lload_n hx hb dX5_in_1 rfl (lv_at hl 1 rfl) ?_
  refine kb_lcmp_lt (tgt := 17) hx hb dX5_in_2 dX5_in_3 (by decide) (fun c3 => ?_) (fun c3 => ?_)
  · refine lv_iconst (v := nI 0) hx hb dX5_in_17 (by decide) ?_
    exact kb_zret (D := D) hQ hx hb hr hlocks hK hP hD hS dX5_in_18 rfl () rfl (Nat.le_refl _) (Nat.le_refl _) (show nI 0 = kb_b (inL x lo hi) from (by first | exact kb_d1 ⟨c3, c10⟩ | exact kb_d0 (fun q : ¬ x < lo ∧ ¬ hi < x => q.1 c3) | exact kb_d0 (fun q : ¬ x < lo ∧ ¬ hi < x => q.2 c10)))
  · refine lv_lload_n hx hb dX5_in_6 rfl (lv_at hl 0 rfl) ?_
    refine lv_lload hx hb dX5_in_7 (lv_at hl 2 rfl) ?_
    refine kb_lcmp_gt (tgt := 17) hx hb dX5_in_9 dX5_in_10 (by decide) (fun c10 => ?_) (fun c10 => ?_)
    · refine lv_iconst (v := nI 0) hx hb dX5_in_17 (by decide) ?_
      exact kb_zret (D := D) hQ hx hb hr hlocks hK hP hD hS dX5_in_18 rfl () rfl (Nat.le_refl _) (Nat.le_refl _) (show nI 0 = kb_b (inL x lo hi) from (by first | exact kb_d1 ⟨c3, c10⟩ | exact kb_d0 (fun q : ¬ x < lo ∧ ¬ hi < x => q.1 c3) | exact kb_d0 (fun q : ¬ x < lo ∧ ¬ hi < x => q.2 c10)))
    · refine lv_iconst (v := nI 1) hx hb dX5_in_13 (by decide) ?_
      refine lv_goto (tgt := 18) hx hb dX5_in_14 (by decide) ?_
      exact kb_zret (D := D) hQ hx hb hr hlocks hK hP hD hS dX5_in_18 rfl () rfl (Nat.le_refl _) (Nat.le_refl _) (show nI 1 = kb_b (inL x lo hi) from (by first | exact kb_d1 ⟨c3, c10⟩ | exact kb_d0 (fun q : ¬ x < lo ∧ ¬ hi < x => q.1 c3) | exact kb_d0 (fun q : ¬ x < lo ∧ ¬ hi < x => q.2 c10)))
abbrev rmX5_get : Room := { frames := 0, cells := 0, slots := 0, locals := 0 }
theorem hdX5_get : yX5_get.cls = RX5 ∧ yX5_get.cls ≠ "java/lang/invoke/MethodHandle" ∧ yX5_get.cls ≠ "java/lang/invoke/VarHandle" ∧ (parseMethodDescriptor yX5_get.desc).map (fun d => d.parameters.length) = some 2 := by decide +kernel
theorem inwX5_get_X5 : ∀ w ∈ wsX50, w ∈ wsX5_get := fun w h => List.mem_cons_of_mem _ (List.mem_append_right _ h)
set_option maxHeartbeats 4000000 in
set_option maxRecDepth 100000 in
theorem c_X5_get (l : Launch) (D : va_G) (cI : ClassId) (b : Nat → Nat) (hL : Nat) (iK : Int32) (tL : Nat) (sP : Nat) (nU : Int32) (iS : Int32) (sN : Int32) (sR : Int32) (lE : Int32) (fI : Int32) (sC : Int32) (v : Nat → Int32) (k : Nat) (w : Nat) (hk : k < 24) (hw : w < 7) : kb_R D [(cI, .int)] l yX5_get wsX5_get rmX5_get [.ref (b 0), .int (nI k), .int (nI w)] [((b 0), .inr (5, [.ref (b 1), .ref (b 2), .ref (b 3), .ref (b 4), .int (nI hL), .ref (b 5), .int (iK), .ref (b 6), .ref (b 7), .int (nI tL), .int (nI sP), .int (nU), .int (iS), .int (sN), .int (sR), .int (lE), .int (fI), .int (sC)])), ((b 1), .inl (cI, 217, .inl v))] (v (49 + 7 * k + w)) := by
  refine kb_I_of (cc := cX5_get) (maxL := 3) (ret := (some .int)) (by decide) rfl (Nat.le_of_ble_eq_true rfl) ?_
  intro p e s mm args below meth c A hx hb hml hr hts hown hlocks hnm hA hN hK hP hD hS ls hl Q hQ
  have hl : lv_has ls 3 [(0, .ref (b 0)), (1, .int (nI k)), (2, .int (nI w))] := hl
  have hP : va_P D vwCl [((b 0), .inr (5, [.ref (b 1), .ref (b 2), .ref (b 3), .ref (b 4), .int (nI hL), .ref (b 5), .int (iK), .ref (b 6), .ref (b 7), .int (nI tL), .int (nI sP), .int (nU), .int (iS), .int (sN), .int (sR), .int (lE), .int (fI), .int (sC)])), ((b 1), .inl (cI, 217, .inl v))] s.heap := hP
  have hD : va_D A [((b 0), .inr (5, [.ref (b 1), .ref (b 2), .ref (b 3), .ref (b 4), .int (nI hL), .ref (b 5), .int (iK), .ref (b 6), .ref (b 7), .int (nI tL), .int (nI sP), .int (nU), .int (iS), .int (sN), .int (sR), .int (lE), .int (fI), .int (sC)])), ((b 1), .inl (cI, 217, .inl v))] := hD
  have fl7 := hts (.fieldLink RX5 7 "KingsBanquetModel" "all" "[I") (by decide +kernel)
  refine lv_aload_n hx hb dX5_get_0 rfl (lv_at hl 0 rfl) ?_
  refine va_get (D := D) (ci := 5) (v := .ref (b 1)) (C := RX5) (T := TX5) (N := 18) hx hb hts inwX5_get_X5 hown hK hP 0 rfl rfl 0 (by decide) fl7 (fun _ h9 => h9) rfl dX5_get_1 ?_
  refine lv_bipush (v := nI 49) hx hb dX5_get_4 (by decide) ?_
  refine lv_bipush (v := nI 7) hx hb dX5_get_6 (by decide) ?_
  refine lv_iload_n hx hb dX5_get_8 rfl (lv_at hl 1 rfl) ?_
  refine lv_imul hx hb dX5_get_9 ?_
  refine kb_top (nI (7 * k)) (pk_mul 7 k) ?_
  refine lv_iadd hx hb dX5_get_10 ?_
  refine kb_top (nI (49 + (7 * k))) (nI_add 49 (7 * k)) ?_
  refine lv_iload_n hx hb dX5_get_11 rfl (lv_at hl 2 rfl) ?_
  refine lv_iadd hx hb dX5_get_12 ?_
  refine kb_top (nI (49 + (7 * k) + w)) (nI_add (49 + (7 * k)) w) ?_
  refine kb_iald hx hb hK hP 1 0 rfl rfl (by decide) (by omega) dX5_get_13 ?_
  exact kb_iret (D := D) hQ hx hb hr hlocks hK hP hD hS dX5_get_14 () rfl (Nat.le_refl _) (Nat.le_refl _) (show v (49 + (7 * k) + w) = v (49 + 7 * k + w) from rfl)
abbrev rmX5_lays : Room := { frames := 0, cells := 0, slots := 0, locals := 0 }
theorem hdX5_lays : yX5_lays.cls = RX5 ∧ yX5_lays.cls ≠ "java/lang/invoke/MethodHandle" ∧ yX5_lays.cls ≠ "java/lang/invoke/VarHandle" ∧ (parseMethodDescriptor yX5_lays.desc).map (fun d => d.parameters.length) = some 3 := by decide +kernel
theorem inwX5_lays_X5 : ∀ w ∈ wsX50, w ∈ wsX5_lays := fun w h => List.mem_cons_of_mem _ (List.mem_append_right _ h)
set_option maxHeartbeats 4000000 in
set_option maxRecDepth 100000 in
theorem c_X5_lays (l : Launch) (D : va_G) (cI : ClassId) (b : Nat → Nat) (hL : Nat) (iK : Int32) (tL : Nat) (sP : Nat) (nU : Int32) (iS : Int32) (sN : Int32) (sR : Int32) (lE : Int32) (fI : Int32) (sC : Int32) (v : Nat → Int32) (k : Nat) (w : Nat) (hk : k < 24) (hw : w < 7) (x : Int32) : kb_V (S := Unit) D [(cI, .int)] l yX5_lays wsX5_lays rmX5_lays [.ref (b 0), .int (nI k), .int (nI w), .int (x)] [((b 0), .inr (5, [.ref (b 1), .ref (b 2), .ref (b 3), .ref (b 4), .int (nI hL), .ref (b 5), .int (iK), .ref (b 6), .ref (b 7), .int (nI tL), .int (nI sP), .int (nU), .int (iS), .int (sN), .int (sR), .int (lE), .int (fI), .int (sC)])), ((b 1), .inl (cI, 217, .inl v))] (fun (u : Unit) => True) (fun (u : Unit) => [((b 0), .inr (5, [.ref (b 1), .ref (b 2), .ref (b 3), .ref (b 4), .int (nI hL), .ref (b 5), .int (iK), .ref (b 6), .ref (b 7), .int (nI tL), .int (nI sP), .int (nU), .int (iS), .int (sN), .int (sR), .int (lE), .int (fI), .int (sC)])), ((b 1), .inl (cI, 217, .inl (upd v (49 + 7 * k + w) x)))]) 0 0 := by
  refine kb_V_of (cc := cX5_lays) (maxL := 4) (ret := none) (by decide) rfl (Nat.le_of_ble_eq_true rfl) ?_
  intro p e s mm args below meth c A hx hb hml hr hts hown hlocks hnm hA hN hK hP hD hS ls hl Q hQ
  have hl : lv_has ls 4 [(0, .ref (b 0)), (1, .int (nI k)), (2, .int (nI w)), (3, .int (x))] := hl
  have hP : va_P D vwCl [((b 0), .inr (5, [.ref (b 1), .ref (b 2), .ref (b 3), .ref (b 4), .int (nI hL), .ref (b 5), .int (iK), .ref (b 6), .ref (b 7), .int (nI tL), .int (nI sP), .int (nU), .int (iS), .int (sN), .int (sR), .int (lE), .int (fI), .int (sC)])), ((b 1), .inl (cI, 217, .inl v))] s.heap := hP
  have hD : va_D A [((b 0), .inr (5, [.ref (b 1), .ref (b 2), .ref (b 3), .ref (b 4), .int (nI hL), .ref (b 5), .int (iK), .ref (b 6), .ref (b 7), .int (nI tL), .int (nI sP), .int (nU), .int (iS), .int (sN), .int (sR), .int (lE), .int (fI), .int (sC)])), ((b 1), .inl (cI, 217, .inl v))] := hD
  have fl7 := hts (.fieldLink RX5 7 "KingsBanquetModel" "all" "[I") (by decide +kernel)
  refine lv_aload_n hx hb dX5_lays_0 rfl (lv_at hl 0 rfl) ?_
  refine va_get (D := D) (ci := 5) (v := .ref (b 1)) (C := RX5) (T := TX5) (N := 18) hx hb hts inwX5_lays_X5 hown hK hP 0 rfl rfl 0 (by decide) fl7 (fun _ h9 => h9) rfl dX5_lays_1 ?_
  refine lv_bipush (v := nI 49) hx hb dX5_lays_4 (by decide) ?_
  refine lv_bipush (v := nI 7) hx hb dX5_lays_6 (by decide) ?_
  refine lv_iload_n hx hb dX5_lays_8 rfl (lv_at hl 1 rfl) ?_
  refine lv_imul hx hb dX5_lays_9 ?_
  refine kb_top (nI (7 * k)) (pk_mul 7 k) ?_
  refine lv_iadd hx hb dX5_lays_10 ?_
  refine kb_top (nI (49 + (7 * k))) (nI_add 49 (7 * k)) ?_
  refine lv_iload_n hx hb dX5_lays_11 rfl (lv_at hl 2 rfl) ?_
  refine lv_iadd hx hb dX5_lays_12 ?_
  refine kb_top (nI (49 + (7 * k) + w)) (nI_add (49 + (7 * k)) w) ?_
  refine lv_iload_n hx hb dX5_lays_13 rfl (lv_at hl 3 rfl) ?_
  refine kb_iast hx hb hK hP hD hS 1 0 rfl rfl (by decide) (by omega) dX5_lays_14 (fun H locs hP hD hS => ?_)
  have hP : va_P D vwCl [((b 0), .inr (5, [.ref (b 1), .ref (b 2), .ref (b 3), .ref (b 4), .int (nI hL), .ref (b 5), .int (iK), .ref (b 6), .ref (b 7), .int (nI tL), .int (nI sP), .int (nU), .int (iS), .int (sN), .int (sR), .int (lE), .int (fI), .int (sC)])), ((b 1), .inl (cI, 217, .inl (upd v (49 + (7 * k) + w) x)))] H := hP
  have hD : va_D A [((b 0), .inr (5, [.ref (b 1), .ref (b 2), .ref (b 3), .ref (b 4), .int (nI hL), .ref (b 5), .int (iK), .ref (b 6), .ref (b 7), .int (nI tL), .int (nI sP), .int (nU), .int (iS), .int (sN), .int (sR), .int (lE), .int (fI), .int (sC)])), ((b 1), .inl (cI, 217, .inl (upd v (49 + (7 * k) + w) x)))] := hD
  exact kb_vret (D := D) hQ hx hb hr hlocks hK hP hD hS dX5_lays_15 () rfl (Nat.le_refl _) (Nat.le_refl _) (show True from trivial)
abbrev rmX5_more : Room := { frames := 0, cells := 0, slots := 0, locals := 0 }
theorem hdX5_more : yX5_more.cls = RX5 ∧ yX5_more.cls ≠ "java/lang/invoke/MethodHandle" ∧ yX5_more.cls ≠ "java/lang/invoke/VarHandle" ∧ (parseMethodDescriptor yX5_more.desc).map (fun d => d.parameters.length) = some 2 := by decide +kernel
theorem inwX5_more_X5 : ∀ w ∈ wsX50, w ∈ wsX5_more := fun w h => List.mem_cons_of_mem _ (List.mem_append_right _ h)
set_option maxHeartbeats 4000000 in
set_option maxRecDepth 100000 in
theorem c_X5_more (l : Launch) (D : va_G) (cI : ClassId) (b : Nat → Nat) (hL : Nat) (iK : Int32) (tL : Nat) (sP : Nat) (nU : Int32) (iS : Int32) (sN : Int32) (sR : Int32) (lE : Int32) (fI : Int32) (sC : Int32) (v : Nat → Int32) (k : Nat) (w : Nat) (hk : k < 24) (hw : w < 7) : kb_V (S := Unit) D [(cI, .int)] l yX5_more wsX5_more rmX5_more [.ref (b 0), .int (nI k), .int (nI w)] [((b 0), .inr (5, [.ref (b 1), .ref (b 2), .ref (b 3), .ref (b 4), .int (nI hL), .ref (b 5), .int (iK), .ref (b 6), .ref (b 7), .int (nI tL), .int (nI sP), .int (nU), .int (iS), .int (sN), .int (sR), .int (lE), .int (fI), .int (sC)])), ((b 1), .inl (cI, 217, .inl v))] (fun (u : Unit) => True) (fun (u : Unit) => [((b 0), .inr (5, [.ref (b 1), .ref (b 2), .ref (b 3), .ref (b 4), .int (nI hL), .ref (b 5), .int (iK), .ref (b 6), .ref (b 7), .int (nI tL), .int (nI sP), .int (nU), .int (iS), .int (sN), .int (sR), .int (lE), .int (fI), .int (sC)])), ((b 1), .inl (cI, 217, .inl (upd v (49 + 7 * k + w) (v (49 + 7 * k + w) + nI 1))))]) 0 0 := by
  refine kb_V_of (cc := cX5_more) (maxL := 3) (ret := none) (by decide) rfl (Nat.le_of_ble_eq_true rfl) ?_
  intro p e s mm args below meth c A hx hb hml hr hts hown hlocks hnm hA hN hK hP hD hS ls hl Q hQ
  have hl : lv_has ls 3 [(0, .ref (b 0)), (1, .int (nI k)), (2, .int (nI w))] := hl
  have hP : va_P D vwCl [((b 0), .inr (5, [.ref (b 1), .ref (b 2), .ref (b 3), .ref (b 4), .int (nI hL), .ref (b 5), .int (iK), .ref (b 6), .ref (b 7), .int (nI tL), .int (nI sP), .int (nU), .int (iS), .int (sN), .int (sR), .int (lE), .int (fI), .int (sC)])), ((b 1), .inl (cI, 217, .inl v))] s.heap := hP
  have hD : va_D A [((b 0), .inr (5, [.ref (b 1), .ref (b 2), .ref (b 3), .ref (b 4), .int (nI hL), .ref (b 5), .int (iK), .ref (b 6), .ref (b 7), .int (nI tL), .int (nI sP), .int (nU), .int (iS), .int (sN), .int (sR), .int (lE), .int (fI), .int (sC)])), ((b 1), .inl (cI, 217, .inl v))] := hD
  have fl7 := hts (.fieldLink RX5 7 "KingsBanquetModel" "all" "[I") (by decide +kernel)
  refine lv_aload_n hx hb dX5_more_0 rfl (lv_at hl 0 rfl) ?_
  refine va_get (D := D) (ci := 5) (v := .ref (b 1)) (C := RX5) (T := TX5) (N := 18) hx hb hts inwX5_more_X5 hown hK hP 0 rfl rfl 0 (by decide) fl7 (fun _ h9 => h9) rfl dX5_more_1 ?_
  refine lv_bipush (v := nI 49) hx hb dX5_more_4 (by decide) ?_
  refine lv_bipush (v := nI 7) hx hb dX5_more_6 (by decide) ?_
  refine lv_iload_n hx hb dX5_more_8 rfl (lv_at hl 1 rfl) ?_
  refine lv_imul hx hb dX5_more_9 ?_
  refine kb_top (nI (7 * k)) (pk_mul 7 k) ?_
  refine lv_iadd hx hb dX5_more_10 ?_
  refine kb_top (nI (49 + (7 * k))) (nI_add 49 (7 * k)) ?_
  refine lv_iload_n hx hb dX5_more_11 rfl (lv_at hl 2 rfl) ?_
  refine lv_iadd hx hb dX5_more_12 ?_
  refine kb_top (nI (49 + (7 * k) + w)) (nI_add (49 + (7 * k)) w) ?_
  refine lv_dup2_11 hx hb dX5_more_13 rfl rfl ?_
  refine kb_iald hx hb hK hP 1 0 rfl rfl (by decide) (by omega) dX5_more_14 ?_
  refine lv_iconst (v := nI 1) hx hb dX5_more_15 (by decide) ?_
  refine lv_iadd hx hb dX5_more_16 ?_
  refine kb_iast hx hb hK hP hD hS 1 0 rfl rfl (by decide) (by omega) dX5_more_17 (fun H locs hP hD hS => ?_)
  have hP : va_P D vwCl [((b 0), .inr (5, [.ref (b 1), .ref (b 2), .ref (b 3), .ref (b 4), .int (nI hL), .ref (b 5), .int (iK), .ref (b 6), .ref (b 7), .int (nI tL), .int (nI sP), .int (nU), .int (iS), .int (sN), .int (sR), .int (lE), .int (fI), .int (sC)])), ((b 1), .inl (cI, 217, .inl (upd v (49 + (7 * k) + w) (v (49 + (7 * k) + w) + nI 1))))] H := hP
  have hD : va_D A [((b 0), .inr (5, [.ref (b 1), .ref (b 2), .ref (b 3), .ref (b 4), .int (nI hL), .ref (b 5), .int (iK), .ref (b 6), .ref (b 7), .int (nI tL), .int (nI sP), .int (nU), .int (iS), .int (sN), .int (sR), .int (lE), .int (fI), .int (sC)])), ((b 1), .inl (cI, 217, .inl (upd v (49 + (7 * k) + w) (v (49 + (7 * k) + w) + nI 1))))] := hD
  exact kb_vret (D := D) hQ hx hb hr hlocks hK hP hD hS dX5_more_18 () rfl (Nat.le_refl _) (Nat.le_refl _) (show True from trivial)
abbrev rmX5_isKing : Room := { frames := 1, cells := 0, slots := 0, locals := 25 }
theorem hdX5_isKing : yX5_isKing.cls = RX5 ∧ yX5_isKing.cls ≠ "java/lang/invoke/MethodHandle" ∧ yX5_isKing.cls ≠ "java/lang/invoke/VarHandle" ∧ (parseMethodDescriptor yX5_isKing.desc).map (fun d => d.parameters.length) = some 1 := by decide +kernel
theorem inwX5_isKing_X5 : ∀ w ∈ wsX50, w ∈ wsX5_isKing := fun w h => List.mem_cons_of_mem _ (List.mem_append_right _ h)
set_option maxHeartbeats 4000000 in
set_option maxRecDepth 100000 in
theorem c_X5_isKing (l : Launch) (D : va_G) (cI : ClassId) (b : Nat → Nat) (hL : Nat) (iK : Int32) (tL : Nat) (sP : Nat) (nU : Int32) (iS : Int32) (sN : Int32) (sR : Int32) (lE : Int32) (fI : Int32) (sC : Int32) (v : Nat → Int32) (g : Sg) (hv : rV v g) (ho : Ok g) (x : Int32) : kb_R D [(cI, .int)] l yX5_isKing wsX5_isKing rmX5_isKing [.ref (b 0), .int (x)] [((b 0), .inr (5, [.ref (b 1), .ref (b 2), .ref (b 3), .ref (b 4), .int (nI hL), .ref (b 5), .int (iK), .ref (b 6), .ref (b 7), .int (nI tL), .int (nI sP), .int (nU), .int (iS), .int (sN), .int (sR), .int (lE), .int (fI), .int (sC)])), ((b 1), .inl (cI, 217, .inl v))] (kb_b (kIs (nK g) x)) := by
  refine kb_I_of (cc := cX5_isKing) (maxL := 2) (ret := (some .boolean)) (by decide) rfl (Nat.le_of_ble_eq_true rfl) ?_
  intro p e s mm args below meth c A hx hb hml hr hts hown hlocks hnm hA hN hK hP hD hS ls hl Q hQ
  have hl : lv_has ls 2 [(0, .ref (b 0)), (1, .int (x))] := hl
  have hP : va_P D vwCl [((b 0), .inr (5, [.ref (b 1), .ref (b 2), .ref (b 3), .ref (b 4), .int (nI hL), .ref (b 5), .int (iK), .ref (b 6), .ref (b 7), .int (nI tL), .int (nI sP), .int (nU), .int (iS), .int (sN), .int (sR), .int (lE), .int (fI), .int (sC)])), ((b 1), .inl (cI, 217, .inl v))] s.heap := hP
  have hD : va_D A [((b 0), .inr (5, [.ref (b 1), .ref (b 2), .ref (b 3), .ref (b 4), .int (nI hL), .ref (b 5), .int (iK), .ref (b 6), .ref (b 7), .int (nI tL), .int (nI sP), .int (nU), .int (iS), .int (sN), .int (sR), .int (lE), .int (fI), .int (sC)])), ((b 1), .inl (cI, 217, .inl v))] := hD
  have fl7 := hts (.fieldLink RX5 7 "KingsBanquetModel" "all" "[I") (by decide +kernel)
  have hn := ho.n
  refine lv_iload_n hx hb dX5_isKing_0 rfl (lv_at hl 1 rfl) ?_
  refine lv_i2l (v := (x).toInt64) hx hb dX5_isKing_1 rfl ?_
  refine lv_lconst (v := lN 0) hx hb dX5_isKing_2 (by decide) ?_
  refine lv_aload_n hx hb dX5_isKing_3 rfl (lv_at hl 0 rfl) ?_
  refine va_get (D := D) (ci := 5) (v := .ref (b 1)) (C := RX5) (T := TX5) (N := 18) hx hb hts inwX5_isKing_X5 hown hK hP 0 rfl rfl 0 (by decide) fl7 (fun _ h9 => h9) rfl dX5_isKing_4 ?_
  refine lv_iconst (v := nI 5) hx hb dX5_isKing_7 (by decide) ?_
  refine kb_iald hx hb hK hP 1 0 rfl rfl (by decide) (by omega) dX5_isKing_8 ?_
  refine kb_top (nI (nK g)) hv.k ?_
  refine lv_i2l (v := (nI (nK g)).toInt64) hx hb dX5_isKing_9 rfl ?_
  refine lv_lconst (v := lN 1) hx hb dX5_isKing_10 (by decide) ?_
  refine lv_lsub hx hb dX5_isKing_11 ?_
  refine kb_sR (As := [.long ((x).toInt64), .long (lN 0), .long (((nI (nK g)).toInt64) - (lN 1))]) (rest := []) hx hb hml hts hown hN hK hP hD hS hA (c_X5_in l D ((x).toInt64) (lN 0) (((nI (nK g)).toInt64) - (lN 1))) gX5_isKing_X5_in rfl ⟨rfl, rfl⟩ hdX5_in.2 ⟨Nat.le_of_ble_eq_true rfl, Nat.le_of_ble_eq_true rfl⟩ [] [] rfl rfl rfl rfl rfl hl.1 (Nat.le_of_ble_eq_true rfl) dX5_isKing_12 ⟨Nat.zero_le _, Nat.zero_le _⟩ (fun H locs hP hS => ?_)
  exact kb_zret (D := D) hQ hx hb hr hlocks hK hP hD hS dX5_isKing_15 (kb_b_n _) () rfl (Nat.le_refl _) (Nat.le_refl _) (show kb_b (inL ((x).toInt64) (lN 0) (((nI (nK g)).toInt64) - (lN 1))) = kb_b (kIs (nK g) x) from (congrArg kb_b (inL_kIs hn.1)))
abbrev rmX5_placeIn : Room := { frames := 0, cells := 0, slots := 0, locals := 0 }
theorem hdX5_placeIn : yX5_placeIn.cls = RX5 ∧ yX5_placeIn.cls ≠ "java/lang/invoke/MethodHandle" ∧ yX5_placeIn.cls ≠ "java/lang/invoke/VarHandle" ∧ (parseMethodDescriptor yX5_placeIn.desc).map (fun d => d.parameters.length) = some 3 := by decide +kernel
theorem inwX5_placeIn_X5 : ∀ w ∈ wsX50, w ∈ wsX5_placeIn := fun w h => List.mem_cons_of_mem _ (List.mem_append_right _ h)
set_option maxHeartbeats 4000000 in
set_option maxRecDepth 100000 in
theorem c_X5_placeIn (l : Launch) (D : va_G) (cI : ClassId) (b : Nat → Nat) (hL : Nat) (iK : Int32) (tL : Nat) (sP : Nat) (nU : Int32) (iS : Int32) (sN : Int32) (sR : Int32) (lE : Int32) (fI : Int32) (sC : Int32) (v : Nat → Int32) (o : Nat) (n : Nat) (x : Int32) (hon : o + n ≤ 217) : kb_R D [(cI, .int)] l yX5_placeIn wsX5_placeIn rmX5_placeIn [.ref (b 0), .int (nI o), .int (nI n), .int (x)] [((b 0), .inr (5, [.ref (b 1), .ref (b 2), .ref (b 3), .ref (b 4), .int (nI hL), .ref (b 5), .int (iK), .ref (b 6), .ref (b 7), .int (nI tL), .int (nI sP), .int (nU), .int (iS), .int (sN), .int (sR), .int (lE), .int (fI), .int (sC)])), ((b 1), .inl (cI, 217, .inl v))] (rFind (fun j => v (o + j)) n x) := by
  refine kb_I_of (cc := cX5_placeIn) (maxL := 5) (ret := (some .int)) (by decide) rfl (Nat.le_of_ble_eq_true rfl) ?_
  intro p e s mm args below meth c A hx hb hml hr hts hown hlocks hnm hA hN hK hP hD hS ls hl Q hQ
  have hl : lv_has ls 5 [(0, .ref (b 0)), (1, .int (nI o)), (2, .int (nI n)), (3, .int (x))] := hl
  have hP : va_P D vwCl [((b 0), .inr (5, [.ref (b 1), .ref (b 2), .ref (b 3), .ref (b 4), .int (nI hL), .ref (b 5), .int (iK), .ref (b 6), .ref (b 7), .int (nI tL), .int (nI sP), .int (nU), .int (iS), .int (sN), .int (sR), .int (lE), .int (fI), .int (sC)])), ((b 1), .inl (cI, 217, .inl v))] s.heap := hP
  have hD : va_D A [((b 0), .inr (5, [.ref (b 1), .ref (b 2), .ref (b 3), .ref (b 4), .int (nI hL), .ref (b 5), .int (iK), .ref (b 6), .ref (b 7), .int (nI tL), .int (nI sP), .int (nU), .int (iS), .int (sN), .int (sR), .int (lE), .int (fI), .int (sC)])), ((b 1), .inl (cI, 217, .inl v))] := hD
  have fl7 := hts (.fieldLink RX5 7 "KingsBanquetModel" "all" "[I") (by decide +kernel)
  refine lv_iconst (v := nI 0) hx hb dX5_placeIn_0 (by decide) ?_
  refine lv_istore (lv' := [(4, .int (nI 0)), (0, .ref (b 0)), (1, .int (nI o)), (2, .int (nI n)), (3, .int (x))]) hx hb dX5_placeIn_1 hl (by decide) rfl (fun ls hl => ?_)
  have L_3 : ∀ (z : Nat) (i : Nat), (i ≤ n) → (∀ j, j < i → v (o + j) ≠ x) → (n - i) < z → ∀ (H : Heap) (locs : List Loc), va_P D vwCl [((b 0), .inr (5, [.ref (b 1), .ref (b 2), .ref (b 3), .ref (b 4), .int (nI hL), .ref (b 5), .int (iK), .ref (b 6), .ref (b 7), .int (nI tL), .int (nI sP), .int (nU), .int (iS), .int (sN), .int (sR), .int (lE), .int (fI), .int (sC)])), ((b 1), .inl (cI, 217, .inl v))] H → va_D A [((b 0), .inr (5, [.ref (b 1), .ref (b 2), .ref (b 3), .ref (b 4), .int (nI hL), .ref (b 5), .int (iK), .ref (b 6), .ref (b 7), .int (nI tL), .int (nI sP), .int (nU), .int (iS), .int (sN), .int (sR), .int (lE), .int (fI), .int (sC)])), ((b 1), .inl (cI, 217, .inl v))] → va_S A s.heap H locs → ∀ ls : Array Slot, lv_has ls 5 [(4, .int (nI i)), (0, .ref (b 0)), (1, .int (nI o)), (2, .int (nI n)), (3, .int (x))] → W p l e rmX5_placeIn s mm args below meth c H locs 0 0 Q (F0 mm 3 ls []) := by
    intro z
    induction z with
    | zero =>
      intro i _ _ hz
      exact absurd hz (Nat.not_lt_zero _)
    | succ z ih_3 =>
      intro i hi hm hz H locs hP hD hS ls hl
      refine lv_iload hx hb dX5_placeIn_3 (lv_at hl 0 rfl) ?_
      refine lv_iload_n hx hb dX5_placeIn_5 rfl (lv_at hl 3 rfl) ?_
      refine kb_icmp_ge (tgt := 31) hx hb dX5_placeIn_6 (by decide) (by omega) (by omega) (fun c6 => ?_) (fun c6 => ?_)
      · refine lv_bipush (v := (-5)) hx hb dX5_placeIn_31 (by decide) ?_
        exact kb_iret (D := D) hQ hx hb hr hlocks hK hP hD hS dX5_placeIn_33 () rfl (Nat.le_refl _) (Nat.le_refl _) (show (-5) = rFind (fun j => v (o + j)) n x from (pl_1 (fun j hj => hm j (by omega))))
      · refine lv_aload_n hx hb dX5_placeIn_9 rfl (lv_at hl 1 rfl) ?_
        refine va_get (D := D) (ci := 5) (v := .ref (b 1)) (C := RX5) (T := TX5) (N := 18) hx hb hts inwX5_placeIn_X5 hown hK hP 0 rfl rfl 0 (by decide) fl7 (fun _ h9 => h9) rfl dX5_placeIn_10 ?_
        refine lv_iload_n hx hb dX5_placeIn_13 rfl (lv_at hl 2 rfl) ?_
        refine lv_iload hx hb dX5_placeIn_14 (lv_at hl 0 rfl) ?_
        refine lv_iadd hx hb dX5_placeIn_16 ?_
        refine kb_top (nI (o + i)) (nI_add o i) ?_
        refine kb_iald hx hb hK hP 1 0 rfl rfl (by decide) (by omega) dX5_placeIn_17 ?_
        refine lv_iload_n hx hb dX5_placeIn_18 rfl (lv_at hl 4 rfl) ?_
        refine lv_icmp_ne (tgt := 25) hx hb dX5_placeIn_19 (by decide) (fun c19 => ?_) (fun c19 => ?_)
        · refine lv_iinc (v := nI (i + 1)) (lv' := [(4, .int (nI (i + 1))), (0, .ref (b 0)), (1, .int (nI o)), (2, .int (nI n)), (3, .int (x))]) hx hb dX5_placeIn_25 hl (k := 0) rfl (kb_inc1 i) (by decide) rfl (fun ls hl => ?_)
          refine lv_goto (tgt := 3) hx hb dX5_placeIn_28 (by decide) ?_
          exact ih_3 (i + 1) (by omega) (pl_s hm c19) (by omega) _ _ hP hD hS _ (lv_sub hl [0, 1, 2, 3, 4] rfl)
        · refine lv_iload hx hb dX5_placeIn_22 (lv_at hl 0 rfl) ?_
          exact kb_iret (D := D) hQ hx hb hr hlocks hK hP hD hS dX5_placeIn_24 () rfl (Nat.le_refl _) (Nat.le_refl _) (show nI i = rFind (fun j => v (o + j)) n x from (pl_0 hm c19 (by omega)))
  exact L_3 ((n - 0) + 1) 0 (by omega) (fun j h => absurd h (Nat.not_lt_zero j)) (Nat.lt_succ_self _) _ _ hP hD hS _ (lv_sub hl [0, 1, 2, 3, 4] rfl)
abbrev rmX5_isGreater : Room := { frames := 1, cells := 0, slots := 0, locals := 22 }
theorem hdX5_isGreater : yX5_isGreater.cls = RX5 ∧ yX5_isGreater.cls ≠ "java/lang/invoke/MethodHandle" ∧ yX5_isGreater.cls ≠ "java/lang/invoke/VarHandle" ∧ (parseMethodDescriptor yX5_isGreater.desc).map (fun d => d.parameters.length) = some 2 := by decide +kernel
theorem inwX5_isGreater_X5 : ∀ w ∈ wsX50, w ∈ wsX5_isGreater := fun w h => List.mem_cons_of_mem _ (List.mem_append_right _ h)
set_option maxHeartbeats 4000000 in
set_option maxRecDepth 100000 in
theorem c_X5_isGreater (l : Launch) (D : va_G) (cI : ClassId) (b : Nat → Nat) (hL : Nat) (iK : Int32) (tL : Nat) (sP : Nat) (nU : Int32) (iS : Int32) (sN : Int32) (sR : Int32) (lE : Int32) (fI : Int32) (sC : Int32) (v : Nat → Int32) (g : Sg) (hv : rV v g) (ho : Ok g) (x : Nat) (y : Nat) (hk : x < nK g) (hk2 : y < nK g) : kb_R D [(cI, .int)] l yX5_isGreater wsX5_isGreater rmX5_isGreater [.ref (b 0), .int (nI x), .int (nI y)] [((b 0), .inr (5, [.ref (b 1), .ref (b 2), .ref (b 3), .ref (b 4), .int (nI hL), .ref (b 5), .int (iK), .ref (b 6), .ref (b 7), .int (nI tL), .int (nI sP), .int (nU), .int (iS), .int (sN), .int (sR), .int (lE), .int (fI), .int (sC)])), ((b 1), .inl (cI, 217, .inl v))] (kb_b (gtr g x y)) := by
  refine kb_I_of (cc := cX5_isGreater) (maxL := 5) (ret := (some .boolean)) (by decide) rfl (Nat.le_of_ble_eq_true rfl) ?_
  intro p e s mm args below meth c A hx hb hml hr hts hown hlocks hnm hA hN hK hP hD hS ls hl Q hQ
  have hl : lv_has ls 5 [(0, .ref (b 0)), (1, .int (nI x)), (2, .int (nI y))] := hl
  have hP : va_P D vwCl [((b 0), .inr (5, [.ref (b 1), .ref (b 2), .ref (b 3), .ref (b 4), .int (nI hL), .ref (b 5), .int (iK), .ref (b 6), .ref (b 7), .int (nI tL), .int (nI sP), .int (nU), .int (iS), .int (sN), .int (sR), .int (lE), .int (fI), .int (sC)])), ((b 1), .inl (cI, 217, .inl v))] s.heap := hP
  have hD : va_D A [((b 0), .inr (5, [.ref (b 1), .ref (b 2), .ref (b 3), .ref (b 4), .int (nI hL), .ref (b 5), .int (iK), .ref (b 6), .ref (b 7), .int (nI tL), .int (nI sP), .int (nU), .int (iS), .int (sN), .int (sR), .int (lE), .int (fI), .int (sC)])), ((b 1), .inl (cI, 217, .inl v))] := hD
  have hn := ho.n
  have h1 := ho.k x hk
  have h2 := ho.k y hk2
  have f1 := hv.f (k := x) (by omega)
  have f2 := hv.f (k := y) (by omega)
  refine lv_aload_n hx hb dX5_isGreater_0 rfl (lv_at hl 0 rfl) ?_
  refine lv_iload_n hx hb dX5_isGreater_1 rfl (lv_at hl 1 rfl) ?_
  refine lv_iconst (v := nI 0) hx hb dX5_isGreater_2 (by decide) ?_
  refine kb_vR (As := [.int (nI x), .int (nI 0)]) (rest := []) hx hb hml hts hown hN hK hP hD hS hA (c_X5_get l D cI b hL iK tL sP nU iS sN sR lE fI sC v x 0 (by omega) (by decide)) gX5_isGreater_X5_get rfl ⟨rfl, rfl⟩ hdX5_get ⟨Nat.le_of_ble_eq_true rfl, Nat.le_of_ble_eq_true rfl⟩ [0, 1] [0] rfl rfl rfl (ci := 5) rfl rfl rfl rfl rfl hl.1 (Nat.le_of_ble_eq_true rfl) dX5_isGreater_3 ⟨Nat.zero_le _, Nat.zero_le _⟩ (fun H locs hP hS => ?_)
  refine kb_top (nI (gC g x)) f1.1 ?_
  refine lv_aload_n hx hb dX5_isGreater_6 rfl (lv_at hl 0 rfl) ?_
  refine lv_iload_n hx hb dX5_isGreater_7 rfl (lv_at hl 2 rfl) ?_
  refine lv_iconst (v := nI 0) hx hb dX5_isGreater_8 (by decide) ?_
  refine kb_vR (As := [.int (nI y), .int (nI 0)]) (rest := [.int (nI (gC g x))]) hx hb hml hts hown hN hK hP hD hS hA (c_X5_get l D cI b hL iK tL sP nU iS sN sR lE fI sC v y 0 (by omega) (by decide)) gX5_isGreater_X5_get rfl ⟨rfl, rfl⟩ hdX5_get ⟨Nat.le_of_ble_eq_true rfl, Nat.le_of_ble_eq_true rfl⟩ [0, 1] [0] rfl rfl rfl (ci := 5) rfl rfl rfl rfl rfl hl.1 (Nat.le_of_ble_eq_true rfl) dX5_isGreater_9 ⟨Nat.zero_le _, Nat.zero_le _⟩ (fun H locs hP hS => ?_)
  refine kb_top (nI (gC g y)) f2.1 ?_
  refine lv_isub hx hb dX5_isGreater_12 ?_
  refine kb_top (nI (gC g x) - nI (gC g y)) rfl ?_
  refine lv_istore_n (lv' := [(3, .int (nI (gC g x) - nI (gC g y))), (0, .ref (b 0)), (1, .int (nI x)), (2, .int (nI y))]) hx hb dX5_isGreater_13 rfl hl (by decide) rfl (fun ls hl => ?_)
  refine lv_aload_n hx hb dX5_isGreater_14 rfl (lv_at hl 1 rfl) ?_
  refine lv_iload_n hx hb dX5_isGreater_15 rfl (lv_at hl 2 rfl) ?_
  refine lv_iconst (v := nI 1) hx hb dX5_isGreater_16 (by decide) ?_
  refine kb_vR (As := [.int (nI x), .int (nI 1)]) (rest := []) hx hb hml hts hown hN hK hP hD hS hA (c_X5_get l D cI b hL iK tL sP nU iS sN sR lE fI sC v x 1 (by omega) (by decide)) gX5_isGreater_X5_get rfl ⟨rfl, rfl⟩ hdX5_get ⟨Nat.le_of_ble_eq_true rfl, Nat.le_of_ble_eq_true rfl⟩ [0, 1] [0] rfl rfl rfl (ci := 5) rfl rfl rfl rfl rfl hl.1 (Nat.le_of_ble_eq_true rfl) dX5_isGreater_17 ⟨Nat.zero_le _, Nat.zero_le _⟩ (fun H locs hP hS => ?_)
  refine kb_top (nI (gA g x)) f1.2.1 ?_
  refine lv_aload_n hx hb dX5_isGreater_20 rfl (lv_at hl 1 rfl) ?_
  refine lv_iload_n hx hb dX5_isGreater_21 rfl (lv_at hl 3 rfl) ?_
  refine lv_iconst (v := nI 1) hx hb dX5_isGreater_22 (by decide) ?_
  refine kb_vR (As := [.int (nI y), .int (nI 1)]) (rest := [.int (nI (gA g x))]) hx hb hml hts hown hN hK hP hD hS hA (c_X5_get l D cI b hL iK tL sP nU iS sN sR lE fI sC v y 1 (by omega) (by decide)) gX5_isGreater_X5_get rfl ⟨rfl, rfl⟩ hdX5_get ⟨Nat.le_of_ble_eq_true rfl, Nat.le_of_ble_eq_true rfl⟩ [0, 1] [0] rfl rfl rfl (ci := 5) rfl rfl rfl rfl rfl hl.1 (Nat.le_of_ble_eq_true rfl) dX5_isGreater_23 ⟨Nat.zero_le _, Nat.zero_le _⟩ (fun H locs hP hS => ?_)
  refine kb_top (nI (gA g y)) f2.2.1 ?_
  refine lv_isub hx hb dX5_isGreater_26 ?_
  refine kb_top (nI (gA g x) - nI (gA g y)) rfl ?_
  refine lv_istore (lv' := [(4, .int (nI (gA g x) - nI (gA g y))), (3, .int (nI (gC g x) - nI (gC g y))), (0, .ref (b 0)), (1, .int (nI x)), (2, .int (nI y))]) hx hb dX5_isGreater_27 hl (by decide) rfl (fun ls hl => ?_)
  refine lv_iload_n hx hb dX5_isGreater_29 rfl (lv_at hl 1 rfl) ?_
  refine lv_if_gt (tgt := 52) hx hb dX5_isGreater_30 (by decide) (fun c30 => ?_) (fun c30 => ?_)
  · refine lv_iconst (v := nI 1) hx hb dX5_isGreater_52 (by decide) ?_
    refine lv_goto (tgt := 57) hx hb dX5_isGreater_53 (by decide) ?_
    exact kb_zret (D := D) hQ hx hb hr hlocks hK hP hD hS dX5_isGreater_57 rfl () rfl (Nat.le_refl _) (Nat.le_refl _) (show nI 1 = kb_b (gtr g x y) from (by first | exact kb_t1 (gti_1 h1 h2 (by omega) (by omega) c30) | exact kb_t0 (gti_2 h1 h2 (by omega) (by omega) c30 c34) | exact kb_t1 (gti_3 h1 h2 (by omega) (by omega) c34 c39) | exact kb_t0 (gti_4 h1 h2 (by omega) (by omega) c34 c39 c44) | exact (kb_d1 c49).trans (congrArg kb_b (gti_5 h1 h2 (by omega) (by omega) c34 c44).symm) | exact (kb_d0 (Nat.not_lt.mpr c49)).trans (congrArg kb_b (gti_5 h1 h2 (by omega) (by omega) c34 c44).symm)))
  · refine lv_iload_n hx hb dX5_isGreater_33 rfl (lv_at hl 1 rfl) ?_
    refine lv_if_ne (tgt := 56) hx hb dX5_isGreater_34 (by decide) (fun c34 => ?_) (fun c34 => ?_)
    · refine lv_iconst (v := nI 0) hx hb dX5_isGreater_56 (by decide) ?_
      exact kb_zret (D := D) hQ hx hb hr hlocks hK hP hD hS dX5_isGreater_57 rfl () rfl (Nat.le_refl _) (Nat.le_refl _) (show nI 0 = kb_b (gtr g x y) from (by first | exact kb_t1 (gti_1 h1 h2 (by omega) (by omega) c30) | exact kb_t0 (gti_2 h1 h2 (by omega) (by omega) c30 c34) | exact kb_t1 (gti_3 h1 h2 (by omega) (by omega) c34 c39) | exact kb_t0 (gti_4 h1 h2 (by omega) (by omega) c34 c39 c44) | exact (kb_d1 c49).trans (congrArg kb_b (gti_5 h1 h2 (by omega) (by omega) c34 c44).symm) | exact (kb_d0 (Nat.not_lt.mpr c49)).trans (congrArg kb_b (gti_5 h1 h2 (by omega) (by omega) c34 c44).symm)))
    · refine lv_iload hx hb dX5_isGreater_37 (lv_at hl 0 rfl) ?_
      refine lv_if_gt (tgt := 52) hx hb dX5_isGreater_39 (by decide) (fun c39 => ?_) (fun c39 => ?_)
      · refine lv_iconst (v := nI 1) hx hb dX5_isGreater_52 (by decide) ?_
        refine lv_goto (tgt := 57) hx hb dX5_isGreater_53 (by decide) ?_
        exact kb_zret (D := D) hQ hx hb hr hlocks hK hP hD hS dX5_isGreater_57 rfl () rfl (Nat.le_refl _) (Nat.le_refl _) (show nI 1 = kb_b (gtr g x y) from (by first | exact kb_t1 (gti_1 h1 h2 (by omega) (by omega) c30) | exact kb_t0 (gti_2 h1 h2 (by omega) (by omega) c30 c34) | exact kb_t1 (gti_3 h1 h2 (by omega) (by omega) c34 c39) | exact kb_t0 (gti_4 h1 h2 (by omega) (by omega) c34 c39 c44) | exact (kb_d1 c49).trans (congrArg kb_b (gti_5 h1 h2 (by omega) (by omega) c34 c44).symm) | exact (kb_d0 (Nat.not_lt.mpr c49)).trans (congrArg kb_b (gti_5 h1 h2 (by omega) (by omega) c34 c44).symm)))
      · refine lv_iload hx hb dX5_isGreater_42 (lv_at hl 0 rfl) ?_
        refine lv_if_ne (tgt := 56) hx hb dX5_isGreater_44 (by decide) (fun c44 => ?_) (fun c44 => ?_)
        · refine lv_iconst (v := nI 0) hx hb dX5_isGreater_56 (by decide) ?_
          exact kb_zret (D := D) hQ hx hb hr hlocks hK hP hD hS dX5_isGreater_57 rfl () rfl (Nat.le_refl _) (Nat.le_refl _) (show nI 0 = kb_b (gtr g x y) from (by first | exact kb_t1 (gti_1 h1 h2 (by omega) (by omega) c30) | exact kb_t0 (gti_2 h1 h2 (by omega) (by omega) c30 c34) | exact kb_t1 (gti_3 h1 h2 (by omega) (by omega) c34 c39) | exact kb_t0 (gti_4 h1 h2 (by omega) (by omega) c34 c39 c44) | exact (kb_d1 c49).trans (congrArg kb_b (gti_5 h1 h2 (by omega) (by omega) c34 c44).symm) | exact (kb_d0 (Nat.not_lt.mpr c49)).trans (congrArg kb_b (gti_5 h1 h2 (by omega) (by omega) c34 c44).symm)))
        · refine lv_iload_n hx hb dX5_isGreater_47 rfl (lv_at hl 3 rfl) ?_
          refine lv_iload_n hx hb dX5_isGreater_48 rfl (lv_at hl 4 rfl) ?_
          refine kb_icmp_ge (tgt := 56) hx hb dX5_isGreater_49 (by decide) (by omega) (by omega) (fun c49 => ?_) (fun c49 => ?_)
          · refine lv_iconst (v := nI 0) hx hb dX5_isGreater_56 (by decide) ?_
            exact kb_zret (D := D) hQ hx hb hr hlocks hK hP hD hS dX5_isGreater_57 rfl () rfl (Nat.le_refl _) (Nat.le_refl _) (show nI 0 = kb_b (gtr g x y) from (by first | exact kb_t1 (gti_1 h1 h2 (by omega) (by omega) c30) | exact kb_t0 (gti_2 h1 h2 (by omega) (by omega) c30 c34) | exact kb_t1 (gti_3 h1 h2 (by omega) (by omega) c34 c39) | exact kb_t0 (gti_4 h1 h2 (by omega) (by omega) c34 c39 c44) | exact (kb_d1 c49).trans (congrArg kb_b (gti_5 h1 h2 (by omega) (by omega) c34 c44).symm) | exact (kb_d0 (Nat.not_lt.mpr c49)).trans (congrArg kb_b (gti_5 h1 h2 (by omega) (by omega) c34 c44).symm)))
          · refine lv_iconst (v := nI 1) hx hb dX5_isGreater_52 (by decide) ?_
            refine lv_goto (tgt := 57) hx hb dX5_isGreater_53 (by decide) ?_
            exact kb_zret (D := D) hQ hx hb hr hlocks hK hP hD hS dX5_isGreater_57 rfl () rfl (Nat.le_refl _) (Nat.le_refl _) (show nI 1 = kb_b (gtr g x y) from (by first | exact kb_t1 (gti_1 h1 h2 (by omega) (by omega) c30) | exact kb_t0 (gti_2 h1 h2 (by omega) (by omega) c30 c34) | exact kb_t1 (gti_3 h1 h2 (by omega) (by omega) c34 c39) | exact kb_t0 (gti_4 h1 h2 (by omega) (by omega) c34 c39 c44) | exact (kb_d1 c49).trans (congrArg kb_b (gti_5 h1 h2 (by omega) (by omega) c34 c44).symm) | exact (kb_d0 (Nat.not_lt.mpr c49)).trans (congrArg kb_b (gti_5 h1 h2 (by omega) (by omega) c34 c44).symm)))
