abbrev rmX5_waits : Room := { frames := 0, cells := 0, slots := 0, locals := 0 }
theorem hdX5_waits : yX5_waits.cls = RX5 ∧ yX5_waits.cls ≠ "java/lang/invoke/MethodHandle" ∧ yX5_waits.cls ≠ "java/lang/invoke/VarHandle" ∧ (parseMethodDescriptor yX5_waits.desc).map (fun d => d.parameters.length) = some 1 := by decide +kernel
theorem inwX5_waits_X5 : ∀ w ∈ wsX50, w ∈ wsX5_waits := fun w h => List.mem_cons_of_mem _ (List.mem_append_right _ h)
set_option maxHeartbeats 4000000 in
set_option maxRecDepth 100000 in
theorem c_X5_waits (l : Launch) (D : va_G) (cI : ClassId) (b : Nat → Nat) (hL : Nat) (iK : Int32) (tL : Nat) (sP : Nat) (nU : Int32) (iS : Int32) (sN : Int32) (sR : Int32) (lE : Int32) (fI : Int32) (sC : Int32) (v : Nat → Int32) (g : Sg) (hv : rV v g) (ho : Ok g) (x : Int32) : kb_R D [(cI, .int)] l yX5_waits wsX5_waits rmX5_waits [.ref (b 0), .int (x)] [((b 0), .inr (5, [.ref (b 1), .ref (b 2), .ref (b 3), .ref (b 4), .int (nI hL), .ref (b 5), .int (iK), .ref (b 6), .ref (b 7), .int (nI tL), .int (nI sP), .int (nU), .int (iS), .int (sN), .int (sR), .int (lE), .int (fI), .int (sC)])), ((b 1), .inl (cI, 217, .inl v))] (waA g x) := by
  refine kb_I_of (cc := cX5_waits) (maxL := 2) (ret := (some .int)) (by decide) rfl (Nat.le_of_ble_eq_true rfl) ?_
  intro p e s mm args below meth c A hx hb hml hr hts hown hlocks hnm hA hN hK hP hD hS ls hl Q hQ
  have hl : lv_has ls 2 [(0, .ref (b 0)), (1, .int (x))] := hl
  have hP : va_P D vwCl [((b 0), .inr (5, [.ref (b 1), .ref (b 2), .ref (b 3), .ref (b 4), .int (nI hL), .ref (b 5), .int (iK), .ref (b 6), .ref (b 7), .int (nI tL), .int (nI sP), .int (nU), .int (iS), .int (sN), .int (sR), .int (lE), .int (fI), .int (sC)])), ((b 1), .inl (cI, 217, .inl v))] s.heap := hP
  have hD : va_D A [((b 0), .inr (5, [.ref (b 1), .ref (b 2), .ref (b 3), .ref (b 4), .int (nI hL), .ref (b 5), .int (iK), .ref (b 6), .ref (b 7), .int (nI tL), .int (nI sP), .int (nU), .int (iS), .int (sN), .int (sR), .int (lE), .int (fI), .int (sC)])), ((b 1), .inl (cI, 217, .inl v))] := hD
  have fl7 := hts (.fieldLink RX5 7 "KingsBanquetModel" "all" "[I") (by decide +kernel)
  have hn := ho.n
  rcases kb_sgn x with hneg_x | ⟨x', h_x, rfl⟩
  · refine lv_iload_n hx hb dX5_waits_0 rfl (lv_at hl 1 rfl) ?_
    refine lv_if_ge (tgt := 9) hx hb dX5_waits_1 (by decide) (fun c => absurd hneg_x (Int32.not_lt.mpr c)) (fun _ => ?_)
    refine lv_bipush (v := (-2)) hx hb dX5_waits_4 (by decide) ?_
    refine lv_goto (tgt := 34) hx hb dX5_waits_6 (by decide) ?_
    exact kb_iret (D := D) hQ hx hb hr hlocks hK hP hD hS dX5_waits_34 () rfl (Nat.le_refl _) (Nat.le_refl _) (show (-2) = waA g x from (if_pos hneg_x).symm)
  · refine lv_iload_n hx hb dX5_waits_0 rfl (lv_at hl 1 rfl) ?_
    refine kb_nif_ge (tgt := 9) hx hb dX5_waits_1 (by decide) (by omega) ?_
    refine lv_iload_n hx hb dX5_waits_9 rfl (lv_at hl 1 rfl) ?_
    refine lv_aload_n hx hb dX5_waits_10 rfl (lv_at hl 0 rfl) ?_
    refine va_get (D := D) (ci := 5) (v := .ref (b 1)) (C := RX5) (T := TX5) (N := 18) hx hb hts inwX5_waits_X5 hown hK hP 0 rfl rfl 0 (by decide) fl7 (fun _ h9 => h9) rfl dX5_waits_11 ?_
    refine lv_bipush (v := nI 24) hx hb dX5_waits_14 (by decide) ?_
    refine kb_iald hx hb hK hP 1 0 rfl rfl (by decide) (by omega) dX5_waits_16 ?_
    refine kb_top (nI (nW g)) hv.w ?_
    refine kb_icmp_ge (tgt := 32) hx hb dX5_waits_17 (by decide) (by omega) (by omega) (fun c17 => ?_) (fun c17 => ?_)
    · refine lv_bipush (v := (-5)) hx hb dX5_waits_32 (by decide) ?_
      exact kb_iret (D := D) hQ hx hb hr hlocks hK hP hD hS dX5_waits_34 () rfl (Nat.le_refl _) (Nat.le_refl _) (show (-5) = waA g (nI x') from (by have hz : ¬ nI x' < 0 := nI_pos (by omega); rw [show waA g (nI x') = wAt g (nI x') from if_neg hz]; first | exact (wAt_1 (by omega) hn.2.2).symm | exact (wAt_0 (by omega) (by omega) hn.2.2).symm))
    · refine lv_aload_n hx hb dX5_waits_20 rfl (lv_at hl 0 rfl) ?_
      refine va_get (D := D) (ci := 5) (v := .ref (b 1)) (C := RX5) (T := TX5) (N := 18) hx hb hts inwX5_waits_X5 hown hK hP 0 rfl rfl 0 (by decide) fl7 (fun _ h9 => h9) rfl dX5_waits_21 ?_
      refine lv_bipush (v := nI 25) hx hb dX5_waits_24 (by decide) ?_
      refine lv_iload_n hx hb dX5_waits_26 rfl (lv_at hl 1 rfl) ?_
      refine lv_iadd hx hb dX5_waits_27 ?_
      refine kb_top (nI (25 + x')) (nI_add 25 x') ?_
      refine kb_iald hx hb hK hP 1 0 rfl rfl (by decide) (by omega) dX5_waits_28 ?_
      refine kb_top (nI (gW g x')) (hv.u (by omega)) ?_
      refine lv_goto (tgt := 34) hx hb dX5_waits_29 (by decide) ?_
      exact kb_iret (D := D) hQ hx hb hr hlocks hK hP hD hS dX5_waits_34 () rfl (Nat.le_refl _) (Nat.le_refl _) (show nI (gW g x') = waA g (nI x') from (by have hz : ¬ nI x' < 0 := nI_pos (by omega); rw [show waA g (nI x') = wAt g (nI x') from if_neg hz]; first | exact (wAt_1 (by omega) hn.2.2).symm | exact (wAt_0 (by omega) (by omega) hn.2.2).symm))
abbrev rmX5_seat : Room := { frames := 1, cells := 0, slots := 0, locals := 25 }
theorem hdX5_seat : yX5_seat.cls = RX5 ∧ yX5_seat.cls ≠ "java/lang/invoke/MethodHandle" ∧ yX5_seat.cls ≠ "java/lang/invoke/VarHandle" ∧ (parseMethodDescriptor yX5_seat.desc).map (fun d => d.parameters.length) = some 1 := by decide +kernel
theorem inwX5_seat_X5 : ∀ w ∈ wsX50, w ∈ wsX5_seat := fun w h => List.mem_cons_of_mem _ (List.mem_append_right _ h)
set_option maxHeartbeats 4000000 in
set_option maxRecDepth 100000 in
theorem c_X5_seat (l : Launch) (D : va_G) (cI : ClassId) (b : Nat → Nat) (hL : Nat) (iK : Int32) (tL : Nat) (sP : Nat) (nU : Int32) (iS : Int32) (sN : Int32) (sR : Int32) (lE : Int32) (fI : Int32) (sC : Int32) (v : Nat → Int32) (g : Sg) (hv : rV v g) (ho : Ok g) (x : Int32) : kb_R D [(cI, .int)] l yX5_seat wsX5_seat rmX5_seat [.ref (b 0), .int (x)] [((b 0), .inr (5, [.ref (b 1), .ref (b 2), .ref (b 3), .ref (b 4), .int (nI hL), .ref (b 5), .int (iK), .ref (b 6), .ref (b 7), .int (nI tL), .int (nI sP), .int (nU), .int (iS), .int (sN), .int (sR), .int (lE), .int (fI), .int (sC)])), ((b 1), .inl (cI, 217, .inl v))] (seA g x) := by
  refine kb_I_of (cc := cX5_seat) (maxL := 2) (ret := (some .int)) (by decide) rfl (Nat.le_of_ble_eq_true rfl) ?_
  intro p e s mm args below meth c A hx hb hml hr hts hown hlocks hnm hA hN hK hP hD hS ls hl Q hQ
  have hl : lv_has ls 2 [(0, .ref (b 0)), (1, .int (x))] := hl
  have hP : va_P D vwCl [((b 0), .inr (5, [.ref (b 1), .ref (b 2), .ref (b 3), .ref (b 4), .int (nI hL), .ref (b 5), .int (iK), .ref (b 6), .ref (b 7), .int (nI tL), .int (nI sP), .int (nU), .int (iS), .int (sN), .int (sR), .int (lE), .int (fI), .int (sC)])), ((b 1), .inl (cI, 217, .inl v))] s.heap := hP
  have hD : va_D A [((b 0), .inr (5, [.ref (b 1), .ref (b 2), .ref (b 3), .ref (b 4), .int (nI hL), .ref (b 5), .int (iK), .ref (b 6), .ref (b 7), .int (nI tL), .int (nI sP), .int (nU), .int (iS), .int (sN), .int (sR), .int (lE), .int (fI), .int (sC)])), ((b 1), .inl (cI, 217, .inl v))] := hD
  have fl7 := hts (.fieldLink RX5 7 "KingsBanquetModel" "all" "[I") (by decide +kernel)
  have hn := ho.n
  refine lv_iload_n hx hb dX5_seat_0 rfl (lv_at hl 1 rfl) ?_
  refine lv_i2l (v := (x).toInt64) hx hb dX5_seat_1 rfl ?_
  refine lv_lconst (v := lN 0) hx hb dX5_seat_2 (by decide) ?_
  refine lv_ldc2 (v := 11) hx hb hown (hts (.constantLong RX5 195 (11)) (by decide +kernel)) dX5_seat_3 ?_
  refine kb_topl (lN 11) (by decide) ?_
  refine kb_sR (As := [.long ((x).toInt64), .long (lN 0), .long (lN 11)]) (rest := []) hx hb hml hts hown hN hK hP hD hS hA (c_X5_in l D ((x).toInt64) (lN 0) (lN 11)) gX5_seat_X5_in rfl ⟨rfl, rfl⟩ hdX5_in.2 ⟨Nat.le_of_ble_eq_true rfl, Nat.le_of_ble_eq_true rfl⟩ [] [] rfl rfl rfl rfl rfl hl.1 (Nat.le_of_ble_eq_true rfl) dX5_seat_6 ⟨Nat.zero_le _, Nat.zero_le _⟩ (fun H locs hP hS => ?_)
  refine kb_top (kb_b (isIn x 0 11)) (congrArg kb_b (inL_c (by decide) (by decide))) ?_
  refine kb_bif_ne (tgt := 16) hx hb dX5_seat_9 (by decide) (fun c9 => ?_) (fun c9 => ?_)
  · obtain ⟨j, hj1, hj9, rfl⟩ := isIn_ex (by decide) (by decide) c9
    refine lv_iload_n hx hb dX5_seat_16 rfl (lv_at hl 1 rfl) ?_
    refine lv_aload_n hx hb dX5_seat_17 rfl (lv_at hl 0 rfl) ?_
    refine va_get (D := D) (ci := 5) (v := .ref (b 1)) (C := RX5) (T := TX5) (N := 18) hx hb hts inwX5_seat_X5 hown hK hP 0 rfl rfl 0 (by decide) fl7 (fun _ h9 => h9) rfl dX5_seat_18 ?_
    refine lv_bipush (v := nI 11) hx hb dX5_seat_21 (by decide) ?_
    refine kb_iald hx hb hK hP 1 0 rfl rfl (by decide) (by omega) dX5_seat_23 ?_
    refine kb_top (nI (nT g)) hv.t ?_
    refine kb_icmp_ge (tgt := 39) hx hb dX5_seat_24 (by decide) (by omega) (by omega) (fun c24 => ?_) (fun c24 => ?_)
    · refine lv_bipush (v := (-5)) hx hb dX5_seat_39 (by decide) ?_
      exact kb_iret (D := D) hQ hx hb hr hlocks hK hP hD hS dX5_seat_41 () rfl (Nat.le_refl _) (Nat.le_refl _) (show (-5) = seA g (nI j) from (by rw [seA_2 (kIs_tn (by decide) (by omega))]; first | exact (sAt_1 (by omega) hn.2.1).symm | exact (sAt_0 (by omega) (by omega) hn.2.1).symm))
    · refine lv_aload_n hx hb dX5_seat_27 rfl (lv_at hl 0 rfl) ?_
      refine va_get (D := D) (ci := 5) (v := .ref (b 1)) (C := RX5) (T := TX5) (N := 18) hx hb hts inwX5_seat_X5 hown hK hP 0 rfl rfl 0 (by decide) fl7 (fun _ h9 => h9) rfl dX5_seat_28 ?_
      refine lv_bipush (v := nI 12) hx hb dX5_seat_31 (by decide) ?_
      refine lv_iload_n hx hb dX5_seat_33 rfl (lv_at hl 1 rfl) ?_
      refine lv_iadd hx hb dX5_seat_34 ?_
      refine kb_top (nI (12 + j)) (nI_add 12 j) ?_
      refine kb_iald hx hb hK hP 1 0 rfl rfl (by decide) (by omega) dX5_seat_35 ?_
      refine kb_top (nI (gT g j)) (hv.s (by omega)) ?_
      refine lv_goto (tgt := 41) hx hb dX5_seat_36 (by decide) ?_
      exact kb_iret (D := D) hQ hx hb hr hlocks hK hP hD hS dX5_seat_41 () rfl (Nat.le_refl _) (Nat.le_refl _) (show nI (gT g j) = seA g (nI j) from (by rw [seA_2 (kIs_tn (by decide) (by omega))]; first | exact (sAt_1 (by omega) hn.2.1).symm | exact (sAt_0 (by omega) (by omega) hn.2.1).symm))
  · refine lv_iconst (v := (-1)) hx hb dX5_seat_12 (by decide) ?_
    refine lv_goto (tgt := 41) hx hb dX5_seat_13 (by decide) ?_
    exact kb_iret (D := D) hQ hx hb hr hlocks hK hP hD hS dX5_seat_41 () rfl (Nat.le_refl _) (Nat.le_refl _) (show (-1) = seA g x from (seA_1 (sei c9)).symm)
