abbrev rmX5_doAnnounce : Room := { frames := 1, cells := 0, slots := 0, locals := 25 }
theorem hdX5_doAnnounce : yX5_doAnnounce.cls = RX5 ∧ yX5_doAnnounce.cls ≠ "java/lang/invoke/MethodHandle" ∧ yX5_doAnnounce.cls ≠ "java/lang/invoke/VarHandle" ∧ (parseMethodDescriptor yX5_doAnnounce.desc).map (fun d => d.parameters.length) = some 3 := by decide +kernel
theorem inwX5_doAnnounce_X5 : ∀ w ∈ wsX50, w ∈ wsX5_doAnnounce := fun w h => List.mem_cons_of_mem _ (List.mem_append_right _ h)
set_option maxHeartbeats 4000000 in
set_option maxRecDepth 100000 in
theorem c_X5_doAnnounce (l : Launch) (D : va_G) (cI : ClassId) (b : Nat → Nat) (hL : Nat) (iK : Int32) (tL : Nat) (sP : Nat) (nU : Int32) (iS : Int32) (sN : Int32) (sR : Int32) (lE : Int32) (fI : Int32) (sC : Int32) (v : Nat → Int32) (g : Sg) (hv : rV v g) (ho : Ok g) (x : Int32) (y : Int32) (m : Int32) : kb_I (S := (Nat → Int32)) D [(cI, .int)] l yX5_doAnnounce wsX5_doAnnounce rmX5_doAnnounce [.ref (b 0), .int (x), .int (y), .int (m)] [((b 0), .inr (5, [.ref (b 1), .ref (b 2), .ref (b 3), .ref (b 4), .int (nI hL), .ref (b 5), .int (iK), .ref (b 6), .ref (b 7), .int (nI tL), .int (nI sP), .int (nU), .int (iS), .int (sN), .int (sR), .int (lE), .int (fI), .int (sC)])), ((b 1), .inl (cI, 217, .inl v))] (fun (r : Int32) (u : (Nat → Int32)) => r = (opA g x y m).1 ∧ rV u (opA g x y m).2) (fun (u : (Nat → Int32)) => [((b 0), .inr (5, [.ref (b 1), .ref (b 2), .ref (b 3), .ref (b 4), .int (nI hL), .ref (b 5), .int (iK), .ref (b 6), .ref (b 7), .int (nI tL), .int (nI sP), .int (nU), .int (iS), .int (sN), .int (sR), .int (lE), .int (fI), .int (sC)])), ((b 1), .inl (cI, 217, .inl u))]) 0 0 := by
  refine kb_I_of (cc := cX5_doAnnounce) (maxL := 5) (ret := (some .int)) (by decide) rfl (Nat.le_of_ble_eq_true rfl) ?_
  intro p e s mm args below meth c A hx hb hml hr hts hown hlocks hnm hA hN hK hP hD hS ls hl Q hQ
  have hl : lv_has ls 5 [(0, .ref (b 0)), (1, .int (x)), (2, .int (y)), (3, .int (m))] := hl
  have hP : va_P D vwCl [((b 0), .inr (5, [.ref (b 1), .ref (b 2), .ref (b 3), .ref (b 4), .int (nI hL), .ref (b 5), .int (iK), .ref (b 6), .ref (b 7), .int (nI tL), .int (nI sP), .int (nU), .int (iS), .int (sN), .int (sR), .int (lE), .int (fI), .int (sC)])), ((b 1), .inl (cI, 217, .inl v))] s.heap := hP
  have hD : va_D A [((b 0), .inr (5, [.ref (b 1), .ref (b 2), .ref (b 3), .ref (b 4), .int (nI hL), .ref (b 5), .int (iK), .ref (b 6), .ref (b 7), .int (nI tL), .int (nI sP), .int (nU), .int (iS), .int (sN), .int (sR), .int (lE), .int (fI), .int (sC)])), ((b 1), .inl (cI, 217, .inl v))] := hD
  have fl7 := hts (.fieldLink RX5 7 "KingsBanquetModel" "all" "[I") (by decide +kernel)
  have hn := ho.n
  refine lv_iload_n hx hb dX5_doAnnounce_0 rfl (lv_at hl 1 rfl) ?_
  refine lv_i2l (v := (x).toInt64) hx hb dX5_doAnnounce_1 rfl ?_
  refine lv_lconst (v := lN 1) hx hb dX5_doAnnounce_2 (by decide) ?_
  refine lv_ldc2 (v := 9) hx hb hown (hts (.constantLong RX5 95 (9)) (by decide +kernel)) dX5_doAnnounce_3 ?_
  refine kb_topl (lN 9) (by decide) ?_
  refine kb_sR (As := [.long ((x).toInt64), .long (lN 1), .long (lN 9)]) (rest := []) hx hb hml hts hown hN hK hP hD hS hA (c_X5_in l D ((x).toInt64) (lN 1) (lN 9)) gX5_doAnnounce_X5_in rfl ⟨rfl, rfl⟩ hdX5_in.2 ⟨Nat.le_of_ble_eq_true rfl, Nat.le_of_ble_eq_true rfl⟩ [] [] rfl rfl rfl rfl rfl hl.1 (Nat.le_of_ble_eq_true rfl) dX5_doAnnounce_6 ⟨Nat.zero_le _, Nat.zero_le _⟩ (fun H locs hP hS => ?_)
  refine kb_top (kb_b (isIn x 1 9)) (congrArg kb_b (inL_c (by decide) (by decide))) ?_
  refine kb_bif_eq (tgt := 36) hx hb dX5_doAnnounce_9 (by decide) (fun c9 => ?_) (fun c9 => ?_)
  · refine lv_bipush (v := (-2)) hx hb dX5_doAnnounce_36 (by decide) ?_
    exact kb_iret (D := D) hQ hx hb hr hlocks hK hP hD hS dX5_doAnnounce_38 v rfl (Nat.le_refl _) (Nat.le_refl _) (show (-2) = (opA g x y m).1 ∧ rV v (opA g x y m).2 from (by rw [opA_1 (by first | exact Or.inl c9 | exact Or.inr (Or.inl c21) | exact Or.inr (Or.inr c33))]; exact ⟨rfl, hv⟩))
  · refine lv_iload_n hx hb dX5_doAnnounce_12 rfl (lv_at hl 2 rfl) ?_
    refine lv_i2l (v := (y).toInt64) hx hb dX5_doAnnounce_13 rfl ?_
    refine lv_lconst (v := lN 0) hx hb dX5_doAnnounce_14 (by decide) ?_
    refine lv_ldc2 (v := 120) hx hb hown (hts (.constantLong RX5 97 (120)) (by decide +kernel)) dX5_doAnnounce_15 ?_
    refine kb_topl (lN 120) (by decide) ?_
    refine kb_sR (As := [.long ((y).toInt64), .long (lN 0), .long (lN 120)]) (rest := []) hx hb hml hts hown hN hK hP hD hS hA (c_X5_in l D ((y).toInt64) (lN 0) (lN 120)) gX5_doAnnounce_X5_in rfl ⟨rfl, rfl⟩ hdX5_in.2 ⟨Nat.le_of_ble_eq_true rfl, Nat.le_of_ble_eq_true rfl⟩ [] [] rfl rfl rfl rfl rfl hl.1 (Nat.le_of_ble_eq_true rfl) dX5_doAnnounce_18 ⟨Nat.zero_le _, Nat.zero_le _⟩ (fun H locs hP hS => ?_)
    refine kb_top (kb_b (isIn y 0 120)) (congrArg kb_b (inL_c (by decide) (by decide))) ?_
    refine kb_bif_eq (tgt := 36) hx hb dX5_doAnnounce_21 (by decide) (fun c21 => ?_) (fun c21 => ?_)
    · refine lv_bipush (v := (-2)) hx hb dX5_doAnnounce_36 (by decide) ?_
      exact kb_iret (D := D) hQ hx hb hr hlocks hK hP hD hS dX5_doAnnounce_38 v rfl (Nat.le_refl _) (Nat.le_refl _) (show (-2) = (opA g x y m).1 ∧ rV v (opA g x y m).2 from (by rw [opA_1 (by first | exact Or.inl c9 | exact Or.inr (Or.inl c21) | exact Or.inr (Or.inr c33))]; exact ⟨rfl, hv⟩))
    · refine lv_iload_n hx hb dX5_doAnnounce_24 rfl (lv_at hl 3 rfl) ?_
      refine lv_i2l (v := (m).toInt64) hx hb dX5_doAnnounce_25 rfl ?_
      refine lv_lconst (v := lN 0) hx hb dX5_doAnnounce_26 (by decide) ?_
      refine lv_ldc2 (v := 9999) hx hb hown (hts (.constantLong RX5 99 (9999)) (by decide +kernel)) dX5_doAnnounce_27 ?_
      refine kb_topl (lN 9999) (by decide) ?_
      refine kb_sR (As := [.long ((m).toInt64), .long (lN 0), .long (lN 9999)]) (rest := []) hx hb hml hts hown hN hK hP hD hS hA (c_X5_in l D ((m).toInt64) (lN 0) (lN 9999)) gX5_doAnnounce_X5_in rfl ⟨rfl, rfl⟩ hdX5_in.2 ⟨Nat.le_of_ble_eq_true rfl, Nat.le_of_ble_eq_true rfl⟩ [] [] rfl rfl rfl rfl rfl hl.1 (Nat.le_of_ble_eq_true rfl) dX5_doAnnounce_30 ⟨Nat.zero_le _, Nat.zero_le _⟩ (fun H locs hP hS => ?_)
      refine kb_top (kb_b (isIn m 0 9999)) (congrArg kb_b (inL_c (by decide) (by decide))) ?_
      refine kb_bif_ne (tgt := 39) hx hb dX5_doAnnounce_33 (by decide) (fun c33 => ?_) (fun c33 => ?_)
      · refine lv_iload_n hx hb dX5_doAnnounce_39 rfl (lv_at hl 3 rfl) ?_
        refine lv_aload_n hx hb dX5_doAnnounce_40 rfl (lv_at hl 0 rfl) ?_
        refine va_get (D := D) (ci := 5) (v := .ref (b 1)) (C := RX5) (T := TX5) (N := 18) hx hb hts inwX5_doAnnounce_X5 hown hK hP 0 rfl rfl 0 (by decide) fl7 (fun _ h9 => h9) rfl dX5_doAnnounce_41 ?_
        refine lv_iconst (v := nI 4) hx hb dX5_doAnnounce_44 (by decide) ?_
        refine kb_iald hx hb hK hP 1 0 rfl rfl (by decide) (by omega) dX5_doAnnounce_45 ?_
        refine kb_top (gc g 4) hv.m ?_
        refine lv_icmp_ge (tgt := 52) hx hb dX5_doAnnounce_46 (by decide) (fun c46 => ?_) (fun c46 => ?_)
        · refine lv_aload_n hx hb dX5_doAnnounce_52 rfl (lv_at hl 0 rfl) ?_
          refine va_get (D := D) (ci := 5) (v := .ref (b 1)) (C := RX5) (T := TX5) (N := 18) hx hb hts inwX5_doAnnounce_X5 hown hK hP 0 rfl rfl 0 (by decide) fl7 (fun _ h9 => h9) rfl dX5_doAnnounce_53 ?_
          refine lv_iconst (v := nI 5) hx hb dX5_doAnnounce_56 (by decide) ?_
          refine kb_iald hx hb hK hP 1 0 rfl rfl (by decide) (by omega) dX5_doAnnounce_57 ?_
          refine kb_top (nI (nK g)) hv.k ?_
          refine lv_bipush (v := nI 24) hx hb dX5_doAnnounce_58 (by decide) ?_
          refine kb_icmp_ne (tgt := 66) hx hb dX5_doAnnounce_60 (by decide) (by omega) (by omega) (fun c60 => ?_) (fun c60 => ?_)
          · obtain ⟨x', hx1, hx9, rfl⟩ := isIn_ex (by decide) (by decide) c9
            obtain ⟨y', hy1, hy9, rfl⟩ := isIn_ex (by decide) (by decide) c21
            refine lv_aload_n hx hb dX5_doAnnounce_66 rfl (lv_at hl 0 rfl) ?_
            refine va_get (D := D) (ci := 5) (v := .ref (b 1)) (C := RX5) (T := TX5) (N := 18) hx hb hts inwX5_doAnnounce_X5 hown hK hP 0 rfl rfl 0 (by decide) fl7 (fun _ h9 => h9) rfl dX5_doAnnounce_67 ?_
            refine lv_iconst (v := nI 5) hx hb dX5_doAnnounce_70 (by decide) ?_
            refine kb_iald hx hb hK hP 1 0 rfl rfl (by decide) (by omega) dX5_doAnnounce_71 ?_
            refine kb_top (nI (nK g)) hv.k ?_
            refine lv_istore (lv' := [(4, .int (nI (nK g))), (0, .ref (b 0)), (1, .int (nI x')), (2, .int (nI y')), (3, .int (m))]) hx hb dX5_doAnnounce_72 hl (by decide) rfl (fun ls hl => ?_)
            refine lv_aload_n hx hb dX5_doAnnounce_74 rfl (lv_at hl 1 rfl) ?_
            refine va_get (D := D) (ci := 5) (v := .ref (b 1)) (C := RX5) (T := TX5) (N := 18) hx hb hts inwX5_doAnnounce_X5 hown hK hP 0 rfl rfl 0 (by decide) fl7 (fun _ h9 => h9) rfl dX5_doAnnounce_75 ?_
            refine lv_iconst (v := nI 5) hx hb dX5_doAnnounce_78 (by decide) ?_
            refine lv_dup2_11 hx hb dX5_doAnnounce_79 rfl rfl ?_
            refine kb_iald hx hb hK hP 1 0 rfl rfl (by decide) (by omega) dX5_doAnnounce_80 ?_
            refine kb_top (nI (nK g)) hv.k ?_
            refine lv_iconst (v := nI 1) hx hb dX5_doAnnounce_81 (by decide) ?_
            refine lv_iadd hx hb dX5_doAnnounce_82 ?_
            refine kb_top (nI (nK g + 1)) (nI_add (nK g) 1) ?_
            refine kb_iast hx hb hK hP hD hS 1 0 rfl rfl (by decide) (by omega) dX5_doAnnounce_83 (fun H locs hP hD hS => ?_)
            have hP : va_P D vwCl [((b 0), .inr (5, [.ref (b 1), .ref (b 2), .ref (b 3), .ref (b 4), .int (nI hL), .ref (b 5), .int (iK), .ref (b 6), .ref (b 7), .int (nI tL), .int (nI sP), .int (nU), .int (iS), .int (sN), .int (sR), .int (lE), .int (fI), .int (sC)])), ((b 1), .inl (cI, 217, .inl (upd v 5 (nI (nK g + 1)))))] H := hP
            have hD : va_D A [((b 0), .inr (5, [.ref (b 1), .ref (b 2), .ref (b 3), .ref (b 4), .int (nI hL), .ref (b 5), .int (iK), .ref (b 6), .ref (b 7), .int (nI tL), .int (nI sP), .int (nU), .int (iS), .int (sN), .int (sR), .int (lE), .int (fI), .int (sC)])), ((b 1), .inl (cI, 217, .inl (upd v 5 (nI (nK g + 1)))))] := hD
            refine lv_aload_n hx hb dX5_doAnnounce_84 rfl (lv_at hl 1 rfl) ?_
            refine lv_iload hx hb dX5_doAnnounce_85 (lv_at hl 0 rfl) ?_
            refine lv_iconst (v := nI 0) hx hb dX5_doAnnounce_87 (by decide) ?_
            refine lv_iload_n hx hb dX5_doAnnounce_88 rfl (lv_at hl 2 rfl) ?_
            refine kb_vV (As := [.int (nI (nK g)), .int (nI 0), .int (nI x')]) (rest := []) hx hb hml hts hown hN hK hP hD hS hA (c_X5_lays l D cI b hL iK tL sP nU iS sN sR lE fI sC (upd v 5 (nI (nK g + 1))) (nK g) 0 (by omega) (by decide) (nI x')) gX5_doAnnounce_X5_lays rfl ⟨rfl, rfl⟩ hdX5_lays ⟨Nat.le_of_ble_eq_true rfl, Nat.le_of_ble_eq_true rfl⟩ [0, 1] [0] rfl rfl rfl (ci := 5) rfl rfl rfl (fun _ => rfl) rfl rfl hl.1 (Nat.le_of_ble_eq_true rfl) dX5_doAnnounce_89 ⟨Nat.zero_le _, Nat.zero_le _⟩ (fun u H locs hw_89 hP hD hS => ?_)
            have hw_89 : True := hw_89
            have hP : va_P D vwCl [((b 0), .inr (5, [.ref (b 1), .ref (b 2), .ref (b 3), .ref (b 4), .int (nI hL), .ref (b 5), .int (iK), .ref (b 6), .ref (b 7), .int (nI tL), .int (nI sP), .int (nU), .int (iS), .int (sN), .int (sR), .int (lE), .int (fI), .int (sC)])), ((b 1), .inl (cI, 217, .inl (upd (upd v 5 (nI (nK g + 1))) (49 + 7 * (nK g) + 0) (nI x'))))] H := hP
            have hD : va_D A [((b 0), .inr (5, [.ref (b 1), .ref (b 2), .ref (b 3), .ref (b 4), .int (nI hL), .ref (b 5), .int (iK), .ref (b 6), .ref (b 7), .int (nI tL), .int (nI sP), .int (nU), .int (iS), .int (sN), .int (sR), .int (lE), .int (fI), .int (sC)])), ((b 1), .inl (cI, 217, .inl (upd (upd v 5 (nI (nK g + 1))) (49 + 7 * (nK g) + 0) (nI x'))))] := hD
            refine lv_aload_n hx hb dX5_doAnnounce_92 rfl (lv_at hl 1 rfl) ?_
            refine lv_iload hx hb dX5_doAnnounce_93 (lv_at hl 0 rfl) ?_
            refine lv_iconst (v := nI 1) hx hb dX5_doAnnounce_95 (by decide) ?_
            refine lv_iload_n hx hb dX5_doAnnounce_96 rfl (lv_at hl 3 rfl) ?_
            refine kb_vV (As := [.int (nI (nK g)), .int (nI 1), .int (nI y')]) (rest := []) hx hb hml hts hown hN hK hP hD hS hA (c_X5_lays l D cI b hL iK tL sP nU iS sN sR lE fI sC (upd (upd v 5 (nI (nK g + 1))) (49 + 7 * (nK g) + 0) (nI x')) (nK g) 1 (by omega) (by decide) (nI y')) gX5_doAnnounce_X5_lays rfl ⟨rfl, rfl⟩ hdX5_lays ⟨Nat.le_of_ble_eq_true rfl, Nat.le_of_ble_eq_true rfl⟩ [0, 1] [0] rfl rfl rfl (ci := 5) rfl rfl rfl (fun _ => rfl) rfl rfl hl.1 (Nat.le_of_ble_eq_true rfl) dX5_doAnnounce_97 ⟨Nat.zero_le _, Nat.zero_le _⟩ (fun u H locs hw_97 hP hD hS => ?_)
            have hw_97 : True := hw_97
            have hP : va_P D vwCl [((b 0), .inr (5, [.ref (b 1), .ref (b 2), .ref (b 3), .ref (b 4), .int (nI hL), .ref (b 5), .int (iK), .ref (b 6), .ref (b 7), .int (nI tL), .int (nI sP), .int (nU), .int (iS), .int (sN), .int (sR), .int (lE), .int (fI), .int (sC)])), ((b 1), .inl (cI, 217, .inl (upd (upd (upd v 5 (nI (nK g + 1))) (49 + 7 * (nK g) + 0) (nI x')) (49 + 7 * (nK g) + 1) (nI y'))))] H := hP
            have hD : va_D A [((b 0), .inr (5, [.ref (b 1), .ref (b 2), .ref (b 3), .ref (b 4), .int (nI hL), .ref (b 5), .int (iK), .ref (b 6), .ref (b 7), .int (nI tL), .int (nI sP), .int (nU), .int (iS), .int (sN), .int (sR), .int (lE), .int (fI), .int (sC)])), ((b 1), .inl (cI, 217, .inl (upd (upd (upd v 5 (nI (nK g + 1))) (49 + 7 * (nK g) + 0) (nI x')) (49 + 7 * (nK g) + 1) (nI y'))))] := hD
            refine lv_aload_n hx hb dX5_doAnnounce_100 rfl (lv_at hl 1 rfl) ?_
            refine lv_iload hx hb dX5_doAnnounce_101 (lv_at hl 0 rfl) ?_
            refine lv_iconst (v := nI 2) hx hb dX5_doAnnounce_103 (by decide) ?_
            refine lv_iload_n hx hb dX5_doAnnounce_104 rfl (lv_at hl 4 rfl) ?_
            refine kb_vV (As := [.int (nI (nK g)), .int (nI 2), .int (m)]) (rest := []) hx hb hml hts hown hN hK hP hD hS hA (c_X5_lays l D cI b hL iK tL sP nU iS sN sR lE fI sC (upd (upd (upd v 5 (nI (nK g + 1))) (49 + 7 * (nK g) + 0) (nI x')) (49 + 7 * (nK g) + 1) (nI y')) (nK g) 2 (by omega) (by decide) m) gX5_doAnnounce_X5_lays rfl ⟨rfl, rfl⟩ hdX5_lays ⟨Nat.le_of_ble_eq_true rfl, Nat.le_of_ble_eq_true rfl⟩ [0, 1] [0] rfl rfl rfl (ci := 5) rfl rfl rfl (fun _ => rfl) rfl rfl hl.1 (Nat.le_of_ble_eq_true rfl) dX5_doAnnounce_105 ⟨Nat.zero_le _, Nat.zero_le _⟩ (fun u H locs hw_105 hP hD hS => ?_)
            have hw_105 : True := hw_105
            have hP : va_P D vwCl [((b 0), .inr (5, [.ref (b 1), .ref (b 2), .ref (b 3), .ref (b 4), .int (nI hL), .ref (b 5), .int (iK), .ref (b 6), .ref (b 7), .int (nI tL), .int (nI sP), .int (nU), .int (iS), .int (sN), .int (sR), .int (lE), .int (fI), .int (sC)])), ((b 1), .inl (cI, 217, .inl (upd (upd (upd (upd v 5 (nI (nK g + 1))) (49 + 7 * (nK g) + 0) (nI x')) (49 + 7 * (nK g) + 1) (nI y')) (49 + 7 * (nK g) + 2) m)))] H := hP
            have hD : va_D A [((b 0), .inr (5, [.ref (b 1), .ref (b 2), .ref (b 3), .ref (b 4), .int (nI hL), .ref (b 5), .int (iK), .ref (b 6), .ref (b 7), .int (nI tL), .int (nI sP), .int (nU), .int (iS), .int (sN), .int (sR), .int (lE), .int (fI), .int (sC)])), ((b 1), .inl (cI, 217, .inl (upd (upd (upd (upd v 5 (nI (nK g + 1))) (49 + 7 * (nK g) + 0) (nI x')) (49 + 7 * (nK g) + 1) (nI y')) (49 + 7 * (nK g) + 2) m)))] := hD
            refine lv_iload hx hb dX5_doAnnounce_108 (lv_at hl 0 rfl) ?_
            exact kb_iret (D := D) hQ hx hb hr hlocks hK hP hD hS dX5_doAnnounce_110 (upd (upd (upd (upd v 5 (nI (nK g + 1))) (49 + 7 * (nK g) + 0) (nI x')) (49 + 7 * (nK g) + 1) (nI y')) (49 + 7 * (nK g) + 2) m) rfl (Nat.le_refl _) (Nat.le_refl _) (show (nI (nK g)) = (opA g (nI x') (nI y') m).1 ∧ rV (upd (upd (upd (upd v 5 (nI (nK g + 1))) (49 + 7 * (nK g) + 0) (nI x')) (49 + 7 * (nK g) + 1) (nI y')) (49 + 7 * (nK g) + 2) m) (opA g (nI x') (nI y') m).2 from (by rw [opA_4 c9 c21 c33 (Int32.not_lt.mpr c46) c60 (by omega) (by omega)]; exact ⟨rfl, rV_ann hv (by omega) hn.2.1 hn.2.2⟩))
          · refine lv_bipush (v := (-3)) hx hb dX5_doAnnounce_63 (by decide) ?_
            exact kb_iret (D := D) hQ hx hb hr hlocks hK hP hD hS dX5_doAnnounce_65 v rfl (Nat.le_refl _) (Nat.le_refl _) (show (-3) = (opA g x y m).1 ∧ rV v (opA g x y m).2 from (by rw [opA_3 c9 c21 c33 (Int32.not_lt.mpr c46) c60]; exact ⟨rfl, hv⟩))
        · refine lv_bipush (v := (-4)) hx hb dX5_doAnnounce_49 (by decide) ?_
          exact kb_iret (D := D) hQ hx hb hr hlocks hK hP hD hS dX5_doAnnounce_51 v rfl (Nat.le_refl _) (Nat.le_refl _) (show (-4) = (opA g x y m).1 ∧ rV v (opA g x y m).2 from (by rw [opA_2 c9 c21 c33 (Int32.not_le.mp c46)]; exact ⟨rfl, hv⟩))
      · refine lv_bipush (v := (-2)) hx hb dX5_doAnnounce_36 (by decide) ?_
        exact kb_iret (D := D) hQ hx hb hr hlocks hK hP hD hS dX5_doAnnounce_38 v rfl (Nat.le_refl _) (Nat.le_refl _) (show (-2) = (opA g x y m).1 ∧ rV v (opA g x y m).2 from (by rw [opA_1 (by first | exact Or.inl c9 | exact Or.inr (Or.inl c21) | exact Or.inr (Or.inr c33))]; exact ⟨rfl, hv⟩))
