abbrev rmX5_readsNumber : Room := { frames := 2, cells := 0, slots := 0, locals := 47 }
theorem hdX5_readsNumber : yX5_readsNumber.cls = RX5 ∧ yX5_readsNumber.cls ≠ "java/lang/invoke/MethodHandle" ∧ yX5_readsNumber.cls ≠ "java/lang/invoke/VarHandle" ∧ (parseMethodDescriptor yX5_readsNumber.desc).map (fun d => d.parameters.length) = some 2 := by decide +kernel
theorem inwX5_readsNumber_X5 : ∀ w ∈ wsX50, w ∈ wsX5_readsNumber := fun w h => List.mem_cons_of_mem _ (List.mem_append_right _ h)
set_option maxHeartbeats 4000000 in
set_option maxRecDepth 100000 in
theorem c_X5_readsNumber (l : Launch) (D : va_G) (cI : ClassId) (b : Nat → Nat) (hL : Nat) (iK : Int32) (tL : Nat) (sP : Nat) (nU : Int32) (iS : Int32) (sN : Int32) (sR : Int32) (lE : Int32) (fI : Int32) (sC : Int32) (t : Nat → Int32) (tx : Nat → Nat) (htx : tOk t tx tL) (lo : Nat) (hi : Nat) (hlo : lo ≤ 9) (hhi : 9 ≤ hi ∧ hi ≤ 9999) (hsp : sP ≤ tL) : kb_I (S := Nat × Int32) D [(cI, .int)] l yX5_readsNumber wsX5_readsNumber rmX5_readsNumber [.ref (b 0), .int (nI lo), .int (nI hi)] [((b 0), .inr (5, [.ref (b 1), .ref (b 2), .ref (b 3), .ref (b 4), .int (nI hL), .ref (b 5), .int (iK), .ref (b 6), .ref (b 7), .int (nI tL), .int (nI sP), .int (nU), .int (iS), .int (sN), .int (sR), .int (lE), .int (fI), .int (sC)])), ((b 7), .inl (cI, 60, .inl t))] (fun (r : Int32) (u : Nat × Int32) => r = kb_b (pN tx tL lo hi sP).1 ∧ u.1 = (pN tx tL lo hi sP).2.1 ∧ ((pN tx tL lo hi sP).1 = true → u.2 = nI (pN tx tL lo hi sP).2.2)) (fun (u : Nat × Int32) => [((b 0), .inr (5, [.ref (b 1), .ref (b 2), .ref (b 3), .ref (b 4), .int (nI hL), .ref (b 5), .int (iK), .ref (b 6), .ref (b 7), .int (nI tL), .int (nI u.1), .int (u.2), .int (iS), .int (sN), .int (sR), .int (lE), .int (fI), .int (sC)])), ((b 7), .inl (cI, 60, .inl t))]) 0 0 := by
  refine kb_I_of (cc := cX5_readsNumber) (maxL := 4) (ret := (some .boolean)) (by decide) rfl (Nat.le_of_ble_eq_true rfl) ?_
  intro p e s mm args below meth c A hx hb hml hr hts hown hlocks hnm hA hN hK hP hD hS ls hl Q hQ
  have hl : lv_has ls 4 [(0, .ref (b 0)), (1, .int (nI lo)), (2, .int (nI hi))] := hl
  have hP : va_P D vwCl [((b 0), .inr (5, [.ref (b 1), .ref (b 2), .ref (b 3), .ref (b 4), .int (nI hL), .ref (b 5), .int (iK), .ref (b 6), .ref (b 7), .int (nI tL), .int (nI sP), .int (nU), .int (iS), .int (sN), .int (sR), .int (lE), .int (fI), .int (sC)])), ((b 7), .inl (cI, 60, .inl t))] s.heap := hP
  have hD : va_D A [((b 0), .inr (5, [.ref (b 1), .ref (b 2), .ref (b 3), .ref (b 4), .int (nI hL), .ref (b 5), .int (iK), .ref (b 6), .ref (b 7), .int (nI tL), .int (nI sP), .int (nU), .int (iS), .int (sN), .int (sR), .int (lE), .int (fI), .int (sC)])), ((b 7), .inl (cI, 60, .inl t))] := hD
  have fl28 := hts (.fieldLink RX5 28 "KingsBanquetModel" "text" "[I") (by decide +kernel)
  have fl146 := hts (.fieldLink RX5 146 "KingsBanquetModel" "spot" "I") (by decide +kernel)
  have fl152 := hts (.fieldLink RX5 152 "KingsBanquetModel" "number" "I") (by decide +kernel)
  have hn := htx.1
  refine lv_aload_n hx hb dX5_readsNumber_0 rfl (lv_at hl 0 rfl) ?_
  refine lv_bipush (v := nI 48) hx hb dX5_readsNumber_1 (by decide) ?_
  refine lv_iload_n hx hb dX5_readsNumber_3 rfl (lv_at hl 1 rfl) ?_
  refine lv_iadd hx hb dX5_readsNumber_4 ?_
  refine kb_top (nI (48 + lo)) (nI_add 48 lo) ?_
  refine lv_bipush (v := nI 57) hx hb dX5_readsNumber_5 (by decide) ?_
  refine kb_vR (As := [.int (nI (48 + lo)), .int (nI 57)]) (rest := []) hx hb hml hts hown hN hK hP hD hS hA (c_X5_isHere l D cI b hL iK tL sP nU iS sN sR lE fI sC t (by first | assumption | omega) htx (48 + lo) 57 (by omega) (by decide) (by omega)) gX5_readsNumber_X5_isHere rfl ⟨rfl, rfl⟩ hdX5_isHere ⟨Nat.le_of_ble_eq_true rfl, Nat.le_of_ble_eq_true rfl⟩ [0, 1] [0] rfl rfl rfl (ci := 5) rfl rfl rfl rfl rfl hl.1 (Nat.le_of_ble_eq_true rfl) dX5_readsNumber_7 ⟨Nat.zero_le _, Nat.zero_le _⟩ (fun H locs hP hS => ?_)
  refine kb_bif_ne (tgt := 15) hx hb dX5_readsNumber_10 (by decide) (fun c10 => ?_) (fun c10 => ?_)
  · obtain ⟨hi1, hi2, hi3, hpn⟩ := rN_2 (hi := hi) hlo c10
    refine lv_aload_n hx hb dX5_readsNumber_15 rfl (lv_at hl 0 rfl) ?_
    refine va_get (D := D) (ci := 5) (v := .ref (b 7)) (C := RX5) (T := TX5) (N := 18) hx hb hts inwX5_readsNumber_X5 hown hK hP 0 rfl rfl 8 (by decide) fl28 (fun _ h9 => h9) rfl dX5_readsNumber_16 ?_
    refine lv_aload_n hx hb dX5_readsNumber_19 rfl (lv_at hl 0 rfl) ?_
    refine va_get (D := D) (ci := 5) (v := .int (nI sP)) (C := RX5) (T := TX5) (N := 18) hx hb hts inwX5_readsNumber_X5 hown hK hP 0 rfl rfl 10 (by decide) fl146 (fun _ h9 => h9) rfl dX5_readsNumber_20 ?_
    refine kb_iald hx hb hK hP 1 0 rfl rfl (by decide) (by omega) dX5_readsNumber_23 ?_
    refine kb_top (nI (tx sP)) (htx.2 sP hi1).1 ?_
    refine lv_bipush (v := nI 48) hx hb dX5_readsNumber_24 (by decide) ?_
    refine lv_isub hx hb dX5_readsNumber_26 ?_
    refine kb_top (nI ((tx sP) - 48)) (pk_sub (by omega)) ?_
    refine lv_istore_n (lv' := [(3, .int (nI ((tx sP) - 48))), (0, .ref (b 0)), (1, .int (nI lo)), (2, .int (nI hi))]) hx hb dX5_readsNumber_27 rfl hl (by decide) rfl (fun ls hl => ?_)
    refine lv_aload_n hx hb dX5_readsNumber_28 rfl (lv_at hl 1 rfl) ?_
    refine lv_dup hx hb dX5_readsNumber_29 rfl ?_
    refine va_get (D := D) (ci := 5) (v := .int (nI sP)) (C := RX5) (T := TX5) (N := 18) hx hb hts inwX5_readsNumber_X5 hown hK hP 0 rfl rfl 10 (by decide) fl146 (fun _ h9 => h9) rfl dX5_readsNumber_30 ?_
    refine lv_iconst (v := nI 1) hx hb dX5_readsNumber_33 (by decide) ?_
    refine lv_iadd hx hb dX5_readsNumber_34 ?_
    refine kb_top (nI (sP + 1)) (nI_add sP 1) ?_
    refine va_put (D := D) (ci := 5) (v := .int (nI (sP + 1))) (ty := .int) (C := RX5) (T := TX5) (N := 18) hx hb hts inwX5_readsNumber_X5 tyX5 tyX5_ok nmX5 hown hK hP hD hS 0 rfl rfl 10 (by decide) fl146 (fun _ h9 => h9) rfl (by decide +kernel) rfl rfl (Nat.le_of_ble_eq_true rfl) dX5_readsNumber_35 (fun H locs hP hD hS => ?_)
    have hP : va_P D vwCl [((b 0), .inr (5, [.ref (b 1), .ref (b 2), .ref (b 3), .ref (b 4), .int (nI hL), .ref (b 5), .int (iK), .ref (b 6), .ref (b 7), .int (nI tL), .int (nI (sP + 1)), .int (nU), .int (iS), .int (sN), .int (sR), .int (lE), .int (fI), .int (sC)])), ((b 7), .inl (cI, 60, .inl t))] H := hP
    have hD : va_D A [((b 0), .inr (5, [.ref (b 1), .ref (b 2), .ref (b 3), .ref (b 4), .int (nI hL), .ref (b 5), .int (iK), .ref (b 6), .ref (b 7), .int (nI tL), .int (nI (sP + 1)), .int (nU), .int (iS), .int (sN), .int (sR), .int (lE), .int (fI), .int (sC)])), ((b 7), .inl (cI, 60, .inl t))] := hD
    have L_38 : ∀ (z : Nat) (w : Nat) (q : Nat), (q ≤ tL) → (w ≤ 9999) → (nL tx tL hi (tL - (sP + 1)) (tx sP - 48) (sP + 1) = nL tx tL hi (tL - q) w q) → (tL - q) < z → ∀ (H : Heap) (locs : List Loc), va_P D vwCl [((b 0), .inr (5, [.ref (b 1), .ref (b 2), .ref (b 3), .ref (b 4), .int (nI hL), .ref (b 5), .int (iK), .ref (b 6), .ref (b 7), .int (nI tL), .int (nI q), .int (nU), .int (iS), .int (sN), .int (sR), .int (lE), .int (fI), .int (sC)])), ((b 7), .inl (cI, 60, .inl t))] H → va_D A [((b 0), .inr (5, [.ref (b 1), .ref (b 2), .ref (b 3), .ref (b 4), .int (nI hL), .ref (b 5), .int (iK), .ref (b 6), .ref (b 7), .int (nI tL), .int (nI q), .int (nU), .int (iS), .int (sN), .int (sR), .int (lE), .int (fI), .int (sC)])), ((b 7), .inl (cI, 60, .inl t))] → va_S A s.heap H locs → ∀ ls : Array Slot, lv_has ls 4 [(3, .int (nI w)), (0, .ref (b 0)), (1, .int (nI lo)), (2, .int (nI hi))] → W p l e rmX5_readsNumber s mm args below meth c H locs 0 0 Q (F0 mm 38 ls []) := by
      intro z
      induction z with
      | zero =>
        intro w q _ _ _ hz
        exact absurd hz (Nat.not_lt_zero _)
      | succ z ih_38 =>
        intro w q hq hw9 he hz H locs hP hD hS ls hl
        refine lv_iload_n hx hb dX5_readsNumber_38 rfl (lv_at hl 0 rfl) ?_
        refine kb_nif_le (tgt := 105) hx hb dX5_readsNumber_39 (by decide) (by omega) (fun c39 => ?_) (fun c39 => ?_)
        · refine lv_aload_n hx hb dX5_readsNumber_105 rfl (lv_at hl 1 rfl) ?_
          refine lv_iload_n hx hb dX5_readsNumber_106 rfl (lv_at hl 0 rfl) ?_
          refine va_put (D := D) (ci := 5) (v := .int (nI w)) (ty := .int) (C := RX5) (T := TX5) (N := 18) hx hb hts inwX5_readsNumber_X5 tyX5 tyX5_ok nmX5 hown hK hP hD hS 0 rfl rfl 11 (by decide) fl152 (fun _ h9 => h9) rfl (by decide +kernel) rfl rfl (Nat.le_of_ble_eq_true rfl) dX5_readsNumber_107 (fun H locs hP hD hS => ?_)
          have hP : va_P D vwCl [((b 0), .inr (5, [.ref (b 1), .ref (b 2), .ref (b 3), .ref (b 4), .int (nI hL), .ref (b 5), .int (iK), .ref (b 6), .ref (b 7), .int (nI tL), .int (nI q), .int (nI w), .int (iS), .int (sN), .int (sR), .int (lE), .int (fI), .int (sC)])), ((b 7), .inl (cI, 60, .inl t))] H := hP
          have hD : va_D A [((b 0), .inr (5, [.ref (b 1), .ref (b 2), .ref (b 3), .ref (b 4), .int (nI hL), .ref (b 5), .int (iK), .ref (b 6), .ref (b 7), .int (nI tL), .int (nI q), .int (nI w), .int (iS), .int (sN), .int (sR), .int (lE), .int (fI), .int (sC)])), ((b 7), .inl (cI, 60, .inl t))] := hD
          refine lv_iconst (v := nI 1) hx hb dX5_readsNumber_110 (by decide) ?_
          exact kb_zret (D := D) hQ hx hb hr hlocks hK hP hD hS dX5_readsNumber_111 rfl (q, nI w) rfl (Nat.le_refl _) (Nat.le_refl _) (show (nI 1) = kb_b (pN tx tL lo hi sP).1 ∧ q = (pN tx tL lo hi sP).2.1 ∧ ((pN tx tL lo hi sP).1 = true → (nI w) = nI (pN tx tL lo hi sP).2.2) from (rN_f hpn he (by first | exact rN_e1 (by omega) | exact rN_e2 c50 | exact rN_e3 c50 (by omega))))
        · refine lv_aload_n hx hb dX5_readsNumber_42 rfl (lv_at hl 1 rfl) ?_
          refine lv_bipush (v := nI 48) hx hb dX5_readsNumber_43 (by decide) ?_
          refine lv_bipush (v := nI 57) hx hb dX5_readsNumber_45 (by decide) ?_
          refine kb_vR (As := [.int (nI 48), .int (nI 57)]) (rest := []) hx hb hml hts hown hN hK hP hD hS hA (c_X5_isHere l D cI b hL iK tL q nU iS sN sR lE fI sC t (by first | assumption | omega) htx 48 57 (by omega) (by decide) (by omega)) gX5_readsNumber_X5_isHere rfl ⟨rfl, rfl⟩ hdX5_isHere ⟨Nat.le_of_ble_eq_true rfl, Nat.le_of_ble_eq_true rfl⟩ [0, 1] [0] rfl rfl rfl (ci := 5) rfl rfl rfl rfl rfl hl.1 (Nat.le_of_ble_eq_true rfl) dX5_readsNumber_47 ⟨Nat.zero_le _, Nat.zero_le _⟩ (fun H locs hP hS => ?_)
          refine kb_bif_eq (tgt := 105) hx hb dX5_readsNumber_50 (by decide) (fun c50 => ?_) (fun c50 => ?_)
          · refine lv_aload_n hx hb dX5_readsNumber_105 rfl (lv_at hl 1 rfl) ?_
            refine lv_iload_n hx hb dX5_readsNumber_106 rfl (lv_at hl 0 rfl) ?_
            refine va_put (D := D) (ci := 5) (v := .int (nI w)) (ty := .int) (C := RX5) (T := TX5) (N := 18) hx hb hts inwX5_readsNumber_X5 tyX5 tyX5_ok nmX5 hown hK hP hD hS 0 rfl rfl 11 (by decide) fl152 (fun _ h9 => h9) rfl (by decide +kernel) rfl rfl (Nat.le_of_ble_eq_true rfl) dX5_readsNumber_107 (fun H locs hP hD hS => ?_)
            have hP : va_P D vwCl [((b 0), .inr (5, [.ref (b 1), .ref (b 2), .ref (b 3), .ref (b 4), .int (nI hL), .ref (b 5), .int (iK), .ref (b 6), .ref (b 7), .int (nI tL), .int (nI q), .int (nI w), .int (iS), .int (sN), .int (sR), .int (lE), .int (fI), .int (sC)])), ((b 7), .inl (cI, 60, .inl t))] H := hP
            have hD : va_D A [((b 0), .inr (5, [.ref (b 1), .ref (b 2), .ref (b 3), .ref (b 4), .int (nI hL), .ref (b 5), .int (iK), .ref (b 6), .ref (b 7), .int (nI tL), .int (nI q), .int (nI w), .int (iS), .int (sN), .int (sR), .int (lE), .int (fI), .int (sC)])), ((b 7), .inl (cI, 60, .inl t))] := hD
            refine lv_iconst (v := nI 1) hx hb dX5_readsNumber_110 (by decide) ?_
            exact kb_zret (D := D) hQ hx hb hr hlocks hK hP hD hS dX5_readsNumber_111 rfl (q, nI w) rfl (Nat.le_refl _) (Nat.le_refl _) (show (nI 1) = kb_b (pN tx tL lo hi sP).1 ∧ q = (pN tx tL lo hi sP).2.1 ∧ ((pN tx tL lo hi sP).1 = true → (nI w) = nI (pN tx tL lo hi sP).2.2) from (rN_f hpn he (by first | exact rN_e1 (by omega) | exact rN_e2 c50 | exact rN_e3 c50 (by omega))))
          · obtain ⟨hq1, hq2, hq3⟩ := rN_h c50
            refine lv_bipush (v := nI 10) hx hb dX5_readsNumber_53 (by decide) ?_
            refine lv_iload_n hx hb dX5_readsNumber_55 rfl (lv_at hl 0 rfl) ?_
            refine lv_imul hx hb dX5_readsNumber_56 ?_
            refine kb_top (nI (10 * w)) (pk_mul 10 w) ?_
            refine lv_aload_n hx hb dX5_readsNumber_57 rfl (lv_at hl 1 rfl) ?_
            refine va_get (D := D) (ci := 5) (v := .ref (b 7)) (C := RX5) (T := TX5) (N := 18) hx hb hts inwX5_readsNumber_X5 hown hK hP 0 rfl rfl 8 (by decide) fl28 (fun _ h9 => h9) rfl dX5_readsNumber_58 ?_
            refine lv_aload_n hx hb dX5_readsNumber_61 rfl (lv_at hl 1 rfl) ?_
            refine va_get (D := D) (ci := 5) (v := .int (nI q)) (C := RX5) (T := TX5) (N := 18) hx hb hts inwX5_readsNumber_X5 hown hK hP 0 rfl rfl 10 (by decide) fl146 (fun _ h9 => h9) rfl dX5_readsNumber_62 ?_
            refine kb_iald hx hb hK hP 1 0 rfl rfl (by decide) (by omega) dX5_readsNumber_65 ?_
            refine kb_top (nI (tx q)) (htx.2 q hq1).1 ?_
            refine lv_iadd hx hb dX5_readsNumber_66 ?_
            refine kb_top (nI (10 * w + (tx q))) (nI_add (10 * w) (tx q)) ?_
            refine lv_bipush (v := nI 48) hx hb dX5_readsNumber_67 (by decide) ?_
            refine lv_isub hx hb dX5_readsNumber_69 ?_
            refine kb_top (nI ((10 * w + (tx q)) - 48)) (pk_sub (by omega)) ?_
            refine lv_iload_n hx hb dX5_readsNumber_70 rfl (lv_at hl 3 rfl) ?_
            refine kb_icmp_gt (tgt := 105) hx hb dX5_readsNumber_71 (by decide) (by omega) (by omega) (fun c71 => ?_) (fun c71 => ?_)
            · refine lv_aload_n hx hb dX5_readsNumber_105 rfl (lv_at hl 1 rfl) ?_
              refine lv_iload_n hx hb dX5_readsNumber_106 rfl (lv_at hl 0 rfl) ?_
              refine va_put (D := D) (ci := 5) (v := .int (nI w)) (ty := .int) (C := RX5) (T := TX5) (N := 18) hx hb hts inwX5_readsNumber_X5 tyX5 tyX5_ok nmX5 hown hK hP hD hS 0 rfl rfl 11 (by decide) fl152 (fun _ h9 => h9) rfl (by decide +kernel) rfl rfl (Nat.le_of_ble_eq_true rfl) dX5_readsNumber_107 (fun H locs hP hD hS => ?_)
              have hP : va_P D vwCl [((b 0), .inr (5, [.ref (b 1), .ref (b 2), .ref (b 3), .ref (b 4), .int (nI hL), .ref (b 5), .int (iK), .ref (b 6), .ref (b 7), .int (nI tL), .int (nI q), .int (nI w), .int (iS), .int (sN), .int (sR), .int (lE), .int (fI), .int (sC)])), ((b 7), .inl (cI, 60, .inl t))] H := hP
              have hD : va_D A [((b 0), .inr (5, [.ref (b 1), .ref (b 2), .ref (b 3), .ref (b 4), .int (nI hL), .ref (b 5), .int (iK), .ref (b 6), .ref (b 7), .int (nI tL), .int (nI q), .int (nI w), .int (iS), .int (sN), .int (sR), .int (lE), .int (fI), .int (sC)])), ((b 7), .inl (cI, 60, .inl t))] := hD
              refine lv_iconst (v := nI 1) hx hb dX5_readsNumber_110 (by decide) ?_
              exact kb_zret (D := D) hQ hx hb hr hlocks hK hP hD hS dX5_readsNumber_111 rfl (q, nI w) rfl (Nat.le_refl _) (Nat.le_refl _) (show (nI 1) = kb_b (pN tx tL lo hi sP).1 ∧ q = (pN tx tL lo hi sP).2.1 ∧ ((pN tx tL lo hi sP).1 = true → (nI w) = nI (pN tx tL lo hi sP).2.2) from (rN_f hpn he (by first | exact rN_e1 (by omega) | exact rN_e2 c50 | exact rN_e3 c50 (by omega))))
            · refine lv_bipush (v := nI 10) hx hb dX5_readsNumber_74 (by decide) ?_
              refine lv_iload_n hx hb dX5_readsNumber_76 rfl (lv_at hl 0 rfl) ?_
              refine lv_imul hx hb dX5_readsNumber_77 ?_
              refine kb_top (nI (10 * w)) (pk_mul 10 w) ?_
              refine lv_aload_n hx hb dX5_readsNumber_78 rfl (lv_at hl 1 rfl) ?_
              refine va_get (D := D) (ci := 5) (v := .ref (b 7)) (C := RX5) (T := TX5) (N := 18) hx hb hts inwX5_readsNumber_X5 hown hK hP 0 rfl rfl 8 (by decide) fl28 (fun _ h9 => h9) rfl dX5_readsNumber_79 ?_
              refine lv_aload_n hx hb dX5_readsNumber_82 rfl (lv_at hl 1 rfl) ?_
              refine va_get (D := D) (ci := 5) (v := .int (nI q)) (C := RX5) (T := TX5) (N := 18) hx hb hts inwX5_readsNumber_X5 hown hK hP 0 rfl rfl 10 (by decide) fl146 (fun _ h9 => h9) rfl dX5_readsNumber_83 ?_
              refine kb_iald hx hb hK hP 1 0 rfl rfl (by decide) (by omega) dX5_readsNumber_86 ?_
              refine kb_top (nI (tx q)) (htx.2 q hq1).1 ?_
              refine lv_iadd hx hb dX5_readsNumber_87 ?_
              refine kb_top (nI (10 * w + (tx q))) (nI_add (10 * w) (tx q)) ?_
              refine lv_bipush (v := nI 48) hx hb dX5_readsNumber_88 (by decide) ?_
              refine lv_isub hx hb dX5_readsNumber_90 ?_
              refine kb_top (nI ((10 * w + (tx q)) - 48)) (pk_sub (by omega)) ?_
              refine lv_istore_n (lv' := [(3, .int (nI ((10 * w + (tx q)) - 48))), (0, .ref (b 0)), (1, .int (nI lo)), (2, .int (nI hi))]) hx hb dX5_readsNumber_91 rfl hl (by decide) rfl (fun ls hl => ?_)
              refine lv_aload_n hx hb dX5_readsNumber_92 rfl (lv_at hl 1 rfl) ?_
              refine lv_dup hx hb dX5_readsNumber_93 rfl ?_
              refine va_get (D := D) (ci := 5) (v := .int (nI q)) (C := RX5) (T := TX5) (N := 18) hx hb hts inwX5_readsNumber_X5 hown hK hP 0 rfl rfl 10 (by decide) fl146 (fun _ h9 => h9) rfl dX5_readsNumber_94 ?_
              refine lv_iconst (v := nI 1) hx hb dX5_readsNumber_97 (by decide) ?_
              refine lv_iadd hx hb dX5_readsNumber_98 ?_
              refine kb_top (nI (q + 1)) (nI_add q 1) ?_
              refine va_put (D := D) (ci := 5) (v := .int (nI (q + 1))) (ty := .int) (C := RX5) (T := TX5) (N := 18) hx hb hts inwX5_readsNumber_X5 tyX5 tyX5_ok nmX5 hown hK hP hD hS 0 rfl rfl 10 (by decide) fl146 (fun _ h9 => h9) rfl (by decide +kernel) rfl rfl (Nat.le_of_ble_eq_true rfl) dX5_readsNumber_99 (fun H locs hP hD hS => ?_)
              have hP : va_P D vwCl [((b 0), .inr (5, [.ref (b 1), .ref (b 2), .ref (b 3), .ref (b 4), .int (nI hL), .ref (b 5), .int (iK), .ref (b 6), .ref (b 7), .int (nI tL), .int (nI (q + 1)), .int (nU), .int (iS), .int (sN), .int (sR), .int (lE), .int (fI), .int (sC)])), ((b 7), .inl (cI, 60, .inl t))] H := hP
              have hD : va_D A [((b 0), .inr (5, [.ref (b 1), .ref (b 2), .ref (b 3), .ref (b 4), .int (nI hL), .ref (b 5), .int (iK), .ref (b 6), .ref (b 7), .int (nI tL), .int (nI (q + 1)), .int (nU), .int (iS), .int (sN), .int (sR), .int (lE), .int (fI), .int (sC)])), ((b 7), .inl (cI, 60, .inl t))] := hD
              refine lv_goto (tgt := 38) hx hb dX5_readsNumber_102 (by decide) ?_
              exact ih_38 ((10 * w + (tx q)) - 48) (q + 1) (by omega) (by omega) (he.trans (rN_s (by omega) c50 (by omega))) (by omega) _ _ hP hD hS _ (lv_sub hl [0, 1, 2, 3] rfl)
    exact L_38 ((tL - (sP + 1)) + 1) ((tx sP) - 48) (sP + 1) (by omega) (by omega) rfl (Nat.lt_succ_self _) _ _ hP hD hS _ (lv_sub hl [0, 1, 2, 3] rfl)
  · refine lv_iconst (v := nI 0) hx hb dX5_readsNumber_13 (by decide) ?_
    exact kb_zret (D := D) hQ hx hb hr hlocks hK hP hD hS dX5_readsNumber_14 rfl (sP, nU) rfl (Nat.le_refl _) (Nat.le_refl _) (show (nI 0) = kb_b (pN tx tL lo hi sP).1 ∧ sP = (pN tx tL lo hi sP).2.1 ∧ ((pN tx tL lo hi sP).1 = true → nU = nI (pN tx tL lo hi sP).2.2) from (rN_n (rN_1 c10)))
abbrev rmX5_readsKing : Room := { frames := 3, cells := 0, slots := 0, locals := 70 }
theorem hdX5_readsKing : yX5_readsKing.cls = RX5 ∧ yX5_readsKing.cls ≠ "java/lang/invoke/MethodHandle" ∧ yX5_readsKing.cls ≠ "java/lang/invoke/VarHandle" ∧ (parseMethodDescriptor yX5_readsKing.desc).map (fun d => d.parameters.length) = some 0 := by decide +kernel
theorem inwX5_readsKing_X5 : ∀ w ∈ wsX50, w ∈ wsX5_readsKing := fun w h => List.mem_cons_of_mem _ (List.mem_append_right _ h)
set_option maxHeartbeats 4000000 in
set_option maxRecDepth 100000 in
theorem c_X5_readsKing (l : Launch) (D : va_G) (cI : ClassId) (b : Nat → Nat) (hL : Nat) (iK : Int32) (tL : Nat) (sP : Nat) (nU : Int32) (iS : Int32) (sN : Int32) (sR : Int32) (lE : Int32) (fI : Int32) (sC : Int32) (t : Nat → Int32) (tx : Nat → Nat) (htx : tOk t tx tL) (hsp : sP ≤ tL) : kb_I (S := Nat × Int32 × Int32 × Int32) D [(cI, .int)] l yX5_readsKing wsX5_readsKing rmX5_readsKing [.ref (b 0)] [((b 0), .inr (5, [.ref (b 1), .ref (b 2), .ref (b 3), .ref (b 4), .int (nI hL), .ref (b 5), .int (iK), .ref (b 6), .ref (b 7), .int (nI tL), .int (nI sP), .int (nU), .int (iS), .int (sN), .int (sR), .int (lE), .int (fI), .int (sC)])), ((b 7), .inl (cI, 60, .inl t))] (fun (r : Int32) (u : Nat × Int32 × Int32 × Int32) => r = kb_b (pK tx tL sP).1 ∧ u.1 = (pK tx tL sP).2.1 ∧ ((pK tx tL sP).1 = true → u.2.2.1 = nI (pK tx tL sP).2.2.1 ∧ u.2.2.2 = nI (pK tx tL sP).2.2.2.1 ∧ u.2.1 = nI (pK tx tL sP).2.2.2.2)) (fun (u : Nat × Int32 × Int32 × Int32) => [((b 0), .inr (5, [.ref (b 1), .ref (b 2), .ref (b 3), .ref (b 4), .int (nI hL), .ref (b 5), .int (iK), .ref (b 6), .ref (b 7), .int (nI tL), .int (nI u.1), .int (u.2.1), .int (iS), .int (sN), .int (sR), .int (lE), .int (u.2.2.1), .int (u.2.2.2)])), ((b 7), .inl (cI, 60, .inl t))]) 0 0 := by
  refine kb_I_of (cc := cX5_readsKing) (maxL := 2) (ret := (some .boolean)) (by decide) rfl (Nat.le_of_ble_eq_true rfl) ?_
  intro p e s mm args below meth c A hx hb hml hr hts hown hlocks hnm hA hN hK hP hD hS ls hl Q hQ
  have hl : lv_has ls 2 [(0, .ref (b 0))] := hl
  have hP : va_P D vwCl [((b 0), .inr (5, [.ref (b 1), .ref (b 2), .ref (b 3), .ref (b 4), .int (nI hL), .ref (b 5), .int (iK), .ref (b 6), .ref (b 7), .int (nI tL), .int (nI sP), .int (nU), .int (iS), .int (sN), .int (sR), .int (lE), .int (fI), .int (sC)])), ((b 7), .inl (cI, 60, .inl t))] s.heap := hP
  have hD : va_D A [((b 0), .inr (5, [.ref (b 1), .ref (b 2), .ref (b 3), .ref (b 4), .int (nI hL), .ref (b 5), .int (iK), .ref (b 6), .ref (b 7), .int (nI tL), .int (nI sP), .int (nU), .int (iS), .int (sN), .int (sR), .int (lE), .int (fI), .int (sC)])), ((b 7), .inl (cI, 60, .inl t))] := hD
  have fl152 := hts (.fieldLink RX5 152 "KingsBanquetModel" "number" "I") (by decide +kernel)
  have fl158 := hts (.fieldLink RX5 158 "KingsBanquetModel" "first" "I") (by decide +kernel)
  have fl164 := hts (.fieldLink RX5 164 "KingsBanquetModel" "second" "I") (by decide +kernel)
  have hn := htx.1
  refine lv_aload_n hx hb dX5_readsKing_0 rfl (lv_at hl 0 rfl) ?_
  refine lv_iconst (v := nI 1) hx hb dX5_readsKing_1 (by decide) ?_
  refine lv_bipush (v := nI 9) hx hb dX5_readsKing_2 (by decide) ?_
  refine kb_vI (As := [.int (nI 1), .int (nI 9)]) (rest := []) hx hb hml hts hown hN hK hP hD hS hA (c_X5_readsNumber l D cI b hL iK tL sP nU iS sN sR lE fI sC t (by first | assumption | omega) htx 1 9 (by decide) (by decide) hsp) gX5_readsKing_X5_readsNumber rfl ⟨rfl, rfl⟩ hdX5_readsNumber ⟨Nat.le_of_ble_eq_true rfl, Nat.le_of_ble_eq_true rfl⟩ [0, 1] [0] rfl rfl rfl (ci := 5) rfl rfl rfl (fun _ => rfl) rfl rfl hl.1 (Nat.le_of_ble_eq_true rfl) dX5_readsKing_4 ⟨Nat.zero_le _, Nat.zero_le _⟩ (fun r_4 u H locs hw_4 hP hD hS => ?_)
  obtain ⟨so_4, nuo_4⟩ := u
  have hw_4 : r_4 = kb_b (pN tx tL 1 9 sP).1 ∧ so_4 = (pN tx tL 1 9 sP).2.1 ∧ ((pN tx tL 1 9 sP).1 = true → nuo_4 = nI (pN tx tL 1 9 sP).2.2) := hw_4
  have hP : va_P D vwCl [((b 0), .inr (5, [.ref (b 1), .ref (b 2), .ref (b 3), .ref (b 4), .int (nI hL), .ref (b 5), .int (iK), .ref (b 6), .ref (b 7), .int (nI tL), .int (nI so_4), .int (nuo_4), .int (iS), .int (sN), .int (sR), .int (lE), .int (fI), .int (sC)])), ((b 7), .inl (cI, 60, .inl t))] H := hP
  have hD : va_D A [((b 0), .inr (5, [.ref (b 1), .ref (b 2), .ref (b 3), .ref (b 4), .int (nI hL), .ref (b 5), .int (iK), .ref (b 6), .ref (b 7), .int (nI tL), .int (nI so_4), .int (nuo_4), .int (iS), .int (sN), .int (sR), .int (lE), .int (fI), .int (sC)])), ((b 7), .inl (cI, 60, .inl t))] := hD
  obtain ⟨hr_4, hp_4, hq_4⟩ := hw_4
  subst hr_4
  subst hp_4
  refine lv_istore_n (lv' := [(1, .int (kb_b ((pN tx tL 1 9 sP).1))), (0, .ref (b 0))]) hx hb dX5_readsKing_7 rfl hl (by decide) rfl (fun ls hl => ?_)
  refine lv_aload_n hx hb dX5_readsKing_8 rfl (lv_at hl 1 rfl) ?_
  refine lv_aload_n hx hb dX5_readsKing_9 rfl (lv_at hl 1 rfl) ?_
  refine va_get (D := D) (ci := 5) (v := .int (nuo_4)) (C := RX5) (T := TX5) (N := 18) hx hb hts inwX5_readsKing_X5 hown hK hP 0 rfl rfl 11 (by decide) fl152 (fun _ h9 => h9) rfl dX5_readsKing_10 ?_
  refine va_put (D := D) (ci := 5) (v := .int (nuo_4)) (ty := .int) (C := RX5) (T := TX5) (N := 18) hx hb hts inwX5_readsKing_X5 tyX5 tyX5_ok nmX5 hown hK hP hD hS 0 rfl rfl 16 (by decide) fl158 (fun _ h9 => h9) rfl (by decide +kernel) rfl rfl (Nat.le_of_ble_eq_true rfl) dX5_readsKing_13 (fun H locs hP hD hS => ?_)
  have hP : va_P D vwCl [((b 0), .inr (5, [.ref (b 1), .ref (b 2), .ref (b 3), .ref (b 4), .int (nI hL), .ref (b 5), .int (iK), .ref (b 6), .ref (b 7), .int (nI tL), .int (nI ((pN tx tL 1 9 sP).2.1)), .int (nuo_4), .int (iS), .int (sN), .int (sR), .int (lE), .int (nuo_4), .int (sC)])), ((b 7), .inl (cI, 60, .inl t))] H := hP
  have hD : va_D A [((b 0), .inr (5, [.ref (b 1), .ref (b 2), .ref (b 3), .ref (b 4), .int (nI hL), .ref (b 5), .int (iK), .ref (b 6), .ref (b 7), .int (nI tL), .int (nI ((pN tx tL 1 9 sP).2.1)), .int (nuo_4), .int (iS), .int (sN), .int (sR), .int (lE), .int (nuo_4), .int (sC)])), ((b 7), .inl (cI, 60, .inl t))] := hD
  refine lv_iload_n hx hb dX5_readsKing_16 rfl (lv_at hl 0 rfl) ?_
  refine kb_bif_eq (tgt := 43) hx hb dX5_readsKing_17 (by decide) (fun c17 => ?_) (fun c17 => ?_)
  · refine lv_iconst (v := nI 0) hx hb dX5_readsKing_43 (by decide) ?_
    refine lv_istore_n (lv' := [(1, .int (nI 0)), (0, .ref (b 0))]) hx hb dX5_readsKing_44 rfl hl (by decide) rfl (fun ls hl => ?_)
    refine lv_aload_n hx hb dX5_readsKing_45 rfl (lv_at hl 1 rfl) ?_
    refine lv_aload_n hx hb dX5_readsKing_46 rfl (lv_at hl 1 rfl) ?_
    refine va_get (D := D) (ci := 5) (v := .int (nuo_4)) (C := RX5) (T := TX5) (N := 18) hx hb hts inwX5_readsKing_X5 hown hK hP 0 rfl rfl 11 (by decide) fl152 (fun _ h9 => h9) rfl dX5_readsKing_47 ?_
    refine va_put (D := D) (ci := 5) (v := .int (nuo_4)) (ty := .int) (C := RX5) (T := TX5) (N := 18) hx hb hts inwX5_readsKing_X5 tyX5 tyX5_ok nmX5 hown hK hP hD hS 0 rfl rfl 17 (by decide) fl164 (fun _ h9 => h9) rfl (by decide +kernel) rfl rfl (Nat.le_of_ble_eq_true rfl) dX5_readsKing_50 (fun H locs hP hD hS => ?_)
    have hP : va_P D vwCl [((b 0), .inr (5, [.ref (b 1), .ref (b 2), .ref (b 3), .ref (b 4), .int (nI hL), .ref (b 5), .int (iK), .ref (b 6), .ref (b 7), .int (nI tL), .int (nI ((pN tx tL 1 9 sP).2.1)), .int (nuo_4), .int (iS), .int (sN), .int (sR), .int (lE), .int (nuo_4), .int (nuo_4)])), ((b 7), .inl (cI, 60, .inl t))] H := hP
    have hD : va_D A [((b 0), .inr (5, [.ref (b 1), .ref (b 2), .ref (b 3), .ref (b 4), .int (nI hL), .ref (b 5), .int (iK), .ref (b 6), .ref (b 7), .int (nI tL), .int (nI ((pN tx tL 1 9 sP).2.1)), .int (nuo_4), .int (iS), .int (sN), .int (sR), .int (lE), .int (nuo_4), .int (nuo_4)])), ((b 7), .inl (cI, 60, .inl t))] := hD
    refine lv_iload_n hx hb dX5_readsKing_53 rfl (lv_at hl 0 rfl) ?_
    refine kb_nif_eq (tgt := 81) hx hb dX5_readsKing_54 (by decide) (by decide) (fun _ => ?_) (fun c => absurd c (by decide))
    refine lv_iconst (v := nI 0) hx hb dX5_readsKing_81 (by decide) ?_
    exact kb_zret (D := D) hQ hx hb hr hlocks hK hP hD hS dX5_readsKing_82 rfl ((pN tx tL 1 9 sP).2.1, nuo_4, nuo_4, nuo_4) rfl (Nat.le_refl _) (Nat.le_refl _) (show (nI 0) = kb_b (pK tx tL sP).1 ∧ ((pN tx tL 1 9 sP).2.1) = (pK tx tL sP).2.1 ∧ ((pK tx tL sP).1 = true → nuo_4 = nI (pK tx tL sP).2.2.1 ∧ nuo_4 = nI (pK tx tL sP).2.2.2.1 ∧ nuo_4 = nI (pK tx tL sP).2.2.2.2) from ⟨by rw [pK_1 (by rw [c17]; decide)]; rfl, by rw [pK_1 (by rw [c17]; decide)], fun q => by rw [pK_1 (by rw [c17]; decide)] at q; cases q⟩)
  · refine lv_aload_n hx hb dX5_readsKing_20 rfl (lv_at hl 1 rfl) ?_
    refine lv_bipush (v := nI 46) hx hb dX5_readsKing_21 (by decide) ?_
    refine kb_vI (As := [.int (nI 46)]) (rest := []) hx hb hml hts hown hN hK hP hD hS hA (c_X5_takesOne l D cI b hL iK tL ((pN tx tL 1 9 sP).2.1) nuo_4 iS sN sR lE nuo_4 sC t (by first | assumption | omega) htx 46 (by decide) (by have := pN_p (tx := tx) (n := tL) (lo := 1) (hi := 9) (i := sP) (by decide) hsp; omega)) gX5_readsKing_X5_takesOne rfl ⟨rfl, rfl⟩ hdX5_takesOne ⟨Nat.le_of_ble_eq_true rfl, Nat.le_of_ble_eq_true rfl⟩ [0, 1] [0] rfl rfl rfl (ci := 5) rfl rfl rfl (fun _ => rfl) rfl rfl hl.1 (Nat.le_of_ble_eq_true rfl) dX5_readsKing_23 ⟨Nat.zero_le _, Nat.zero_le _⟩ (fun r_23 u H locs hw_23 hP hD hS => ?_)
    obtain ⟨so_23, rfl⟩ : ∃ z, z = u := ⟨_, rfl⟩
    have hw_23 : r_23 = kb_b (decide (cd tx tL ((pN tx tL 1 9 sP).2.1) = 46)) ∧ so_23 = if cd tx tL ((pN tx tL 1 9 sP).2.1) = 46 then ((pN tx tL 1 9 sP).2.1) + 1 else ((pN tx tL 1 9 sP).2.1) := hw_23
    have hP : va_P D vwCl [((b 0), .inr (5, [.ref (b 1), .ref (b 2), .ref (b 3), .ref (b 4), .int (nI hL), .ref (b 5), .int (iK), .ref (b 6), .ref (b 7), .int (nI tL), .int (nI so_23), .int (nuo_4), .int (iS), .int (sN), .int (sR), .int (lE), .int (nuo_4), .int (sC)])), ((b 7), .inl (cI, 60, .inl t))] H := hP
    have hD : va_D A [((b 0), .inr (5, [.ref (b 1), .ref (b 2), .ref (b 3), .ref (b 4), .int (nI hL), .ref (b 5), .int (iK), .ref (b 6), .ref (b 7), .int (nI tL), .int (nI so_23), .int (nuo_4), .int (iS), .int (sN), .int (sR), .int (lE), .int (nuo_4), .int (sC)])), ((b 7), .inl (cI, 60, .inl t))] := hD
    obtain ⟨hr_23, hp_23⟩ := hw_23
    subst hr_23
    subst hp_23
    refine kb_bif_eq (tgt := 43) hx hb dX5_readsKing_26 (by decide) (fun c26 => ?_) (fun c26 => ?_)
    · have hs_23 : ¬ cd tx tL ((pN tx tL 1 9 sP).2.1) = 46 := of_decide_eq_false c26
      rw [if_neg hs_23] at hP hD
      have hP : va_P D vwCl [((b 0), .inr (5, [.ref (b 1), .ref (b 2), .ref (b 3), .ref (b 4), .int (nI hL), .ref (b 5), .int (iK), .ref (b 6), .ref (b 7), .int (nI tL), .int (nI ((pN tx tL 1 9 sP).2.1)), .int (nuo_4), .int (iS), .int (sN), .int (sR), .int (lE), .int (nuo_4), .int (sC)])), ((b 7), .inl (cI, 60, .inl t))] H := hP
      have hD : va_D A [((b 0), .inr (5, [.ref (b 1), .ref (b 2), .ref (b 3), .ref (b 4), .int (nI hL), .ref (b 5), .int (iK), .ref (b 6), .ref (b 7), .int (nI tL), .int (nI ((pN tx tL 1 9 sP).2.1)), .int (nuo_4), .int (iS), .int (sN), .int (sR), .int (lE), .int (nuo_4), .int (sC)])), ((b 7), .inl (cI, 60, .inl t))] := hD
      refine lv_iconst (v := nI 0) hx hb dX5_readsKing_43 (by decide) ?_
      refine lv_istore_n (lv' := [(1, .int (nI 0)), (0, .ref (b 0))]) hx hb dX5_readsKing_44 rfl hl (by decide) rfl (fun ls hl => ?_)
      refine lv_aload_n hx hb dX5_readsKing_45 rfl (lv_at hl 1 rfl) ?_
      refine lv_aload_n hx hb dX5_readsKing_46 rfl (lv_at hl 1 rfl) ?_
      refine va_get (D := D) (ci := 5) (v := .int (nuo_4)) (C := RX5) (T := TX5) (N := 18) hx hb hts inwX5_readsKing_X5 hown hK hP 0 rfl rfl 11 (by decide) fl152 (fun _ h9 => h9) rfl dX5_readsKing_47 ?_
      refine va_put (D := D) (ci := 5) (v := .int (nuo_4)) (ty := .int) (C := RX5) (T := TX5) (N := 18) hx hb hts inwX5_readsKing_X5 tyX5 tyX5_ok nmX5 hown hK hP hD hS 0 rfl rfl 17 (by decide) fl164 (fun _ h9 => h9) rfl (by decide +kernel) rfl rfl (Nat.le_of_ble_eq_true rfl) dX5_readsKing_50 (fun H locs hP hD hS => ?_)
      have hP : va_P D vwCl [((b 0), .inr (5, [.ref (b 1), .ref (b 2), .ref (b 3), .ref (b 4), .int (nI hL), .ref (b 5), .int (iK), .ref (b 6), .ref (b 7), .int (nI tL), .int (nI ((pN tx tL 1 9 sP).2.1)), .int (nuo_4), .int (iS), .int (sN), .int (sR), .int (lE), .int (nuo_4), .int (nuo_4)])), ((b 7), .inl (cI, 60, .inl t))] H := hP
      have hD : va_D A [((b 0), .inr (5, [.ref (b 1), .ref (b 2), .ref (b 3), .ref (b 4), .int (nI hL), .ref (b 5), .int (iK), .ref (b 6), .ref (b 7), .int (nI tL), .int (nI ((pN tx tL 1 9 sP).2.1)), .int (nuo_4), .int (iS), .int (sN), .int (sR), .int (lE), .int (nuo_4), .int (nuo_4)])), ((b 7), .inl (cI, 60, .inl t))] := hD
      refine lv_iload_n hx hb dX5_readsKing_53 rfl (lv_at hl 0 rfl) ?_
      refine kb_nif_eq (tgt := 81) hx hb dX5_readsKing_54 (by decide) (by decide) (fun _ => ?_) (fun c => absurd c (by decide))
      refine lv_iconst (v := nI 0) hx hb dX5_readsKing_81 (by decide) ?_
      exact kb_zret (D := D) hQ hx hb hr hlocks hK hP hD hS dX5_readsKing_82 rfl ((pN tx tL 1 9 sP).2.1, nuo_4, nuo_4, nuo_4) rfl (Nat.le_refl _) (Nat.le_refl _) (show (nI 0) = kb_b (pK tx tL sP).1 ∧ ((pN tx tL 1 9 sP).2.1) = (pK tx tL sP).2.1 ∧ ((pK tx tL sP).1 = true → nuo_4 = nI (pK tx tL sP).2.2.1 ∧ nuo_4 = nI (pK tx tL sP).2.2.2.1 ∧ nuo_4 = nI (pK tx tL sP).2.2.2.2) from ⟨by rw [pK_2 c17 hs_23]; rfl, by rw [pK_2 c17 hs_23], fun q => by rw [pK_2 c17 hs_23] at q; cases q⟩)
    · have hs_23 : cd tx tL ((pN tx tL 1 9 sP).2.1) = 46 := of_decide_eq_true c26
      have hlt_23 := cd_lt hs_23 (by decide)
      rw [if_pos hs_23] at hP hD
      have hP : va_P D vwCl [((b 0), .inr (5, [.ref (b 1), .ref (b 2), .ref (b 3), .ref (b 4), .int (nI hL), .ref (b 5), .int (iK), .ref (b 6), .ref (b 7), .int (nI tL), .int (nI (((pN tx tL 1 9 sP).2.1) + 1)), .int (nuo_4), .int (iS), .int (sN), .int (sR), .int (lE), .int (nuo_4), .int (sC)])), ((b 7), .inl (cI, 60, .inl t))] H := hP
      have hD : va_D A [((b 0), .inr (5, [.ref (b 1), .ref (b 2), .ref (b 3), .ref (b 4), .int (nI hL), .ref (b 5), .int (iK), .ref (b 6), .ref (b 7), .int (nI tL), .int (nI (((pN tx tL 1 9 sP).2.1) + 1)), .int (nuo_4), .int (iS), .int (sN), .int (sR), .int (lE), .int (nuo_4), .int (sC)])), ((b 7), .inl (cI, 60, .inl t))] := hD
      refine lv_aload_n hx hb dX5_readsKing_29 rfl (lv_at hl 1 rfl) ?_
      refine lv_iconst (v := nI 0) hx hb dX5_readsKing_30 (by decide) ?_
      refine lv_bipush (v := nI 120) hx hb dX5_readsKing_31 (by decide) ?_
      refine kb_vI (As := [.int (nI 0), .int (nI 120)]) (rest := []) hx hb hml hts hown hN hK hP hD hS hA (c_X5_readsNumber l D cI b hL iK tL (((pN tx tL 1 9 sP).2.1) + 1) nuo_4 iS sN sR lE nuo_4 sC t (by first | assumption | omega) htx 0 120 (by decide) (by decide) (by omega)) gX5_readsKing_X5_readsNumber rfl ⟨rfl, rfl⟩ hdX5_readsNumber ⟨Nat.le_of_ble_eq_true rfl, Nat.le_of_ble_eq_true rfl⟩ [0, 1] [0] rfl rfl rfl (ci := 5) rfl rfl rfl (fun _ => rfl) rfl rfl hl.1 (Nat.le_of_ble_eq_true rfl) dX5_readsKing_33 ⟨Nat.zero_le _, Nat.zero_le _⟩ (fun r_33 u H locs hw_33 hP hD hS => ?_)
      obtain ⟨so_33, nuo_33⟩ := u
      have hw_33 : r_33 = kb_b (pN tx tL 0 120 (((pN tx tL 1 9 sP).2.1) + 1)).1 ∧ so_33 = (pN tx tL 0 120 (((pN tx tL 1 9 sP).2.1) + 1)).2.1 ∧ ((pN tx tL 0 120 (((pN tx tL 1 9 sP).2.1) + 1)).1 = true → nuo_33 = nI (pN tx tL 0 120 (((pN tx tL 1 9 sP).2.1) + 1)).2.2) := hw_33
      have hP : va_P D vwCl [((b 0), .inr (5, [.ref (b 1), .ref (b 2), .ref (b 3), .ref (b 4), .int (nI hL), .ref (b 5), .int (iK), .ref (b 6), .ref (b 7), .int (nI tL), .int (nI so_33), .int (nuo_33), .int (iS), .int (sN), .int (sR), .int (lE), .int (nuo_4), .int (sC)])), ((b 7), .inl (cI, 60, .inl t))] H := hP
      have hD : va_D A [((b 0), .inr (5, [.ref (b 1), .ref (b 2), .ref (b 3), .ref (b 4), .int (nI hL), .ref (b 5), .int (iK), .ref (b 6), .ref (b 7), .int (nI tL), .int (nI so_33), .int (nuo_33), .int (iS), .int (sN), .int (sR), .int (lE), .int (nuo_4), .int (sC)])), ((b 7), .inl (cI, 60, .inl t))] := hD
      obtain ⟨hr_33, hp_33, hq_33⟩ := hw_33
      subst hr_33
      subst hp_33
      refine kb_bif_eq (tgt := 43) hx hb dX5_readsKing_36 (by decide) (fun c36 => ?_) (fun c36 => ?_)
      · refine lv_iconst (v := nI 0) hx hb dX5_readsKing_43 (by decide) ?_
        refine lv_istore_n (lv' := [(1, .int (nI 0)), (0, .ref (b 0))]) hx hb dX5_readsKing_44 rfl hl (by decide) rfl (fun ls hl => ?_)
        refine lv_aload_n hx hb dX5_readsKing_45 rfl (lv_at hl 1 rfl) ?_
        refine lv_aload_n hx hb dX5_readsKing_46 rfl (lv_at hl 1 rfl) ?_
        refine va_get (D := D) (ci := 5) (v := .int (nuo_33)) (C := RX5) (T := TX5) (N := 18) hx hb hts inwX5_readsKing_X5 hown hK hP 0 rfl rfl 11 (by decide) fl152 (fun _ h9 => h9) rfl dX5_readsKing_47 ?_
        refine va_put (D := D) (ci := 5) (v := .int (nuo_33)) (ty := .int) (C := RX5) (T := TX5) (N := 18) hx hb hts inwX5_readsKing_X5 tyX5 tyX5_ok nmX5 hown hK hP hD hS 0 rfl rfl 17 (by decide) fl164 (fun _ h9 => h9) rfl (by decide +kernel) rfl rfl (Nat.le_of_ble_eq_true rfl) dX5_readsKing_50 (fun H locs hP hD hS => ?_)
        have hP : va_P D vwCl [((b 0), .inr (5, [.ref (b 1), .ref (b 2), .ref (b 3), .ref (b 4), .int (nI hL), .ref (b 5), .int (iK), .ref (b 6), .ref (b 7), .int (nI tL), .int (nI ((pN tx tL 0 120 ((pN tx tL 1 9 sP).2.1 + 1)).2.1)), .int (nuo_33), .int (iS), .int (sN), .int (sR), .int (lE), .int (nuo_4), .int (nuo_33)])), ((b 7), .inl (cI, 60, .inl t))] H := hP
        have hD : va_D A [((b 0), .inr (5, [.ref (b 1), .ref (b 2), .ref (b 3), .ref (b 4), .int (nI hL), .ref (b 5), .int (iK), .ref (b 6), .ref (b 7), .int (nI tL), .int (nI ((pN tx tL 0 120 ((pN tx tL 1 9 sP).2.1 + 1)).2.1)), .int (nuo_33), .int (iS), .int (sN), .int (sR), .int (lE), .int (nuo_4), .int (nuo_33)])), ((b 7), .inl (cI, 60, .inl t))] := hD
        refine lv_iload_n hx hb dX5_readsKing_53 rfl (lv_at hl 0 rfl) ?_
        refine kb_nif_eq (tgt := 81) hx hb dX5_readsKing_54 (by decide) (by decide) (fun _ => ?_) (fun c => absurd c (by decide))
        refine lv_iconst (v := nI 0) hx hb dX5_readsKing_81 (by decide) ?_
        exact kb_zret (D := D) hQ hx hb hr hlocks hK hP hD hS dX5_readsKing_82 rfl ((pN tx tL 0 120 ((pN tx tL 1 9 sP).2.1 + 1)).2.1, nuo_33, nuo_4, nuo_33) rfl (Nat.le_refl _) (Nat.le_refl _) (show (nI 0) = kb_b (pK tx tL sP).1 ∧ ((pN tx tL 0 120 ((pN tx tL 1 9 sP).2.1 + 1)).2.1) = (pK tx tL sP).2.1 ∧ ((pK tx tL sP).1 = true → nuo_4 = nI (pK tx tL sP).2.2.1 ∧ nuo_33 = nI (pK tx tL sP).2.2.2.1 ∧ nuo_33 = nI (pK tx tL sP).2.2.2.2) from ⟨by rw [pK_3 c17 hs_23 (by rw [c36]; decide)]; rfl, by rw [pK_3 c17 hs_23 (by rw [c36]; decide)], fun q => by rw [pK_3 c17 hs_23 (by rw [c36]; decide)] at q; cases q⟩)
      · refine lv_iconst (v := nI 1) hx hb dX5_readsKing_39 (by decide) ?_
        refine lv_goto (tgt := 44) hx hb dX5_readsKing_40 (by decide) ?_
        refine lv_istore_n (lv' := [(1, .int (nI 1)), (0, .ref (b 0))]) hx hb dX5_readsKing_44 rfl hl (by decide) rfl (fun ls hl => ?_)
        refine lv_aload_n hx hb dX5_readsKing_45 rfl (lv_at hl 1 rfl) ?_
        refine lv_aload_n hx hb dX5_readsKing_46 rfl (lv_at hl 1 rfl) ?_
        refine va_get (D := D) (ci := 5) (v := .int (nuo_33)) (C := RX5) (T := TX5) (N := 18) hx hb hts inwX5_readsKing_X5 hown hK hP 0 rfl rfl 11 (by decide) fl152 (fun _ h9 => h9) rfl dX5_readsKing_47 ?_
        refine va_put (D := D) (ci := 5) (v := .int (nuo_33)) (ty := .int) (C := RX5) (T := TX5) (N := 18) hx hb hts inwX5_readsKing_X5 tyX5 tyX5_ok nmX5 hown hK hP hD hS 0 rfl rfl 17 (by decide) fl164 (fun _ h9 => h9) rfl (by decide +kernel) rfl rfl (Nat.le_of_ble_eq_true rfl) dX5_readsKing_50 (fun H locs hP hD hS => ?_)
        have hP : va_P D vwCl [((b 0), .inr (5, [.ref (b 1), .ref (b 2), .ref (b 3), .ref (b 4), .int (nI hL), .ref (b 5), .int (iK), .ref (b 6), .ref (b 7), .int (nI tL), .int (nI ((pN tx tL 0 120 ((pN tx tL 1 9 sP).2.1 + 1)).2.1)), .int (nuo_33), .int (iS), .int (sN), .int (sR), .int (lE), .int (nuo_4), .int (nuo_33)])), ((b 7), .inl (cI, 60, .inl t))] H := hP
        have hD : va_D A [((b 0), .inr (5, [.ref (b 1), .ref (b 2), .ref (b 3), .ref (b 4), .int (nI hL), .ref (b 5), .int (iK), .ref (b 6), .ref (b 7), .int (nI tL), .int (nI ((pN tx tL 0 120 ((pN tx tL 1 9 sP).2.1 + 1)).2.1)), .int (nuo_33), .int (iS), .int (sN), .int (sR), .int (lE), .int (nuo_4), .int (nuo_33)])), ((b 7), .inl (cI, 60, .inl t))] := hD
        refine lv_iload_n hx hb dX5_readsKing_53 rfl (lv_at hl 0 rfl) ?_
        refine kb_nif_eq (tgt := 81) hx hb dX5_readsKing_54 (by decide) (by decide) (fun c => absurd c (by decide)) (fun _ => ?_)
        refine lv_aload_n hx hb dX5_readsKing_57 rfl (lv_at hl 1 rfl) ?_
        refine lv_bipush (v := nI 64) hx hb dX5_readsKing_58 (by decide) ?_
        refine kb_vI (As := [.int (nI 64)]) (rest := []) hx hb hml hts hown hN hK hP hD hS hA (c_X5_takesOne l D cI b hL iK tL ((pN tx tL 0 120 ((pN tx tL 1 9 sP).2.1 + 1)).2.1) nuo_33 iS sN sR lE nuo_4 nuo_33 t (by first | assumption | omega) htx 64 (by decide) (by have := pN_p (tx := tx) (n := tL) (lo := 0) (hi := 120) (i := (pN tx tL 1 9 sP).2.1 + 1) (by decide) (by omega); omega)) gX5_readsKing_X5_takesOne rfl ⟨rfl, rfl⟩ hdX5_takesOne ⟨Nat.le_of_ble_eq_true rfl, Nat.le_of_ble_eq_true rfl⟩ [0, 1] [0] rfl rfl rfl (ci := 5) rfl rfl rfl (fun _ => rfl) rfl rfl hl.1 (Nat.le_of_ble_eq_true rfl) dX5_readsKing_60 ⟨Nat.zero_le _, Nat.zero_le _⟩ (fun r_60 u H locs hw_60 hP hD hS => ?_)
        obtain ⟨so_60, rfl⟩ : ∃ z, z = u := ⟨_, rfl⟩
        have hw_60 : r_60 = kb_b (decide (cd tx tL ((pN tx tL 0 120 ((pN tx tL 1 9 sP).2.1 + 1)).2.1) = 64)) ∧ so_60 = if cd tx tL ((pN tx tL 0 120 ((pN tx tL 1 9 sP).2.1 + 1)).2.1) = 64 then ((pN tx tL 0 120 ((pN tx tL 1 9 sP).2.1 + 1)).2.1) + 1 else ((pN tx tL 0 120 ((pN tx tL 1 9 sP).2.1 + 1)).2.1) := hw_60
        have hP : va_P D vwCl [((b 0), .inr (5, [.ref (b 1), .ref (b 2), .ref (b 3), .ref (b 4), .int (nI hL), .ref (b 5), .int (iK), .ref (b 6), .ref (b 7), .int (nI tL), .int (nI so_60), .int (nuo_33), .int (iS), .int (sN), .int (sR), .int (lE), .int (nuo_4), .int (nuo_33)])), ((b 7), .inl (cI, 60, .inl t))] H := hP
        have hD : va_D A [((b 0), .inr (5, [.ref (b 1), .ref (b 2), .ref (b 3), .ref (b 4), .int (nI hL), .ref (b 5), .int (iK), .ref (b 6), .ref (b 7), .int (nI tL), .int (nI so_60), .int (nuo_33), .int (iS), .int (sN), .int (sR), .int (lE), .int (nuo_4), .int (nuo_33)])), ((b 7), .inl (cI, 60, .inl t))] := hD
        obtain ⟨hr_60, hp_60⟩ := hw_60
        subst hr_60
        subst hp_60
        refine kb_bif_eq (tgt := 81) hx hb dX5_readsKing_63 (by decide) (fun c63 => ?_) (fun c63 => ?_)
        · have hs_60 : ¬ cd tx tL ((pN tx tL 0 120 ((pN tx tL 1 9 sP).2.1 + 1)).2.1) = 64 := of_decide_eq_false c63
          rw [if_neg hs_60] at hP hD
          have hP : va_P D vwCl [((b 0), .inr (5, [.ref (b 1), .ref (b 2), .ref (b 3), .ref (b 4), .int (nI hL), .ref (b 5), .int (iK), .ref (b 6), .ref (b 7), .int (nI tL), .int (nI ((pN tx tL 0 120 ((pN tx tL 1 9 sP).2.1 + 1)).2.1)), .int (nuo_33), .int (iS), .int (sN), .int (sR), .int (lE), .int (nuo_4), .int (nuo_33)])), ((b 7), .inl (cI, 60, .inl t))] H := hP
          have hD : va_D A [((b 0), .inr (5, [.ref (b 1), .ref (b 2), .ref (b 3), .ref (b 4), .int (nI hL), .ref (b 5), .int (iK), .ref (b 6), .ref (b 7), .int (nI tL), .int (nI ((pN tx tL 0 120 ((pN tx tL 1 9 sP).2.1 + 1)).2.1)), .int (nuo_33), .int (iS), .int (sN), .int (sR), .int (lE), .int (nuo_4), .int (nuo_33)])), ((b 7), .inl (cI, 60, .inl t))] := hD
          refine lv_iconst (v := nI 0) hx hb dX5_readsKing_81 (by decide) ?_
          exact kb_zret (D := D) hQ hx hb hr hlocks hK hP hD hS dX5_readsKing_82 rfl ((pN tx tL 0 120 ((pN tx tL 1 9 sP).2.1 + 1)).2.1, nuo_33, nuo_4, nuo_33) rfl (Nat.le_refl _) (Nat.le_refl _) (show (nI 0) = kb_b (pK tx tL sP).1 ∧ ((pN tx tL 0 120 ((pN tx tL 1 9 sP).2.1 + 1)).2.1) = (pK tx tL sP).2.1 ∧ ((pK tx tL sP).1 = true → nuo_4 = nI (pK tx tL sP).2.2.1 ∧ nuo_33 = nI (pK tx tL sP).2.2.2.1 ∧ nuo_33 = nI (pK tx tL sP).2.2.2.2) from ⟨by rw [pK_4 c17 hs_23 c36 hs_60]; rfl, by rw [pK_4 c17 hs_23 c36 hs_60], fun q => by rw [pK_4 c17 hs_23 c36 hs_60] at q; cases q⟩)
        · have hs_60 : cd tx tL ((pN tx tL 0 120 ((pN tx tL 1 9 sP).2.1 + 1)).2.1) = 64 := of_decide_eq_true c63
          have hlt_60 := cd_lt hs_60 (by decide)
          rw [if_pos hs_60] at hP hD
          have hP : va_P D vwCl [((b 0), .inr (5, [.ref (b 1), .ref (b 2), .ref (b 3), .ref (b 4), .int (nI hL), .ref (b 5), .int (iK), .ref (b 6), .ref (b 7), .int (nI tL), .int (nI (((pN tx tL 0 120 ((pN tx tL 1 9 sP).2.1 + 1)).2.1) + 1)), .int (nuo_33), .int (iS), .int (sN), .int (sR), .int (lE), .int (nuo_4), .int (nuo_33)])), ((b 7), .inl (cI, 60, .inl t))] H := hP
          have hD : va_D A [((b 0), .inr (5, [.ref (b 1), .ref (b 2), .ref (b 3), .ref (b 4), .int (nI hL), .ref (b 5), .int (iK), .ref (b 6), .ref (b 7), .int (nI tL), .int (nI (((pN tx tL 0 120 ((pN tx tL 1 9 sP).2.1 + 1)).2.1) + 1)), .int (nuo_33), .int (iS), .int (sN), .int (sR), .int (lE), .int (nuo_4), .int (nuo_33)])), ((b 7), .inl (cI, 60, .inl t))] := hD
          refine lv_aload_n hx hb dX5_readsKing_66 rfl (lv_at hl 1 rfl) ?_
          refine lv_iconst (v := nI 0) hx hb dX5_readsKing_67 (by decide) ?_
          refine lv_sipush (v := nI 9999) hx hb dX5_readsKing_68 (by decide) ?_
          refine kb_vI (As := [.int (nI 0), .int (nI 9999)]) (rest := []) hx hb hml hts hown hN hK hP hD hS hA (c_X5_readsNumber l D cI b hL iK tL (((pN tx tL 0 120 ((pN tx tL 1 9 sP).2.1 + 1)).2.1) + 1) nuo_33 iS sN sR lE nuo_4 nuo_33 t (by first | assumption | omega) htx 0 9999 (by decide) (by decide) (by omega)) gX5_readsKing_X5_readsNumber rfl ⟨rfl, rfl⟩ hdX5_readsNumber ⟨Nat.le_of_ble_eq_true rfl, Nat.le_of_ble_eq_true rfl⟩ [0, 1] [0] rfl rfl rfl (ci := 5) rfl rfl rfl (fun _ => rfl) rfl rfl hl.1 (Nat.le_of_ble_eq_true rfl) dX5_readsKing_71 ⟨Nat.zero_le _, Nat.zero_le _⟩ (fun r_71 u H locs hw_71 hP hD hS => ?_)
          obtain ⟨so_71, nuo_71⟩ := u
          have hw_71 : r_71 = kb_b (pN tx tL 0 9999 (((pN tx tL 0 120 ((pN tx tL 1 9 sP).2.1 + 1)).2.1) + 1)).1 ∧ so_71 = (pN tx tL 0 9999 (((pN tx tL 0 120 ((pN tx tL 1 9 sP).2.1 + 1)).2.1) + 1)).2.1 ∧ ((pN tx tL 0 9999 (((pN tx tL 0 120 ((pN tx tL 1 9 sP).2.1 + 1)).2.1) + 1)).1 = true → nuo_71 = nI (pN tx tL 0 9999 (((pN tx tL 0 120 ((pN tx tL 1 9 sP).2.1 + 1)).2.1) + 1)).2.2) := hw_71
          have hP : va_P D vwCl [((b 0), .inr (5, [.ref (b 1), .ref (b 2), .ref (b 3), .ref (b 4), .int (nI hL), .ref (b 5), .int (iK), .ref (b 6), .ref (b 7), .int (nI tL), .int (nI so_71), .int (nuo_71), .int (iS), .int (sN), .int (sR), .int (lE), .int (nuo_4), .int (nuo_33)])), ((b 7), .inl (cI, 60, .inl t))] H := hP
          have hD : va_D A [((b 0), .inr (5, [.ref (b 1), .ref (b 2), .ref (b 3), .ref (b 4), .int (nI hL), .ref (b 5), .int (iK), .ref (b 6), .ref (b 7), .int (nI tL), .int (nI so_71), .int (nuo_71), .int (iS), .int (sN), .int (sR), .int (lE), .int (nuo_4), .int (nuo_33)])), ((b 7), .inl (cI, 60, .inl t))] := hD
          obtain ⟨hr_71, hp_71, hq_71⟩ := hw_71
          subst hr_71
          subst hp_71
          refine kb_bif_eq (tgt := 81) hx hb dX5_readsKing_74 (by decide) (fun c74 => ?_) (fun c74 => ?_)
          · refine lv_iconst (v := nI 0) hx hb dX5_readsKing_81 (by decide) ?_
            exact kb_zret (D := D) hQ hx hb hr hlocks hK hP hD hS dX5_readsKing_82 rfl ((pN tx tL 0 9999 ((pN tx tL 0 120 ((pN tx tL 1 9 sP).2.1 + 1)).2.1 + 1)).2.1, nuo_71, nuo_4, nuo_33) rfl (Nat.le_refl _) (Nat.le_refl _) (show (nI 0) = kb_b (pK tx tL sP).1 ∧ ((pN tx tL 0 9999 ((pN tx tL 0 120 ((pN tx tL 1 9 sP).2.1 + 1)).2.1 + 1)).2.1) = (pK tx tL sP).2.1 ∧ ((pK tx tL sP).1 = true → nuo_4 = nI (pK tx tL sP).2.2.1 ∧ nuo_33 = nI (pK tx tL sP).2.2.2.1 ∧ nuo_71 = nI (pK tx tL sP).2.2.2.2) from ⟨by rw [pK_5 c17 hs_23 c36 hs_60, c74]; rfl, by rw [pK_5 c17 hs_23 c36 hs_60], fun q => by rw [pK_5 c17 hs_23 c36 hs_60] at q; rw [c74] at q; cases q⟩)
          · refine lv_iconst (v := nI 1) hx hb dX5_readsKing_77 (by decide) ?_
            refine lv_goto (tgt := 82) hx hb dX5_readsKing_78 (by decide) ?_
            exact kb_zret (D := D) hQ hx hb hr hlocks hK hP hD hS dX5_readsKing_82 rfl ((pN tx tL 0 9999 ((pN tx tL 0 120 ((pN tx tL 1 9 sP).2.1 + 1)).2.1 + 1)).2.1, nuo_71, nuo_4, nuo_33) rfl (Nat.le_refl _) (Nat.le_refl _) (show (nI 1) = kb_b (pK tx tL sP).1 ∧ ((pN tx tL 0 9999 ((pN tx tL 0 120 ((pN tx tL 1 9 sP).2.1 + 1)).2.1 + 1)).2.1) = (pK tx tL sP).2.1 ∧ ((pK tx tL sP).1 = true → nuo_4 = nI (pK tx tL sP).2.2.1 ∧ nuo_33 = nI (pK tx tL sP).2.2.2.1 ∧ nuo_71 = nI (pK tx tL sP).2.2.2.2) from ⟨by rw [pK_5 c17 hs_23 c36 hs_60, c74]; rfl, by rw [pK_5 c17 hs_23 c36 hs_60], fun _ => by rw [pK_5 c17 hs_23 c36 hs_60]; exact ⟨hq_4 c17, hq_33 c36, hq_71 c74⟩⟩)
abbrev rmX5_readsThing : Room := { frames := 4, cells := 0, slots := 0, locals := 91 }
theorem hdX5_readsThing : yX5_readsThing.cls = RX5 ∧ yX5_readsThing.cls ≠ "java/lang/invoke/MethodHandle" ∧ yX5_readsThing.cls ≠ "java/lang/invoke/VarHandle" ∧ (parseMethodDescriptor yX5_readsThing.desc).map (fun d => d.parameters.length) = some 0 := by decide +kernel
theorem inwX5_readsThing_X5 : ∀ w ∈ wsX50, w ∈ wsX5_readsThing := fun w h => List.mem_cons_of_mem _ (List.mem_append_right _ h)
set_option maxHeartbeats 4000000 in
set_option maxRecDepth 100000 in
theorem c_X5_readsThing (l : Launch) (D : va_G) (cI : ClassId) (b : Nat → Nat) (hL : Nat) (iK : Int32) (tL : Nat) (sP : Nat) (nU : Int32) (iS : Int32) (sN : Int32) (sR : Int32) (lE : Int32) (fI : Int32) (sC : Int32) (t : Nat → Int32) (tx : Nat → Nat) (htx : tOk t tx tL) (hsp : sP ≤ tL) : kb_I (S := Nat × Int32 × Int32 × Int32 × Int32) D [(cI, .int)] l yX5_readsThing wsX5_readsThing rmX5_readsThing [.ref (b 0)] [((b 0), .inr (5, [.ref (b 1), .ref (b 2), .ref (b 3), .ref (b 4), .int (nI hL), .ref (b 5), .int (iK), .ref (b 6), .ref (b 7), .int (nI tL), .int (nI sP), .int (nU), .int (iS), .int (sN), .int (sR), .int (lE), .int (fI), .int (sC)])), ((b 7), .inl (cI, 60, .inl t))] (fun (r : Int32) (u : Nat × Int32 × Int32 × Int32 × Int32) => r = kb_b (pTh tx tL sP).1 ∧ u.1 = (pTh tx tL sP).2.1 ∧ ((pTh tx tL sP).1 = true → u.2.2.1 = nI (pTh tx tL sP).2.2.1 ∧ u.2.1 = nI (pTh tx tL sP).2.2.2.2.2 ∧ ((pTh tx tL sP).2.2.1 = 107 → u.2.2.2.1 = nI (pTh tx tL sP).2.2.2.1 ∧ u.2.2.2.2 = nI (pTh tx tL sP).2.2.2.2.1))) (fun (u : Nat × Int32 × Int32 × Int32 × Int32) => [((b 0), .inr (5, [.ref (b 1), .ref (b 2), .ref (b 3), .ref (b 4), .int (nI hL), .ref (b 5), .int (iK), .ref (b 6), .ref (b 7), .int (nI tL), .int (nI u.1), .int (u.2.1), .int (iS), .int (sN), .int (sR), .int (u.2.2.1), .int (u.2.2.2.1), .int (u.2.2.2.2)])), ((b 7), .inl (cI, 60, .inl t))]) 0 0 := by
  refine kb_I_of (cc := cX5_readsThing) (maxL := 1) (ret := (some .boolean)) (by decide) rfl (Nat.le_of_ble_eq_true rfl) ?_
  intro p e s mm args below meth c A hx hb hml hr hts hown hlocks hnm hA hN hK hP hD hS ls hl Q hQ
  have hl : lv_has ls 1 [(0, .ref (b 0))] := hl
  have hP : va_P D vwCl [((b 0), .inr (5, [.ref (b 1), .ref (b 2), .ref (b 3), .ref (b 4), .int (nI hL), .ref (b 5), .int (iK), .ref (b 6), .ref (b 7), .int (nI tL), .int (nI sP), .int (nU), .int (iS), .int (sN), .int (sR), .int (lE), .int (fI), .int (sC)])), ((b 7), .inl (cI, 60, .inl t))] s.heap := hP
  have hD : va_D A [((b 0), .inr (5, [.ref (b 1), .ref (b 2), .ref (b 3), .ref (b 4), .int (nI hL), .ref (b 5), .int (iK), .ref (b 6), .ref (b 7), .int (nI tL), .int (nI sP), .int (nU), .int (iS), .int (sN), .int (sR), .int (lE), .int (fI), .int (sC)])), ((b 7), .inl (cI, 60, .inl t))] := hD
  have fl146 := hts (.fieldLink RX5 146 "KingsBanquetModel" "spot" "I") (by decide +kernel)
  have fl143 := hts (.fieldLink RX5 143 "KingsBanquetModel" "textLong" "I") (by decide +kernel)
  have fl28 := hts (.fieldLink RX5 28 "KingsBanquetModel" "text" "[I") (by decide +kernel)
  have fl167 := hts (.fieldLink RX5 167 "KingsBanquetModel" "letter" "I") (by decide +kernel)
  have hn := htx.1
  refine lv_aload_n hx hb dX5_readsThing_0 rfl (lv_at hl 0 rfl) ?_
  refine lv_aload_n hx hb dX5_readsThing_1 rfl (lv_at hl 0 rfl) ?_
  refine va_get (D := D) (ci := 5) (v := .int (nI sP)) (C := RX5) (T := TX5) (N := 18) hx hb hts inwX5_readsThing_X5 hown hK hP 0 rfl rfl 10 (by decide) fl146 (fun _ h9 => h9) rfl dX5_readsThing_2 ?_
  refine lv_aload_n hx hb dX5_readsThing_5 rfl (lv_at hl 0 rfl) ?_
  refine va_get (D := D) (ci := 5) (v := .int (nI tL)) (C := RX5) (T := TX5) (N := 18) hx hb hts inwX5_readsThing_X5 hown hK hP 0 rfl rfl 9 (by decide) fl143 (fun _ h9 => h9) rfl dX5_readsThing_6 ?_
  refine kb_icmp_ge (tgt := 24) hx hb dX5_readsThing_9 (by decide) (by omega) (by omega) (fun c9 => ?_) (fun c9 => ?_)
  · refine lv_iconst (v := nI 0) hx hb dX5_readsThing_24 (by decide) ?_
    refine va_put (D := D) (ci := 5) (v := .int (nI 0)) (ty := .int) (C := RX5) (T := TX5) (N := 18) hx hb hts inwX5_readsThing_X5 tyX5 tyX5_ok nmX5 hown hK hP hD hS 0 rfl rfl 15 (by decide) fl167 (fun _ h9 => h9) rfl (by decide +kernel) rfl rfl (Nat.le_of_ble_eq_true rfl) dX5_readsThing_25 (fun H locs hP hD hS => ?_)
    have hP : va_P D vwCl [((b 0), .inr (5, [.ref (b 1), .ref (b 2), .ref (b 3), .ref (b 4), .int (nI hL), .ref (b 5), .int (iK), .ref (b 6), .ref (b 7), .int (nI tL), .int (nI sP), .int (nU), .int (iS), .int (sN), .int (sR), .int (nI 0), .int (fI), .int (sC)])), ((b 7), .inl (cI, 60, .inl t))] H := hP
    have hD : va_D A [((b 0), .inr (5, [.ref (b 1), .ref (b 2), .ref (b 3), .ref (b 4), .int (nI hL), .ref (b 5), .int (iK), .ref (b 6), .ref (b 7), .int (nI tL), .int (nI sP), .int (nU), .int (iS), .int (sN), .int (sR), .int (nI 0), .int (fI), .int (sC)])), ((b 7), .inl (cI, 60, .inl t))] := hD
    refine lv_aload_n hx hb dX5_readsThing_28 rfl (lv_at hl 0 rfl) ?_
    refine lv_bipush (v := nI 107) hx hb dX5_readsThing_29 (by decide) ?_
    refine kb_vI (As := [.int (nI 107)]) (rest := []) hx hb hml hts hown hN hK hP hD hS hA (c_X5_takesOne l D cI b hL iK tL sP nU iS sN sR (nI 0) fI sC t (by first | assumption | omega) htx 107 (by decide) (by omega)) gX5_readsThing_X5_takesOne rfl ⟨rfl, rfl⟩ hdX5_takesOne ⟨Nat.le_of_ble_eq_true rfl, Nat.le_of_ble_eq_true rfl⟩ [0, 1] [0] rfl rfl rfl (ci := 5) rfl rfl rfl (fun _ => rfl) rfl rfl hl.1 (Nat.le_of_ble_eq_true rfl) dX5_readsThing_31 ⟨Nat.zero_le _, Nat.zero_le _⟩ (fun r_31 u H locs hw_31 hP hD hS => ?_)
    obtain ⟨so_31, rfl⟩ : ∃ z, z = u := ⟨_, rfl⟩
    have hw_31 : r_31 = kb_b (decide (cd tx tL sP = 107)) ∧ so_31 = if cd tx tL sP = 107 then sP + 1 else sP := hw_31
    have hP : va_P D vwCl [((b 0), .inr (5, [.ref (b 1), .ref (b 2), .ref (b 3), .ref (b 4), .int (nI hL), .ref (b 5), .int (iK), .ref (b 6), .ref (b 7), .int (nI tL), .int (nI so_31), .int (nU), .int (iS), .int (sN), .int (sR), .int ((nI 0)), .int (fI), .int (sC)])), ((b 7), .inl (cI, 60, .inl t))] H := hP
    have hD : va_D A [((b 0), .inr (5, [.ref (b 1), .ref (b 2), .ref (b 3), .ref (b 4), .int (nI hL), .ref (b 5), .int (iK), .ref (b 6), .ref (b 7), .int (nI tL), .int (nI so_31), .int (nU), .int (iS), .int (sN), .int (sR), .int ((nI 0)), .int (fI), .int (sC)])), ((b 7), .inl (cI, 60, .inl t))] := hD
    obtain ⟨hr_31, hp_31⟩ := hw_31
    subst hr_31
    subst hp_31
    refine kb_bif_eq (tgt := 42) hx hb dX5_readsThing_34 (by decide) (fun c34 => ?_) (fun c34 => ?_)
    · have hs_31 : ¬ cd tx tL sP = 107 := of_decide_eq_false c34
      rw [if_neg hs_31] at hP hD
      have hP : va_P D vwCl [((b 0), .inr (5, [.ref (b 1), .ref (b 2), .ref (b 3), .ref (b 4), .int (nI hL), .ref (b 5), .int (iK), .ref (b 6), .ref (b 7), .int (nI tL), .int (nI sP), .int (nU), .int (iS), .int (sN), .int (sR), .int ((nI 0)), .int (fI), .int (sC)])), ((b 7), .inl (cI, 60, .inl t))] H := hP
      have hD : va_D A [((b 0), .inr (5, [.ref (b 1), .ref (b 2), .ref (b 3), .ref (b 4), .int (nI hL), .ref (b 5), .int (iK), .ref (b 6), .ref (b 7), .int (nI tL), .int (nI sP), .int (nU), .int (iS), .int (sN), .int (sR), .int ((nI 0)), .int (fI), .int (sC)])), ((b 7), .inl (cI, 60, .inl t))] := hD
      refine lv_aload_n hx hb dX5_readsThing_42 rfl (lv_at hl 0 rfl) ?_
      refine lv_bipush (v := nI 108) hx hb dX5_readsThing_43 (by decide) ?_
      refine kb_vI (As := [.int (nI 108)]) (rest := []) hx hb hml hts hown hN hK hP hD hS hA (c_X5_takesOne l D cI b hL iK tL sP nU iS sN sR (nI 0) fI sC t (by first | assumption | omega) htx 108 (by decide) (by omega)) gX5_readsThing_X5_takesOne rfl ⟨rfl, rfl⟩ hdX5_takesOne ⟨Nat.le_of_ble_eq_true rfl, Nat.le_of_ble_eq_true rfl⟩ [0, 1] [0] rfl rfl rfl (ci := 5) rfl rfl rfl (fun _ => rfl) rfl rfl hl.1 (Nat.le_of_ble_eq_true rfl) dX5_readsThing_45 ⟨Nat.zero_le _, Nat.zero_le _⟩ (fun r_45 u H locs hw_45 hP hD hS => ?_)
      obtain ⟨so_45, rfl⟩ : ∃ z, z = u := ⟨_, rfl⟩
      have hw_45 : r_45 = kb_b (decide (cd tx tL sP = 108)) ∧ so_45 = if cd tx tL sP = 108 then sP + 1 else sP := hw_45
      have hP : va_P D vwCl [((b 0), .inr (5, [.ref (b 1), .ref (b 2), .ref (b 3), .ref (b 4), .int (nI hL), .ref (b 5), .int (iK), .ref (b 6), .ref (b 7), .int (nI tL), .int (nI so_45), .int (nU), .int (iS), .int (sN), .int (sR), .int ((nI 0)), .int (fI), .int (sC)])), ((b 7), .inl (cI, 60, .inl t))] H := hP
      have hD : va_D A [((b 0), .inr (5, [.ref (b 1), .ref (b 2), .ref (b 3), .ref (b 4), .int (nI hL), .ref (b 5), .int (iK), .ref (b 6), .ref (b 7), .int (nI tL), .int (nI so_45), .int (nU), .int (iS), .int (sN), .int (sR), .int ((nI 0)), .int (fI), .int (sC)])), ((b 7), .inl (cI, 60, .inl t))] := hD
      obtain ⟨hr_45, hp_45⟩ := hw_45
      subst hr_45
      subst hp_45
      refine kb_bif_eq (tgt := 61) hx hb dX5_readsThing_48 (by decide) (fun c48 => ?_) (fun c48 => ?_)
      · have hs_45 : ¬ cd tx tL sP = 108 := of_decide_eq_false c48
        rw [if_neg hs_45] at hP hD
        have hP : va_P D vwCl [((b 0), .inr (5, [.ref (b 1), .ref (b 2), .ref (b 3), .ref (b 4), .int (nI hL), .ref (b 5), .int (iK), .ref (b 6), .ref (b 7), .int (nI tL), .int (nI sP), .int (nU), .int (iS), .int (sN), .int (sR), .int ((nI 0)), .int (fI), .int (sC)])), ((b 7), .inl (cI, 60, .inl t))] H := hP
        have hD : va_D A [((b 0), .inr (5, [.ref (b 1), .ref (b 2), .ref (b 3), .ref (b 4), .int (nI hL), .ref (b 5), .int (iK), .ref (b 6), .ref (b 7), .int (nI tL), .int (nI sP), .int (nU), .int (iS), .int (sN), .int (sR), .int ((nI 0)), .int (fI), .int (sC)])), ((b 7), .inl (cI, 60, .inl t))] := hD
        refine lv_aload_n hx hb dX5_readsThing_61 rfl (lv_at hl 0 rfl) ?_
        refine lv_bipush (v := nI 46) hx hb dX5_readsThing_62 (by decide) ?_
        refine kb_vI (As := [.int (nI 46)]) (rest := []) hx hb hml hts hown hN hK hP hD hS hA (c_X5_takesOne l D cI b hL iK tL sP nU iS sN sR (nI 0) fI sC t (by first | assumption | omega) htx 46 (by decide) (by omega)) gX5_readsThing_X5_takesOne rfl ⟨rfl, rfl⟩ hdX5_takesOne ⟨Nat.le_of_ble_eq_true rfl, Nat.le_of_ble_eq_true rfl⟩ [0, 1] [0] rfl rfl rfl (ci := 5) rfl rfl rfl (fun _ => rfl) rfl rfl hl.1 (Nat.le_of_ble_eq_true rfl) dX5_readsThing_64 ⟨Nat.zero_le _, Nat.zero_le _⟩ (fun r_64 u H locs hw_64 hP hD hS => ?_)
        obtain ⟨so_64, rfl⟩ : ∃ z, z = u := ⟨_, rfl⟩
        have hw_64 : r_64 = kb_b (decide (cd tx tL sP = 46)) ∧ so_64 = if cd tx tL sP = 46 then sP + 1 else sP := hw_64
        have hP : va_P D vwCl [((b 0), .inr (5, [.ref (b 1), .ref (b 2), .ref (b 3), .ref (b 4), .int (nI hL), .ref (b 5), .int (iK), .ref (b 6), .ref (b 7), .int (nI tL), .int (nI so_64), .int (nU), .int (iS), .int (sN), .int (sR), .int ((nI 0)), .int (fI), .int (sC)])), ((b 7), .inl (cI, 60, .inl t))] H := hP
        have hD : va_D A [((b 0), .inr (5, [.ref (b 1), .ref (b 2), .ref (b 3), .ref (b 4), .int (nI hL), .ref (b 5), .int (iK), .ref (b 6), .ref (b 7), .int (nI tL), .int (nI so_64), .int (nU), .int (iS), .int (sN), .int (sR), .int ((nI 0)), .int (fI), .int (sC)])), ((b 7), .inl (cI, 60, .inl t))] := hD
        obtain ⟨hr_64, hp_64⟩ := hw_64
        subst hr_64
        subst hp_64
        refine kb_bif_eq (tgt := 84) hx hb dX5_readsThing_67 (by decide) (fun c67 => ?_) (fun c67 => ?_)
        · have hs_64 : ¬ cd tx tL sP = 46 := of_decide_eq_false c67
          rw [if_neg hs_64] at hP hD
          have hP : va_P D vwCl [((b 0), .inr (5, [.ref (b 1), .ref (b 2), .ref (b 3), .ref (b 4), .int (nI hL), .ref (b 5), .int (iK), .ref (b 6), .ref (b 7), .int (nI tL), .int (nI sP), .int (nU), .int (iS), .int (sN), .int (sR), .int ((nI 0)), .int (fI), .int (sC)])), ((b 7), .inl (cI, 60, .inl t))] H := hP
          have hD : va_D A [((b 0), .inr (5, [.ref (b 1), .ref (b 2), .ref (b 3), .ref (b 4), .int (nI hL), .ref (b 5), .int (iK), .ref (b 6), .ref (b 7), .int (nI tL), .int (nI sP), .int (nU), .int (iS), .int (sN), .int (sR), .int ((nI 0)), .int (fI), .int (sC)])), ((b 7), .inl (cI, 60, .inl t))] := hD
          refine lv_iconst (v := nI 0) hx hb dX5_readsThing_84 (by decide) ?_
          exact kb_zret (D := D) hQ hx hb hr hlocks hK hP hD hS dX5_readsThing_85 rfl (sP, nU, (nI 0), fI, sC) rfl (Nat.le_refl _) (Nat.le_refl _) (show (nI 0) = kb_b (pTh tx tL sP).1 ∧ sP = (pTh tx tL sP).2.1 ∧ ((pTh tx tL sP).1 = true → (nI 0) = nI (pTh tx tL sP).2.2.1 ∧ nU = nI (pTh tx tL sP).2.2.2.2.2 ∧ ((pTh tx tL sP).2.2.1 = 107 → fI = nI (pTh tx tL sP).2.2.2.1 ∧ sC = nI (pTh tx tL sP).2.2.2.2.1)) from ⟨by rw [pTh_0 hs_31 hs_45 hs_64]; rfl, by rw [pTh_0 hs_31 hs_45 hs_64], fun q => by rw [pTh_0 hs_31 hs_45 hs_64] at q; cases q⟩)
        · have hs_64 : cd tx tL sP = 46 := of_decide_eq_true c67
          have hlt_64 := cd_lt hs_64 (by decide)
          rw [if_pos hs_64] at hP hD
          have hP : va_P D vwCl [((b 0), .inr (5, [.ref (b 1), .ref (b 2), .ref (b 3), .ref (b 4), .int (nI hL), .ref (b 5), .int (iK), .ref (b 6), .ref (b 7), .int (nI tL), .int (nI (sP + 1)), .int (nU), .int (iS), .int (sN), .int (sR), .int ((nI 0)), .int (fI), .int (sC)])), ((b 7), .inl (cI, 60, .inl t))] H := hP
          have hD : va_D A [((b 0), .inr (5, [.ref (b 1), .ref (b 2), .ref (b 3), .ref (b 4), .int (nI hL), .ref (b 5), .int (iK), .ref (b 6), .ref (b 7), .int (nI tL), .int (nI (sP + 1)), .int (nU), .int (iS), .int (sN), .int (sR), .int ((nI 0)), .int (fI), .int (sC)])), ((b 7), .inl (cI, 60, .inl t))] := hD
          refine lv_aload_n hx hb dX5_readsThing_70 rfl (lv_at hl 0 rfl) ?_
          refine lv_iconst (v := nI 1) hx hb dX5_readsThing_71 (by decide) ?_
          refine lv_bipush (v := nI 99) hx hb dX5_readsThing_72 (by decide) ?_
          refine kb_vI (As := [.int (nI 1), .int (nI 99)]) (rest := []) hx hb hml hts hown hN hK hP hD hS hA (c_X5_readsNumber l D cI b hL iK tL (sP + 1) nU iS sN sR (nI 0) fI sC t (by first | assumption | omega) htx 1 99 (by decide) (by decide) (by omega)) gX5_readsThing_X5_readsNumber rfl ⟨rfl, rfl⟩ hdX5_readsNumber ⟨Nat.le_of_ble_eq_true rfl, Nat.le_of_ble_eq_true rfl⟩ [0, 1] [0] rfl rfl rfl (ci := 5) rfl rfl rfl (fun _ => rfl) rfl rfl hl.1 (Nat.le_of_ble_eq_true rfl) dX5_readsThing_74 ⟨Nat.zero_le _, Nat.zero_le _⟩ (fun r_74 u H locs hw_74 hP hD hS => ?_)
          obtain ⟨so_74, nuo_74⟩ := u
          have hw_74 : r_74 = kb_b (pN tx tL 1 99 (sP + 1)).1 ∧ so_74 = (pN tx tL 1 99 (sP + 1)).2.1 ∧ ((pN tx tL 1 99 (sP + 1)).1 = true → nuo_74 = nI (pN tx tL 1 99 (sP + 1)).2.2) := hw_74
          have hP : va_P D vwCl [((b 0), .inr (5, [.ref (b 1), .ref (b 2), .ref (b 3), .ref (b 4), .int (nI hL), .ref (b 5), .int (iK), .ref (b 6), .ref (b 7), .int (nI tL), .int (nI so_74), .int (nuo_74), .int (iS), .int (sN), .int (sR), .int ((nI 0)), .int (fI), .int (sC)])), ((b 7), .inl (cI, 60, .inl t))] H := hP
          have hD : va_D A [((b 0), .inr (5, [.ref (b 1), .ref (b 2), .ref (b 3), .ref (b 4), .int (nI hL), .ref (b 5), .int (iK), .ref (b 6), .ref (b 7), .int (nI tL), .int (nI so_74), .int (nuo_74), .int (iS), .int (sN), .int (sR), .int ((nI 0)), .int (fI), .int (sC)])), ((b 7), .inl (cI, 60, .inl t))] := hD
          obtain ⟨hr_74, hp_74, hq_74⟩ := hw_74
          subst hr_74
          subst hp_74
          refine kb_bif_eq (tgt := 84) hx hb dX5_readsThing_77 (by decide) (fun c77 => ?_) (fun c77 => ?_)
          · refine lv_iconst (v := nI 0) hx hb dX5_readsThing_84 (by decide) ?_
            exact kb_zret (D := D) hQ hx hb hr hlocks hK hP hD hS dX5_readsThing_85 rfl ((pN tx tL 1 99 (sP + 1)).2.1, nuo_74, (nI 0), fI, sC) rfl (Nat.le_refl _) (Nat.le_refl _) (show (nI 0) = kb_b (pTh tx tL sP).1 ∧ ((pN tx tL 1 99 (sP + 1)).2.1) = (pTh tx tL sP).2.1 ∧ ((pTh tx tL sP).1 = true → (nI 0) = nI (pTh tx tL sP).2.2.1 ∧ nuo_74 = nI (pTh tx tL sP).2.2.2.2.2 ∧ ((pTh tx tL sP).2.2.1 = 107 → fI = nI (pTh tx tL sP).2.2.2.1 ∧ sC = nI (pTh tx tL sP).2.2.2.2.1)) from ⟨by rw [pTh_d hs_64, c77]; rfl, by rw [pTh_d hs_64], fun q => by rw [pTh_d hs_64] at q; rw [c77] at q; cases q⟩)
          · refine lv_iconst (v := nI 1) hx hb dX5_readsThing_80 (by decide) ?_
            refine lv_goto (tgt := 85) hx hb dX5_readsThing_81 (by decide) ?_
            exact kb_zret (D := D) hQ hx hb hr hlocks hK hP hD hS dX5_readsThing_85 rfl ((pN tx tL 1 99 (sP + 1)).2.1, nuo_74, (nI 0), fI, sC) rfl (Nat.le_refl _) (Nat.le_refl _) (show (nI 1) = kb_b (pTh tx tL sP).1 ∧ ((pN tx tL 1 99 (sP + 1)).2.1) = (pTh tx tL sP).2.1 ∧ ((pTh tx tL sP).1 = true → (nI 0) = nI (pTh tx tL sP).2.2.1 ∧ nuo_74 = nI (pTh tx tL sP).2.2.2.2.2 ∧ ((pTh tx tL sP).2.2.1 = 107 → fI = nI (pTh tx tL sP).2.2.2.1 ∧ sC = nI (pTh tx tL sP).2.2.2.2.1)) from ⟨by rw [pTh_d hs_64, c77]; rfl, by rw [pTh_d hs_64], fun q => by rw [pTh_d hs_64] at q ⊢; exact ⟨by first | exact congrArg nI ((cd_in (by omega)).symm.trans hs_64) | (exfalso; omega), hq_74 q, fun z => absurd (show (46 : Nat) = 107 from z) (by decide)⟩⟩)
      · have hs_45 : cd tx tL sP = 108 := of_decide_eq_true c48
        have hlt_45 := cd_lt hs_45 (by decide)
        rw [if_pos hs_45] at hP hD
        have hP : va_P D vwCl [((b 0), .inr (5, [.ref (b 1), .ref (b 2), .ref (b 3), .ref (b 4), .int (nI hL), .ref (b 5), .int (iK), .ref (b 6), .ref (b 7), .int (nI tL), .int (nI (sP + 1)), .int (nU), .int (iS), .int (sN), .int (sR), .int ((nI 0)), .int (fI), .int (sC)])), ((b 7), .inl (cI, 60, .inl t))] H := hP
        have hD : va_D A [((b 0), .inr (5, [.ref (b 1), .ref (b 2), .ref (b 3), .ref (b 4), .int (nI hL), .ref (b 5), .int (iK), .ref (b 6), .ref (b 7), .int (nI tL), .int (nI (sP + 1)), .int (nU), .int (iS), .int (sN), .int (sR), .int ((nI 0)), .int (fI), .int (sC)])), ((b 7), .inl (cI, 60, .inl t))] := hD
        refine lv_aload_n hx hb dX5_readsThing_51 rfl (lv_at hl 0 rfl) ?_
        refine lv_iconst (v := nI 0) hx hb dX5_readsThing_52 (by decide) ?_
        refine lv_bipush (v := nI 23) hx hb dX5_readsThing_53 (by decide) ?_
        refine kb_vI (As := [.int (nI 0), .int (nI 23)]) (rest := []) hx hb hml hts hown hN hK hP hD hS hA (c_X5_readsNumber l D cI b hL iK tL (sP + 1) nU iS sN sR (nI 0) fI sC t (by first | assumption | omega) htx 0 23 (by decide) (by decide) (by omega)) gX5_readsThing_X5_readsNumber rfl ⟨rfl, rfl⟩ hdX5_readsNumber ⟨Nat.le_of_ble_eq_true rfl, Nat.le_of_ble_eq_true rfl⟩ [0, 1] [0] rfl rfl rfl (ci := 5) rfl rfl rfl (fun _ => rfl) rfl rfl hl.1 (Nat.le_of_ble_eq_true rfl) dX5_readsThing_55 ⟨Nat.zero_le _, Nat.zero_le _⟩ (fun r_55 u H locs hw_55 hP hD hS => ?_)
        obtain ⟨so_55, nuo_55⟩ := u
        have hw_55 : r_55 = kb_b (pN tx tL 0 23 (sP + 1)).1 ∧ so_55 = (pN tx tL 0 23 (sP + 1)).2.1 ∧ ((pN tx tL 0 23 (sP + 1)).1 = true → nuo_55 = nI (pN tx tL 0 23 (sP + 1)).2.2) := hw_55
        have hP : va_P D vwCl [((b 0), .inr (5, [.ref (b 1), .ref (b 2), .ref (b 3), .ref (b 4), .int (nI hL), .ref (b 5), .int (iK), .ref (b 6), .ref (b 7), .int (nI tL), .int (nI so_55), .int (nuo_55), .int (iS), .int (sN), .int (sR), .int ((nI 0)), .int (fI), .int (sC)])), ((b 7), .inl (cI, 60, .inl t))] H := hP
        have hD : va_D A [((b 0), .inr (5, [.ref (b 1), .ref (b 2), .ref (b 3), .ref (b 4), .int (nI hL), .ref (b 5), .int (iK), .ref (b 6), .ref (b 7), .int (nI tL), .int (nI so_55), .int (nuo_55), .int (iS), .int (sN), .int (sR), .int ((nI 0)), .int (fI), .int (sC)])), ((b 7), .inl (cI, 60, .inl t))] := hD
        obtain ⟨hr_55, hp_55, hq_55⟩ := hw_55
        subst hr_55
        subst hp_55
        refine lv_goto (tgt := 85) hx hb dX5_readsThing_58 (by decide) ?_
        exact kb_zret (D := D) hQ hx hb hr hlocks hK hP hD hS dX5_readsThing_85 (kb_b_n _) ((pN tx tL 0 23 (sP + 1)).2.1, nuo_55, (nI 0), fI, sC) rfl (Nat.le_refl _) (Nat.le_refl _) (show (kb_b ((pN tx tL 0 23 (sP + 1)).1)) = kb_b (pTh tx tL sP).1 ∧ ((pN tx tL 0 23 (sP + 1)).2.1) = (pTh tx tL sP).2.1 ∧ ((pTh tx tL sP).1 = true → (nI 0) = nI (pTh tx tL sP).2.2.1 ∧ nuo_55 = nI (pTh tx tL sP).2.2.2.2.2 ∧ ((pTh tx tL sP).2.2.1 = 107 → fI = nI (pTh tx tL sP).2.2.2.1 ∧ sC = nI (pTh tx tL sP).2.2.2.2.1)) from ⟨by rw [pTh_l hs_45], by rw [pTh_l hs_45], fun q => by rw [pTh_l hs_45] at q ⊢; exact ⟨by first | exact congrArg nI ((cd_in (by omega)).symm.trans hs_45) | (exfalso; omega), hq_55 q, fun z => absurd (show (108 : Nat) = 107 from z) (by decide)⟩⟩)
    · have hs_31 : cd tx tL sP = 107 := of_decide_eq_true c34
      have hlt_31 := cd_lt hs_31 (by decide)
      rw [if_pos hs_31] at hP hD
      have hP : va_P D vwCl [((b 0), .inr (5, [.ref (b 1), .ref (b 2), .ref (b 3), .ref (b 4), .int (nI hL), .ref (b 5), .int (iK), .ref (b 6), .ref (b 7), .int (nI tL), .int (nI (sP + 1)), .int (nU), .int (iS), .int (sN), .int (sR), .int ((nI 0)), .int (fI), .int (sC)])), ((b 7), .inl (cI, 60, .inl t))] H := hP
      have hD : va_D A [((b 0), .inr (5, [.ref (b 1), .ref (b 2), .ref (b 3), .ref (b 4), .int (nI hL), .ref (b 5), .int (iK), .ref (b 6), .ref (b 7), .int (nI tL), .int (nI (sP + 1)), .int (nU), .int (iS), .int (sN), .int (sR), .int ((nI 0)), .int (fI), .int (sC)])), ((b 7), .inl (cI, 60, .inl t))] := hD
      refine lv_aload_n hx hb dX5_readsThing_37 rfl (lv_at hl 0 rfl) ?_
      refine kb_vI (As := []) (rest := []) hx hb hml hts hown hN hK hP hD hS hA (c_X5_readsKing l D cI b hL iK tL (sP + 1) nU iS sN sR (nI 0) fI sC t (by first | assumption | omega) htx (by omega)) gX5_readsThing_X5_readsKing rfl ⟨rfl, rfl⟩ hdX5_readsKing ⟨Nat.le_of_ble_eq_true rfl, Nat.le_of_ble_eq_true rfl⟩ [0, 1] [0] rfl rfl rfl (ci := 5) rfl rfl rfl (fun _ => rfl) rfl rfl hl.1 (Nat.le_of_ble_eq_true rfl) dX5_readsThing_38 ⟨Nat.zero_le _, Nat.zero_le _⟩ (fun r_38 u H locs hw_38 hP hD hS => ?_)
      obtain ⟨so_38, nuo_38, fo_38, sco_38⟩ := u
      have hw_38 : r_38 = kb_b (pK tx tL (sP + 1)).1 ∧ so_38 = (pK tx tL (sP + 1)).2.1 ∧ ((pK tx tL (sP + 1)).1 = true → fo_38 = nI (pK tx tL (sP + 1)).2.2.1 ∧ sco_38 = nI (pK tx tL (sP + 1)).2.2.2.1 ∧ nuo_38 = nI (pK tx tL (sP + 1)).2.2.2.2) := hw_38
      have hP : va_P D vwCl [((b 0), .inr (5, [.ref (b 1), .ref (b 2), .ref (b 3), .ref (b 4), .int (nI hL), .ref (b 5), .int (iK), .ref (b 6), .ref (b 7), .int (nI tL), .int (nI so_38), .int (nuo_38), .int (iS), .int (sN), .int (sR), .int ((nI 0)), .int (fo_38), .int (sco_38)])), ((b 7), .inl (cI, 60, .inl t))] H := hP
      have hD : va_D A [((b 0), .inr (5, [.ref (b 1), .ref (b 2), .ref (b 3), .ref (b 4), .int (nI hL), .ref (b 5), .int (iK), .ref (b 6), .ref (b 7), .int (nI tL), .int (nI so_38), .int (nuo_38), .int (iS), .int (sN), .int (sR), .int ((nI 0)), .int (fo_38), .int (sco_38)])), ((b 7), .inl (cI, 60, .inl t))] := hD
      obtain ⟨hr_38, hp_38, hq_38⟩ := hw_38
      subst hr_38
      subst hp_38
      exact kb_zret (D := D) hQ hx hb hr hlocks hK hP hD hS dX5_readsThing_41 (kb_b_n _) ((pK tx tL (sP + 1)).2.1, nuo_38, (nI 0), fo_38, sco_38) rfl (Nat.le_refl _) (Nat.le_refl _) (show (kb_b ((pK tx tL (sP + 1)).1)) = kb_b (pTh tx tL sP).1 ∧ ((pK tx tL (sP + 1)).2.1) = (pTh tx tL sP).2.1 ∧ ((pTh tx tL sP).1 = true → (nI 0) = nI (pTh tx tL sP).2.2.1 ∧ nuo_38 = nI (pTh tx tL sP).2.2.2.2.2 ∧ ((pTh tx tL sP).2.2.1 = 107 → fo_38 = nI (pTh tx tL sP).2.2.2.1 ∧ sco_38 = nI (pTh tx tL sP).2.2.2.2.1)) from ⟨by rw [pTh_k hs_31], by rw [pTh_k hs_31], fun q => by rw [pTh_k hs_31] at q ⊢; exact ⟨by first | exact congrArg nI ((cd_in (by omega)).symm.trans hs_31) | (exfalso; omega), (hq_38 q).2.2, fun _ => ⟨(hq_38 q).1, (hq_38 q).2.1⟩⟩⟩)
  · refine lv_aload_n hx hb dX5_readsThing_12 rfl (lv_at hl 0 rfl) ?_
    refine va_get (D := D) (ci := 5) (v := .ref (b 7)) (C := RX5) (T := TX5) (N := 18) hx hb hts inwX5_readsThing_X5 hown hK hP 0 rfl rfl 8 (by decide) fl28 (fun _ h9 => h9) rfl dX5_readsThing_13 ?_
    refine lv_aload_n hx hb dX5_readsThing_16 rfl (lv_at hl 0 rfl) ?_
    refine va_get (D := D) (ci := 5) (v := .int (nI sP)) (C := RX5) (T := TX5) (N := 18) hx hb hts inwX5_readsThing_X5 hown hK hP 0 rfl rfl 10 (by decide) fl146 (fun _ h9 => h9) rfl dX5_readsThing_17 ?_
    refine kb_iald hx hb hK hP 1 0 rfl rfl (by decide) (by omega) dX5_readsThing_20 ?_
    refine kb_top (nI (tx sP)) (htx.2 sP (by omega)).1 ?_
    refine lv_goto (tgt := 25) hx hb dX5_readsThing_21 (by decide) ?_
    refine va_put (D := D) (ci := 5) (v := .int (nI (tx sP))) (ty := .int) (C := RX5) (T := TX5) (N := 18) hx hb hts inwX5_readsThing_X5 tyX5 tyX5_ok nmX5 hown hK hP hD hS 0 rfl rfl 15 (by decide) fl167 (fun _ h9 => h9) rfl (by decide +kernel) rfl rfl (Nat.le_of_ble_eq_true rfl) dX5_readsThing_25 (fun H locs hP hD hS => ?_)
    have hP : va_P D vwCl [((b 0), .inr (5, [.ref (b 1), .ref (b 2), .ref (b 3), .ref (b 4), .int (nI hL), .ref (b 5), .int (iK), .ref (b 6), .ref (b 7), .int (nI tL), .int (nI sP), .int (nU), .int (iS), .int (sN), .int (sR), .int (nI (tx sP)), .int (fI), .int (sC)])), ((b 7), .inl (cI, 60, .inl t))] H := hP
    have hD : va_D A [((b 0), .inr (5, [.ref (b 1), .ref (b 2), .ref (b 3), .ref (b 4), .int (nI hL), .ref (b 5), .int (iK), .ref (b 6), .ref (b 7), .int (nI tL), .int (nI sP), .int (nU), .int (iS), .int (sN), .int (sR), .int (nI (tx sP)), .int (fI), .int (sC)])), ((b 7), .inl (cI, 60, .inl t))] := hD
    refine lv_aload_n hx hb dX5_readsThing_28 rfl (lv_at hl 0 rfl) ?_
    refine lv_bipush (v := nI 107) hx hb dX5_readsThing_29 (by decide) ?_
    refine kb_vI (As := [.int (nI 107)]) (rest := []) hx hb hml hts hown hN hK hP hD hS hA (c_X5_takesOne l D cI b hL iK tL sP nU iS sN sR (nI (tx sP)) fI sC t (by first | assumption | omega) htx 107 (by decide) (by omega)) gX5_readsThing_X5_takesOne rfl ⟨rfl, rfl⟩ hdX5_takesOne ⟨Nat.le_of_ble_eq_true rfl, Nat.le_of_ble_eq_true rfl⟩ [0, 1] [0] rfl rfl rfl (ci := 5) rfl rfl rfl (fun _ => rfl) rfl rfl hl.1 (Nat.le_of_ble_eq_true rfl) dX5_readsThing_31 ⟨Nat.zero_le _, Nat.zero_le _⟩ (fun r_31 u H locs hw_31 hP hD hS => ?_)
    obtain ⟨so_31, rfl⟩ : ∃ z, z = u := ⟨_, rfl⟩
    have hw_31 : r_31 = kb_b (decide (cd tx tL sP = 107)) ∧ so_31 = if cd tx tL sP = 107 then sP + 1 else sP := hw_31
    have hP : va_P D vwCl [((b 0), .inr (5, [.ref (b 1), .ref (b 2), .ref (b 3), .ref (b 4), .int (nI hL), .ref (b 5), .int (iK), .ref (b 6), .ref (b 7), .int (nI tL), .int (nI so_31), .int (nU), .int (iS), .int (sN), .int (sR), .int ((nI (tx sP))), .int (fI), .int (sC)])), ((b 7), .inl (cI, 60, .inl t))] H := hP
    have hD : va_D A [((b 0), .inr (5, [.ref (b 1), .ref (b 2), .ref (b 3), .ref (b 4), .int (nI hL), .ref (b 5), .int (iK), .ref (b 6), .ref (b 7), .int (nI tL), .int (nI so_31), .int (nU), .int (iS), .int (sN), .int (sR), .int ((nI (tx sP))), .int (fI), .int (sC)])), ((b 7), .inl (cI, 60, .inl t))] := hD
    obtain ⟨hr_31, hp_31⟩ := hw_31
    subst hr_31
    subst hp_31
    refine kb_bif_eq (tgt := 42) hx hb dX5_readsThing_34 (by decide) (fun c34 => ?_) (fun c34 => ?_)
    · have hs_31 : ¬ cd tx tL sP = 107 := of_decide_eq_false c34
      rw [if_neg hs_31] at hP hD
      have hP : va_P D vwCl [((b 0), .inr (5, [.ref (b 1), .ref (b 2), .ref (b 3), .ref (b 4), .int (nI hL), .ref (b 5), .int (iK), .ref (b 6), .ref (b 7), .int (nI tL), .int (nI sP), .int (nU), .int (iS), .int (sN), .int (sR), .int ((nI (tx sP))), .int (fI), .int (sC)])), ((b 7), .inl (cI, 60, .inl t))] H := hP
      have hD : va_D A [((b 0), .inr (5, [.ref (b 1), .ref (b 2), .ref (b 3), .ref (b 4), .int (nI hL), .ref (b 5), .int (iK), .ref (b 6), .ref (b 7), .int (nI tL), .int (nI sP), .int (nU), .int (iS), .int (sN), .int (sR), .int ((nI (tx sP))), .int (fI), .int (sC)])), ((b 7), .inl (cI, 60, .inl t))] := hD
      refine lv_aload_n hx hb dX5_readsThing_42 rfl (lv_at hl 0 rfl) ?_
      refine lv_bipush (v := nI 108) hx hb dX5_readsThing_43 (by decide) ?_
      refine kb_vI (As := [.int (nI 108)]) (rest := []) hx hb hml hts hown hN hK hP hD hS hA (c_X5_takesOne l D cI b hL iK tL sP nU iS sN sR (nI (tx sP)) fI sC t (by first | assumption | omega) htx 108 (by decide) (by omega)) gX5_readsThing_X5_takesOne rfl ⟨rfl, rfl⟩ hdX5_takesOne ⟨Nat.le_of_ble_eq_true rfl, Nat.le_of_ble_eq_true rfl⟩ [0, 1] [0] rfl rfl rfl (ci := 5) rfl rfl rfl (fun _ => rfl) rfl rfl hl.1 (Nat.le_of_ble_eq_true rfl) dX5_readsThing_45 ⟨Nat.zero_le _, Nat.zero_le _⟩ (fun r_45 u H locs hw_45 hP hD hS => ?_)
      obtain ⟨so_45, rfl⟩ : ∃ z, z = u := ⟨_, rfl⟩
      have hw_45 : r_45 = kb_b (decide (cd tx tL sP = 108)) ∧ so_45 = if cd tx tL sP = 108 then sP + 1 else sP := hw_45
      have hP : va_P D vwCl [((b 0), .inr (5, [.ref (b 1), .ref (b 2), .ref (b 3), .ref (b 4), .int (nI hL), .ref (b 5), .int (iK), .ref (b 6), .ref (b 7), .int (nI tL), .int (nI so_45), .int (nU), .int (iS), .int (sN), .int (sR), .int ((nI (tx sP))), .int (fI), .int (sC)])), ((b 7), .inl (cI, 60, .inl t))] H := hP
      have hD : va_D A [((b 0), .inr (5, [.ref (b 1), .ref (b 2), .ref (b 3), .ref (b 4), .int (nI hL), .ref (b 5), .int (iK), .ref (b 6), .ref (b 7), .int (nI tL), .int (nI so_45), .int (nU), .int (iS), .int (sN), .int (sR), .int ((nI (tx sP))), .int (fI), .int (sC)])), ((b 7), .inl (cI, 60, .inl t))] := hD
      obtain ⟨hr_45, hp_45⟩ := hw_45
      subst hr_45
      subst hp_45
      refine kb_bif_eq (tgt := 61) hx hb dX5_readsThing_48 (by decide) (fun c48 => ?_) (fun c48 => ?_)
      · have hs_45 : ¬ cd tx tL sP = 108 := of_decide_eq_false c48
        rw [if_neg hs_45] at hP hD
        have hP : va_P D vwCl [((b 0), .inr (5, [.ref (b 1), .ref (b 2), .ref (b 3), .ref (b 4), .int (nI hL), .ref (b 5), .int (iK), .ref (b 6), .ref (b 7), .int (nI tL), .int (nI sP), .int (nU), .int (iS), .int (sN), .int (sR), .int ((nI (tx sP))), .int (fI), .int (sC)])), ((b 7), .inl (cI, 60, .inl t))] H := hP
        have hD : va_D A [((b 0), .inr (5, [.ref (b 1), .ref (b 2), .ref (b 3), .ref (b 4), .int (nI hL), .ref (b 5), .int (iK), .ref (b 6), .ref (b 7), .int (nI tL), .int (nI sP), .int (nU), .int (iS), .int (sN), .int (sR), .int ((nI (tx sP))), .int (fI), .int (sC)])), ((b 7), .inl (cI, 60, .inl t))] := hD
        refine lv_aload_n hx hb dX5_readsThing_61 rfl (lv_at hl 0 rfl) ?_
        refine lv_bipush (v := nI 46) hx hb dX5_readsThing_62 (by decide) ?_
        refine kb_vI (As := [.int (nI 46)]) (rest := []) hx hb hml hts hown hN hK hP hD hS hA (c_X5_takesOne l D cI b hL iK tL sP nU iS sN sR (nI (tx sP)) fI sC t (by first | assumption | omega) htx 46 (by decide) (by omega)) gX5_readsThing_X5_takesOne rfl ⟨rfl, rfl⟩ hdX5_takesOne ⟨Nat.le_of_ble_eq_true rfl, Nat.le_of_ble_eq_true rfl⟩ [0, 1] [0] rfl rfl rfl (ci := 5) rfl rfl rfl (fun _ => rfl) rfl rfl hl.1 (Nat.le_of_ble_eq_true rfl) dX5_readsThing_64 ⟨Nat.zero_le _, Nat.zero_le _⟩ (fun r_64 u H locs hw_64 hP hD hS => ?_)
        obtain ⟨so_64, rfl⟩ : ∃ z, z = u := ⟨_, rfl⟩
        have hw_64 : r_64 = kb_b (decide (cd tx tL sP = 46)) ∧ so_64 = if cd tx tL sP = 46 then sP + 1 else sP := hw_64
        have hP : va_P D vwCl [((b 0), .inr (5, [.ref (b 1), .ref (b 2), .ref (b 3), .ref (b 4), .int (nI hL), .ref (b 5), .int (iK), .ref (b 6), .ref (b 7), .int (nI tL), .int (nI so_64), .int (nU), .int (iS), .int (sN), .int (sR), .int ((nI (tx sP))), .int (fI), .int (sC)])), ((b 7), .inl (cI, 60, .inl t))] H := hP
        have hD : va_D A [((b 0), .inr (5, [.ref (b 1), .ref (b 2), .ref (b 3), .ref (b 4), .int (nI hL), .ref (b 5), .int (iK), .ref (b 6), .ref (b 7), .int (nI tL), .int (nI so_64), .int (nU), .int (iS), .int (sN), .int (sR), .int ((nI (tx sP))), .int (fI), .int (sC)])), ((b 7), .inl (cI, 60, .inl t))] := hD
        obtain ⟨hr_64, hp_64⟩ := hw_64
        subst hr_64
        subst hp_64
        refine kb_bif_eq (tgt := 84) hx hb dX5_readsThing_67 (by decide) (fun c67 => ?_) (fun c67 => ?_)
        · have hs_64 : ¬ cd tx tL sP = 46 := of_decide_eq_false c67
          rw [if_neg hs_64] at hP hD
          have hP : va_P D vwCl [((b 0), .inr (5, [.ref (b 1), .ref (b 2), .ref (b 3), .ref (b 4), .int (nI hL), .ref (b 5), .int (iK), .ref (b 6), .ref (b 7), .int (nI tL), .int (nI sP), .int (nU), .int (iS), .int (sN), .int (sR), .int ((nI (tx sP))), .int (fI), .int (sC)])), ((b 7), .inl (cI, 60, .inl t))] H := hP
          have hD : va_D A [((b 0), .inr (5, [.ref (b 1), .ref (b 2), .ref (b 3), .ref (b 4), .int (nI hL), .ref (b 5), .int (iK), .ref (b 6), .ref (b 7), .int (nI tL), .int (nI sP), .int (nU), .int (iS), .int (sN), .int (sR), .int ((nI (tx sP))), .int (fI), .int (sC)])), ((b 7), .inl (cI, 60, .inl t))] := hD
          refine lv_iconst (v := nI 0) hx hb dX5_readsThing_84 (by decide) ?_
          exact kb_zret (D := D) hQ hx hb hr hlocks hK hP hD hS dX5_readsThing_85 rfl (sP, nU, (nI (tx sP)), fI, sC) rfl (Nat.le_refl _) (Nat.le_refl _) (show (nI 0) = kb_b (pTh tx tL sP).1 ∧ sP = (pTh tx tL sP).2.1 ∧ ((pTh tx tL sP).1 = true → (nI (tx sP)) = nI (pTh tx tL sP).2.2.1 ∧ nU = nI (pTh tx tL sP).2.2.2.2.2 ∧ ((pTh tx tL sP).2.2.1 = 107 → fI = nI (pTh tx tL sP).2.2.2.1 ∧ sC = nI (pTh tx tL sP).2.2.2.2.1)) from ⟨by rw [pTh_0 hs_31 hs_45 hs_64]; rfl, by rw [pTh_0 hs_31 hs_45 hs_64], fun q => by rw [pTh_0 hs_31 hs_45 hs_64] at q; cases q⟩)
        · have hs_64 : cd tx tL sP = 46 := of_decide_eq_true c67
          have hlt_64 := cd_lt hs_64 (by decide)
          rw [if_pos hs_64] at hP hD
          have hP : va_P D vwCl [((b 0), .inr (5, [.ref (b 1), .ref (b 2), .ref (b 3), .ref (b 4), .int (nI hL), .ref (b 5), .int (iK), .ref (b 6), .ref (b 7), .int (nI tL), .int (nI (sP + 1)), .int (nU), .int (iS), .int (sN), .int (sR), .int ((nI (tx sP))), .int (fI), .int (sC)])), ((b 7), .inl (cI, 60, .inl t))] H := hP
          have hD : va_D A [((b 0), .inr (5, [.ref (b 1), .ref (b 2), .ref (b 3), .ref (b 4), .int (nI hL), .ref (b 5), .int (iK), .ref (b 6), .ref (b 7), .int (nI tL), .int (nI (sP + 1)), .int (nU), .int (iS), .int (sN), .int (sR), .int ((nI (tx sP))), .int (fI), .int (sC)])), ((b 7), .inl (cI, 60, .inl t))] := hD
          refine lv_aload_n hx hb dX5_readsThing_70 rfl (lv_at hl 0 rfl) ?_
          refine lv_iconst (v := nI 1) hx hb dX5_readsThing_71 (by decide) ?_
          refine lv_bipush (v := nI 99) hx hb dX5_readsThing_72 (by decide) ?_
          refine kb_vI (As := [.int (nI 1), .int (nI 99)]) (rest := []) hx hb hml hts hown hN hK hP hD hS hA (c_X5_readsNumber l D cI b hL iK tL (sP + 1) nU iS sN sR (nI (tx sP)) fI sC t (by first | assumption | omega) htx 1 99 (by decide) (by decide) (by omega)) gX5_readsThing_X5_readsNumber rfl ⟨rfl, rfl⟩ hdX5_readsNumber ⟨Nat.le_of_ble_eq_true rfl, Nat.le_of_ble_eq_true rfl⟩ [0, 1] [0] rfl rfl rfl (ci := 5) rfl rfl rfl (fun _ => rfl) rfl rfl hl.1 (Nat.le_of_ble_eq_true rfl) dX5_readsThing_74 ⟨Nat.zero_le _, Nat.zero_le _⟩ (fun r_74 u H locs hw_74 hP hD hS => ?_)
          obtain ⟨so_74, nuo_74⟩ := u
          have hw_74 : r_74 = kb_b (pN tx tL 1 99 (sP + 1)).1 ∧ so_74 = (pN tx tL 1 99 (sP + 1)).2.1 ∧ ((pN tx tL 1 99 (sP + 1)).1 = true → nuo_74 = nI (pN tx tL 1 99 (sP + 1)).2.2) := hw_74
          have hP : va_P D vwCl [((b 0), .inr (5, [.ref (b 1), .ref (b 2), .ref (b 3), .ref (b 4), .int (nI hL), .ref (b 5), .int (iK), .ref (b 6), .ref (b 7), .int (nI tL), .int (nI so_74), .int (nuo_74), .int (iS), .int (sN), .int (sR), .int ((nI (tx sP))), .int (fI), .int (sC)])), ((b 7), .inl (cI, 60, .inl t))] H := hP
          have hD : va_D A [((b 0), .inr (5, [.ref (b 1), .ref (b 2), .ref (b 3), .ref (b 4), .int (nI hL), .ref (b 5), .int (iK), .ref (b 6), .ref (b 7), .int (nI tL), .int (nI so_74), .int (nuo_74), .int (iS), .int (sN), .int (sR), .int ((nI (tx sP))), .int (fI), .int (sC)])), ((b 7), .inl (cI, 60, .inl t))] := hD
          obtain ⟨hr_74, hp_74, hq_74⟩ := hw_74
          subst hr_74
          subst hp_74
          refine kb_bif_eq (tgt := 84) hx hb dX5_readsThing_77 (by decide) (fun c77 => ?_) (fun c77 => ?_)
          · refine lv_iconst (v := nI 0) hx hb dX5_readsThing_84 (by decide) ?_
            exact kb_zret (D := D) hQ hx hb hr hlocks hK hP hD hS dX5_readsThing_85 rfl ((pN tx tL 1 99 (sP + 1)).2.1, nuo_74, (nI (tx sP)), fI, sC) rfl (Nat.le_refl _) (Nat.le_refl _) (show (nI 0) = kb_b (pTh tx tL sP).1 ∧ ((pN tx tL 1 99 (sP + 1)).2.1) = (pTh tx tL sP).2.1 ∧ ((pTh tx tL sP).1 = true → (nI (tx sP)) = nI (pTh tx tL sP).2.2.1 ∧ nuo_74 = nI (pTh tx tL sP).2.2.2.2.2 ∧ ((pTh tx tL sP).2.2.1 = 107 → fI = nI (pTh tx tL sP).2.2.2.1 ∧ sC = nI (pTh tx tL sP).2.2.2.2.1)) from ⟨by rw [pTh_d hs_64, c77]; rfl, by rw [pTh_d hs_64], fun q => by rw [pTh_d hs_64] at q; rw [c77] at q; cases q⟩)
          · refine lv_iconst (v := nI 1) hx hb dX5_readsThing_80 (by decide) ?_
            refine lv_goto (tgt := 85) hx hb dX5_readsThing_81 (by decide) ?_
            exact kb_zret (D := D) hQ hx hb hr hlocks hK hP hD hS dX5_readsThing_85 rfl ((pN tx tL 1 99 (sP + 1)).2.1, nuo_74, (nI (tx sP)), fI, sC) rfl (Nat.le_refl _) (Nat.le_refl _) (show (nI 1) = kb_b (pTh tx tL sP).1 ∧ ((pN tx tL 1 99 (sP + 1)).2.1) = (pTh tx tL sP).2.1 ∧ ((pTh tx tL sP).1 = true → (nI (tx sP)) = nI (pTh tx tL sP).2.2.1 ∧ nuo_74 = nI (pTh tx tL sP).2.2.2.2.2 ∧ ((pTh tx tL sP).2.2.1 = 107 → fI = nI (pTh tx tL sP).2.2.2.1 ∧ sC = nI (pTh tx tL sP).2.2.2.2.1)) from ⟨by rw [pTh_d hs_64, c77]; rfl, by rw [pTh_d hs_64], fun q => by rw [pTh_d hs_64] at q ⊢; exact ⟨by first | exact congrArg nI ((cd_in (by omega)).symm.trans hs_64) | (exfalso; omega), hq_74 q, fun z => absurd (show (46 : Nat) = 107 from z) (by decide)⟩⟩)
      · have hs_45 : cd tx tL sP = 108 := of_decide_eq_true c48
        have hlt_45 := cd_lt hs_45 (by decide)
        rw [if_pos hs_45] at hP hD
        have hP : va_P D vwCl [((b 0), .inr (5, [.ref (b 1), .ref (b 2), .ref (b 3), .ref (b 4), .int (nI hL), .ref (b 5), .int (iK), .ref (b 6), .ref (b 7), .int (nI tL), .int (nI (sP + 1)), .int (nU), .int (iS), .int (sN), .int (sR), .int ((nI (tx sP))), .int (fI), .int (sC)])), ((b 7), .inl (cI, 60, .inl t))] H := hP
        have hD : va_D A [((b 0), .inr (5, [.ref (b 1), .ref (b 2), .ref (b 3), .ref (b 4), .int (nI hL), .ref (b 5), .int (iK), .ref (b 6), .ref (b 7), .int (nI tL), .int (nI (sP + 1)), .int (nU), .int (iS), .int (sN), .int (sR), .int ((nI (tx sP))), .int (fI), .int (sC)])), ((b 7), .inl (cI, 60, .inl t))] := hD
        refine lv_aload_n hx hb dX5_readsThing_51 rfl (lv_at hl 0 rfl) ?_
        refine lv_iconst (v := nI 0) hx hb dX5_readsThing_52 (by decide) ?_
        refine lv_bipush (v := nI 23) hx hb dX5_readsThing_53 (by decide) ?_
        refine kb_vI (As := [.int (nI 0), .int (nI 23)]) (rest := []) hx hb hml hts hown hN hK hP hD hS hA (c_X5_readsNumber l D cI b hL iK tL (sP + 1) nU iS sN sR (nI (tx sP)) fI sC t (by first | assumption | omega) htx 0 23 (by decide) (by decide) (by omega)) gX5_readsThing_X5_readsNumber rfl ⟨rfl, rfl⟩ hdX5_readsNumber ⟨Nat.le_of_ble_eq_true rfl, Nat.le_of_ble_eq_true rfl⟩ [0, 1] [0] rfl rfl rfl (ci := 5) rfl rfl rfl (fun _ => rfl) rfl rfl hl.1 (Nat.le_of_ble_eq_true rfl) dX5_readsThing_55 ⟨Nat.zero_le _, Nat.zero_le _⟩ (fun r_55 u H locs hw_55 hP hD hS => ?_)
        obtain ⟨so_55, nuo_55⟩ := u
        have hw_55 : r_55 = kb_b (pN tx tL 0 23 (sP + 1)).1 ∧ so_55 = (pN tx tL 0 23 (sP + 1)).2.1 ∧ ((pN tx tL 0 23 (sP + 1)).1 = true → nuo_55 = nI (pN tx tL 0 23 (sP + 1)).2.2) := hw_55
        have hP : va_P D vwCl [((b 0), .inr (5, [.ref (b 1), .ref (b 2), .ref (b 3), .ref (b 4), .int (nI hL), .ref (b 5), .int (iK), .ref (b 6), .ref (b 7), .int (nI tL), .int (nI so_55), .int (nuo_55), .int (iS), .int (sN), .int (sR), .int ((nI (tx sP))), .int (fI), .int (sC)])), ((b 7), .inl (cI, 60, .inl t))] H := hP
        have hD : va_D A [((b 0), .inr (5, [.ref (b 1), .ref (b 2), .ref (b 3), .ref (b 4), .int (nI hL), .ref (b 5), .int (iK), .ref (b 6), .ref (b 7), .int (nI tL), .int (nI so_55), .int (nuo_55), .int (iS), .int (sN), .int (sR), .int ((nI (tx sP))), .int (fI), .int (sC)])), ((b 7), .inl (cI, 60, .inl t))] := hD
        obtain ⟨hr_55, hp_55, hq_55⟩ := hw_55
        subst hr_55
        subst hp_55
        refine lv_goto (tgt := 85) hx hb dX5_readsThing_58 (by decide) ?_
        exact kb_zret (D := D) hQ hx hb hr hlocks hK hP hD hS dX5_readsThing_85 (kb_b_n _) ((pN tx tL 0 23 (sP + 1)).2.1, nuo_55, (nI (tx sP)), fI, sC) rfl (Nat.le_refl _) (Nat.le_refl _) (show (kb_b ((pN tx tL 0 23 (sP + 1)).1)) = kb_b (pTh tx tL sP).1 ∧ ((pN tx tL 0 23 (sP + 1)).2.1) = (pTh tx tL sP).2.1 ∧ ((pTh tx tL sP).1 = true → (nI (tx sP)) = nI (pTh tx tL sP).2.2.1 ∧ nuo_55 = nI (pTh tx tL sP).2.2.2.2.2 ∧ ((pTh tx tL sP).2.2.1 = 107 → fI = nI (pTh tx tL sP).2.2.2.1 ∧ sC = nI (pTh tx tL sP).2.2.2.2.1)) from ⟨by rw [pTh_l hs_45], by rw [pTh_l hs_45], fun q => by rw [pTh_l hs_45] at q ⊢; exact ⟨by first | exact congrArg nI ((cd_in (by omega)).symm.trans hs_45) | (exfalso; omega), hq_55 q, fun z => absurd (show (108 : Nat) = 107 from z) (by decide)⟩⟩)
    · have hs_31 : cd tx tL sP = 107 := of_decide_eq_true c34
      have hlt_31 := cd_lt hs_31 (by decide)
      rw [if_pos hs_31] at hP hD
      have hP : va_P D vwCl [((b 0), .inr (5, [.ref (b 1), .ref (b 2), .ref (b 3), .ref (b 4), .int (nI hL), .ref (b 5), .int (iK), .ref (b 6), .ref (b 7), .int (nI tL), .int (nI (sP + 1)), .int (nU), .int (iS), .int (sN), .int (sR), .int ((nI (tx sP))), .int (fI), .int (sC)])), ((b 7), .inl (cI, 60, .inl t))] H := hP
      have hD : va_D A [((b 0), .inr (5, [.ref (b 1), .ref (b 2), .ref (b 3), .ref (b 4), .int (nI hL), .ref (b 5), .int (iK), .ref (b 6), .ref (b 7), .int (nI tL), .int (nI (sP + 1)), .int (nU), .int (iS), .int (sN), .int (sR), .int ((nI (tx sP))), .int (fI), .int (sC)])), ((b 7), .inl (cI, 60, .inl t))] := hD
      refine lv_aload_n hx hb dX5_readsThing_37 rfl (lv_at hl 0 rfl) ?_
      refine kb_vI (As := []) (rest := []) hx hb hml hts hown hN hK hP hD hS hA (c_X5_readsKing l D cI b hL iK tL (sP + 1) nU iS sN sR (nI (tx sP)) fI sC t (by first | assumption | omega) htx (by omega)) gX5_readsThing_X5_readsKing rfl ⟨rfl, rfl⟩ hdX5_readsKing ⟨Nat.le_of_ble_eq_true rfl, Nat.le_of_ble_eq_true rfl⟩ [0, 1] [0] rfl rfl rfl (ci := 5) rfl rfl rfl (fun _ => rfl) rfl rfl hl.1 (Nat.le_of_ble_eq_true rfl) dX5_readsThing_38 ⟨Nat.zero_le _, Nat.zero_le _⟩ (fun r_38 u H locs hw_38 hP hD hS => ?_)
      obtain ⟨so_38, nuo_38, fo_38, sco_38⟩ := u
      have hw_38 : r_38 = kb_b (pK tx tL (sP + 1)).1 ∧ so_38 = (pK tx tL (sP + 1)).2.1 ∧ ((pK tx tL (sP + 1)).1 = true → fo_38 = nI (pK tx tL (sP + 1)).2.2.1 ∧ sco_38 = nI (pK tx tL (sP + 1)).2.2.2.1 ∧ nuo_38 = nI (pK tx tL (sP + 1)).2.2.2.2) := hw_38
      have hP : va_P D vwCl [((b 0), .inr (5, [.ref (b 1), .ref (b 2), .ref (b 3), .ref (b 4), .int (nI hL), .ref (b 5), .int (iK), .ref (b 6), .ref (b 7), .int (nI tL), .int (nI so_38), .int (nuo_38), .int (iS), .int (sN), .int (sR), .int ((nI (tx sP))), .int (fo_38), .int (sco_38)])), ((b 7), .inl (cI, 60, .inl t))] H := hP
      have hD : va_D A [((b 0), .inr (5, [.ref (b 1), .ref (b 2), .ref (b 3), .ref (b 4), .int (nI hL), .ref (b 5), .int (iK), .ref (b 6), .ref (b 7), .int (nI tL), .int (nI so_38), .int (nuo_38), .int (iS), .int (sN), .int (sR), .int ((nI (tx sP))), .int (fo_38), .int (sco_38)])), ((b 7), .inl (cI, 60, .inl t))] := hD
      obtain ⟨hr_38, hp_38, hq_38⟩ := hw_38
      subst hr_38
      subst hp_38
      exact kb_zret (D := D) hQ hx hb hr hlocks hK hP hD hS dX5_readsThing_41 (kb_b_n _) ((pK tx tL (sP + 1)).2.1, nuo_38, (nI (tx sP)), fo_38, sco_38) rfl (Nat.le_refl _) (Nat.le_refl _) (show (kb_b ((pK tx tL (sP + 1)).1)) = kb_b (pTh tx tL sP).1 ∧ ((pK tx tL (sP + 1)).2.1) = (pTh tx tL sP).2.1 ∧ ((pTh tx tL sP).1 = true → (nI (tx sP)) = nI (pTh tx tL sP).2.2.1 ∧ nuo_38 = nI (pTh tx tL sP).2.2.2.2.2 ∧ ((pTh tx tL sP).2.2.1 = 107 → fo_38 = nI (pTh tx tL sP).2.2.2.1 ∧ sco_38 = nI (pTh tx tL sP).2.2.2.2.1)) from ⟨by rw [pTh_k hs_31], by rw [pTh_k hs_31], fun q => by rw [pTh_k hs_31] at q ⊢; exact ⟨by first | exact congrArg nI ((cd_in (by omega)).symm.trans hs_31) | (exfalso; omega), (hq_38 q).2.2, fun _ => ⟨(hq_38 q).1, (hq_38 q).2.1⟩⟩⟩)
