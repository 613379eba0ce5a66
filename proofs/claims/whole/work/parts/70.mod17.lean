abbrev rmX5_ends : Room := { frames := 0, cells := 0, slots := 0, locals := 0 }
theorem hdX5_ends : yX5_ends.cls = RX5 ∧ yX5_ends.cls ≠ "java/lang/invoke/MethodHandle" ∧ yX5_ends.cls ≠ "java/lang/invoke/VarHandle" ∧ (parseMethodDescriptor yX5_ends.desc).map (fun d => d.parameters.length) = some 1 := by decide +kernel
theorem inwX5_ends_X5 : ∀ w ∈ wsX50, w ∈ wsX5_ends := fun w h => List.mem_cons_of_mem _ (List.mem_append_right _ h)
set_option maxHeartbeats 4000000 in
set_option maxRecDepth 100000 in
theorem c_X5_ends (l : Launch) (D : va_G) (cI : ClassId) (b : Nat → Nat) (hL : Nat) (iK : Int32) (tL : Nat) (sP : Nat) (nU : Int32) (iS : Int32) (sN : Int32) (sR : Int32) (lE : Int32) (fI : Int32) (sC : Int32) (v : Nat → Int32) (kv : Nat → Int32) (hs : Nat → Int32) (gd : Sg) (g : Sg) (hv : rV v gd) (hkv : rV kv g) (ho : Ok g) (h : Nat → Sg) (hm : mH hs hL h) (x : Int32) : kb_I (S := (Nat → Int32) × (Nat → Int32) × Nat) D [(cI, .int)] l yX5_ends wsX5_ends rmX5_ends [.ref (b 0), .int (x)] [((b 0), .inr (5, [.ref (b 1), .ref (b 2), .ref (b 3), .ref (b 4), .int (nI hL), .ref (b 5), .int (iK), .ref (b 6), .ref (b 7), .int (nI tL), .int (nI sP), .int (nU), .int (iS), .int (sN), .int (sR), .int (lE), .int (fI), .int (sC)])), ((b 1), .inl (cI, 217, .inl v)), ((b 2), .inl (cI, 217, .inl kv)), ((b 4), .inl (cI, 868, .inl hs))] (fun (r : Int32) (u : (Nat → Int32) × (Nat → Int32) × Nat) => r = x ∧ mQ x gd g h hL u.1 u.2.1 u.2.2) (fun (u : (Nat → Int32) × (Nat → Int32) × Nat) => [((b 0), .inr (5, [.ref (b 1), .ref (b 2), .ref (b 3), .ref (b 4), .int (nI u.2.2), .ref (b 5), .int (iK), .ref (b 6), .ref (b 7), .int (nI tL), .int (nI sP), .int (nU), .int (iS), .int (sN), .int (sR), .int (lE), .int (fI), .int (sC)])), ((b 1), .inl (cI, 217, .inl u.1)), ((b 2), .inl (cI, 217, .inl kv)), ((b 4), .inl (cI, 868, .inl u.2.1))]) 0 0 := by
  refine kb_I_of (cc := cX5_ends) (maxL := 3) (ret := (some .int)) (by decide) rfl (Nat.le_of_ble_eq_true rfl) ?_
  intro p e s mm args below meth c A hx hb hml hr hts hown hlocks hnm hA hN hK hP hD hS ls hl Q hQ
  have hl : lv_has ls 3 [(0, .ref (b 0)), (1, .int (x))] := hl
  have hP : va_P D vwCl [((b 0), .inr (5, [.ref (b 1), .ref (b 2), .ref (b 3), .ref (b 4), .int (nI hL), .ref (b 5), .int (iK), .ref (b 6), .ref (b 7), .int (nI tL), .int (nI sP), .int (nU), .int (iS), .int (sN), .int (sR), .int (lE), .int (fI), .int (sC)])), ((b 1), .inl (cI, 217, .inl v)), ((b 2), .inl (cI, 217, .inl kv)), ((b 4), .inl (cI, 868, .inl hs))] s.heap := hP
  have hD : va_D A [((b 0), .inr (5, [.ref (b 1), .ref (b 2), .ref (b 3), .ref (b 4), .int (nI hL), .ref (b 5), .int (iK), .ref (b 6), .ref (b 7), .int (nI tL), .int (nI sP), .int (nU), .int (iS), .int (sN), .int (sR), .int (lE), .int (fI), .int (sC)])), ((b 1), .inl (cI, 217, .inl v)), ((b 2), .inl (cI, 217, .inl kv)), ((b 4), .inl (cI, 868, .inl hs))] := hD
  have fl7 := hts (.fieldLink RX5 7 "KingsBanquetModel" "all" "[I") (by decide +kernel)
  have fl13 := hts (.fieldLink RX5 13 "KingsBanquetModel" "kept" "[I") (by decide +kernel)
  have fl31 := hts (.fieldLink RX5 31 "KingsBanquetModel" "historyLong" "I") (by decide +kernel)
  have fl19 := hts (.fieldLink RX5 19 "KingsBanquetModel" "history" "[I") (by decide +kernel)
  have hn := ho.n
  have hh4 := hm.1
  refine lv_iload_n hx hb dX5_ends_0 rfl (lv_at hl 1 rfl) ?_
  refine lv_if_ge (tgt := 33) hx hb dX5_ends_1 (by decide) (fun c1 => ?_) (fun c1 => ?_)
  · refine lv_aload_n hx hb dX5_ends_33 rfl (lv_at hl 0 rfl) ?_
    refine va_get (D := D) (ci := 5) (v := .int (nI hL)) (C := RX5) (T := TX5) (N := 18) hx hb hts inwX5_ends_X5 hown hK hP 0 rfl rfl 4 (by decide) fl31 (fun _ h9 => h9) rfl dX5_ends_34 ?_
    refine lv_iconst (v := nI 4) hx hb dX5_ends_37 (by decide) ?_
    refine kb_icmp_ne (tgt := 82) hx hb dX5_ends_38 (by decide) (by omega) (by omega) (fun c38 => ?_) (fun c38 => ?_)
    · refine lv_iconst (v := nI 0) hx hb dX5_ends_82 (by decide) ?_
      refine lv_istore_n (lv' := [(2, .int (nI 0)), (0, .ref (b 0)), (1, .int (x))]) hx hb dX5_ends_83 rfl hl (by decide) rfl (fun ls hl => ?_)
      have L_84 : ∀ (z : Nat) (i : Nat) (m : Nat) (hc2 : Nat → Int32), (i ≤ 217) → (m + 1 = pM hL ∧ pH h hL g m = g ∧ m < 4) → (∀ i, i < m → rV (fun j => hc2 (217 * i + j)) (pH h hL g i) ∧ Ok (pH h hL g i)) → (∀ j, j < i → hc2 (217 * m + j) = kv j) → (217 - i) < z → ∀ (H : Heap) (locs : List Loc), va_P D vwCl [((b 0), .inr (5, [.ref (b 1), .ref (b 2), .ref (b 3), .ref (b 4), .int (nI m), .ref (b 5), .int (iK), .ref (b 6), .ref (b 7), .int (nI tL), .int (nI sP), .int (nU), .int (iS), .int (sN), .int (sR), .int (lE), .int (fI), .int (sC)])), ((b 1), .inl (cI, 217, .inl v)), ((b 2), .inl (cI, 217, .inl kv)), ((b 4), .inl (cI, 868, .inl hc2))] H → va_D A [((b 0), .inr (5, [.ref (b 1), .ref (b 2), .ref (b 3), .ref (b 4), .int (nI m), .ref (b 5), .int (iK), .ref (b 6), .ref (b 7), .int (nI tL), .int (nI sP), .int (nU), .int (iS), .int (sN), .int (sR), .int (lE), .int (fI), .int (sC)])), ((b 1), .inl (cI, 217, .inl v)), ((b 2), .inl (cI, 217, .inl kv)), ((b 4), .inl (cI, 868, .inl hc2))] → va_S A s.heap H locs → ∀ ls : Array Slot, lv_has ls 3 [(2, .int (nI i)), (0, .ref (b 0)), (1, .int (x))] → W p l e rmX5_ends s mm args below meth c H locs 0 0 Q (F0 mm 84 ls []) := by
        intro z
        induction z with
        | zero =>
          intro i m hc2 _ _ _ _ hz
          exact absurd hz (Nat.not_lt_zero _)
        | succ z ih_84 =>
          intro i m hc2 hi2 hm1 hr1 hk1 hz H locs hP hD hS ls hl
          refine lv_iload_n hx hb dX5_ends_84 rfl (lv_at hl 0 rfl) ?_
          refine lv_sipush (v := nI 217) hx hb dX5_ends_85 (by decide) ?_
          refine kb_icmp_ge (tgt := 118) hx hb dX5_ends_88 (by decide) (by omega) (by omega) (fun c88 => ?_) (fun c88 => ?_)
          · refine lv_aload_n hx hb dX5_ends_118 rfl (lv_at hl 1 rfl) ?_
            refine lv_dup hx hb dX5_ends_119 rfl ?_
            refine va_get (D := D) (ci := 5) (v := .int (nI m)) (C := RX5) (T := TX5) (N := 18) hx hb hts inwX5_ends_X5 hown hK hP 0 rfl rfl 4 (by decide) fl31 (fun _ h9 => h9) rfl dX5_ends_120 ?_
            refine lv_iconst (v := nI 1) hx hb dX5_ends_123 (by decide) ?_
            refine lv_iadd hx hb dX5_ends_124 ?_
            refine kb_top (nI (m + 1)) (nI_add m 1) ?_
            refine va_put (D := D) (ci := 5) (v := .int (nI (m + 1))) (ty := .int) (C := RX5) (T := TX5) (N := 18) hx hb hts inwX5_ends_X5 tyX5 tyX5_ok nmX5 hown hK hP hD hS 0 rfl rfl 4 (by decide) fl31 (fun _ h9 => h9) rfl (by decide +kernel) rfl rfl (Nat.le_of_ble_eq_true rfl) dX5_ends_125 (fun H locs hP hD hS => ?_)
            have hP : va_P D vwCl [((b 0), .inr (5, [.ref (b 1), .ref (b 2), .ref (b 3), .ref (b 4), .int (nI (m + 1)), .ref (b 5), .int (iK), .ref (b 6), .ref (b 7), .int (nI tL), .int (nI sP), .int (nU), .int (iS), .int (sN), .int (sR), .int (lE), .int (fI), .int (sC)])), ((b 1), .inl (cI, 217, .inl v)), ((b 2), .inl (cI, 217, .inl kv)), ((b 4), .inl (cI, 868, .inl hc2))] H := hP
            have hD : va_D A [((b 0), .inr (5, [.ref (b 1), .ref (b 2), .ref (b 3), .ref (b 4), .int (nI (m + 1)), .ref (b 5), .int (iK), .ref (b 6), .ref (b 7), .int (nI tL), .int (nI sP), .int (nU), .int (iS), .int (sN), .int (sR), .int (lE), .int (fI), .int (sC)])), ((b 1), .inl (cI, 217, .inl v)), ((b 2), .inl (cI, 217, .inl kv)), ((b 4), .inl (cI, 868, .inl hc2))] := hD
            refine lv_iload_n hx hb dX5_ends_128 rfl (lv_at hl 2 rfl) ?_
            exact kb_iret (D := D) hQ hx hb hr hlocks hK hP hD hS dX5_ends_129 (v, hc2, m + 1) rfl (Nat.le_refl _) (Nat.le_refl _) (show x = x ∧ mQ x gd g h hL v hc2 (m + 1) from ⟨rfl, mQ_y (Int32.not_lt.mpr c1) hv hm1.1 (sh_e hm1 ho hr1 hk1 (by omega) hkv)⟩)
          · refine lv_aload_n hx hb dX5_ends_91 rfl (lv_at hl 1 rfl) ?_
            refine va_get (D := D) (ci := 5) (v := .ref (b 4)) (C := RX5) (T := TX5) (N := 18) hx hb hts inwX5_ends_X5 hown hK hP 0 rfl rfl 3 (by decide) fl19 (fun _ h9 => h9) rfl dX5_ends_92 ?_
            refine lv_sipush (v := nI 217) hx hb dX5_ends_95 (by decide) ?_
            refine lv_aload_n hx hb dX5_ends_98 rfl (lv_at hl 1 rfl) ?_
            refine va_get (D := D) (ci := 5) (v := .int (nI m)) (C := RX5) (T := TX5) (N := 18) hx hb hts inwX5_ends_X5 hown hK hP 0 rfl rfl 4 (by decide) fl31 (fun _ h9 => h9) rfl dX5_ends_99 ?_
            refine lv_imul hx hb dX5_ends_102 ?_
            refine kb_top (nI (217 * m)) (pk_mul 217 m) ?_
            refine lv_iload_n hx hb dX5_ends_103 rfl (lv_at hl 0 rfl) ?_
            refine lv_iadd hx hb dX5_ends_104 ?_
            refine kb_top (nI (217 * m + i)) (nI_add (217 * m) i) ?_
            refine lv_aload_n hx hb dX5_ends_105 rfl (lv_at hl 1 rfl) ?_
            refine va_get (D := D) (ci := 5) (v := .ref (b 2)) (C := RX5) (T := TX5) (N := 18) hx hb hts inwX5_ends_X5 hown hK hP 0 rfl rfl 1 (by decide) fl13 (fun _ h9 => h9) rfl dX5_ends_106 ?_
            refine lv_iload_n hx hb dX5_ends_109 rfl (lv_at hl 0 rfl) ?_
            refine kb_iald hx hb hK hP 2 0 rfl rfl (by decide) (by omega) dX5_ends_110 ?_
            refine kb_iast hx hb hK hP hD hS 3 0 rfl rfl (by decide) (by omega) dX5_ends_111 (fun H locs hP hD hS => ?_)
            have hP : va_P D vwCl [((b 0), .inr (5, [.ref (b 1), .ref (b 2), .ref (b 3), .ref (b 4), .int (nI m), .ref (b 5), .int (iK), .ref (b 6), .ref (b 7), .int (nI tL), .int (nI sP), .int (nU), .int (iS), .int (sN), .int (sR), .int (lE), .int (fI), .int (sC)])), ((b 1), .inl (cI, 217, .inl v)), ((b 2), .inl (cI, 217, .inl kv)), ((b 4), .inl (cI, 868, .inl (upd hc2 (217 * m + i) (kv i))))] H := hP
            have hD : va_D A [((b 0), .inr (5, [.ref (b 1), .ref (b 2), .ref (b 3), .ref (b 4), .int (nI m), .ref (b 5), .int (iK), .ref (b 6), .ref (b 7), .int (nI tL), .int (nI sP), .int (nU), .int (iS), .int (sN), .int (sR), .int (lE), .int (fI), .int (sC)])), ((b 1), .inl (cI, 217, .inl v)), ((b 2), .inl (cI, 217, .inl kv)), ((b 4), .inl (cI, 868, .inl (upd hc2 (217 * m + i) (kv i))))] := hD
            refine lv_iinc (v := nI (i + 1)) (lv' := [(2, .int (nI (i + 1))), (0, .ref (b 0)), (1, .int (x))]) hx hb dX5_ends_112 hl (k := 0) rfl (kb_inc1 i) (by decide) rfl (fun ls hl => ?_)
            refine lv_goto (tgt := 84) hx hb dX5_ends_115 (by decide) ?_
            exact ih_84 (i + 1) m (upd hc2 (217 * m + i) (kv i)) (by omega) (by omega) (sh_r hr1) (sh_k hk1) (by omega) _ _ hP hD hS _ (lv_sub hl [0, 1, 2] rfl)
      exact L_84 ((217 - 0) + 1) 0 hL hs (by omega) (by first | exact sh_m0 hm c38 | exact sh_m1 c38) (by first | exact sh_0 hm c38 | exact sh_1 hm c38 (fun j hj => hA1 j (by omega))) (fun j h => absurd h (Nat.not_lt_zero j)) (Nat.lt_succ_self _) _ _ hP hD hS _ (lv_sub hl [0, 1, 2] rfl)
    · refine lv_iconst (v := nI 0) hx hb dX5_ends_41 (by decide) ?_
      refine lv_istore_n (lv' := [(2, .int (nI 0)), (0, .ref (b 0)), (1, .int (x))]) hx hb dX5_ends_42 rfl hl (by decide) rfl (fun ls hl => ?_)
      have L_43 : ∀ (z : Nat) (i : Nat) (hc1 : Nat → Int32), (i ≤ 651) → (∀ j, j < i → hc1 j = hs (j + 217)) → (∀ j, i ≤ j → hc1 j = hs j) → (651 - i) < z → ∀ (H : Heap) (locs : List Loc), va_P D vwCl [((b 0), .inr (5, [.ref (b 1), .ref (b 2), .ref (b 3), .ref (b 4), .int (nI hL), .ref (b 5), .int (iK), .ref (b 6), .ref (b 7), .int (nI tL), .int (nI sP), .int (nU), .int (iS), .int (sN), .int (sR), .int (lE), .int (fI), .int (sC)])), ((b 1), .inl (cI, 217, .inl v)), ((b 2), .inl (cI, 217, .inl kv)), ((b 4), .inl (cI, 868, .inl hc1))] H → va_D A [((b 0), .inr (5, [.ref (b 1), .ref (b 2), .ref (b 3), .ref (b 4), .int (nI hL), .ref (b 5), .int (iK), .ref (b 6), .ref (b 7), .int (nI tL), .int (nI sP), .int (nU), .int (iS), .int (sN), .int (sR), .int (lE), .int (fI), .int (sC)])), ((b 1), .inl (cI, 217, .inl v)), ((b 2), .inl (cI, 217, .inl kv)), ((b 4), .inl (cI, 868, .inl hc1))] → va_S A s.heap H locs → ∀ ls : Array Slot, lv_has ls 3 [(2, .int (nI i)), (0, .ref (b 0)), (1, .int (x))] → W p l e rmX5_ends s mm args below meth c H locs 0 0 Q (F0 mm 43 ls []) := by
        intro z
        induction z with
        | zero =>
          intro i hc1 _ _ _ hz
          exact absurd hz (Nat.not_lt_zero _)
        | succ z ih_43 =>
          intro i hc1 hi hA1 hB1 hz H locs hP hD hS ls hl
          refine lv_iload_n hx hb dX5_ends_43 rfl (lv_at hl 0 rfl) ?_
          refine lv_sipush (v := nI 651) hx hb dX5_ends_44 (by decide) ?_
          refine kb_icmp_ge (tgt := 72) hx hb dX5_ends_47 (by decide) (by omega) (by omega) (fun c47 => ?_) (fun c47 => ?_)
          · refine lv_aload_n hx hb dX5_ends_72 rfl (lv_at hl 1 rfl) ?_
            refine lv_dup hx hb dX5_ends_73 rfl ?_
            refine va_get (D := D) (ci := 5) (v := .int (nI hL)) (C := RX5) (T := TX5) (N := 18) hx hb hts inwX5_ends_X5 hown hK hP 0 rfl rfl 4 (by decide) fl31 (fun _ h9 => h9) rfl dX5_ends_74 ?_
            refine lv_iconst (v := nI 1) hx hb dX5_ends_77 (by decide) ?_
            refine lv_isub hx hb dX5_ends_78 ?_
            refine kb_top (nI (hL - 1)) (pk_sub (by omega)) ?_
            refine va_put (D := D) (ci := 5) (v := .int (nI (hL - 1))) (ty := .int) (C := RX5) (T := TX5) (N := 18) hx hb hts inwX5_ends_X5 tyX5 tyX5_ok nmX5 hown hK hP hD hS 0 rfl rfl 4 (by decide) fl31 (fun _ h9 => h9) rfl (by decide +kernel) rfl rfl (Nat.le_of_ble_eq_true rfl) dX5_ends_79 (fun H locs hP hD hS => ?_)
            have hP : va_P D vwCl [((b 0), .inr (5, [.ref (b 1), .ref (b 2), .ref (b 3), .ref (b 4), .int (nI (hL - 1)), .ref (b 5), .int (iK), .ref (b 6), .ref (b 7), .int (nI tL), .int (nI sP), .int (nU), .int (iS), .int (sN), .int (sR), .int (lE), .int (fI), .int (sC)])), ((b 1), .inl (cI, 217, .inl v)), ((b 2), .inl (cI, 217, .inl kv)), ((b 4), .inl (cI, 868, .inl hc1))] H := hP
            have hD : va_D A [((b 0), .inr (5, [.ref (b 1), .ref (b 2), .ref (b 3), .ref (b 4), .int (nI (hL - 1)), .ref (b 5), .int (iK), .ref (b 6), .ref (b 7), .int (nI tL), .int (nI sP), .int (nU), .int (iS), .int (sN), .int (sR), .int (lE), .int (fI), .int (sC)])), ((b 1), .inl (cI, 217, .inl v)), ((b 2), .inl (cI, 217, .inl kv)), ((b 4), .inl (cI, 868, .inl hc1))] := hD
            refine lv_iconst (v := nI 0) hx hb dX5_ends_82 (by decide) ?_
            refine lv_istore_n (lv' := [(2, .int (nI 0)), (0, .ref (b 0)), (1, .int (x))]) hx hb dX5_ends_83 rfl hl (by decide) rfl (fun ls hl => ?_)
            have L_84 : ∀ (z : Nat) (i : Nat) (m : Nat) (hc2 : Nat → Int32), (i ≤ 217) → (m + 1 = pM hL ∧ pH h hL g m = g ∧ m < 4) → (∀ i, i < m → rV (fun j => hc2 (217 * i + j)) (pH h hL g i) ∧ Ok (pH h hL g i)) → (∀ j, j < i → hc2 (217 * m + j) = kv j) → (217 - i) < z → ∀ (H : Heap) (locs : List Loc), va_P D vwCl [((b 0), .inr (5, [.ref (b 1), .ref (b 2), .ref (b 3), .ref (b 4), .int (nI m), .ref (b 5), .int (iK), .ref (b 6), .ref (b 7), .int (nI tL), .int (nI sP), .int (nU), .int (iS), .int (sN), .int (sR), .int (lE), .int (fI), .int (sC)])), ((b 1), .inl (cI, 217, .inl v)), ((b 2), .inl (cI, 217, .inl kv)), ((b 4), .inl (cI, 868, .inl hc2))] H → va_D A [((b 0), .inr (5, [.ref (b 1), .ref (b 2), .ref (b 3), .ref (b 4), .int (nI m), .ref (b 5), .int (iK), .ref (b 6), .ref (b 7), .int (nI tL), .int (nI sP), .int (nU), .int (iS), .int (sN), .int (sR), .int (lE), .int (fI), .int (sC)])), ((b 1), .inl (cI, 217, .inl v)), ((b 2), .inl (cI, 217, .inl kv)), ((b 4), .inl (cI, 868, .inl hc2))] → va_S A s.heap H locs → ∀ ls : Array Slot, lv_has ls 3 [(2, .int (nI i)), (0, .ref (b 0)), (1, .int (x))] → W p l e rmX5_ends s mm args below meth c H locs 0 0 Q (F0 mm 84 ls []) := by
              intro z
              induction z with
              | zero =>
                intro i m hc2 _ _ _ _ hz
                exact absurd hz (Nat.not_lt_zero _)
              | succ z ih_84 =>
                intro i m hc2 hi2 hm1 hr1 hk1 hz H locs hP hD hS ls hl
                refine lv_iload_n hx hb dX5_ends_84 rfl (lv_at hl 0 rfl) ?_
                refine lv_sipush (v := nI 217) hx hb dX5_ends_85 (by decide) ?_
                refine kb_icmp_ge (tgt := 118) hx hb dX5_ends_88 (by decide) (by omega) (by omega) (fun c88 => ?_) (fun c88 => ?_)
                · refine lv_aload_n hx hb dX5_ends_118 rfl (lv_at hl 1 rfl) ?_
                  refine lv_dup hx hb dX5_ends_119 rfl ?_
                  refine va_get (D := D) (ci := 5) (v := .int (nI m)) (C := RX5) (T := TX5) (N := 18) hx hb hts inwX5_ends_X5 hown hK hP 0 rfl rfl 4 (by decide) fl31 (fun _ h9 => h9) rfl dX5_ends_120 ?_
                  refine lv_iconst (v := nI 1) hx hb dX5_ends_123 (by decide) ?_
                  refine lv_iadd hx hb dX5_ends_124 ?_
                  refine kb_top (nI (m + 1)) (nI_add m 1) ?_
                  refine va_put (D := D) (ci := 5) (v := .int (nI (m + 1))) (ty := .int) (C := RX5) (T := TX5) (N := 18) hx hb hts inwX5_ends_X5 tyX5 tyX5_ok nmX5 hown hK hP hD hS 0 rfl rfl 4 (by decide) fl31 (fun _ h9 => h9) rfl (by decide +kernel) rfl rfl (Nat.le_of_ble_eq_true rfl) dX5_ends_125 (fun H locs hP hD hS => ?_)
                  have hP : va_P D vwCl [((b 0), .inr (5, [.ref (b 1), .ref (b 2), .ref (b 3), .ref (b 4), .int (nI (m + 1)), .ref (b 5), .int (iK), .ref (b 6), .ref (b 7), .int (nI tL), .int (nI sP), .int (nU), .int (iS), .int (sN), .int (sR), .int (lE), .int (fI), .int (sC)])), ((b 1), .inl (cI, 217, .inl v)), ((b 2), .inl (cI, 217, .inl kv)), ((b 4), .inl (cI, 868, .inl hc2))] H := hP
                  have hD : va_D A [((b 0), .inr (5, [.ref (b 1), .ref (b 2), .ref (b 3), .ref (b 4), .int (nI (m + 1)), .ref (b 5), .int (iK), .ref (b 6), .ref (b 7), .int (nI tL), .int (nI sP), .int (nU), .int (iS), .int (sN), .int (sR), .int (lE), .int (fI), .int (sC)])), ((b 1), .inl (cI, 217, .inl v)), ((b 2), .inl (cI, 217, .inl kv)), ((b 4), .inl (cI, 868, .inl hc2))] := hD
                  refine lv_iload_n hx hb dX5_ends_128 rfl (lv_at hl 2 rfl) ?_
                  exact kb_iret (D := D) hQ hx hb hr hlocks hK hP hD hS dX5_ends_129 (v, hc2, m + 1) rfl (Nat.le_refl _) (Nat.le_refl _) (show x = x ∧ mQ x gd g h hL v hc2 (m + 1) from ⟨rfl, mQ_y (Int32.not_lt.mpr c1) hv hm1.1 (sh_e hm1 ho hr1 hk1 (by omega) hkv)⟩)
                · refine lv_aload_n hx hb dX5_ends_91 rfl (lv_at hl 1 rfl) ?_
                  refine va_get (D := D) (ci := 5) (v := .ref (b 4)) (C := RX5) (T := TX5) (N := 18) hx hb hts inwX5_ends_X5 hown hK hP 0 rfl rfl 3 (by decide) fl19 (fun _ h9 => h9) rfl dX5_ends_92 ?_
                  refine lv_sipush (v := nI 217) hx hb dX5_ends_95 (by decide) ?_
                  refine lv_aload_n hx hb dX5_ends_98 rfl (lv_at hl 1 rfl) ?_
                  refine va_get (D := D) (ci := 5) (v := .int (nI m)) (C := RX5) (T := TX5) (N := 18) hx hb hts inwX5_ends_X5 hown hK hP 0 rfl rfl 4 (by decide) fl31 (fun _ h9 => h9) rfl dX5_ends_99 ?_
                  refine lv_imul hx hb dX5_ends_102 ?_
                  refine kb_top (nI (217 * m)) (pk_mul 217 m) ?_
                  refine lv_iload_n hx hb dX5_ends_103 rfl (lv_at hl 0 rfl) ?_
                  refine lv_iadd hx hb dX5_ends_104 ?_
                  refine kb_top (nI (217 * m + i)) (nI_add (217 * m) i) ?_
                  refine lv_aload_n hx hb dX5_ends_105 rfl (lv_at hl 1 rfl) ?_
                  refine va_get (D := D) (ci := 5) (v := .ref (b 2)) (C := RX5) (T := TX5) (N := 18) hx hb hts inwX5_ends_X5 hown hK hP 0 rfl rfl 1 (by decide) fl13 (fun _ h9 => h9) rfl dX5_ends_106 ?_
                  refine lv_iload_n hx hb dX5_ends_109 rfl (lv_at hl 0 rfl) ?_
                  refine kb_iald hx hb hK hP 2 0 rfl rfl (by decide) (by omega) dX5_ends_110 ?_
                  refine kb_iast hx hb hK hP hD hS 3 0 rfl rfl (by decide) (by omega) dX5_ends_111 (fun H locs hP hD hS => ?_)
                  have hP : va_P D vwCl [((b 0), .inr (5, [.ref (b 1), .ref (b 2), .ref (b 3), .ref (b 4), .int (nI m), .ref (b 5), .int (iK), .ref (b 6), .ref (b 7), .int (nI tL), .int (nI sP), .int (nU), .int (iS), .int (sN), .int (sR), .int (lE), .int (fI), .int (sC)])), ((b 1), .inl (cI, 217, .inl v)), ((b 2), .inl (cI, 217, .inl kv)), ((b 4), .inl (cI, 868, .inl (upd hc2 (217 * m + i) (kv i))))] H := hP
                  have hD : va_D A [((b 0), .inr (5, [.ref (b 1), .ref (b 2), .ref (b 3), .ref (b 4), .int (nI m), .ref (b 5), .int (iK), .ref (b 6), .ref (b 7), .int (nI tL), .int (nI sP), .int (nU), .int (iS), .int (sN), .int (sR), .int (lE), .int (fI), .int (sC)])), ((b 1), .inl (cI, 217, .inl v)), ((b 2), .inl (cI, 217, .inl kv)), ((b 4), .inl (cI, 868, .inl (upd hc2 (217 * m + i) (kv i))))] := hD
                  refine lv_iinc (v := nI (i + 1)) (lv' := [(2, .int (nI (i + 1))), (0, .ref (b 0)), (1, .int (x))]) hx hb dX5_ends_112 hl (k := 0) rfl (kb_inc1 i) (by decide) rfl (fun ls hl => ?_)
                  refine lv_goto (tgt := 84) hx hb dX5_ends_115 (by decide) ?_
                  exact ih_84 (i + 1) m (upd hc2 (217 * m + i) (kv i)) (by omega) (by omega) (sh_r hr1) (sh_k hk1) (by omega) _ _ hP hD hS _ (lv_sub hl [0, 1, 2] rfl)
            exact L_84 ((217 - 0) + 1) 0 (hL - 1) hc1 (by omega) (by first | exact sh_m0 hm c38 | exact sh_m1 c38) (by first | exact sh_0 hm c38 | exact sh_1 hm c38 (fun j hj => hA1 j (by omega))) (fun j h => absurd h (Nat.not_lt_zero j)) (Nat.lt_succ_self _) _ _ hP hD hS _ (lv_sub hl [0, 1, 2] rfl)
          · refine lv_aload_n hx hb dX5_ends_50 rfl (lv_at hl 1 rfl) ?_
            refine va_get (D := D) (ci := 5) (v := .ref (b 4)) (C := RX5) (T := TX5) (N := 18) hx hb hts inwX5_ends_X5 hown hK hP 0 rfl rfl 3 (by decide) fl19 (fun _ h9 => h9) rfl dX5_ends_51 ?_
            refine lv_iload_n hx hb dX5_ends_54 rfl (lv_at hl 0 rfl) ?_
            refine lv_aload_n hx hb dX5_ends_55 rfl (lv_at hl 1 rfl) ?_
            refine va_get (D := D) (ci := 5) (v := .ref (b 4)) (C := RX5) (T := TX5) (N := 18) hx hb hts inwX5_ends_X5 hown hK hP 0 rfl rfl 3 (by decide) fl19 (fun _ h9 => h9) rfl dX5_ends_56 ?_
            refine lv_iload_n hx hb dX5_ends_59 rfl (lv_at hl 0 rfl) ?_
            refine lv_sipush (v := nI 217) hx hb dX5_ends_60 (by decide) ?_
            refine lv_iadd hx hb dX5_ends_63 ?_
            refine kb_top (nI (i + 217)) (nI_add i 217) ?_
            refine kb_iald hx hb hK hP 3 0 rfl rfl (by decide) (by omega) dX5_ends_64 ?_
            refine kb_iast hx hb hK hP hD hS 3 0 rfl rfl (by decide) (by omega) dX5_ends_65 (fun H locs hP hD hS => ?_)
            have hP : va_P D vwCl [((b 0), .inr (5, [.ref (b 1), .ref (b 2), .ref (b 3), .ref (b 4), .int (nI hL), .ref (b 5), .int (iK), .ref (b 6), .ref (b 7), .int (nI tL), .int (nI sP), .int (nU), .int (iS), .int (sN), .int (sR), .int (lE), .int (fI), .int (sC)])), ((b 1), .inl (cI, 217, .inl v)), ((b 2), .inl (cI, 217, .inl kv)), ((b 4), .inl (cI, 868, .inl (upd hc1 i (hc1 (i + 217)))))] H := hP
            have hD : va_D A [((b 0), .inr (5, [.ref (b 1), .ref (b 2), .ref (b 3), .ref (b 4), .int (nI hL), .ref (b 5), .int (iK), .ref (b 6), .ref (b 7), .int (nI tL), .int (nI sP), .int (nU), .int (iS), .int (sN), .int (sR), .int (lE), .int (fI), .int (sC)])), ((b 1), .inl (cI, 217, .inl v)), ((b 2), .inl (cI, 217, .inl kv)), ((b 4), .inl (cI, 868, .inl (upd hc1 i (hc1 (i + 217)))))] := hD
            refine lv_iinc (v := nI (i + 1)) (lv' := [(2, .int (nI (i + 1))), (0, .ref (b 0)), (1, .int (x))]) hx hb dX5_ends_66 hl (k := 0) rfl (kb_inc1 i) (by decide) rfl (fun ls hl => ?_)
            refine lv_goto (tgt := 43) hx hb dX5_ends_69 (by decide) ?_
            exact ih_43 (i + 1) (upd hc1 i (hc1 (i + 217))) (by omega) (sh_A hA1 hB1) (sh_B hB1) (by omega) _ _ hP hD hS _ (lv_sub hl [0, 1, 2] rfl)
      exact L_43 ((651 - 0) + 1) 0 hs (by omega) (fun j h => absurd h (Nat.not_lt_zero j)) (fun j _ => rfl) (Nat.lt_succ_self _) _ _ hP hD hS _ (lv_sub hl [0, 1, 2] rfl)
  · refine lv_iconst (v := nI 0) hx hb dX5_ends_4 (by decide) ?_
    refine lv_istore_n (lv' := [(2, .int (nI 0)), (0, .ref (b 0)), (1, .int (x))]) hx hb dX5_ends_5 rfl hl (by decide) rfl (fun ls hl => ?_)
    have L_6 : ∀ (z : Nat) (i : Nat) (vc : Nat → Int32), (i ≤ 217) → (∀ j, j < i → vc j = kv j) → (217 - i) < z → ∀ (H : Heap) (locs : List Loc), va_P D vwCl [((b 0), .inr (5, [.ref (b 1), .ref (b 2), .ref (b 3), .ref (b 4), .int (nI hL), .ref (b 5), .int (iK), .ref (b 6), .ref (b 7), .int (nI tL), .int (nI sP), .int (nU), .int (iS), .int (sN), .int (sR), .int (lE), .int (fI), .int (sC)])), ((b 1), .inl (cI, 217, .inl vc)), ((b 2), .inl (cI, 217, .inl kv)), ((b 4), .inl (cI, 868, .inl hs))] H → va_D A [((b 0), .inr (5, [.ref (b 1), .ref (b 2), .ref (b 3), .ref (b 4), .int (nI hL), .ref (b 5), .int (iK), .ref (b 6), .ref (b 7), .int (nI tL), .int (nI sP), .int (nU), .int (iS), .int (sN), .int (sR), .int (lE), .int (fI), .int (sC)])), ((b 1), .inl (cI, 217, .inl vc)), ((b 2), .inl (cI, 217, .inl kv)), ((b 4), .inl (cI, 868, .inl hs))] → va_S A s.heap H locs → ∀ ls : Array Slot, lv_has ls 3 [(2, .int (nI i)), (0, .ref (b 0)), (1, .int (x))] → W p l e rmX5_ends s mm args below meth c H locs 0 0 Q (F0 mm 6 ls []) := by
      intro z
      induction z with
      | zero =>
        intro i vc _ _ hz
        exact absurd hz (Nat.not_lt_zero _)
      | succ z ih_6 =>
        intro i vc hi hc hz H locs hP hD hS ls hl
        refine lv_iload_n hx hb dX5_ends_6 rfl (lv_at hl 0 rfl) ?_
        refine lv_sipush (v := nI 217) hx hb dX5_ends_7 (by decide) ?_
        refine kb_icmp_ge (tgt := 31) hx hb dX5_ends_10 (by decide) (by omega) (by omega) (fun c10 => ?_) (fun c10 => ?_)
        · refine lv_iload_n hx hb dX5_ends_31 rfl (lv_at hl 2 rfl) ?_
          exact kb_iret (D := D) hQ hx hb hr hlocks hK hP hD hS dX5_ends_32 (vc, hs, hL) rfl (Nat.le_refl _) (Nat.le_refl _) (show x = x ∧ mQ x gd g h hL vc hs hL from ⟨rfl, mQ_n (Int32.not_le.mp c1) (hkv.of (fun j hj => hc j (by omega)) hn.2.1 hn.2.2) hm⟩)
        · refine lv_aload_n hx hb dX5_ends_13 rfl (lv_at hl 1 rfl) ?_
          refine va_get (D := D) (ci := 5) (v := .ref (b 1)) (C := RX5) (T := TX5) (N := 18) hx hb hts inwX5_ends_X5 hown hK hP 0 rfl rfl 0 (by decide) fl7 (fun _ h9 => h9) rfl dX5_ends_14 ?_
          refine lv_iload_n hx hb dX5_ends_17 rfl (lv_at hl 0 rfl) ?_
          refine lv_aload_n hx hb dX5_ends_18 rfl (lv_at hl 1 rfl) ?_
          refine va_get (D := D) (ci := 5) (v := .ref (b 2)) (C := RX5) (T := TX5) (N := 18) hx hb hts inwX5_ends_X5 hown hK hP 0 rfl rfl 1 (by decide) fl13 (fun _ h9 => h9) rfl dX5_ends_19 ?_
          refine lv_iload_n hx hb dX5_ends_22 rfl (lv_at hl 0 rfl) ?_
          refine kb_iald hx hb hK hP 2 0 rfl rfl (by decide) (by omega) dX5_ends_23 ?_
          refine kb_iast hx hb hK hP hD hS 1 0 rfl rfl (by decide) (by omega) dX5_ends_24 (fun H locs hP hD hS => ?_)
          have hP : va_P D vwCl [((b 0), .inr (5, [.ref (b 1), .ref (b 2), .ref (b 3), .ref (b 4), .int (nI hL), .ref (b 5), .int (iK), .ref (b 6), .ref (b 7), .int (nI tL), .int (nI sP), .int (nU), .int (iS), .int (sN), .int (sR), .int (lE), .int (fI), .int (sC)])), ((b 1), .inl (cI, 217, .inl (upd vc i (kv i)))), ((b 2), .inl (cI, 217, .inl kv)), ((b 4), .inl (cI, 868, .inl hs))] H := hP
          have hD : va_D A [((b 0), .inr (5, [.ref (b 1), .ref (b 2), .ref (b 3), .ref (b 4), .int (nI hL), .ref (b 5), .int (iK), .ref (b 6), .ref (b 7), .int (nI tL), .int (nI sP), .int (nU), .int (iS), .int (sN), .int (sR), .int (lE), .int (fI), .int (sC)])), ((b 1), .inl (cI, 217, .inl (upd vc i (kv i)))), ((b 2), .inl (cI, 217, .inl kv)), ((b 4), .inl (cI, 868, .inl hs))] := hD
          refine lv_iinc (v := nI (i + 1)) (lv' := [(2, .int (nI (i + 1))), (0, .ref (b 0)), (1, .int (x))]) hx hb dX5_ends_25 hl (k := 0) rfl (kb_inc1 i) (by decide) rfl (fun ls hl => ?_)
          refine lv_goto (tgt := 6) hx hb dX5_ends_28 (by decide) ?_
          exact ih_6 (i + 1) (upd vc i (kv i)) (by omega) (cpy hc) (by omega) _ _ hP hD hS _ (lv_sub hl [0, 1, 2] rfl)
    exact L_6 ((217 - 0) + 1) 0 v (by omega) (fun j h => absurd h (Nat.not_lt_zero j)) (Nat.lt_succ_self _) _ _ hP hD hS _ (lv_sub hl [0, 1, 2] rfl)
abbrev rmX5_announce : Room := { frames := 2, cells := 0, slots := 0, locals := 49 }
theorem hdX5_announce : yX5_announce.cls = RX5 ∧ yX5_announce.cls ≠ "java/lang/invoke/MethodHandle" ∧ yX5_announce.cls ≠ "java/lang/invoke/VarHandle" ∧ (parseMethodDescriptor yX5_announce.desc).map (fun d => d.parameters.length) = some 3 := by decide +kernel
theorem inwX5_announce_X5 : ∀ w ∈ wsX50, w ∈ wsX5_announce := fun w h => List.mem_cons_of_mem _ (List.mem_append_right _ h)
set_option maxHeartbeats 4000000 in
set_option maxRecDepth 100000 in
theorem c_X5_announce (l : Launch) (D : va_G) (cI : ClassId) (b : Nat → Nat) (hL : Nat) (iK : Int32) (tL : Nat) (sP : Nat) (nU : Int32) (iS : Int32) (sN : Int32) (sR : Int32) (lE : Int32) (fI : Int32) (sC : Int32) (v : Nat → Int32) (g : Sg) (hv : rV v g) (ho : Ok g) (kv : Nat → Int32) (hs : Nat → Int32) (h : Nat → Sg) (hm : mH hs hL h) (x : Int32) (y : Int32) (m : Int32) : kb_I (S := (Nat → Int32) × (Nat → Int32) × (Nat → Int32) × Nat) D [(cI, .int)] l yX5_announce wsX5_announce rmX5_announce [.ref (b 0), .int (x), .int (y), .int (m)] [((b 0), .inr (5, [.ref (b 1), .ref (b 2), .ref (b 3), .ref (b 4), .int (nI hL), .ref (b 5), .int (iK), .ref (b 6), .ref (b 7), .int (nI tL), .int (nI sP), .int (nU), .int (iS), .int (sN), .int (sR), .int (lE), .int (fI), .int (sC)])), ((b 1), .inl (cI, 217, .inl v)), ((b 2), .inl (cI, 217, .inl kv)), ((b 4), .inl (cI, 868, .inl hs))] (fun (r : Int32) (u : (Nat → Int32) × (Nat → Int32) × (Nat → Int32) × Nat) => r = (opA g x y m).1 ∧ mQ (opA g x y m).1 (opA g x y m).2 g h hL u.1 u.2.2.1 u.2.2.2) (fun (u : (Nat → Int32) × (Nat → Int32) × (Nat → Int32) × Nat) => [((b 0), .inr (5, [.ref (b 1), .ref (b 2), .ref (b 3), .ref (b 4), .int (nI u.2.2.2), .ref (b 5), .int (iK), .ref (b 6), .ref (b 7), .int (nI tL), .int (nI sP), .int (nU), .int (iS), .int (sN), .int (sR), .int (lE), .int (fI), .int (sC)])), ((b 1), .inl (cI, 217, .inl u.1)), ((b 2), .inl (cI, 217, .inl u.2.1)), ((b 4), .inl (cI, 868, .inl u.2.2.1))]) 0 0 := by
  refine kb_I_of (cc := cX5_announce) (maxL := 4) (ret := (some .int)) (by decide) rfl (Nat.le_of_ble_eq_true rfl) ?_
  intro p e s mm args below meth c A hx hb hml hr hts hown hlocks hnm hA hN hK hP hD hS ls hl Q hQ
  have hl : lv_has ls 4 [(0, .ref (b 0)), (1, .int (x)), (2, .int (y)), (3, .int (m))] := hl
  have hP : va_P D vwCl [((b 0), .inr (5, [.ref (b 1), .ref (b 2), .ref (b 3), .ref (b 4), .int (nI hL), .ref (b 5), .int (iK), .ref (b 6), .ref (b 7), .int (nI tL), .int (nI sP), .int (nU), .int (iS), .int (sN), .int (sR), .int (lE), .int (fI), .int (sC)])), ((b 1), .inl (cI, 217, .inl v)), ((b 2), .inl (cI, 217, .inl kv)), ((b 4), .inl (cI, 868, .inl hs))] s.heap := hP
  have hD : va_D A [((b 0), .inr (5, [.ref (b 1), .ref (b 2), .ref (b 3), .ref (b 4), .int (nI hL), .ref (b 5), .int (iK), .ref (b 6), .ref (b 7), .int (nI tL), .int (nI sP), .int (nU), .int (iS), .int (sN), .int (sR), .int (lE), .int (fI), .int (sC)])), ((b 1), .inl (cI, 217, .inl v)), ((b 2), .inl (cI, 217, .inl kv)), ((b 4), .inl (cI, 868, .inl hs))] := hD
  have hn := ho.n
  refine lv_aload_n hx hb dX5_announce_0 rfl (lv_at hl 0 rfl) ?_
  refine kb_vV (As := []) (rest := []) hx hb hml hts hown hN hK hP hD hS hA (c_X5_keeps l D cI b hL iK tL sP nU iS sN sR lE fI sC v kv) gX5_announce_X5_keeps rfl ⟨rfl, rfl⟩ hdX5_keeps ⟨Nat.le_of_ble_eq_true rfl, Nat.le_of_ble_eq_true rfl⟩ [0, 1, 2] [0] rfl rfl rfl (ci := 5) rfl rfl rfl (fun _ => rfl) rfl rfl hl.1 (Nat.le_of_ble_eq_true rfl) dX5_announce_1 ⟨Nat.zero_le _, Nat.zero_le _⟩ (fun u H locs hw_1 hP hD hS => ?_)
  obtain ⟨vo_1, rfl⟩ : ∃ z, z = u := ⟨_, rfl⟩
  have hw_1 : ∀ j, j < 217 → vo_1 j = v j := hw_1
  have hP : va_P D vwCl [((b 0), .inr (5, [.ref (b 1), .ref (b 2), .ref (b 3), .ref (b 4), .int (nI hL), .ref (b 5), .int (iK), .ref (b 6), .ref (b 7), .int (nI tL), .int (nI sP), .int (nU), .int (iS), .int (sN), .int (sR), .int (lE), .int (fI), .int (sC)])), ((b 1), .inl (cI, 217, .inl v)), ((b 2), .inl (cI, 217, .inl vo_1)), ((b 4), .inl (cI, 868, .inl hs))] H := hP
  have hD : va_D A [((b 0), .inr (5, [.ref (b 1), .ref (b 2), .ref (b 3), .ref (b 4), .int (nI hL), .ref (b 5), .int (iK), .ref (b 6), .ref (b 7), .int (nI tL), .int (nI sP), .int (nU), .int (iS), .int (sN), .int (sR), .int (lE), .int (fI), .int (sC)])), ((b 1), .inl (cI, 217, .inl v)), ((b 2), .inl (cI, 217, .inl vo_1)), ((b 4), .inl (cI, 868, .inl hs))] := hD
  refine lv_aload_n hx hb dX5_announce_4 rfl (lv_at hl 0 rfl) ?_
  refine lv_aload_n hx hb dX5_announce_5 rfl (lv_at hl 0 rfl) ?_
  refine lv_iload_n hx hb dX5_announce_6 rfl (lv_at hl 1 rfl) ?_
  refine lv_iload_n hx hb dX5_announce_7 rfl (lv_at hl 2 rfl) ?_
  refine lv_iload_n hx hb dX5_announce_8 rfl (lv_at hl 3 rfl) ?_
  refine kb_vI (As := [.int (x), .int (y), .int (m)]) (rest := [.ref (b 0)]) hx hb hml hts hown hN hK hP hD hS hA (c_X5_doAnnounce l D cI b hL iK tL sP nU iS sN sR lE fI sC v g hv ho x y m) gX5_announce_X5_doAnnounce rfl ⟨rfl, rfl⟩ hdX5_doAnnounce ⟨Nat.le_of_ble_eq_true rfl, Nat.le_of_ble_eq_true rfl⟩ [0, 1] [0] rfl rfl rfl (ci := 5) rfl rfl rfl (fun _ => rfl) rfl rfl hl.1 (Nat.le_of_ble_eq_true rfl) dX5_announce_9 ⟨Nat.zero_le _, Nat.zero_le _⟩ (fun r_9 u H locs hw_9 hP hD hS => ?_)
  obtain ⟨vo_9, rfl⟩ : ∃ z, z = u := ⟨_, rfl⟩
  have hw_9 : r_9 = (opA g x y m).1 ∧ rV vo_9 (opA g x y m).2 := hw_9
  have hP : va_P D vwCl [((b 0), .inr (5, [.ref (b 1), .ref (b 2), .ref (b 3), .ref (b 4), .int (nI hL), .ref (b 5), .int (iK), .ref (b 6), .ref (b 7), .int (nI tL), .int (nI sP), .int (nU), .int (iS), .int (sN), .int (sR), .int (lE), .int (fI), .int (sC)])), ((b 1), .inl (cI, 217, .inl vo_9)), ((b 2), .inl (cI, 217, .inl vo_1)), ((b 4), .inl (cI, 868, .inl hs))] H := hP
  have hD : va_D A [((b 0), .inr (5, [.ref (b 1), .ref (b 2), .ref (b 3), .ref (b 4), .int (nI hL), .ref (b 5), .int (iK), .ref (b 6), .ref (b 7), .int (nI tL), .int (nI sP), .int (nU), .int (iS), .int (sN), .int (sR), .int (lE), .int (fI), .int (sC)])), ((b 1), .inl (cI, 217, .inl vo_9)), ((b 2), .inl (cI, 217, .inl vo_1)), ((b 4), .inl (cI, 868, .inl hs))] := hD
  refine kb_vI (As := [.int (r_9)]) (rest := []) hx hb hml hts hown hN hK hP hD hS hA (c_X5_ends l D cI b hL iK tL sP nU iS sN sR lE fI sC vo_9 vo_1 hs ((opA g x y m).2) g hw_9.2 (hv.of (fun j hj => hw_1 j hj) hn.2.1 hn.2.2) ho h hm r_9) gX5_announce_X5_ends rfl ⟨rfl, rfl⟩ hdX5_ends ⟨Nat.le_of_ble_eq_true rfl, Nat.le_of_ble_eq_true rfl⟩ [0, 1, 2, 3] [0] rfl rfl rfl (ci := 5) rfl rfl rfl (fun _ => rfl) rfl rfl hl.1 (Nat.le_of_ble_eq_true rfl) dX5_announce_12 ⟨Nat.zero_le _, Nat.zero_le _⟩ (fun r_12 u H locs hw_12 hP hD hS => ?_)
  obtain ⟨vo_12, hso_12, hno_12⟩ := u
  have hw_12 : r_12 = r_9 ∧ mQ r_9 ((opA g x y m).2) g h hL vo_12 hso_12 hno_12 := hw_12
  have hP : va_P D vwCl [((b 0), .inr (5, [.ref (b 1), .ref (b 2), .ref (b 3), .ref (b 4), .int (nI hno_12), .ref (b 5), .int (iK), .ref (b 6), .ref (b 7), .int (nI tL), .int (nI sP), .int (nU), .int (iS), .int (sN), .int (sR), .int (lE), .int (fI), .int (sC)])), ((b 1), .inl (cI, 217, .inl vo_12)), ((b 2), .inl (cI, 217, .inl vo_1)), ((b 4), .inl (cI, 868, .inl hso_12))] H := hP
  have hD : va_D A [((b 0), .inr (5, [.ref (b 1), .ref (b 2), .ref (b 3), .ref (b 4), .int (nI hno_12), .ref (b 5), .int (iK), .ref (b 6), .ref (b 7), .int (nI tL), .int (nI sP), .int (nU), .int (iS), .int (sN), .int (sR), .int (lE), .int (fI), .int (sC)])), ((b 1), .inl (cI, 217, .inl vo_12)), ((b 2), .inl (cI, 217, .inl vo_1)), ((b 4), .inl (cI, 868, .inl hso_12))] := hD
  exact kb_iret (D := D) hQ hx hb hr hlocks hK hP hD hS dX5_announce_15 (vo_12, vo_1, hso_12, hno_12) rfl (Nat.le_refl _) (Nat.le_refl _) (show r_12 = (opA g x y m).1 ∧ mQ (opA g x y m).1 (opA g x y m).2 g h hL vo_12 hso_12 hno_12 from ⟨hw_12.1.trans hw_9.1, by rw [← hw_9.1]; exact hw_12.2⟩)
abbrev rmX5_leave : Room := { frames := 3, cells := 0, slots := 0, locals := 68 }
theorem hdX5_leave : yX5_leave.cls = RX5 ∧ yX5_leave.cls ≠ "java/lang/invoke/MethodHandle" ∧ yX5_leave.cls ≠ "java/lang/invoke/VarHandle" ∧ (parseMethodDescriptor yX5_leave.desc).map (fun d => d.parameters.length) = some 1 := by decide +kernel
theorem inwX5_leave_X5 : ∀ w ∈ wsX50, w ∈ wsX5_leave := fun w h => List.mem_cons_of_mem _ (List.mem_append_right _ h)
set_option maxHeartbeats 4000000 in
set_option maxRecDepth 100000 in
theorem c_X5_leave (l : Launch) (D : va_G) (cI : ClassId) (b : Nat → Nat) (hL : Nat) (iK : Int32) (tL : Nat) (sP : Nat) (nU : Int32) (iS : Int32) (sN : Int32) (sR : Int32) (lE : Int32) (fI : Int32) (sC : Int32) (v : Nat → Int32) (g : Sg) (hv : rV v g) (ho : Ok g) (kv : Nat → Int32) (hs : Nat → Int32) (h : Nat → Sg) (hm : mH hs hL h) (x : Int32) : kb_I (S := (Nat → Int32) × (Nat → Int32) × (Nat → Int32) × Nat) D [(cI, .int)] l yX5_leave wsX5_leave rmX5_leave [.ref (b 0), .int (x)] [((b 0), .inr (5, [.ref (b 1), .ref (b 2), .ref (b 3), .ref (b 4), .int (nI hL), .ref (b 5), .int (iK), .ref (b 6), .ref (b 7), .int (nI tL), .int (nI sP), .int (nU), .int (iS), .int (sN), .int (sR), .int (lE), .int (fI), .int (sC)])), ((b 1), .inl (cI, 217, .inl v)), ((b 2), .inl (cI, 217, .inl kv)), ((b 4), .inl (cI, 868, .inl hs))] (fun (r : Int32) (u : (Nat → Int32) × (Nat → Int32) × (Nat → Int32) × Nat) => r = (opL g x).1 ∧ mQ (opL g x).1 (opL g x).2 g h hL u.1 u.2.2.1 u.2.2.2) (fun (u : (Nat → Int32) × (Nat → Int32) × (Nat → Int32) × Nat) => [((b 0), .inr (5, [.ref (b 1), .ref (b 2), .ref (b 3), .ref (b 4), .int (nI u.2.2.2), .ref (b 5), .int (iK), .ref (b 6), .ref (b 7), .int (nI tL), .int (nI sP), .int (nU), .int (iS), .int (sN), .int (sR), .int (lE), .int (fI), .int (sC)])), ((b 1), .inl (cI, 217, .inl u.1)), ((b 2), .inl (cI, 217, .inl u.2.1)), ((b 4), .inl (cI, 868, .inl u.2.2.1))]) 0 0 := by
  refine kb_I_of (cc := cX5_leave) (maxL := 2) (ret := (some .int)) (by decide) rfl (Nat.le_of_ble_eq_true rfl) ?_
  intro p e s mm args below meth c A hx hb hml hr hts hown hlocks hnm hA hN hK hP hD hS ls hl Q hQ
  have hl : lv_has ls 2 [(0, .ref (b 0)), (1, .int (x))] := hl
  have hP : va_P D vwCl [((b 0), .inr (5, [.ref (b 1), .ref (b 2), .ref (b 3), .ref (b 4), .int (nI hL), .ref (b 5), .int (iK), .ref (b 6), .ref (b 7), .int (nI tL), .int (nI sP), .int (nU), .int (iS), .int (sN), .int (sR), .int (lE), .int (fI), .int (sC)])), ((b 1), .inl (cI, 217, .inl v)), ((b 2), .inl (cI, 217, .inl kv)), ((b 4), .inl (cI, 868, .inl hs))] s.heap := hP
  have hD : va_D A [((b 0), .inr (5, [.ref (b 1), .ref (b 2), .ref (b 3), .ref (b 4), .int (nI hL), .ref (b 5), .int (iK), .ref (b 6), .ref (b 7), .int (nI tL), .int (nI sP), .int (nU), .int (iS), .int (sN), .int (sR), .int (lE), .int (fI), .int (sC)])), ((b 1), .inl (cI, 217, .inl v)), ((b 2), .inl (cI, 217, .inl kv)), ((b 4), .inl (cI, 868, .inl hs))] := hD
  have hn := ho.n
  refine lv_aload_n hx hb dX5_leave_0 rfl (lv_at hl 0 rfl) ?_
  refine kb_vV (As := []) (rest := []) hx hb hml hts hown hN hK hP hD hS hA (c_X5_keeps l D cI b hL iK tL sP nU iS sN sR lE fI sC v kv) gX5_leave_X5_keeps rfl ⟨rfl, rfl⟩ hdX5_keeps ⟨Nat.le_of_ble_eq_true rfl, Nat.le_of_ble_eq_true rfl⟩ [0, 1, 2] [0] rfl rfl rfl (ci := 5) rfl rfl rfl (fun _ => rfl) rfl rfl hl.1 (Nat.le_of_ble_eq_true rfl) dX5_leave_1 ⟨Nat.zero_le _, Nat.zero_le _⟩ (fun u H locs hw_1 hP hD hS => ?_)
  obtain ⟨vo_1, rfl⟩ : ∃ z, z = u := ⟨_, rfl⟩
  have hw_1 : ∀ j, j < 217 → vo_1 j = v j := hw_1
  have hP : va_P D vwCl [((b 0), .inr (5, [.ref (b 1), .ref (b 2), .ref (b 3), .ref (b 4), .int (nI hL), .ref (b 5), .int (iK), .ref (b 6), .ref (b 7), .int (nI tL), .int (nI sP), .int (nU), .int (iS), .int (sN), .int (sR), .int (lE), .int (fI), .int (sC)])), ((b 1), .inl (cI, 217, .inl v)), ((b 2), .inl (cI, 217, .inl vo_1)), ((b 4), .inl (cI, 868, .inl hs))] H := hP
  have hD : va_D A [((b 0), .inr (5, [.ref (b 1), .ref (b 2), .ref (b 3), .ref (b 4), .int (nI hL), .ref (b 5), .int (iK), .ref (b 6), .ref (b 7), .int (nI tL), .int (nI sP), .int (nU), .int (iS), .int (sN), .int (sR), .int (lE), .int (fI), .int (sC)])), ((b 1), .inl (cI, 217, .inl v)), ((b 2), .inl (cI, 217, .inl vo_1)), ((b 4), .inl (cI, 868, .inl hs))] := hD
  refine lv_aload_n hx hb dX5_leave_4 rfl (lv_at hl 0 rfl) ?_
  refine lv_aload_n hx hb dX5_leave_5 rfl (lv_at hl 0 rfl) ?_
  refine lv_iload_n hx hb dX5_leave_6 rfl (lv_at hl 1 rfl) ?_
  refine kb_vI (As := [.int (x)]) (rest := [.ref (b 0)]) hx hb hml hts hown hN hK hP hD hS hA (c_X5_doLeave l D cI b hL iK tL sP nU iS sN sR lE fI sC v g hv ho x) gX5_leave_X5_doLeave rfl ⟨rfl, rfl⟩ hdX5_doLeave ⟨Nat.le_of_ble_eq_true rfl, Nat.le_of_ble_eq_true rfl⟩ [0, 1] [0] rfl rfl rfl (ci := 5) rfl rfl rfl (fun _ => rfl) rfl rfl hl.1 (Nat.le_of_ble_eq_true rfl) dX5_leave_7 ⟨Nat.zero_le _, Nat.zero_le _⟩ (fun r_7 u H locs hw_7 hP hD hS => ?_)
  obtain ⟨vo_7, rfl⟩ : ∃ z, z = u := ⟨_, rfl⟩
  have hw_7 : r_7 = (opL g x).1 ∧ rV vo_7 (opL g x).2 := hw_7
  have hP : va_P D vwCl [((b 0), .inr (5, [.ref (b 1), .ref (b 2), .ref (b 3), .ref (b 4), .int (nI hL), .ref (b 5), .int (iK), .ref (b 6), .ref (b 7), .int (nI tL), .int (nI sP), .int (nU), .int (iS), .int (sN), .int (sR), .int (lE), .int (fI), .int (sC)])), ((b 1), .inl (cI, 217, .inl vo_7)), ((b 2), .inl (cI, 217, .inl vo_1)), ((b 4), .inl (cI, 868, .inl hs))] H := hP
  have hD : va_D A [((b 0), .inr (5, [.ref (b 1), .ref (b 2), .ref (b 3), .ref (b 4), .int (nI hL), .ref (b 5), .int (iK), .ref (b 6), .ref (b 7), .int (nI tL), .int (nI sP), .int (nU), .int (iS), .int (sN), .int (sR), .int (lE), .int (fI), .int (sC)])), ((b 1), .inl (cI, 217, .inl vo_7)), ((b 2), .inl (cI, 217, .inl vo_1)), ((b 4), .inl (cI, 868, .inl hs))] := hD
  refine kb_vI (As := [.int (r_7)]) (rest := []) hx hb hml hts hown hN hK hP hD hS hA (c_X5_ends l D cI b hL iK tL sP nU iS sN sR lE fI sC vo_7 vo_1 hs ((opL g x).2) g hw_7.2 (hv.of (fun j hj => hw_1 j hj) hn.2.1 hn.2.2) ho h hm r_7) gX5_leave_X5_ends rfl ⟨rfl, rfl⟩ hdX5_ends ⟨Nat.le_of_ble_eq_true rfl, Nat.le_of_ble_eq_true rfl⟩ [0, 1, 2, 3] [0] rfl rfl rfl (ci := 5) rfl rfl rfl (fun _ => rfl) rfl rfl hl.1 (Nat.le_of_ble_eq_true rfl) dX5_leave_10 ⟨Nat.zero_le _, Nat.zero_le _⟩ (fun r_10 u H locs hw_10 hP hD hS => ?_)
  obtain ⟨vo_10, hso_10, hno_10⟩ := u
  have hw_10 : r_10 = r_7 ∧ mQ r_7 ((opL g x).2) g h hL vo_10 hso_10 hno_10 := hw_10
  have hP : va_P D vwCl [((b 0), .inr (5, [.ref (b 1), .ref (b 2), .ref (b 3), .ref (b 4), .int (nI hno_10), .ref (b 5), .int (iK), .ref (b 6), .ref (b 7), .int (nI tL), .int (nI sP), .int (nU), .int (iS), .int (sN), .int (sR), .int (lE), .int (fI), .int (sC)])), ((b 1), .inl (cI, 217, .inl vo_10)), ((b 2), .inl (cI, 217, .inl vo_1)), ((b 4), .inl (cI, 868, .inl hso_10))] H := hP
  have hD : va_D A [((b 0), .inr (5, [.ref (b 1), .ref (b 2), .ref (b 3), .ref (b 4), .int (nI hno_10), .ref (b 5), .int (iK), .ref (b 6), .ref (b 7), .int (nI tL), .int (nI sP), .int (nU), .int (iS), .int (sN), .int (sR), .int (lE), .int (fI), .int (sC)])), ((b 1), .inl (cI, 217, .inl vo_10)), ((b 2), .inl (cI, 217, .inl vo_1)), ((b 4), .inl (cI, 868, .inl hso_10))] := hD
  exact kb_iret (D := D) hQ hx hb hr hlocks hK hP hD hS dX5_leave_13 (vo_10, vo_1, hso_10, hno_10) rfl (Nat.le_refl _) (Nat.le_refl _) (show r_10 = (opL g x).1 ∧ mQ (opL g x).1 (opL g x).2 g h hL vo_10 hso_10 hno_10 from ⟨hw_10.1.trans hw_7.1, by rw [← hw_7.1]; exact hw_10.2⟩)
abbrev rmX5_pass : Room := { frames := 8, cells := 0, slots := 0, locals := 176 }
theorem hdX5_pass : yX5_pass.cls = RX5 ∧ yX5_pass.cls ≠ "java/lang/invoke/MethodHandle" ∧ yX5_pass.cls ≠ "java/lang/invoke/VarHandle" ∧ (parseMethodDescriptor yX5_pass.desc).map (fun d => d.parameters.length) = some 1 := by decide +kernel
theorem inwX5_pass_X5 : ∀ w ∈ wsX50, w ∈ wsX5_pass := fun w h => List.mem_cons_of_mem _ (List.mem_append_right _ h)
set_option maxHeartbeats 4000000 in
set_option maxRecDepth 100000 in
theorem c_X5_pass (l : Launch) (D : va_G) (cI : ClassId) (b : Nat → Nat) (hL : Nat) (iK : Int32) (tL : Nat) (sP : Nat) (nU : Int32) (iS : Int32) (sN : Int32) (sR : Int32) (lE : Int32) (fI : Int32) (sC : Int32) (v : Nat → Int32) (g : Sg) (hv : rV v g) (ho : Ok g) (kv : Nat → Int32) (hs : Nat → Int32) (lf : Nat → Int32) (h : Nat → Sg) (hm : mH hs hL h) (x : Int32) : kb_I (S := (Nat → Int32) × (Nat → Int32) × (Nat → Int32) × Nat × (Nat → Int32)) D [(cI, .int)] l yX5_pass wsX5_pass rmX5_pass [.ref (b 0), .int (x)] [((b 0), .inr (5, [.ref (b 1), .ref (b 2), .ref (b 3), .ref (b 4), .int (nI hL), .ref (b 5), .int (iK), .ref (b 6), .ref (b 7), .int (nI tL), .int (nI sP), .int (nU), .int (iS), .int (sN), .int (sR), .int (lE), .int (fI), .int (sC)])), ((b 1), .inl (cI, 217, .inl v)), ((b 2), .inl (cI, 217, .inl kv)), ((b 4), .inl (cI, 868, .inl hs)), ((b 6), .inl (cI, 12, .inl lf))] (fun (r : Int32) (u : (Nat → Int32) × (Nat → Int32) × (Nat → Int32) × Nat × (Nat → Int32)) => r = (opP g x).1 ∧ mQ (opP g x).1 (opP g x).2 g h hL u.1 u.2.2.1 u.2.2.2.1) (fun (u : (Nat → Int32) × (Nat → Int32) × (Nat → Int32) × Nat × (Nat → Int32)) => [((b 0), .inr (5, [.ref (b 1), .ref (b 2), .ref (b 3), .ref (b 4), .int (nI u.2.2.2.1), .ref (b 5), .int (iK), .ref (b 6), .ref (b 7), .int (nI tL), .int (nI sP), .int (nU), .int (iS), .int (sN), .int (sR), .int (lE), .int (fI), .int (sC)])), ((b 1), .inl (cI, 217, .inl u.1)), ((b 2), .inl (cI, 217, .inl u.2.1)), ((b 4), .inl (cI, 868, .inl u.2.2.1)), ((b 6), .inl (cI, 12, .inl u.2.2.2.2))]) 0 0 := by
  refine kb_I_of (cc := cX5_pass) (maxL := 2) (ret := (some .int)) (by decide) rfl (Nat.le_of_ble_eq_true rfl) ?_
  intro p e s mm args below meth c A hx hb hml hr hts hown hlocks hnm hA hN hK hP hD hS ls hl Q hQ
  have hl : lv_has ls 2 [(0, .ref (b 0)), (1, .int (x))] := hl
  have hP : va_P D vwCl [((b 0), .inr (5, [.ref (b 1), .ref (b 2), .ref (b 3), .ref (b 4), .int (nI hL), .ref (b 5), .int (iK), .ref (b 6), .ref (b 7), .int (nI tL), .int (nI sP), .int (nU), .int (iS), .int (sN), .int (sR), .int (lE), .int (fI), .int (sC)])), ((b 1), .inl (cI, 217, .inl v)), ((b 2), .inl (cI, 217, .inl kv)), ((b 4), .inl (cI, 868, .inl hs)), ((b 6), .inl (cI, 12, .inl lf))] s.heap := hP
  have hD : va_D A [((b 0), .inr (5, [.ref (b 1), .ref (b 2), .ref (b 3), .ref (b 4), .int (nI hL), .ref (b 5), .int (iK), .ref (b 6), .ref (b 7), .int (nI tL), .int (nI sP), .int (nU), .int (iS), .int (sN), .int (sR), .int (lE), .int (fI), .int (sC)])), ((b 1), .inl (cI, 217, .inl v)), ((b 2), .inl (cI, 217, .inl kv)), ((b 4), .inl (cI, 868, .inl hs)), ((b 6), .inl (cI, 12, .inl lf))] := hD
  have hn := ho.n
  refine lv_aload_n hx hb dX5_pass_0 rfl (lv_at hl 0 rfl) ?_
  refine kb_vV (As := []) (rest := []) hx hb hml hts hown hN hK hP hD hS hA (c_X5_keeps l D cI b hL iK tL sP nU iS sN sR lE fI sC v kv) gX5_pass_X5_keeps rfl ⟨rfl, rfl⟩ hdX5_keeps ⟨Nat.le_of_ble_eq_true rfl, Nat.le_of_ble_eq_true rfl⟩ [0, 1, 2] [0] rfl rfl rfl (ci := 5) rfl rfl rfl (fun _ => rfl) rfl rfl hl.1 (Nat.le_of_ble_eq_true rfl) dX5_pass_1 ⟨Nat.zero_le _, Nat.zero_le _⟩ (fun u H locs hw_1 hP hD hS => ?_)
  obtain ⟨vo_1, rfl⟩ : ∃ z, z = u := ⟨_, rfl⟩
  have hw_1 : ∀ j, j < 217 → vo_1 j = v j := hw_1
  have hP : va_P D vwCl [((b 0), .inr (5, [.ref (b 1), .ref (b 2), .ref (b 3), .ref (b 4), .int (nI hL), .ref (b 5), .int (iK), .ref (b 6), .ref (b 7), .int (nI tL), .int (nI sP), .int (nU), .int (iS), .int (sN), .int (sR), .int (lE), .int (fI), .int (sC)])), ((b 1), .inl (cI, 217, .inl v)), ((b 2), .inl (cI, 217, .inl vo_1)), ((b 4), .inl (cI, 868, .inl hs)), ((b 6), .inl (cI, 12, .inl lf))] H := hP
  have hD : va_D A [((b 0), .inr (5, [.ref (b 1), .ref (b 2), .ref (b 3), .ref (b 4), .int (nI hL), .ref (b 5), .int (iK), .ref (b 6), .ref (b 7), .int (nI tL), .int (nI sP), .int (nU), .int (iS), .int (sN), .int (sR), .int (lE), .int (fI), .int (sC)])), ((b 1), .inl (cI, 217, .inl v)), ((b 2), .inl (cI, 217, .inl vo_1)), ((b 4), .inl (cI, 868, .inl hs)), ((b 6), .inl (cI, 12, .inl lf))] := hD
  refine lv_aload_n hx hb dX5_pass_4 rfl (lv_at hl 0 rfl) ?_
  refine lv_aload_n hx hb dX5_pass_5 rfl (lv_at hl 0 rfl) ?_
  refine lv_iload_n hx hb dX5_pass_6 rfl (lv_at hl 1 rfl) ?_
  refine kb_vI (As := [.int (x)]) (rest := [.ref (b 0)]) hx hb hml hts hown hN hK hP hD hS hA (c_X5_doPass l D cI b hL iK tL sP nU iS sN sR lE fI sC v g hv ho lf x) gX5_pass_X5_doPass rfl ⟨rfl, rfl⟩ hdX5_doPass ⟨Nat.le_of_ble_eq_true rfl, Nat.le_of_ble_eq_true rfl⟩ [0, 1, 4] [0] rfl rfl rfl (ci := 5) rfl rfl rfl (fun _ => rfl) rfl rfl hl.1 (Nat.le_of_ble_eq_true rfl) dX5_pass_7 ⟨Nat.zero_le _, Nat.zero_le _⟩ (fun r_7 u H locs hw_7 hP hD hS => ?_)
  obtain ⟨vo_7, lo_7⟩ := u
  have hw_7 : r_7 = (opP g x).1 ∧ rV vo_7 (opP g x).2 := hw_7
  have hP : va_P D vwCl [((b 0), .inr (5, [.ref (b 1), .ref (b 2), .ref (b 3), .ref (b 4), .int (nI hL), .ref (b 5), .int (iK), .ref (b 6), .ref (b 7), .int (nI tL), .int (nI sP), .int (nU), .int (iS), .int (sN), .int (sR), .int (lE), .int (fI), .int (sC)])), ((b 1), .inl (cI, 217, .inl vo_7)), ((b 2), .inl (cI, 217, .inl vo_1)), ((b 4), .inl (cI, 868, .inl hs)), ((b 6), .inl (cI, 12, .inl lo_7))] H := hP
  have hD : va_D A [((b 0), .inr (5, [.ref (b 1), .ref (b 2), .ref (b 3), .ref (b 4), .int (nI hL), .ref (b 5), .int (iK), .ref (b 6), .ref (b 7), .int (nI tL), .int (nI sP), .int (nU), .int (iS), .int (sN), .int (sR), .int (lE), .int (fI), .int (sC)])), ((b 1), .inl (cI, 217, .inl vo_7)), ((b 2), .inl (cI, 217, .inl vo_1)), ((b 4), .inl (cI, 868, .inl hs)), ((b 6), .inl (cI, 12, .inl lo_7))] := hD
  refine kb_vI (As := [.int (r_7)]) (rest := []) hx hb hml hts hown hN hK hP hD hS hA (c_X5_ends l D cI b hL iK tL sP nU iS sN sR lE fI sC vo_7 vo_1 hs ((opP g x).2) g hw_7.2 (hv.of (fun j hj => hw_1 j hj) hn.2.1 hn.2.2) ho h hm r_7) gX5_pass_X5_ends rfl ⟨rfl, rfl⟩ hdX5_ends ⟨Nat.le_of_ble_eq_true rfl, Nat.le_of_ble_eq_true rfl⟩ [0, 1, 2, 3] [0] rfl rfl rfl (ci := 5) rfl rfl rfl (fun _ => rfl) rfl rfl hl.1 (Nat.le_of_ble_eq_true rfl) dX5_pass_10 ⟨Nat.zero_le _, Nat.zero_le _⟩ (fun r_10 u H locs hw_10 hP hD hS => ?_)
  obtain ⟨vo_10, hso_10, hno_10⟩ := u
  have hw_10 : r_10 = r_7 ∧ mQ r_7 ((opP g x).2) g h hL vo_10 hso_10 hno_10 := hw_10
  have hP : va_P D vwCl [((b 0), .inr (5, [.ref (b 1), .ref (b 2), .ref (b 3), .ref (b 4), .int (nI hno_10), .ref (b 5), .int (iK), .ref (b 6), .ref (b 7), .int (nI tL), .int (nI sP), .int (nU), .int (iS), .int (sN), .int (sR), .int (lE), .int (fI), .int (sC)])), ((b 1), .inl (cI, 217, .inl vo_10)), ((b 2), .inl (cI, 217, .inl vo_1)), ((b 4), .inl (cI, 868, .inl hso_10)), ((b 6), .inl (cI, 12, .inl lo_7))] H := hP
  have hD : va_D A [((b 0), .inr (5, [.ref (b 1), .ref (b 2), .ref (b 3), .ref (b 4), .int (nI hno_10), .ref (b 5), .int (iK), .ref (b 6), .ref (b 7), .int (nI tL), .int (nI sP), .int (nU), .int (iS), .int (sN), .int (sR), .int (lE), .int (fI), .int (sC)])), ((b 1), .inl (cI, 217, .inl vo_10)), ((b 2), .inl (cI, 217, .inl vo_1)), ((b 4), .inl (cI, 868, .inl hso_10)), ((b 6), .inl (cI, 12, .inl lo_7))] := hD
  exact kb_iret (D := D) hQ hx hb hr hlocks hK hP hD hS dX5_pass_13 (vo_10, vo_1, hso_10, hno_10, lo_7) rfl (Nat.le_refl _) (Nat.le_refl _) (show r_10 = (opP g x).1 ∧ mQ (opP g x).1 (opP g x).2 g h hL vo_10 hso_10 hno_10 from ⟨hw_10.1.trans hw_7.1, by rw [← hw_7.1]; exact hw_10.2⟩)
abbrev rmX5_send : Room := { frames := 3, cells := 0, slots := 0, locals := 67 }
theorem hdX5_send : yX5_send.cls = RX5 ∧ yX5_send.cls ≠ "java/lang/invoke/MethodHandle" ∧ yX5_send.cls ≠ "java/lang/invoke/VarHandle" ∧ (parseMethodDescriptor yX5_send.desc).map (fun d => d.parameters.length) = some 1 := by decide +kernel
theorem inwX5_send_X5 : ∀ w ∈ wsX50, w ∈ wsX5_send := fun w h => List.mem_cons_of_mem _ (List.mem_append_right _ h)
set_option maxHeartbeats 4000000 in
set_option maxRecDepth 100000 in
theorem c_X5_send (l : Launch) (D : va_G) (cI : ClassId) (b : Nat → Nat) (hL : Nat) (iK : Int32) (tL : Nat) (sP : Nat) (nU : Int32) (iS : Int32) (sN : Int32) (sR : Int32) (lE : Int32) (fI : Int32) (sC : Int32) (v : Nat → Int32) (g : Sg) (hv : rV v g) (ho : Ok g) (kv : Nat → Int32) (hs : Nat → Int32) (h : Nat → Sg) (hm : mH hs hL h) (x : Int32) : kb_I (S := (Nat → Int32) × (Nat → Int32) × (Nat → Int32) × Nat) D [(cI, .int)] l yX5_send wsX5_send rmX5_send [.ref (b 0), .int (x)] [((b 0), .inr (5, [.ref (b 1), .ref (b 2), .ref (b 3), .ref (b 4), .int (nI hL), .ref (b 5), .int (iK), .ref (b 6), .ref (b 7), .int (nI tL), .int (nI sP), .int (nU), .int (iS), .int (sN), .int (sR), .int (lE), .int (fI), .int (sC)])), ((b 1), .inl (cI, 217, .inl v)), ((b 2), .inl (cI, 217, .inl kv)), ((b 4), .inl (cI, 868, .inl hs))] (fun (r : Int32) (u : (Nat → Int32) × (Nat → Int32) × (Nat → Int32) × Nat) => r = (opE g x).1 ∧ mQ (opE g x).1 (opE g x).2 g h hL u.1 u.2.2.1 u.2.2.2) (fun (u : (Nat → Int32) × (Nat → Int32) × (Nat → Int32) × Nat) => [((b 0), .inr (5, [.ref (b 1), .ref (b 2), .ref (b 3), .ref (b 4), .int (nI u.2.2.2), .ref (b 5), .int (iK), .ref (b 6), .ref (b 7), .int (nI tL), .int (nI sP), .int (nU), .int (iS), .int (sN), .int (sR), .int (lE), .int (fI), .int (sC)])), ((b 1), .inl (cI, 217, .inl u.1)), ((b 2), .inl (cI, 217, .inl u.2.1)), ((b 4), .inl (cI, 868, .inl u.2.2.1))]) 0 0 := by
  refine kb_I_of (cc := cX5_send) (maxL := 2) (ret := (some .int)) (by decide) rfl (Nat.le_of_ble_eq_true rfl) ?_
  intro p e s mm args below meth c A hx hb hml hr hts hown hlocks hnm hA hN hK hP hD hS ls hl Q hQ
  have hl : lv_has ls 2 [(0, .ref (b 0)), (1, .int (x))] := hl
  have hP : va_P D vwCl [((b 0), .inr (5, [.ref (b 1), .ref (b 2), .ref (b 3), .ref (b 4), .int (nI hL), .ref (b 5), .int (iK), .ref (b 6), .ref (b 7), .int (nI tL), .int (nI sP), .int (nU), .int (iS), .int (sN), .int (sR), .int (lE), .int (fI), .int (sC)])), ((b 1), .inl (cI, 217, .inl v)), ((b 2), .inl (cI, 217, .inl kv)), ((b 4), .inl (cI, 868, .inl hs))] s.heap := hP
  have hD : va_D A [((b 0), .inr (5, [.ref (b 1), .ref (b 2), .ref (b 3), .ref (b 4), .int (nI hL), .ref (b 5), .int (iK), .ref (b 6), .ref (b 7), .int (nI tL), .int (nI sP), .int (nU), .int (iS), .int (sN), .int (sR), .int (lE), .int (fI), .int (sC)])), ((b 1), .inl (cI, 217, .inl v)), ((b 2), .inl (cI, 217, .inl kv)), ((b 4), .inl (cI, 868, .inl hs))] := hD
  have fl7 := hts (.fieldLink RX5 7 "KingsBanquetModel" "all" "[I") (by decide +kernel)
  have hn := ho.n
  refine lv_iload_n hx hb dX5_send_0 rfl (lv_at hl 1 rfl) ?_
  refine lv_i2l (v := (x).toInt64) hx hb dX5_send_1 rfl ?_
  refine lv_lconst (v := lN 0) hx hb dX5_send_2 (by decide) ?_
  refine lv_aload_n hx hb dX5_send_3 rfl (lv_at hl 0 rfl) ?_
  refine va_get (D := D) (ci := 5) (v := .ref (b 1)) (C := RX5) (T := TX5) (N := 18) hx hb hts inwX5_send_X5 hown hK hP 0 rfl rfl 0 (by decide) fl7 (fun _ h9 => h9) rfl dX5_send_4 ?_
  refine lv_bipush (v := nI 11) hx hb dX5_send_7 (by decide) ?_
  refine kb_iald hx hb hK hP 1 0 rfl rfl (by decide) (by omega) dX5_send_9 ?_
  refine kb_top (nI (nT g)) hv.t ?_
  refine lv_i2l (v := (nI (nT g)).toInt64) hx hb dX5_send_10 rfl ?_
  refine lv_ldc2 (v := 2) hx hb hown (hts (.constantLong RX5 129 (2)) (by decide +kernel)) dX5_send_11 ?_
  refine kb_topl (lN 2) (by decide) ?_
  refine lv_lsub hx hb dX5_send_14 ?_
  refine kb_sR (As := [.long ((x).toInt64), .long (lN 0), .long (((nI (nT g)).toInt64) - (lN 2))]) (rest := []) hx hb hml hts hown hN hK hP hD hS hA (c_X5_in l D ((x).toInt64) (lN 0) (((nI (nT g)).toInt64) - (lN 2))) gX5_send_X5_in rfl ⟨rfl, rfl⟩ hdX5_in.2 ⟨Nat.le_of_ble_eq_true rfl, Nat.le_of_ble_eq_true rfl⟩ [] [] rfl rfl rfl rfl rfl hl.1 (Nat.le_of_ble_eq_true rfl) dX5_send_15 ⟨Nat.zero_le _, Nat.zero_le _⟩ (fun H locs hP hS => ?_)
  refine kb_top (kb_b (kIs (nT g - 1) x)) (congrArg kb_b (inL_kIs2 hn.2.1)) ?_
  refine kb_bif_ne (tgt := 23) hx hb dX5_send_18 (by decide) (fun c18 => ?_) (fun c18 => ?_)
  · obtain ⟨k, hk, rfl⟩ := kIs_ex c18 (by omega)
    refine lv_aload_n hx hb dX5_send_23 rfl (lv_at hl 0 rfl) ?_
    refine lv_iload_n hx hb dX5_send_24 rfl (lv_at hl 1 rfl) ?_
    refine kb_vR (As := [.int (nI k)]) (rest := []) hx hb hml hts hown hN hK hP hD hS hA (c_X5_isWrong l D cI b hL iK tL sP nU iS sN sR lE fI sC v g hv ho k (by omega)) gX5_send_X5_isWrong rfl ⟨rfl, rfl⟩ hdX5_isWrong ⟨Nat.le_of_ble_eq_true rfl, Nat.le_of_ble_eq_true rfl⟩ [0, 1] [0] rfl rfl rfl (ci := 5) rfl rfl rfl rfl rfl hl.1 (Nat.le_of_ble_eq_true rfl) dX5_send_25 ⟨Nat.zero_le _, Nat.zero_le _⟩ (fun H locs hP hS => ?_)
    refine kb_bif_ne (tgt := 34) hx hb dX5_send_28 (by decide) (fun c28 => ?_) (fun c28 => ?_)
    · refine lv_aload_n hx hb dX5_send_34 rfl (lv_at hl 0 rfl) ?_
      refine kb_vV (As := []) (rest := []) hx hb hml hts hown hN hK hP hD hS hA (c_X5_keeps l D cI b hL iK tL sP nU iS sN sR lE fI sC v kv) gX5_send_X5_keeps rfl ⟨rfl, rfl⟩ hdX5_keeps ⟨Nat.le_of_ble_eq_true rfl, Nat.le_of_ble_eq_true rfl⟩ [0, 1, 2] [0] rfl rfl rfl (ci := 5) rfl rfl rfl (fun _ => rfl) rfl rfl hl.1 (Nat.le_of_ble_eq_true rfl) dX5_send_35 ⟨Nat.zero_le _, Nat.zero_le _⟩ (fun u H locs hw_35 hP hD hS => ?_)
      obtain ⟨vo_35, rfl⟩ : ∃ z, z = u := ⟨_, rfl⟩
      have hw_35 : ∀ j, j < 217 → vo_35 j = v j := hw_35
      have hP : va_P D vwCl [((b 0), .inr (5, [.ref (b 1), .ref (b 2), .ref (b 3), .ref (b 4), .int (nI hL), .ref (b 5), .int (iK), .ref (b 6), .ref (b 7), .int (nI tL), .int (nI sP), .int (nU), .int (iS), .int (sN), .int (sR), .int (lE), .int (fI), .int (sC)])), ((b 1), .inl (cI, 217, .inl v)), ((b 2), .inl (cI, 217, .inl vo_35)), ((b 4), .inl (cI, 868, .inl hs))] H := hP
      have hD : va_D A [((b 0), .inr (5, [.ref (b 1), .ref (b 2), .ref (b 3), .ref (b 4), .int (nI hL), .ref (b 5), .int (iK), .ref (b 6), .ref (b 7), .int (nI tL), .int (nI sP), .int (nU), .int (iS), .int (sN), .int (sR), .int (lE), .int (fI), .int (sC)])), ((b 1), .inl (cI, 217, .inl v)), ((b 2), .inl (cI, 217, .inl vo_35)), ((b 4), .inl (cI, 868, .inl hs))] := hD
      refine lv_aload_n hx hb dX5_send_38 rfl (lv_at hl 0 rfl) ?_
      refine lv_iload_n hx hb dX5_send_39 rfl (lv_at hl 1 rfl) ?_
      refine kb_vV (As := [.int (nI k)]) (rest := []) hx hb hml hts hown hN hK hP hD hS hA (c_X5_swaps l D cI b hL iK tL sP nU iS sN sR lE fI sC v k (by omega)) gX5_send_X5_swaps rfl ⟨rfl, rfl⟩ hdX5_swaps ⟨Nat.le_of_ble_eq_true rfl, Nat.le_of_ble_eq_true rfl⟩ [0, 1] [0] rfl rfl rfl (ci := 5) rfl rfl rfl (fun _ => rfl) rfl rfl hl.1 (Nat.le_of_ble_eq_true rfl) dX5_send_40 ⟨Nat.zero_le _, Nat.zero_le _⟩ (fun u H locs hw_40 hP hD hS => ?_)
      have hw_40 : True := hw_40
      have hP : va_P D vwCl [((b 0), .inr (5, [.ref (b 1), .ref (b 2), .ref (b 3), .ref (b 4), .int (nI hL), .ref (b 5), .int (iK), .ref (b 6), .ref (b 7), .int (nI tL), .int (nI sP), .int (nU), .int (iS), .int (sN), .int (sR), .int (lE), .int (fI), .int (sC)])), ((b 1), .inl (cI, 217, .inl (upd (upd v (12 + k) (v (12 + k + 1))) (12 + k + 1) (v (12 + k))))), ((b 2), .inl (cI, 217, .inl vo_35)), ((b 4), .inl (cI, 868, .inl hs))] H := hP
      have hD : va_D A [((b 0), .inr (5, [.ref (b 1), .ref (b 2), .ref (b 3), .ref (b 4), .int (nI hL), .ref (b 5), .int (iK), .ref (b 6), .ref (b 7), .int (nI tL), .int (nI sP), .int (nU), .int (iS), .int (sN), .int (sR), .int (lE), .int (fI), .int (sC)])), ((b 1), .inl (cI, 217, .inl (upd (upd v (12 + k) (v (12 + k + 1))) (12 + k + 1) (v (12 + k))))), ((b 2), .inl (cI, 217, .inl vo_35)), ((b 4), .inl (cI, 868, .inl hs))] := hD
      refine lv_aload_n hx hb dX5_send_43 rfl (lv_at hl 0 rfl) ?_
      refine va_get (D := D) (ci := 5) (v := .ref (b 1)) (C := RX5) (T := TX5) (N := 18) hx hb hts inwX5_send_X5 hown hK hP 0 rfl rfl 0 (by decide) fl7 (fun _ h9 => h9) rfl dX5_send_44 ?_
      refine lv_bipush (v := nI 10) hx hb dX5_send_47 (by decide) ?_
      refine lv_dup2_11 hx hb dX5_send_49 rfl rfl ?_
      refine kb_iald hx hb hK hP 1 0 rfl rfl (by decide) (by omega) dX5_send_50 ?_
      refine kb_top (v 10) sw10 ?_
      refine lv_iconst (v := nI 1) hx hb dX5_send_51 (by decide) ?_
      refine lv_iadd hx hb dX5_send_52 ?_
      refine kb_iast hx hb hK hP hD hS 1 0 rfl rfl (by decide) (by omega) dX5_send_53 (fun H locs hP hD hS => ?_)
      have hP : va_P D vwCl [((b 0), .inr (5, [.ref (b 1), .ref (b 2), .ref (b 3), .ref (b 4), .int (nI hL), .ref (b 5), .int (iK), .ref (b 6), .ref (b 7), .int (nI tL), .int (nI sP), .int (nU), .int (iS), .int (sN), .int (sR), .int (lE), .int (fI), .int (sC)])), ((b 1), .inl (cI, 217, .inl (upd (upd (upd v (12 + k) (v (12 + k + 1))) (12 + k + 1) (v (12 + k))) 10 (v 10 + nI 1)))), ((b 2), .inl (cI, 217, .inl vo_35)), ((b 4), .inl (cI, 868, .inl hs))] H := hP
      have hD : va_D A [((b 0), .inr (5, [.ref (b 1), .ref (b 2), .ref (b 3), .ref (b 4), .int (nI hL), .ref (b 5), .int (iK), .ref (b 6), .ref (b 7), .int (nI tL), .int (nI sP), .int (nU), .int (iS), .int (sN), .int (sR), .int (lE), .int (fI), .int (sC)])), ((b 1), .inl (cI, 217, .inl (upd (upd (upd v (12 + k) (v (12 + k + 1))) (12 + k + 1) (v (12 + k))) 10 (v 10 + nI 1)))), ((b 2), .inl (cI, 217, .inl vo_35)), ((b 4), .inl (cI, 868, .inl hs))] := hD
      refine lv_aload_n hx hb dX5_send_54 rfl (lv_at hl 0 rfl) ?_
      refine lv_aload_n hx hb dX5_send_55 rfl (lv_at hl 0 rfl) ?_
      refine va_get (D := D) (ci := 5) (v := .ref (b 1)) (C := RX5) (T := TX5) (N := 18) hx hb hts inwX5_send_X5 hown hK hP 0 rfl rfl 0 (by decide) fl7 (fun _ h9 => h9) rfl dX5_send_56 ?_
      refine lv_bipush (v := nI 12) hx hb dX5_send_59 (by decide) ?_
      refine lv_iload_n hx hb dX5_send_61 rfl (lv_at hl 1 rfl) ?_
      refine lv_iadd hx hb dX5_send_62 ?_
      refine kb_top (nI (12 + k)) (nI_add 12 k) ?_
      refine kb_iald hx hb hK hP 1 0 rfl rfl (by decide) (by omega) dX5_send_63 ?_
      refine kb_top (nI (gT g (k + 1))) (((rV_sw hv (by omega) hn.2.1).s (j := k) (show k < nT g by omega)).trans (congrArg nI oSw_T)) ?_
      refine kb_vI (As := [.int (nI (gT g (k + 1)))]) (rest := []) hx hb hml hts hown hN hK hP hD hS hA (c_X5_ends l D cI b hL iK tL sP nU iS sN sR lE fI sC (upd (upd (upd v (12 + k) (v (12 + k + 1))) (12 + k + 1) (v (12 + k))) 10 (v 10 + nI 1)) vo_35 hs (oSw g k) g (rV_sw hv (by omega) hn.2.1) (hv.of (fun j hj => hw_35 j hj) hn.2.1 hn.2.2) ho h hm (nI (gT g (k + 1)))) gX5_send_X5_ends rfl ⟨rfl, rfl⟩ hdX5_ends ⟨Nat.le_of_ble_eq_true rfl, Nat.le_of_ble_eq_true rfl⟩ [0, 1, 2, 3] [0] rfl rfl rfl (ci := 5) rfl rfl rfl (fun _ => rfl) rfl rfl hl.1 (Nat.le_of_ble_eq_true rfl) dX5_send_64 ⟨Nat.zero_le _, Nat.zero_le _⟩ (fun r_64 u H locs hw_64 hP hD hS => ?_)
      obtain ⟨vo_64, hso_64, hno_64⟩ := u
      have hw_64 : r_64 = (nI (gT g (k + 1))) ∧ mQ (nI (gT g (k + 1))) (oSw g k) g h hL vo_64 hso_64 hno_64 := hw_64
      have hP : va_P D vwCl [((b 0), .inr (5, [.ref (b 1), .ref (b 2), .ref (b 3), .ref (b 4), .int (nI hno_64), .ref (b 5), .int (iK), .ref (b 6), .ref (b 7), .int (nI tL), .int (nI sP), .int (nU), .int (iS), .int (sN), .int (sR), .int (lE), .int (fI), .int (sC)])), ((b 1), .inl (cI, 217, .inl vo_64)), ((b 2), .inl (cI, 217, .inl vo_35)), ((b 4), .inl (cI, 868, .inl hso_64))] H := hP
      have hD : va_D A [((b 0), .inr (5, [.ref (b 1), .ref (b 2), .ref (b 3), .ref (b 4), .int (nI hno_64), .ref (b 5), .int (iK), .ref (b 6), .ref (b 7), .int (nI tL), .int (nI sP), .int (nU), .int (iS), .int (sN), .int (sR), .int (lE), .int (fI), .int (sC)])), ((b 1), .inl (cI, 217, .inl vo_64)), ((b 2), .inl (cI, 217, .inl vo_35)), ((b 4), .inl (cI, 868, .inl hso_64))] := hD
      exact kb_iret (D := D) hQ hx hb hr hlocks hK hP hD hS dX5_send_67 (vo_64, vo_35, hso_64, hno_64) rfl (Nat.le_refl _) (Nat.le_refl _) (show r_64 = (opE g (nI k)).1 ∧ mQ (opE g (nI k)).1 (opE g (nI k)).2 g h hL vo_64 hso_64 hno_64 from (by rw [opE_3 (by omega) hn.2.1 c28]; exact hw_64))
    · refine lv_bipush (v := (-4)) hx hb dX5_send_31 (by decide) ?_
      exact kb_iret (D := D) hQ hx hb hr hlocks hK hP hD hS dX5_send_33 (v, kv, hs, hL) rfl (Nat.le_refl _) (Nat.le_refl _) (show (-4) = (opE g (nI k)).1 ∧ mQ (opE g (nI k)).1 (opE g (nI k)).2 g h hL v hs hL from (by rw [opE_2 (by omega) hn.2.1 c28]; exact ⟨rfl, mQ_n ng4 hv hm⟩))
  · refine lv_iconst (v := (-1)) hx hb dX5_send_21 (by decide) ?_
    exact kb_iret (D := D) hQ hx hb hr hlocks hK hP hD hS dX5_send_22 (v, kv, hs, hL) rfl (Nat.le_refl _) (Nat.le_refl _) (show (-1) = (opE g x).1 ∧ mQ (opE g x).1 (opE g x).2 g h hL v hs hL from (by rw [opE_1 c18]; exact ⟨rfl, mQ_n ng1 hv hm⟩))
abbrev rmX5_isRight : Room := { frames := 1, cells := 0, slots := 0, locals := 25 }
theorem hdX5_isRight : yX5_isRight.cls = RX5 ∧ yX5_isRight.cls ≠ "java/lang/invoke/MethodHandle" ∧ yX5_isRight.cls ≠ "java/lang/invoke/VarHandle" ∧ (parseMethodDescriptor yX5_isRight.desc).map (fun d => d.parameters.length) = some 2 := by decide +kernel
set_option maxHeartbeats 4000000 in
set_option maxRecDepth 100000 in
theorem c_X5_isRight (l : Launch) (D : va_G) (k : Nat) (hk : k < 4) (x : Int32) : kb_R D [] l yX5_isRight wsX5_isRight rmX5_isRight [.int (nI k), .int (x)] [] (kb_b (isR k x)) := by
  refine kb_I_of (cc := cX5_isRight) (maxL := 2) (ret := (some .boolean)) (by decide) rfl (Nat.le_of_ble_eq_true rfl) ?_
  intro p e s mm args below meth c A hx hb hml hr hts hown hlocks hnm hA hN hK hP hD hS ls hl Q hQ
  have hl : lv_has ls 2 [(0, .int (nI k)), (1, .int (x))] := hl
  have hP : va_P D vwCl [] s.heap := hP
  have hD : va_D A [] := hD
  rcases (by omega : k = 0 ∨ k = 1 ∨ k = 2 ∨ k = 3) with rfl | rfl | rfl | rfl
  · refine lv_iload_n hx hb dX5_isRight_0 rfl (lv_at hl 1 rfl) ?_
    refine lv_i2l (v := (x).toInt64) hx hb dX5_isRight_1 rfl ?_
    refine lv_iload_n hx hb dX5_isRight_2 rfl (lv_at hl 0 rfl) ?_
    refine lv_iconst (v := nI 2) hx hb dX5_isRight_3 (by decide) ?_
    refine kb_icmp_ne (tgt := 11) hx hb dX5_isRight_4 (by decide) (by decide) (by decide) (fun _ => ?_) (fun c => absurd c (by decide))
    refine lv_lconst (v := lN 1) hx hb dX5_isRight_11 (by decide) ?_
    refine lv_iload_n hx hb dX5_isRight_12 rfl (lv_at hl 0 rfl) ?_
    refine kb_nif_ne (tgt := 22) hx hb dX5_isRight_13 (by decide) (by decide) (fun c => absurd c (by decide)) (fun _ => ?_)
    refine lv_ldc2 (v := 12) hx hb hown (hts (.constantLong RX5 131 (12)) (by decide +kernel)) dX5_isRight_16 ?_
    refine kb_topl (lN 12) (by decide) ?_
    refine lv_goto (tgt := 36) hx hb dX5_isRight_19 (by decide) ?_
    refine kb_sR (As := [.long ((x).toInt64), .long (lN 1), .long (lN 12)]) (rest := []) hx hb hml hts hown hN hK hP hD hS hA (c_X5_in l D ((x).toInt64) (lN 1) (lN 12)) gX5_isRight_X5_in rfl ⟨rfl, rfl⟩ hdX5_in.2 ⟨Nat.le_of_ble_eq_true rfl, Nat.le_of_ble_eq_true rfl⟩ [] [] rfl rfl rfl rfl rfl hl.1 (Nat.le_of_ble_eq_true rfl) dX5_isRight_36 ⟨Nat.zero_le _, Nat.zero_le _⟩ (fun H locs hP hS => ?_)
    exact kb_zret (D := D) hQ hx hb hr hlocks hK hP hD hS dX5_isRight_39 (kb_b_n _) () rfl (Nat.le_refl _) (Nat.le_refl _) (show kb_b (inL ((x).toInt64) (lN 1) (lN 12)) = kb_b (isR 0 x) from (congrArg kb_b (inL_c (by decide) (by decide))))
  · refine lv_iload_n hx hb dX5_isRight_0 rfl (lv_at hl 1 rfl) ?_
    refine lv_i2l (v := (x).toInt64) hx hb dX5_isRight_1 rfl ?_
    refine lv_iload_n hx hb dX5_isRight_2 rfl (lv_at hl 0 rfl) ?_
    refine lv_iconst (v := nI 2) hx hb dX5_isRight_3 (by decide) ?_
    refine kb_icmp_ne (tgt := 11) hx hb dX5_isRight_4 (by decide) (by decide) (by decide) (fun _ => ?_) (fun c => absurd c (by decide))
    refine lv_lconst (v := lN 1) hx hb dX5_isRight_11 (by decide) ?_
    refine lv_iload_n hx hb dX5_isRight_12 rfl (lv_at hl 0 rfl) ?_
    refine kb_nif_ne (tgt := 22) hx hb dX5_isRight_13 (by decide) (by decide) (fun _ => ?_) (fun c => absurd c (by decide))
    refine lv_iload_n hx hb dX5_isRight_22 rfl (lv_at hl 0 rfl) ?_
    refine lv_iconst (v := nI 1) hx hb dX5_isRight_23 (by decide) ?_
    refine kb_icmp_ne (tgt := 33) hx hb dX5_isRight_24 (by decide) (by decide) (by decide) (fun c => absurd c (by decide)) (fun _ => ?_)
    refine lv_ldc2 (v := 60) hx hb hown (hts (.constantLong RX5 133 (60)) (by decide +kernel)) dX5_isRight_27 ?_
    refine kb_topl (lN 60) (by decide) ?_
    refine lv_goto (tgt := 36) hx hb dX5_isRight_30 (by decide) ?_
    refine kb_sR (As := [.long ((x).toInt64), .long (lN 1), .long (lN 60)]) (rest := []) hx hb hml hts hown hN hK hP hD hS hA (c_X5_in l D ((x).toInt64) (lN 1) (lN 60)) gX5_isRight_X5_in rfl ⟨rfl, rfl⟩ hdX5_in.2 ⟨Nat.le_of_ble_eq_true rfl, Nat.le_of_ble_eq_true rfl⟩ [] [] rfl rfl rfl rfl rfl hl.1 (Nat.le_of_ble_eq_true rfl) dX5_isRight_36 ⟨Nat.zero_le _, Nat.zero_le _⟩ (fun H locs hP hS => ?_)
    exact kb_zret (D := D) hQ hx hb hr hlocks hK hP hD hS dX5_isRight_39 (kb_b_n _) () rfl (Nat.le_refl _) (Nat.le_refl _) (show kb_b (inL ((x).toInt64) (lN 1) (lN 60)) = kb_b (isR 1 x) from (congrArg kb_b (inL_c (by decide) (by decide))))
  · refine lv_iload_n hx hb dX5_isRight_0 rfl (lv_at hl 1 rfl) ?_
    refine lv_i2l (v := (x).toInt64) hx hb dX5_isRight_1 rfl ?_
    refine lv_iload_n hx hb dX5_isRight_2 rfl (lv_at hl 0 rfl) ?_
    refine lv_iconst (v := nI 2) hx hb dX5_isRight_3 (by decide) ?_
    refine kb_icmp_ne (tgt := 11) hx hb dX5_isRight_4 (by decide) (by decide) (by decide) (fun c => absurd c (by decide)) (fun _ => ?_)
    refine lv_lconst (v := lN 0) hx hb dX5_isRight_7 (by decide) ?_
    refine lv_goto (tgt := 12) hx hb dX5_isRight_8 (by decide) ?_
    refine lv_iload_n hx hb dX5_isRight_12 rfl (lv_at hl 0 rfl) ?_
    refine kb_nif_ne (tgt := 22) hx hb dX5_isRight_13 (by decide) (by decide) (fun _ => ?_) (fun c => absurd c (by decide))
    refine lv_iload_n hx hb dX5_isRight_22 rfl (lv_at hl 0 rfl) ?_
    refine lv_iconst (v := nI 1) hx hb dX5_isRight_23 (by decide) ?_
    refine kb_icmp_ne (tgt := 33) hx hb dX5_isRight_24 (by decide) (by decide) (by decide) (fun _ => ?_) (fun c => absurd c (by decide))
    refine lv_ldc2 (v := 9) hx hb hown (hts (.constantLong RX5 95 (9)) (by decide +kernel)) dX5_isRight_33 ?_
    refine kb_topl (lN 9) (by decide) ?_
    refine kb_sR (As := [.long ((x).toInt64), .long (lN 0), .long (lN 9)]) (rest := []) hx hb hml hts hown hN hK hP hD hS hA (c_X5_in l D ((x).toInt64) (lN 0) (lN 9)) gX5_isRight_X5_in rfl ⟨rfl, rfl⟩ hdX5_in.2 ⟨Nat.le_of_ble_eq_true rfl, Nat.le_of_ble_eq_true rfl⟩ [] [] rfl rfl rfl rfl rfl hl.1 (Nat.le_of_ble_eq_true rfl) dX5_isRight_36 ⟨Nat.zero_le _, Nat.zero_le _⟩ (fun H locs hP hS => ?_)
    exact kb_zret (D := D) hQ hx hb hr hlocks hK hP hD hS dX5_isRight_39 (kb_b_n _) () rfl (Nat.le_refl _) (Nat.le_refl _) (show kb_b (inL ((x).toInt64) (lN 0) (lN 9)) = kb_b (isR 2 x) from (congrArg kb_b (inL_c (by decide) (by decide))))
  · refine lv_iload_n hx hb dX5_isRight_0 rfl (lv_at hl 1 rfl) ?_
    refine lv_i2l (v := (x).toInt64) hx hb dX5_isRight_1 rfl ?_
    refine lv_iload_n hx hb dX5_isRight_2 rfl (lv_at hl 0 rfl) ?_
    refine lv_iconst (v := nI 2) hx hb dX5_isRight_3 (by decide) ?_
    refine kb_icmp_ne (tgt := 11) hx hb dX5_isRight_4 (by decide) (by decide) (by decide) (fun _ => ?_) (fun c => absurd c (by decide))
    refine lv_lconst (v := lN 1) hx hb dX5_isRight_11 (by decide) ?_
    refine lv_iload_n hx hb dX5_isRight_12 rfl (lv_at hl 0 rfl) ?_
    refine kb_nif_ne (tgt := 22) hx hb dX5_isRight_13 (by decide) (by decide) (fun _ => ?_) (fun c => absurd c (by decide))
    refine lv_iload_n hx hb dX5_isRight_22 rfl (lv_at hl 0 rfl) ?_
    refine lv_iconst (v := nI 1) hx hb dX5_isRight_23 (by decide) ?_
    refine kb_icmp_ne (tgt := 33) hx hb dX5_isRight_24 (by decide) (by decide) (by decide) (fun _ => ?_) (fun c => absurd c (by decide))
    refine lv_ldc2 (v := 9) hx hb hown (hts (.constantLong RX5 95 (9)) (by decide +kernel)) dX5_isRight_33 ?_
    refine kb_topl (lN 9) (by decide) ?_
    refine kb_sR (As := [.long ((x).toInt64), .long (lN 1), .long (lN 9)]) (rest := []) hx hb hml hts hown hN hK hP hD hS hA (c_X5_in l D ((x).toInt64) (lN 1) (lN 9)) gX5_isRight_X5_in rfl ⟨rfl, rfl⟩ hdX5_in.2 ⟨Nat.le_of_ble_eq_true rfl, Nat.le_of_ble_eq_true rfl⟩ [] [] rfl rfl rfl rfl rfl hl.1 (Nat.le_of_ble_eq_true rfl) dX5_isRight_36 ⟨Nat.zero_le _, Nat.zero_le _⟩ (fun H locs hP hS => ?_)
    exact kb_zret (D := D) hQ hx hb hr hlocks hK hP hD hS dX5_isRight_39 (kb_b_n _) () rfl (Nat.le_refl _) (Nat.le_refl _) (show kb_b (inL ((x).toInt64) (lN 1) (lN 9)) = kb_b (isR 3 x) from (congrArg kb_b (inL_c (by decide) (by decide))))
abbrev rmX5_set : Room := { frames := 2, cells := 0, slots := 0, locals := 46 }
theorem hdX5_set : yX5_set.cls = RX5 ∧ yX5_set.cls ≠ "java/lang/invoke/MethodHandle" ∧ yX5_set.cls ≠ "java/lang/invoke/VarHandle" ∧ (parseMethodDescriptor yX5_set.desc).map (fun d => d.parameters.length) = some 2 := by decide +kernel
theorem inwX5_set_X5 : ∀ w ∈ wsX50, w ∈ wsX5_set := fun w h => List.mem_cons_of_mem _ (List.mem_append_right _ h)
set_option maxHeartbeats 4000000 in
set_option maxRecDepth 100000 in
theorem c_X5_set (l : Launch) (D : va_G) (cI : ClassId) (b : Nat → Nat) (hL : Nat) (iK : Int32) (tL : Nat) (sP : Nat) (nU : Int32) (iS : Int32) (sN : Int32) (sR : Int32) (lE : Int32) (fI : Int32) (sC : Int32) (v : Nat → Int32) (g : Sg) (hv : rV v g) (ho : Ok g) (kv : Nat → Int32) (hs : Nat → Int32) (h : Nat → Sg) (hm : mH hs hL h) (x : Int32) (w : Int32) : kb_I (S := (Nat → Int32) × (Nat → Int32) × (Nat → Int32) × Nat) D [(cI, .int)] l yX5_set wsX5_set rmX5_set [.ref (b 0), .int (x), .int (w)] [((b 0), .inr (5, [.ref (b 1), .ref (b 2), .ref (b 3), .ref (b 4), .int (nI hL), .ref (b 5), .int (iK), .ref (b 6), .ref (b 7), .int (nI tL), .int (nI sP), .int (nU), .int (iS), .int (sN), .int (sR), .int (lE), .int (fI), .int (sC)])), ((b 1), .inl (cI, 217, .inl v)), ((b 2), .inl (cI, 217, .inl kv)), ((b 4), .inl (cI, 868, .inl hs))] (fun (r : Int32) (u : (Nat → Int32) × (Nat → Int32) × (Nat → Int32) × Nat) => r = (opS g x w).1 ∧ mQ (opS g x w).1 (opS g x w).2 g h hL u.1 u.2.2.1 u.2.2.2) (fun (u : (Nat → Int32) × (Nat → Int32) × (Nat → Int32) × Nat) => [((b 0), .inr (5, [.ref (b 1), .ref (b 2), .ref (b 3), .ref (b 4), .int (nI u.2.2.2), .ref (b 5), .int (iK), .ref (b 6), .ref (b 7), .int (nI tL), .int (nI sP), .int (nU), .int (iS), .int (sN), .int (sR), .int (lE), .int (fI), .int (sC)])), ((b 1), .inl (cI, 217, .inl u.1)), ((b 2), .inl (cI, 217, .inl u.2.1)), ((b 4), .inl (cI, 868, .inl u.2.2.1))]) 0 0 := by
  refine kb_I_of (cc := cX5_set) (maxL := 4) (ret := (some .int)) (by decide) rfl (Nat.le_of_ble_eq_true rfl) ?_
  intro p e s mm args below meth c A hx hb hml hr hts hown hlocks hnm hA hN hK hP hD hS ls hl Q hQ
  have hl : lv_has ls 4 [(0, .ref (b 0)), (1, .int (x)), (2, .int (w))] := hl
  have hP : va_P D vwCl [((b 0), .inr (5, [.ref (b 1), .ref (b 2), .ref (b 3), .ref (b 4), .int (nI hL), .ref (b 5), .int (iK), .ref (b 6), .ref (b 7), .int (nI tL), .int (nI sP), .int (nU), .int (iS), .int (sN), .int (sR), .int (lE), .int (fI), .int (sC)])), ((b 1), .inl (cI, 217, .inl v)), ((b 2), .inl (cI, 217, .inl kv)), ((b 4), .inl (cI, 868, .inl hs))] s.heap := hP
  have hD : va_D A [((b 0), .inr (5, [.ref (b 1), .ref (b 2), .ref (b 3), .ref (b 4), .int (nI hL), .ref (b 5), .int (iK), .ref (b 6), .ref (b 7), .int (nI tL), .int (nI sP), .int (nU), .int (iS), .int (sN), .int (sR), .int (lE), .int (fI), .int (sC)])), ((b 1), .inl (cI, 217, .inl v)), ((b 2), .inl (cI, 217, .inl kv)), ((b 4), .inl (cI, 868, .inl hs))] := hD
  have fl7 := hts (.fieldLink RX5 7 "KingsBanquetModel" "all" "[I") (by decide +kernel)
  have hn := ho.n
  refine lv_iload_n hx hb dX5_set_0 rfl (lv_at hl 1 rfl) ?_
  refine lv_i2l (v := (x).toInt64) hx hb dX5_set_1 rfl ?_
  refine lv_lconst (v := lN 0) hx hb dX5_set_2 (by decide) ?_
  refine lv_ldc2 (v := 3) hx hb hown (hts (.constantLong RX5 135 (3)) (by decide +kernel)) dX5_set_3 ?_
  refine kb_topl (lN 3) (by decide) ?_
  refine kb_sR (As := [.long ((x).toInt64), .long (lN 0), .long (lN 3)]) (rest := []) hx hb hml hts hown hN hK hP hD hS hA (c_X5_in l D ((x).toInt64) (lN 0) (lN 3)) gX5_set_X5_in rfl ⟨rfl, rfl⟩ hdX5_in.2 ⟨Nat.le_of_ble_eq_true rfl, Nat.le_of_ble_eq_true rfl⟩ [] [] rfl rfl rfl rfl rfl hl.1 (Nat.le_of_ble_eq_true rfl) dX5_set_6 ⟨Nat.zero_le _, Nat.zero_le _⟩ (fun H locs hP hS => ?_)
  refine kb_top (kb_b (kIs 4 x)) (congrArg kb_b inL_k4) ?_
  refine kb_bif_ne (tgt := 14) hx hb dX5_set_9 (by decide) (fun c9 => ?_) (fun c9 => ?_)
  · obtain ⟨k, hk, rfl⟩ := kIs_ex c9 (by omega)
    refine lv_iload_n hx hb dX5_set_14 rfl (lv_at hl 1 rfl) ?_
    refine lv_iload_n hx hb dX5_set_15 rfl (lv_at hl 2 rfl) ?_
    refine kb_sR (As := [.int (nI k), .int (w)]) (rest := []) hx hb hml hts hown hN hK hP hD hS hA (c_X5_isRight l D k (by first | assumption | omega) w) gX5_set_X5_isRight rfl ⟨rfl, rfl⟩ hdX5_isRight.2 ⟨Nat.le_of_ble_eq_true rfl, Nat.le_of_ble_eq_true rfl⟩ [] [] rfl rfl rfl rfl rfl hl.1 (Nat.le_of_ble_eq_true rfl) dX5_set_16 ⟨Nat.zero_le _, Nat.zero_le _⟩ (fun H locs hP hS => ?_)
    refine kb_bif_ne (tgt := 25) hx hb dX5_set_19 (by decide) (fun c19 => ?_) (fun c19 => ?_)
    · refine lv_iload_n hx hb dX5_set_25 rfl (lv_at hl 1 rfl) ?_
      refine kb_nif_ne (tgt := 43) hx hb dX5_set_26 (by decide) (by omega) (fun c26 => ?_) (fun c26 => ?_)
      · refine lv_aload_n hx hb dX5_set_43 rfl (lv_at hl 0 rfl) ?_
        refine va_get (D := D) (ci := 5) (v := .ref (b 1)) (C := RX5) (T := TX5) (N := 18) hx hb hts inwX5_set_X5 hown hK hP 0 rfl rfl 0 (by decide) fl7 (fun _ h9 => h9) rfl dX5_set_44 ?_
        refine lv_iload_n hx hb dX5_set_47 rfl (lv_at hl 1 rfl) ?_
        refine kb_iald hx hb hK hP 1 0 rfl rfl (by decide) (by omega) dX5_set_48 ?_
        refine kb_top (gc g k) (hv.c hk) ?_
        refine lv_iload_n hx hb dX5_set_49 rfl (lv_at hl 2 rfl) ?_
        refine lv_icmp_ne (tgt := 56) hx hb dX5_set_50 (by decide) (fun c50 => ?_) (fun c50 => ?_)
        · refine lv_aload_n hx hb dX5_set_56 rfl (lv_at hl 0 rfl) ?_
          refine kb_vV (As := []) (rest := []) hx hb hml hts hown hN hK hP hD hS hA (c_X5_keeps l D cI b hL iK tL sP nU iS sN sR lE fI sC v kv) gX5_set_X5_keeps rfl ⟨rfl, rfl⟩ hdX5_keeps ⟨Nat.le_of_ble_eq_true rfl, Nat.le_of_ble_eq_true rfl⟩ [0, 1, 2] [0] rfl rfl rfl (ci := 5) rfl rfl rfl (fun _ => rfl) rfl rfl hl.1 (Nat.le_of_ble_eq_true rfl) dX5_set_57 ⟨Nat.zero_le _, Nat.zero_le _⟩ (fun u H locs hw_57 hP hD hS => ?_)
          obtain ⟨vo_57, rfl⟩ : ∃ z, z = u := ⟨_, rfl⟩
          have hw_57 : ∀ j, j < 217 → vo_57 j = v j := hw_57
          have hP : va_P D vwCl [((b 0), .inr (5, [.ref (b 1), .ref (b 2), .ref (b 3), .ref (b 4), .int (nI hL), .ref (b 5), .int (iK), .ref (b 6), .ref (b 7), .int (nI tL), .int (nI sP), .int (nU), .int (iS), .int (sN), .int (sR), .int (lE), .int (fI), .int (sC)])), ((b 1), .inl (cI, 217, .inl v)), ((b 2), .inl (cI, 217, .inl vo_57)), ((b 4), .inl (cI, 868, .inl hs))] H := hP
          have hD : va_D A [((b 0), .inr (5, [.ref (b 1), .ref (b 2), .ref (b 3), .ref (b 4), .int (nI hL), .ref (b 5), .int (iK), .ref (b 6), .ref (b 7), .int (nI tL), .int (nI sP), .int (nU), .int (iS), .int (sN), .int (sR), .int (lE), .int (fI), .int (sC)])), ((b 1), .inl (cI, 217, .inl v)), ((b 2), .inl (cI, 217, .inl vo_57)), ((b 4), .inl (cI, 868, .inl hs))] := hD
          refine lv_aload_n hx hb dX5_set_60 rfl (lv_at hl 0 rfl) ?_
          refine va_get (D := D) (ci := 5) (v := .ref (b 1)) (C := RX5) (T := TX5) (N := 18) hx hb hts inwX5_set_X5 hown hK hP 0 rfl rfl 0 (by decide) fl7 (fun _ h9 => h9) rfl dX5_set_61 ?_
          refine lv_iload_n hx hb dX5_set_64 rfl (lv_at hl 1 rfl) ?_
          refine kb_iald hx hb hK hP 1 0 rfl rfl (by decide) (by omega) dX5_set_65 ?_
          refine kb_top (gc g k) (hv.c hk) ?_
          refine lv_istore_n (lv' := [(3, .int (gc g k)), (0, .ref (b 0)), (1, .int (nI k)), (2, .int (w))]) hx hb dX5_set_66 rfl hl (by decide) rfl (fun ls hl => ?_)
          refine lv_aload_n hx hb dX5_set_67 rfl (lv_at hl 1 rfl) ?_
          refine va_get (D := D) (ci := 5) (v := .ref (b 1)) (C := RX5) (T := TX5) (N := 18) hx hb hts inwX5_set_X5 hown hK hP 0 rfl rfl 0 (by decide) fl7 (fun _ h9 => h9) rfl dX5_set_68 ?_
          refine lv_iload_n hx hb dX5_set_71 rfl (lv_at hl 2 rfl) ?_
          refine lv_iload_n hx hb dX5_set_72 rfl (lv_at hl 3 rfl) ?_
          refine kb_iast hx hb hK hP hD hS 1 0 rfl rfl (by decide) (by omega) dX5_set_73 (fun H locs hP hD hS => ?_)
          have hP : va_P D vwCl [((b 0), .inr (5, [.ref (b 1), .ref (b 2), .ref (b 3), .ref (b 4), .int (nI hL), .ref (b 5), .int (iK), .ref (b 6), .ref (b 7), .int (nI tL), .int (nI sP), .int (nU), .int (iS), .int (sN), .int (sR), .int (lE), .int (fI), .int (sC)])), ((b 1), .inl (cI, 217, .inl (upd v k w))), ((b 2), .inl (cI, 217, .inl vo_57)), ((b 4), .inl (cI, 868, .inl hs))] H := hP
          have hD : va_D A [((b 0), .inr (5, [.ref (b 1), .ref (b 2), .ref (b 3), .ref (b 4), .int (nI hL), .ref (b 5), .int (iK), .ref (b 6), .ref (b 7), .int (nI tL), .int (nI sP), .int (nU), .int (iS), .int (sN), .int (sR), .int (lE), .int (fI), .int (sC)])), ((b 1), .inl (cI, 217, .inl (upd v k w))), ((b 2), .inl (cI, 217, .inl vo_57)), ((b 4), .inl (cI, 868, .inl hs))] := hD
          refine lv_aload_n hx hb dX5_set_74 rfl (lv_at hl 1 rfl) ?_
          refine lv_iload_n hx hb dX5_set_75 rfl (lv_at hl 0 rfl) ?_
          refine kb_vI (As := [.int (gc g k)]) (rest := []) hx hb hml hts hown hN hK hP hD hS hA (c_X5_ends l D cI b hL iK tL sP nU iS sN sR lE fI sC (upd v k w) vo_57 hs (oSet g k w) g (rV_set hv hk hn.2.1 hn.2.2) (hv.of (fun j hj => hw_57 j hj) hn.2.1 hn.2.2) ho h hm (gc g k)) gX5_set_X5_ends rfl ⟨rfl, rfl⟩ hdX5_ends ⟨Nat.le_of_ble_eq_true rfl, Nat.le_of_ble_eq_true rfl⟩ [0, 1, 2, 3] [0] rfl rfl rfl (ci := 5) rfl rfl rfl (fun _ => rfl) rfl rfl hl.1 (Nat.le_of_ble_eq_true rfl) dX5_set_76 ⟨Nat.zero_le _, Nat.zero_le _⟩ (fun r_76 u H locs hw_76 hP hD hS => ?_)
          obtain ⟨vo_76, hso_76, hno_76⟩ := u
          have hw_76 : r_76 = (gc g k) ∧ mQ (gc g k) (oSet g k w) g h hL vo_76 hso_76 hno_76 := hw_76
          have hP : va_P D vwCl [((b 0), .inr (5, [.ref (b 1), .ref (b 2), .ref (b 3), .ref (b 4), .int (nI hno_76), .ref (b 5), .int (iK), .ref (b 6), .ref (b 7), .int (nI tL), .int (nI sP), .int (nU), .int (iS), .int (sN), .int (sR), .int (lE), .int (fI), .int (sC)])), ((b 1), .inl (cI, 217, .inl vo_76)), ((b 2), .inl (cI, 217, .inl vo_57)), ((b 4), .inl (cI, 868, .inl hso_76))] H := hP
          have hD : va_D A [((b 0), .inr (5, [.ref (b 1), .ref (b 2), .ref (b 3), .ref (b 4), .int (nI hno_76), .ref (b 5), .int (iK), .ref (b 6), .ref (b 7), .int (nI tL), .int (nI sP), .int (nU), .int (iS), .int (sN), .int (sR), .int (lE), .int (fI), .int (sC)])), ((b 1), .inl (cI, 217, .inl vo_76)), ((b 2), .inl (cI, 217, .inl vo_57)), ((b 4), .inl (cI, 868, .inl hso_76))] := hD
          exact kb_iret (D := D) hQ hx hb hr hlocks hK hP hD hS dX5_set_79 (vo_76, vo_57, hso_76, hno_76) rfl (Nat.le_refl _) (Nat.le_refl _) (show r_76 = (opS g (nI k) w).1 ∧ mQ (opS g (nI k) w).1 (opS g (nI k) w).2 g h hL vo_76 hso_76 hno_76 from (by rw [opS_5 hk c19 (by intro q; first | exact c26 q.1 | exact Int32.not_lt.mpr c37 q.2) c50]; exact hw_76))
        · refine lv_bipush (v := (-5)) hx hb dX5_set_53 (by decide) ?_
          exact kb_iret (D := D) hQ hx hb hr hlocks hK hP hD hS dX5_set_55 (v, kv, hs, hL) rfl (Nat.le_refl _) (Nat.le_refl _) (show (-5) = (opS g (nI k) w).1 ∧ mQ (opS g (nI k) w).1 (opS g (nI k) w).2 g h hL v hs hL from (by rw [opS_4 hk c19 (by intro q; first | exact c26 q.1 | exact Int32.not_lt.mpr c37 q.2) c50]; exact ⟨rfl, mQ_n ng5 hv hm⟩))
      · refine lv_aload_n hx hb dX5_set_29 rfl (lv_at hl 0 rfl) ?_
        refine va_get (D := D) (ci := 5) (v := .ref (b 1)) (C := RX5) (T := TX5) (N := 18) hx hb hts inwX5_set_X5 hown hK hP 0 rfl rfl 0 (by decide) fl7 (fun _ h9 => h9) rfl dX5_set_30 ?_
        refine lv_bipush (v := nI 11) hx hb dX5_set_33 (by decide) ?_
        refine kb_iald hx hb hK hP 1 0 rfl rfl (by decide) (by omega) dX5_set_35 ?_
        refine kb_top (nI (nT g)) hv.t ?_
        refine lv_iload_n hx hb dX5_set_36 rfl (lv_at hl 2 rfl) ?_
        refine lv_icmp_le (tgt := 43) hx hb dX5_set_37 (by decide) (fun c37 => ?_) (fun c37 => ?_)
        · refine lv_aload_n hx hb dX5_set_43 rfl (lv_at hl 0 rfl) ?_
          refine va_get (D := D) (ci := 5) (v := .ref (b 1)) (C := RX5) (T := TX5) (N := 18) hx hb hts inwX5_set_X5 hown hK hP 0 rfl rfl 0 (by decide) fl7 (fun _ h9 => h9) rfl dX5_set_44 ?_
          refine lv_iload_n hx hb dX5_set_47 rfl (lv_at hl 1 rfl) ?_
          refine kb_iald hx hb hK hP 1 0 rfl rfl (by decide) (by omega) dX5_set_48 ?_
          refine kb_top (gc g k) (hv.c hk) ?_
          refine lv_iload_n hx hb dX5_set_49 rfl (lv_at hl 2 rfl) ?_
          refine lv_icmp_ne (tgt := 56) hx hb dX5_set_50 (by decide) (fun c50 => ?_) (fun c50 => ?_)
          · refine lv_aload_n hx hb dX5_set_56 rfl (lv_at hl 0 rfl) ?_
            refine kb_vV (As := []) (rest := []) hx hb hml hts hown hN hK hP hD hS hA (c_X5_keeps l D cI b hL iK tL sP nU iS sN sR lE fI sC v kv) gX5_set_X5_keeps rfl ⟨rfl, rfl⟩ hdX5_keeps ⟨Nat.le_of_ble_eq_true rfl, Nat.le_of_ble_eq_true rfl⟩ [0, 1, 2] [0] rfl rfl rfl (ci := 5) rfl rfl rfl (fun _ => rfl) rfl rfl hl.1 (Nat.le_of_ble_eq_true rfl) dX5_set_57 ⟨Nat.zero_le _, Nat.zero_le _⟩ (fun u H locs hw_57 hP hD hS => ?_)
            obtain ⟨vo_57, rfl⟩ : ∃ z, z = u := ⟨_, rfl⟩
            have hw_57 : ∀ j, j < 217 → vo_57 j = v j := hw_57
            have hP : va_P D vwCl [((b 0), .inr (5, [.ref (b 1), .ref (b 2), .ref (b 3), .ref (b 4), .int (nI hL), .ref (b 5), .int (iK), .ref (b 6), .ref (b 7), .int (nI tL), .int (nI sP), .int (nU), .int (iS), .int (sN), .int (sR), .int (lE), .int (fI), .int (sC)])), ((b 1), .inl (cI, 217, .inl v)), ((b 2), .inl (cI, 217, .inl vo_57)), ((b 4), .inl (cI, 868, .inl hs))] H := hP
            have hD : va_D A [((b 0), .inr (5, [.ref (b 1), .ref (b 2), .ref (b 3), .ref (b 4), .int (nI hL), .ref (b 5), .int (iK), .ref (b 6), .ref (b 7), .int (nI tL), .int (nI sP), .int (nU), .int (iS), .int (sN), .int (sR), .int (lE), .int (fI), .int (sC)])), ((b 1), .inl (cI, 217, .inl v)), ((b 2), .inl (cI, 217, .inl vo_57)), ((b 4), .inl (cI, 868, .inl hs))] := hD
            refine lv_aload_n hx hb dX5_set_60 rfl (lv_at hl 0 rfl) ?_
            refine va_get (D := D) (ci := 5) (v := .ref (b 1)) (C := RX5) (T := TX5) (N := 18) hx hb hts inwX5_set_X5 hown hK hP 0 rfl rfl 0 (by decide) fl7 (fun _ h9 => h9) rfl dX5_set_61 ?_
            refine lv_iload_n hx hb dX5_set_64 rfl (lv_at hl 1 rfl) ?_
            refine kb_iald hx hb hK hP 1 0 rfl rfl (by decide) (by omega) dX5_set_65 ?_
            refine kb_top (gc g k) (hv.c hk) ?_
            refine lv_istore_n (lv' := [(3, .int (gc g k)), (0, .ref (b 0)), (1, .int (nI k)), (2, .int (w))]) hx hb dX5_set_66 rfl hl (by decide) rfl (fun ls hl => ?_)
            refine lv_aload_n hx hb dX5_set_67 rfl (lv_at hl 1 rfl) ?_
            refine va_get (D := D) (ci := 5) (v := .ref (b 1)) (C := RX5) (T := TX5) (N := 18) hx hb hts inwX5_set_X5 hown hK hP 0 rfl rfl 0 (by decide) fl7 (fun _ h9 => h9) rfl dX5_set_68 ?_
            refine lv_iload_n hx hb dX5_set_71 rfl (lv_at hl 2 rfl) ?_
            refine lv_iload_n hx hb dX5_set_72 rfl (lv_at hl 3 rfl) ?_
            refine kb_iast hx hb hK hP hD hS 1 0 rfl rfl (by decide) (by omega) dX5_set_73 (fun H locs hP hD hS => ?_)
            have hP : va_P D vwCl [((b 0), .inr (5, [.ref (b 1), .ref (b 2), .ref (b 3), .ref (b 4), .int (nI hL), .ref (b 5), .int (iK), .ref (b 6), .ref (b 7), .int (nI tL), .int (nI sP), .int (nU), .int (iS), .int (sN), .int (sR), .int (lE), .int (fI), .int (sC)])), ((b 1), .inl (cI, 217, .inl (upd v k w))), ((b 2), .inl (cI, 217, .inl vo_57)), ((b 4), .inl (cI, 868, .inl hs))] H := hP
            have hD : va_D A [((b 0), .inr (5, [.ref (b 1), .ref (b 2), .ref (b 3), .ref (b 4), .int (nI hL), .ref (b 5), .int (iK), .ref (b 6), .ref (b 7), .int (nI tL), .int (nI sP), .int (nU), .int (iS), .int (sN), .int (sR), .int (lE), .int (fI), .int (sC)])), ((b 1), .inl (cI, 217, .inl (upd v k w))), ((b 2), .inl (cI, 217, .inl vo_57)), ((b 4), .inl (cI, 868, .inl hs))] := hD
            refine lv_aload_n hx hb dX5_set_74 rfl (lv_at hl 1 rfl) ?_
            refine lv_iload_n hx hb dX5_set_75 rfl (lv_at hl 0 rfl) ?_
            refine kb_vI (As := [.int (gc g k)]) (rest := []) hx hb hml hts hown hN hK hP hD hS hA (c_X5_ends l D cI b hL iK tL sP nU iS sN sR lE fI sC (upd v k w) vo_57 hs (oSet g k w) g (rV_set hv hk hn.2.1 hn.2.2) (hv.of (fun j hj => hw_57 j hj) hn.2.1 hn.2.2) ho h hm (gc g k)) gX5_set_X5_ends rfl ⟨rfl, rfl⟩ hdX5_ends ⟨Nat.le_of_ble_eq_true rfl, Nat.le_of_ble_eq_true rfl⟩ [0, 1, 2, 3] [0] rfl rfl rfl (ci := 5) rfl rfl rfl (fun _ => rfl) rfl rfl hl.1 (Nat.le_of_ble_eq_true rfl) dX5_set_76 ⟨Nat.zero_le _, Nat.zero_le _⟩ (fun r_76 u H locs hw_76 hP hD hS => ?_)
            obtain ⟨vo_76, hso_76, hno_76⟩ := u
            have hw_76 : r_76 = (gc g k) ∧ mQ (gc g k) (oSet g k w) g h hL vo_76 hso_76 hno_76 := hw_76
            have hP : va_P D vwCl [((b 0), .inr (5, [.ref (b 1), .ref (b 2), .ref (b 3), .ref (b 4), .int (nI hno_76), .ref (b 5), .int (iK), .ref (b 6), .ref (b 7), .int (nI tL), .int (nI sP), .int (nU), .int (iS), .int (sN), .int (sR), .int (lE), .int (fI), .int (sC)])), ((b 1), .inl (cI, 217, .inl vo_76)), ((b 2), .inl (cI, 217, .inl vo_57)), ((b 4), .inl (cI, 868, .inl hso_76))] H := hP
            have hD : va_D A [((b 0), .inr (5, [.ref (b 1), .ref (b 2), .ref (b 3), .ref (b 4), .int (nI hno_76), .ref (b 5), .int (iK), .ref (b 6), .ref (b 7), .int (nI tL), .int (nI sP), .int (nU), .int (iS), .int (sN), .int (sR), .int (lE), .int (fI), .int (sC)])), ((b 1), .inl (cI, 217, .inl vo_76)), ((b 2), .inl (cI, 217, .inl vo_57)), ((b 4), .inl (cI, 868, .inl hso_76))] := hD
            exact kb_iret (D := D) hQ hx hb hr hlocks hK hP hD hS dX5_set_79 (vo_76, vo_57, hso_76, hno_76) rfl (Nat.le_refl _) (Nat.le_refl _) (show r_76 = (opS g (nI k) w).1 ∧ mQ (opS g (nI k) w).1 (opS g (nI k) w).2 g h hL vo_76 hso_76 hno_76 from (by rw [opS_5 hk c19 (by intro q; first | exact c26 q.1 | exact Int32.not_lt.mpr c37 q.2) c50]; exact hw_76))
          · refine lv_bipush (v := (-5)) hx hb dX5_set_53 (by decide) ?_
            exact kb_iret (D := D) hQ hx hb hr hlocks hK hP hD hS dX5_set_55 (v, kv, hs, hL) rfl (Nat.le_refl _) (Nat.le_refl _) (show (-5) = (opS g (nI k) w).1 ∧ mQ (opS g (nI k) w).1 (opS g (nI k) w).2 g h hL v hs hL from (by rw [opS_4 hk c19 (by intro q; first | exact c26 q.1 | exact Int32.not_lt.mpr c37 q.2) c50]; exact ⟨rfl, mQ_n ng5 hv hm⟩))
        · refine lv_bipush (v := (-4)) hx hb dX5_set_40 (by decide) ?_
          exact kb_iret (D := D) hQ hx hb hr hlocks hK hP hD hS dX5_set_42 (v, kv, hs, hL) rfl (Nat.le_refl _) (Nat.le_refl _) (show (-4) = (opS g (nI k) w).1 ∧ mQ (opS g (nI k) w).1 (opS g (nI k) w).2 g h hL v hs hL from (by rw [opS_3 hk c19 c26 (Int32.not_le.mp c37)]; exact ⟨rfl, mQ_n ng4 hv hm⟩))
    · refine lv_bipush (v := (-2)) hx hb dX5_set_22 (by decide) ?_
      exact kb_iret (D := D) hQ hx hb hr hlocks hK hP hD hS dX5_set_24 (v, kv, hs, hL) rfl (Nat.le_refl _) (Nat.le_refl _) (show (-2) = (opS g (nI k) w).1 ∧ mQ (opS g (nI k) w).1 (opS g (nI k) w).2 g h hL v hs hL from (by rw [opS_2 hk c19]; exact ⟨rfl, mQ_n ng2 hv hm⟩))
  · refine lv_iconst (v := (-1)) hx hb dX5_set_12 (by decide) ?_
    exact kb_iret (D := D) hQ hx hb hr hlocks hK hP hD hS dX5_set_13 (v, kv, hs, hL) rfl (Nat.le_refl _) (Nat.le_refl _) (show (-1) = (opS g x w).1 ∧ mQ (opS g x w).1 (opS g x w).2 g h hL v hs hL from (by rw [opS_1 c9]; exact ⟨rfl, mQ_n ng1 hv hm⟩))
abbrev rmX5_stopped : Room := { frames := 1, cells := 0, slots := 0, locals := 25 }
theorem hdX5_stopped : yX5_stopped.cls = RX5 ∧ yX5_stopped.cls ≠ "java/lang/invoke/MethodHandle" ∧ yX5_stopped.cls ≠ "java/lang/invoke/VarHandle" ∧ (parseMethodDescriptor yX5_stopped.desc).map (fun d => d.parameters.length) = some 1 := by decide +kernel
theorem inwX5_stopped_X5 : ∀ w ∈ wsX50, w ∈ wsX5_stopped := fun w h => List.mem_cons_of_mem _ (List.mem_append_right _ h)
set_option maxHeartbeats 4000000 in
set_option maxRecDepth 100000 in
theorem c_X5_stopped (l : Launch) (D : va_G) (cI : ClassId) (b : Nat → Nat) (hL : Nat) (iK : Int32) (tL : Nat) (sP : Nat) (nU : Int32) (iS : Int32) (sN : Int32) (sR : Int32) (lE : Int32) (fI : Int32) (sC : Int32) (sT : Int32) (sE : Int32) (hst : mS iS sN sR sT sE) (x : Int32) : kb_R D [(cI, .int)] l yX5_stopped wsX5_stopped rmX5_stopped [.ref (b 0), .int (x)] [((b 0), .inr (5, [.ref (b 1), .ref (b 2), .ref (b 3), .ref (b 4), .int (nI hL), .ref (b 5), .int (iK), .ref (b 6), .ref (b 7), .int (nI tL), .int (nI sP), .int (nU), .int (iS), .int (sN), .int (sR), .int (lE), .int (fI), .int (sC)]))] (stA sT sE x) := by
  refine kb_I_of (cc := cX5_stopped) (maxL := 2) (ret := (some .int)) (by decide) rfl (Nat.le_of_ble_eq_true rfl) ?_
  intro p e s mm args below meth c A hx hb hml hr hts hown hlocks hnm hA hN hK hP hD hS ls hl Q hQ
  have hl : lv_has ls 2 [(0, .ref (b 0)), (1, .int (x))] := hl
  have hP : va_P D vwCl [((b 0), .inr (5, [.ref (b 1), .ref (b 2), .ref (b 3), .ref (b 4), .int (nI hL), .ref (b 5), .int (iK), .ref (b 6), .ref (b 7), .int (nI tL), .int (nI sP), .int (nU), .int (iS), .int (sN), .int (sR), .int (lE), .int (fI), .int (sC)]))] s.heap := hP
  have hD : va_D A [((b 0), .inr (5, [.ref (b 1), .ref (b 2), .ref (b 3), .ref (b 4), .int (nI hL), .ref (b 5), .int (iK), .ref (b 6), .ref (b 7), .int (nI tL), .int (nI sP), .int (nU), .int (iS), .int (sN), .int (sR), .int (lE), .int (fI), .int (sC)]))] := hD
  have fl183 := hts (.fieldLink RX5 183 "KingsBanquetModel" "isStopped" "I") (by decide +kernel)
  have fl186 := hts (.fieldLink RX5 186 "KingsBanquetModel" "stopNumber" "I") (by decide +kernel)
  have fl189 := hts (.fieldLink RX5 189 "KingsBanquetModel" "stopError" "I") (by decide +kernel)
  refine lv_iload_n hx hb dX5_stopped_0 rfl (lv_at hl 1 rfl) ?_
  refine lv_i2l (v := (x).toInt64) hx hb dX5_stopped_1 rfl ?_
  refine lv_lconst (v := lN 0) hx hb dX5_stopped_2 (by decide) ?_
  refine lv_lconst (v := lN 1) hx hb dX5_stopped_3 (by decide) ?_
  refine kb_sR (As := [.long ((x).toInt64), .long (lN 0), .long (lN 1)]) (rest := []) hx hb hml hts hown hN hK hP hD hS hA (c_X5_in l D ((x).toInt64) (lN 0) (lN 1)) gX5_stopped_X5_in rfl ⟨rfl, rfl⟩ hdX5_in.2 ⟨Nat.le_of_ble_eq_true rfl, Nat.le_of_ble_eq_true rfl⟩ [] [] rfl rfl rfl rfl rfl hl.1 (Nat.le_of_ble_eq_true rfl) dX5_stopped_4 ⟨Nat.zero_le _, Nat.zero_le _⟩ (fun H locs hP hS => ?_)
  refine kb_top (kb_b (kIs 2 x)) (congrArg kb_b inL_k2) ?_
  refine kb_bif_ne (tgt := 15) hx hb dX5_stopped_7 (by decide) (fun c7 => ?_) (fun c7 => ?_)
  · refine lv_aload_n hx hb dX5_stopped_15 rfl (lv_at hl 0 rfl) ?_
    refine va_get (D := D) (ci := 5) (v := .int (iS)) (C := RX5) (T := TX5) (N := 18) hx hb hts inwX5_stopped_X5 hown hK hP 0 rfl rfl 12 (by decide) fl183 (fun _ h9 => h9) rfl dX5_stopped_16 ?_
    refine lv_if_ne (tgt := 27) hx hb dX5_stopped_19 (by decide) (fun c19 => ?_) (fun c19 => ?_)
    · refine lv_iload_n hx hb dX5_stopped_27 rfl (lv_at hl 1 rfl) ?_
      refine lv_if_ne (tgt := 38) hx hb dX5_stopped_28 (by decide) (fun c28 => ?_) (fun c28 => ?_)
      · refine lv_aload_n hx hb dX5_stopped_38 rfl (lv_at hl 0 rfl) ?_
        refine va_get (D := D) (ci := 5) (v := .int (sR)) (C := RX5) (T := TX5) (N := 18) hx hb hts inwX5_stopped_X5 hown hK hP 0 rfl rfl 14 (by decide) fl189 (fun _ h9 => h9) rfl dX5_stopped_39 ?_
        exact kb_iret (D := D) hQ hx hb hr hlocks hK hP hD hS dX5_stopped_42 () rfl (Nat.le_refl _) (Nat.le_refl _) (show sR = stA sT sE x from (by first | exact (stA_2 c7).symm | exact (stA_5 c7 (mS_0 hst c19)).symm | exact (mS_1 hst c19).2.1.trans (stA_0 c7 (mS_1 hst c19).1 c28).symm | exact (mS_1 hst c19).2.2.trans (stA_1 c7 (mS_1 hst c19).1 c28).symm))
      · refine lv_aload_n hx hb dX5_stopped_31 rfl (lv_at hl 0 rfl) ?_
        refine va_get (D := D) (ci := 5) (v := .int (sN)) (C := RX5) (T := TX5) (N := 18) hx hb hts inwX5_stopped_X5 hown hK hP 0 rfl rfl 13 (by decide) fl186 (fun _ h9 => h9) rfl dX5_stopped_32 ?_
        refine lv_goto (tgt := 42) hx hb dX5_stopped_35 (by decide) ?_
        exact kb_iret (D := D) hQ hx hb hr hlocks hK hP hD hS dX5_stopped_42 () rfl (Nat.le_refl _) (Nat.le_refl _) (show sN = stA sT sE x from (by first | exact (stA_2 c7).symm | exact (stA_5 c7 (mS_0 hst c19)).symm | exact (mS_1 hst c19).2.1.trans (stA_0 c7 (mS_1 hst c19).1 c28).symm | exact (mS_1 hst c19).2.2.trans (stA_1 c7 (mS_1 hst c19).1 c28).symm))
    · refine lv_bipush (v := (-5)) hx hb dX5_stopped_22 (by decide) ?_
      refine lv_goto (tgt := 42) hx hb dX5_stopped_24 (by decide) ?_
      exact kb_iret (D := D) hQ hx hb hr hlocks hK hP hD hS dX5_stopped_42 () rfl (Nat.le_refl _) (Nat.le_refl _) (show (-5) = stA sT sE x from (by first | exact (stA_2 c7).symm | exact (stA_5 c7 (mS_0 hst c19)).symm | exact (mS_1 hst c19).2.1.trans (stA_0 c7 (mS_1 hst c19).1 c28).symm | exact (mS_1 hst c19).2.2.trans (stA_1 c7 (mS_1 hst c19).1 c28).symm))
  · refine lv_bipush (v := (-2)) hx hb dX5_stopped_10 (by decide) ?_
    refine lv_goto (tgt := 42) hx hb dX5_stopped_12 (by decide) ?_
    exact kb_iret (D := D) hQ hx hb hr hlocks hK hP hD hS dX5_stopped_42 () rfl (Nat.le_refl _) (Nat.le_refl _) (show (-2) = stA sT sE x from (by first | exact (stA_2 c7).symm | exact (stA_5 c7 (mS_0 hst c19)).symm | exact (mS_1 hst c19).2.1.trans (stA_0 c7 (mS_1 hst c19).1 c28).symm | exact (mS_1 hst c19).2.2.trans (stA_1 c7 (mS_1 hst c19).1 c28).symm))
