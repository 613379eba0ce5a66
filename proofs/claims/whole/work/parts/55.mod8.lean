abbrev rmX5_doPass : Room := { frames := 7, cells := 0, slots := 0, locals := 153 }
theorem hdX5_doPass : yX5_doPass.cls = RX5 ∧ yX5_doPass.cls ≠ "java/lang/invoke/MethodHandle" ∧ yX5_doPass.cls ≠ "java/lang/invoke/VarHandle" ∧ (parseMethodDescriptor yX5_doPass.desc).map (fun d => d.parameters.length) = some 1 := by decide +kernel
theorem inwX5_doPass_X5 : ∀ w ∈ wsX50, w ∈ wsX5_doPass := fun w h => List.mem_cons_of_mem _ (List.mem_append_right _ h)
set_option maxHeartbeats 4000000 in
set_option maxRecDepth 100000 in
theorem c_X5_doPass (l : Launch) (D : va_G) (cI : ClassId) (b : Nat → Nat) (hL : Nat) (iK : Int32) (tL : Nat) (sP : Nat) (nU : Int32) (iS : Int32) (sN : Int32) (sR : Int32) (lE : Int32) (fI : Int32) (sC : Int32) (v : Nat → Int32) (g : Sg) (hv : rV v g) (ho : Ok g) (lf : Nat → Int32) (x : Int32) : kb_I (S := (Nat → Int32) × (Nat → Int32)) D [(cI, .int)] l yX5_doPass wsX5_doPass rmX5_doPass [.ref (b 0), .int (x)] [((b 0), .inr (5, [.ref (b 1), .ref (b 2), .ref (b 3), .ref (b 4), .int (nI hL), .ref (b 5), .int (iK), .ref (b 6), .ref (b 7), .int (nI tL), .int (nI sP), .int (nU), .int (iS), .int (sN), .int (sR), .int (lE), .int (fI), .int (sC)])), ((b 1), .inl (cI, 217, .inl v)), ((b 6), .inl (cI, 12, .inl lf))] (fun (r : Int32) (u : (Nat → Int32) × (Nat → Int32)) => r = (opP g x).1 ∧ rV u.1 (opP g x).2) (fun (u : (Nat → Int32) × (Nat → Int32)) => [((b 0), .inr (5, [.ref (b 1), .ref (b 2), .ref (b 3), .ref (b 4), .int (nI hL), .ref (b 5), .int (iK), .ref (b 6), .ref (b 7), .int (nI tL), .int (nI sP), .int (nU), .int (iS), .int (sN), .int (sR), .int (lE), .int (fI), .int (sC)])), ((b 1), .inl (cI, 217, .inl u.1)), ((b 6), .inl (cI, 12, .inl u.2))]) 0 0 := by
  refine kb_I_of (cc := cX5_doPass) (maxL := 4) (ret := (some .int)) (by decide) rfl (Nat.le_of_ble_eq_true rfl) ?_
  intro p e s mm args below meth c A hx hb hml hr hts hown hlocks hnm hA hN hK hP hD hS ls hl Q hQ
  have hl : lv_has ls 4 [(0, .ref (b 0)), (1, .int (x))] := hl
  have hP : va_P D vwCl [((b 0), .inr (5, [.ref (b 1), .ref (b 2), .ref (b 3), .ref (b 4), .int (nI hL), .ref (b 5), .int (iK), .ref (b 6), .ref (b 7), .int (nI tL), .int (nI sP), .int (nU), .int (iS), .int (sN), .int (sR), .int (lE), .int (fI), .int (sC)])), ((b 1), .inl (cI, 217, .inl v)), ((b 6), .inl (cI, 12, .inl lf))] s.heap := hP
  have hD : va_D A [((b 0), .inr (5, [.ref (b 1), .ref (b 2), .ref (b 3), .ref (b 4), .int (nI hL), .ref (b 5), .int (iK), .ref (b 6), .ref (b 7), .int (nI tL), .int (nI sP), .int (nU), .int (iS), .int (sN), .int (sR), .int (lE), .int (fI), .int (sC)])), ((b 1), .inl (cI, 217, .inl v)), ((b 6), .inl (cI, 12, .inl lf))] := hD
  have fl7 := hts (.fieldLink RX5 7 "KingsBanquetModel" "all" "[I") (by decide +kernel)
  refine lv_iload_n hx hb dX5_doPass_0 rfl (lv_at hl 1 rfl) ?_
  refine lv_i2l (v := (x).toInt64) hx hb dX5_doPass_1 rfl ?_
  refine lv_lconst (v := lN 1) hx hb dX5_doPass_2 (by decide) ?_
  refine lv_ldc2 (v := 99) hx hb hown (hts (.constantLong RX5 111 (99)) (by decide +kernel)) dX5_doPass_3 ?_
  refine kb_topl (lN 99) (by decide) ?_
  refine kb_sR (As := [.long ((x).toInt64), .long (lN 1), .long (lN 99)]) (rest := []) hx hb hml hts hown hN hK hP hD hS hA (c_X5_in l D ((x).toInt64) (lN 1) (lN 99)) gX5_doPass_X5_in rfl ⟨rfl, rfl⟩ hdX5_in.2 ⟨Nat.le_of_ble_eq_true rfl, Nat.le_of_ble_eq_true rfl⟩ [] [] rfl rfl rfl rfl rfl hl.1 (Nat.le_of_ble_eq_true rfl) dX5_doPass_6 ⟨Nat.zero_le _, Nat.zero_le _⟩ (fun H locs hP hS => ?_)
  refine kb_top (kb_b (isIn x 1 99)) (congrArg kb_b (inL_c (by decide) (by decide))) ?_
  refine kb_bif_ne (tgt := 15) hx hb dX5_doPass_9 (by decide) (fun c9 => ?_) (fun c9 => ?_)
  · obtain ⟨j, hj1, hj9, rfl⟩ := isIn_ex (by decide) (by decide) c9
    refine lv_aload_n hx hb dX5_doPass_15 rfl (lv_at hl 0 rfl) ?_
    refine va_get (D := D) (ci := 5) (v := .ref (b 1)) (C := RX5) (T := TX5) (N := 18) hx hb hts inwX5_doPass_X5 hown hK hP 0 rfl rfl 0 (by decide) fl7 (fun _ h9 => h9) rfl dX5_doPass_16 ?_
    refine lv_iconst (v := nI 4) hx hb dX5_doPass_19 (by decide) ?_
    refine kb_iald hx hb hK hP 1 0 rfl rfl (by decide) (by omega) dX5_doPass_20 ?_
    refine kb_top (gc g 4) hv.m ?_
    refine lv_iload_n hx hb dX5_doPass_21 rfl (lv_at hl 1 rfl) ?_
    refine lv_iadd hx hb dX5_doPass_22 ?_
    refine lv_ldc (v := 99999) hx hb hown (hts (.constant RX5 113 (99999)) (by decide +kernel)) dX5_doPass_23 ?_
    refine kb_top (nI 99999) (by decide) ?_
    refine lv_icmp_le (tgt := 31) hx hb dX5_doPass_25 (by decide) (fun c25 => ?_) (fun c25 => ?_)
    · refine lv_iconst (v := nI 0) hx hb dX5_doPass_31 (by decide) ?_
      refine lv_istore_n (lv' := [(2, .int (nI 0)), (0, .ref (b 0)), (1, .int (nI j))]) hx hb dX5_doPass_32 rfl hl (by decide) rfl (fun ls hl => ?_)
      refine lv_iconst (v := nI 0) hx hb dX5_doPass_33 (by decide) ?_
      refine lv_istore_n (lv' := [(3, .int (nI 0)), (2, .int (nI 0)), (0, .ref (b 0)), (1, .int (nI j))]) hx hb dX5_doPass_34 rfl hl (by decide) rfl (fun ls hl => ?_)
      have L_35 : ∀ (z : Nat) (i : Nat) (vc : Nat → Int32) (lc : Nat → Int32), (i ≤ j) → (rV vc (oPass i g)) → (j - i) < z → ∀ (H : Heap) (locs : List Loc), va_P D vwCl [((b 0), .inr (5, [.ref (b 1), .ref (b 2), .ref (b 3), .ref (b 4), .int (nI hL), .ref (b 5), .int (iK), .ref (b 6), .ref (b 7), .int (nI tL), .int (nI sP), .int (nU), .int (iS), .int (sN), .int (sR), .int (lE), .int (fI), .int (sC)])), ((b 1), .inl (cI, 217, .inl vc)), ((b 6), .inl (cI, 12, .inl lc))] H → va_D A [((b 0), .inr (5, [.ref (b 1), .ref (b 2), .ref (b 3), .ref (b 4), .int (nI hL), .ref (b 5), .int (iK), .ref (b 6), .ref (b 7), .int (nI tL), .int (nI sP), .int (nU), .int (iS), .int (sN), .int (sR), .int (lE), .int (fI), .int (sC)])), ((b 1), .inl (cI, 217, .inl vc)), ((b 6), .inl (cI, 12, .inl lc))] → va_S A s.heap H locs → ∀ ls : Array Slot, lv_has ls 4 [(3, .int (nI i)), (2, .int (nI (oPassN i g))), (0, .ref (b 0)), (1, .int (nI j))] → W p l e rmX5_doPass s mm args below meth c H locs 0 0 Q (F0 mm 35 ls []) := by
        intro z
        induction z with
        | zero =>
          intro i vc lc _ _ hz
          exact absurd hz (Nat.not_lt_zero _)
        | succ z ih_35 =>
          intro i vc lc hi hvc hz H locs hP hD hS ls hl
          refine lv_iload_n hx hb dX5_doPass_35 rfl (lv_at hl 0 rfl) ?_
          refine lv_iload_n hx hb dX5_doPass_36 rfl (lv_at hl 3 rfl) ?_
          refine kb_icmp_ge (tgt := 53) hx hb dX5_doPass_37 (by decide) (by omega) (by omega) (fun c37 => ?_) (fun c37 => ?_)
          · refine lv_iload_n hx hb dX5_doPass_53 rfl (lv_at hl 1 rfl) ?_
            exact kb_iret (D := D) hQ hx hb hr hlocks hK hP hD hS dX5_doPass_54 (vc, lc) rfl (Nat.le_refl _) (Nat.le_refl _) (show (nI (oPassN i g)) = (opP g (nI j)).1 ∧ rV vc (opP g (nI j)).2 from (by rw [opP_3 c9 (by omega) (Int32.not_lt.mpr c25), show j = i by omega]; exact ⟨rfl, hvc⟩))
          · refine lv_iload_n hx hb dX5_doPass_40 rfl (lv_at hl 1 rfl) ?_
            refine lv_aload_n hx hb dX5_doPass_41 rfl (lv_at hl 2 rfl) ?_
            refine kb_vI (As := []) (rest := [.int (nI (oPassN i g))]) hx hb hml hts hown hN hK hP hD hS hA (c_X5_minute l D cI b hL iK tL sP nU iS sN sR lE fI sC vc (oPass i g) hvc (oPass_ok i ho) lc) gX5_doPass_X5_minute rfl ⟨rfl, rfl⟩ hdX5_minute ⟨Nat.le_of_ble_eq_true rfl, Nat.le_of_ble_eq_true rfl⟩ [0, 1, 2] [0] rfl rfl rfl (ci := 5) rfl rfl rfl (fun _ => rfl) rfl rfl hl.1 (Nat.le_of_ble_eq_true rfl) dX5_doPass_42 ⟨Nat.zero_le _, Nat.zero_le _⟩ (fun r_42 u H locs hw_42 hP hD hS => ?_)
            obtain ⟨vo_42, lo_42⟩ := u
            have hw_42 : r_42 = nI (dueN (oPass i g)) ∧ rV vo_42 (oMin (oPass i g)) := hw_42
            have hP : va_P D vwCl [((b 0), .inr (5, [.ref (b 1), .ref (b 2), .ref (b 3), .ref (b 4), .int (nI hL), .ref (b 5), .int (iK), .ref (b 6), .ref (b 7), .int (nI tL), .int (nI sP), .int (nU), .int (iS), .int (sN), .int (sR), .int (lE), .int (fI), .int (sC)])), ((b 1), .inl (cI, 217, .inl vo_42)), ((b 6), .inl (cI, 12, .inl lo_42))] H := hP
            have hD : va_D A [((b 0), .inr (5, [.ref (b 1), .ref (b 2), .ref (b 3), .ref (b 4), .int (nI hL), .ref (b 5), .int (iK), .ref (b 6), .ref (b 7), .int (nI tL), .int (nI sP), .int (nU), .int (iS), .int (sN), .int (sR), .int (lE), .int (fI), .int (sC)])), ((b 1), .inl (cI, 217, .inl vo_42)), ((b 6), .inl (cI, 12, .inl lo_42))] := hD
            refine kb_top (nI (dueN (oPass i g))) hw_42.1 ?_
            refine lv_iadd hx hb dX5_doPass_45 ?_
            refine kb_top (nI (oPassN i g + (dueN (oPass i g)))) (nI_add (oPassN i g) (dueN (oPass i g))) ?_
            refine lv_istore_n (lv' := [(2, .int (nI (oPassN i g + (dueN (oPass i g))))), (3, .int (nI i)), (0, .ref (b 0)), (1, .int (nI j))]) hx hb dX5_doPass_46 rfl hl (by decide) rfl (fun ls hl => ?_)
            refine lv_iinc (v := nI (i + 1)) (lv' := [(3, .int (nI (i + 1))), (2, .int (nI (oPassN i g + (dueN (oPass i g))))), (0, .ref (b 0)), (1, .int (nI j))]) hx hb dX5_doPass_47 hl (k := 1) rfl (kb_inc1 i) (by decide) rfl (fun ls hl => ?_)
            refine lv_goto (tgt := 35) hx hb dX5_doPass_50 (by decide) ?_
            exact ih_35 (i + 1) vo_42 lo_42 (by omega) hw_42.2 (by omega) _ _ hP hD hS _ (lv_sub hl [0, 1, 2, 3] rfl)
      exact L_35 ((j - 0) + 1) 0 v lf (by omega) hv (Nat.lt_succ_self _) _ _ hP hD hS _ (lv_sub hl [0, 1, 2, 3] rfl)
    · refine lv_bipush (v := (-3)) hx hb dX5_doPass_28 (by decide) ?_
      exact kb_iret (D := D) hQ hx hb hr hlocks hK hP hD hS dX5_doPass_30 (v, lf) rfl (Nat.le_refl _) (Nat.le_refl _) (show (-3) = (opP g (nI j)).1 ∧ rV v (opP g (nI j)).2 from (by rw [opP_2 c9 (Int32.not_le.mp c25)]; exact ⟨rfl, hv⟩))
  · refine lv_bipush (v := (-2)) hx hb dX5_doPass_12 (by decide) ?_
    exact kb_iret (D := D) hQ hx hb hr hlocks hK hP hD hS dX5_doPass_14 (v, lf) rfl (Nat.le_refl _) (Nat.le_refl _) (show (-2) = (opP g x).1 ∧ rV v (opP g x).2 from (by rw [opP_1 c9]; exact ⟨rfl, hv⟩))
