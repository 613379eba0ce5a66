abbrev rmX5_mostSlighted : Room := { frames := 1, cells := 0, slots := 0, locals := 22 }
theorem hdX5_mostSlighted : yX5_mostSlighted.cls = RX5 ∧ yX5_mostSlighted.cls ≠ "java/lang/invoke/MethodHandle" ∧ yX5_mostSlighted.cls ≠ "java/lang/invoke/VarHandle" ∧ (parseMethodDescriptor yX5_mostSlighted.desc).map (fun d => d.parameters.length) = some 0 := by decide +kernel
theorem inwX5_mostSlighted_X5 : ∀ w ∈ wsX50, w ∈ wsX5_mostSlighted := fun w h => List.mem_cons_of_mem _ (List.mem_append_right _ h)
set_option maxHeartbeats 4000000 in
set_option maxRecDepth 100000 in
theorem c_X5_mostSlighted (l : Launch) (D : va_G) (cI : ClassId) (b : Nat → Nat) (hL : Nat) (iK : Int32) (tL : Nat) (sP : Nat) (nU : Int32) (iS : Int32) (sN : Int32) (sR : Int32) (lE : Int32) (fI : Int32) (sC : Int32) (v : Nat → Int32) (g : Sg) (hv : rV v g) (ho : Ok g) : kb_R D [(cI, .int)] l yX5_mostSlighted wsX5_mostSlighted rmX5_mostSlighted [.ref (b 0)] [((b 0), .inr (5, [.ref (b 1), .ref (b 2), .ref (b 3), .ref (b 4), .int (nI hL), .ref (b 5), .int (iK), .ref (b 6), .ref (b 7), .int (nI tL), .int (nI sP), .int (nU), .int (iS), .int (sN), .int (sR), .int (lE), .int (fI), .int (sC)])), ((b 1), .inl (cI, 217, .inl v))] ((msI g (nT g)).2) := by
  refine kb_I_of (cc := cX5_mostSlighted) (maxL := 5) (ret := (some .int)) (by decide) rfl (Nat.le_of_ble_eq_true rfl) ?_
  intro p e s mm args below meth c A hx hb hml hr hts hown hlocks hnm hA hN hK hP hD hS ls hl Q hQ
  have hl : lv_has ls 5 [(0, .ref (b 0))] := hl
  have hP : va_P D vwCl [((b 0), .inr (5, [.ref (b 1), .ref (b 2), .ref (b 3), .ref (b 4), .int (nI hL), .ref (b 5), .int (iK), .ref (b 6), .ref (b 7), .int (nI tL), .int (nI sP), .int (nU), .int (iS), .int (sN), .int (sR), .int (lE), .int (fI), .int (sC)])), ((b 1), .inl (cI, 217, .inl v))] s.heap := hP
  have hD : va_D A [((b 0), .inr (5, [.ref (b 1), .ref (b 2), .ref (b 3), .ref (b 4), .int (nI hL), .ref (b 5), .int (iK), .ref (b 6), .ref (b 7), .int (nI tL), .int (nI sP), .int (nU), .int (iS), .int (sN), .int (sR), .int (lE), .int (fI), .int (sC)])), ((b 1), .inl (cI, 217, .inl v))] := hD
  have fl7 := hts (.fieldLink RX5 7 "KingsBanquetModel" "all" "[I") (by decide +kernel)
  have hn := ho.n
  refine lv_bipush (v := (-5)) hx hb dX5_mostSlighted_0 (by decide) ?_
  refine lv_istore_n (lv' := [(1, .int ((-5))), (0, .ref (b 0))]) hx hb dX5_mostSlighted_2 rfl hl (by decide) rfl (fun ls hl => ?_)
  refine lv_iconst (v := nI 0) hx hb dX5_mostSlighted_3 (by decide) ?_
  refine lv_istore_n (lv' := [(2, .int (nI 0)), (1, .int ((-5))), (0, .ref (b 0))]) hx hb dX5_mostSlighted_4 rfl hl (by decide) rfl (fun ls hl => ?_)
  refine lv_iconst (v := nI 0) hx hb dX5_mostSlighted_5 (by decide) ?_
  refine lv_istore_n (lv' := [(3, .int (nI 0)), (2, .int (nI 0)), (1, .int ((-5))), (0, .ref (b 0))]) hx hb dX5_mostSlighted_6 rfl hl (by decide) rfl (fun ls hl => ?_)
  have L_7 : ∀ (z : Nat) (y : Nat) (best : Int32) (most : Int32), (y ≤ nT g) → (best = (msI g y).2) → (most = (msI g y).1) → (nT g - y) < z → ∀ (H : Heap) (locs : List Loc), va_P D vwCl [((b 0), .inr (5, [.ref (b 1), .ref (b 2), .ref (b 3), .ref (b 4), .int (nI hL), .ref (b 5), .int (iK), .ref (b 6), .ref (b 7), .int (nI tL), .int (nI sP), .int (nU), .int (iS), .int (sN), .int (sR), .int (lE), .int (fI), .int (sC)])), ((b 1), .inl (cI, 217, .inl v))] H → va_D A [((b 0), .inr (5, [.ref (b 1), .ref (b 2), .ref (b 3), .ref (b 4), .int (nI hL), .ref (b 5), .int (iK), .ref (b 6), .ref (b 7), .int (nI tL), .int (nI sP), .int (nU), .int (iS), .int (sN), .int (sR), .int (lE), .int (fI), .int (sC)])), ((b 1), .inl (cI, 217, .inl v))] → va_S A s.heap H locs → ∀ ls : Array Slot, lv_has ls 5 [(3, .int (nI y)), (2, .int (most)), (1, .int (best)), (0, .ref (b 0))] → W p l e rmX5_mostSlighted s mm args below meth c H locs 0 0 Q (F0 mm 7 ls []) := by
    intro z
    induction z with
    | zero =>
      intro y best most _ _ _ hz
      exact absurd hz (Nat.not_lt_zero _)
    | succ z ih_7 =>
      intro y best most hy hbb hmm hz H locs hP hD hS ls hl
      refine lv_iload_n hx hb dX5_mostSlighted_7 rfl (lv_at hl 0 rfl) ?_
      refine lv_aload_n hx hb dX5_mostSlighted_8 rfl (lv_at hl 3 rfl) ?_
      refine va_get (D := D) (ci := 5) (v := .ref (b 1)) (C := RX5) (T := TX5) (N := 18) hx hb hts inwX5_mostSlighted_X5 hown hK hP 0 rfl rfl 0 (by decide) fl7 (fun _ h9 => h9) rfl dX5_mostSlighted_9 ?_
      refine lv_bipush (v := nI 11) hx hb dX5_mostSlighted_12 (by decide) ?_
      refine kb_iald hx hb hK hP 1 0 rfl rfl (by decide) (by omega) dX5_mostSlighted_14 ?_
      refine kb_top (nI (nT g)) hv.t ?_
      refine kb_icmp_ge (tgt := 73) hx hb dX5_mostSlighted_15 (by decide) (by omega) (by omega) (fun c15 => ?_) (fun c15 => ?_)
      · refine lv_iload_n hx hb dX5_mostSlighted_73 rfl (lv_at hl 2 rfl) ?_
        exact kb_iret (D := D) hQ hx hb hr hlocks hK hP hD hS dX5_mostSlighted_74 () rfl (Nat.le_refl _) (Nat.le_refl _) (show best = (msI g (nT g)).2 from (by rw [hbb, show y = nT g by omega]))
      · have hgk := (ho.t y (by omega)).1
        refine lv_aload_n hx hb dX5_mostSlighted_18 rfl (lv_at hl 3 rfl) ?_
        refine lv_aload_n hx hb dX5_mostSlighted_19 rfl (lv_at hl 3 rfl) ?_
        refine va_get (D := D) (ci := 5) (v := .ref (b 1)) (C := RX5) (T := TX5) (N := 18) hx hb hts inwX5_mostSlighted_X5 hown hK hP 0 rfl rfl 0 (by decide) fl7 (fun _ h9 => h9) rfl dX5_mostSlighted_20 ?_
        refine lv_bipush (v := nI 12) hx hb dX5_mostSlighted_23 (by decide) ?_
        refine lv_iload_n hx hb dX5_mostSlighted_25 rfl (lv_at hl 0 rfl) ?_
        refine lv_iadd hx hb dX5_mostSlighted_26 ?_
        refine kb_top (nI (12 + y)) (nI_add 12 y) ?_
        refine kb_iald hx hb hK hP 1 0 rfl rfl (by decide) (by omega) dX5_mostSlighted_27 ?_
        refine kb_top (nI (gT g y)) (hv.s (by omega)) ?_
        refine lv_iconst (v := nI 5) hx hb dX5_mostSlighted_28 (by decide) ?_
        refine kb_vR (As := [.int (nI (gT g y)), .int (nI 5)]) (rest := []) hx hb hml hts hown hN hK hP hD hS hA (c_X5_get l D cI b hL iK tL sP nU iS sN sR lE fI sC v (gT g y) 5 (by omega) (by decide)) gX5_mostSlighted_X5_get rfl ⟨rfl, rfl⟩ hdX5_get ⟨Nat.le_of_ble_eq_true rfl, Nat.le_of_ble_eq_true rfl⟩ [0, 1] [0] rfl rfl rfl (ci := 5) rfl rfl rfl rfl rfl hl.1 (Nat.le_of_ble_eq_true rfl) dX5_mostSlighted_29 ⟨Nat.zero_le _, Nat.zero_le _⟩ (fun H locs hP hS => ?_)
        refine kb_top (gX g 2 (gT g y)) (hv.f (by omega)).2.2.2.2.2.1 ?_
        refine lv_istore (lv' := [(4, .int (gX g 2 (gT g y))), (3, .int (nI y)), (2, .int (most)), (1, .int (best)), (0, .ref (b 0))]) hx hb dX5_mostSlighted_32 hl (by decide) rfl (fun ls hl => ?_)
        refine lv_iload hx hb dX5_mostSlighted_34 (lv_at hl 0 rfl) ?_
        refine lv_iload_n hx hb dX5_mostSlighted_36 rfl (lv_at hl 2 rfl) ?_
        refine lv_icmp_le (tgt := 52) hx hb dX5_mostSlighted_37 (by decide) (fun c37 => ?_) (fun c37 => ?_)
        · refine lv_iload_n hx hb dX5_mostSlighted_52 rfl (lv_at hl 3 rfl) ?_
          refine lv_istore_n (lv' := [(1, .int (best)), (4, .int (gX g 2 (gT g y))), (3, .int (nI y)), (2, .int (most)), (0, .ref (b 0))]) hx hb dX5_mostSlighted_53 rfl hl (by decide) rfl (fun ls hl => ?_)
          refine lv_iload hx hb dX5_mostSlighted_54 (lv_at hl 1 rfl) ?_
          refine lv_iload_n hx hb dX5_mostSlighted_56 rfl (lv_at hl 3 rfl) ?_
          refine lv_icmp_le (tgt := 65) hx hb dX5_mostSlighted_57 (by decide) (fun c57 => ?_) (fun c57 => ?_)
          · refine lv_iload_n hx hb dX5_mostSlighted_65 rfl (lv_at hl 3 rfl) ?_
            refine lv_istore_n (lv' := [(2, .int (most)), (1, .int (best)), (4, .int (gX g 2 (gT g y))), (3, .int (nI y)), (0, .ref (b 0))]) hx hb dX5_mostSlighted_66 rfl hl (by decide) rfl (fun ls hl => ?_)
            refine lv_iinc (v := nI (y + 1)) (lv' := [(3, .int (nI (y + 1))), (2, .int (most)), (1, .int (best)), (4, .int (gX g 2 (gT g y))), (0, .ref (b 0))]) hx hb dX5_mostSlighted_67 hl (k := 3) rfl (kb_inc1 y) (by decide) rfl (fun ls hl => ?_)
            refine lv_goto (tgt := 7) hx hb dX5_mostSlighted_70 (by decide) ?_
            exact ih_7 (y + 1) best most (by omega) (by first | (rw [msI_s, ← hmm, if_pos (Int32.not_le.mp c37)]) | (rw [msI_s, ← hmm, if_neg (Int32.not_lt.mpr c37)]; exact hbb)) (by first | (rw [msI_s, ← hmm, if_pos (Int32.not_le.mp c37)]) | (rw [msI_s, ← hmm, if_neg (Int32.not_lt.mpr c37)]; exact hmm)) (by omega) _ _ hP hD hS _ (lv_sub hl [0, 1, 2, 4] rfl)
          · exfalso; exact c57 c37
        · refine lv_aload_n hx hb dX5_mostSlighted_40 rfl (lv_at hl 4 rfl) ?_
          refine va_get (D := D) (ci := 5) (v := .ref (b 1)) (C := RX5) (T := TX5) (N := 18) hx hb hts inwX5_mostSlighted_X5 hown hK hP 0 rfl rfl 0 (by decide) fl7 (fun _ h9 => h9) rfl dX5_mostSlighted_41 ?_
          refine lv_bipush (v := nI 12) hx hb dX5_mostSlighted_44 (by decide) ?_
          refine lv_iload_n hx hb dX5_mostSlighted_46 rfl (lv_at hl 1 rfl) ?_
          refine lv_iadd hx hb dX5_mostSlighted_47 ?_
          refine kb_top (nI (12 + y)) (nI_add 12 y) ?_
          refine kb_iald hx hb hK hP 1 0 rfl rfl (by decide) (by omega) dX5_mostSlighted_48 ?_
          refine kb_top (nI (gT g y)) (hv.s (by omega)) ?_
          refine lv_goto (tgt := 53) hx hb dX5_mostSlighted_49 (by decide) ?_
          refine lv_istore_n (lv' := [(1, .int (nI (gT g y))), (4, .int (gX g 2 (gT g y))), (3, .int (nI y)), (2, .int (most)), (0, .ref (b 0))]) hx hb dX5_mostSlighted_53 rfl hl (by decide) rfl (fun ls hl => ?_)
          refine lv_iload hx hb dX5_mostSlighted_54 (lv_at hl 1 rfl) ?_
          refine lv_iload_n hx hb dX5_mostSlighted_56 rfl (lv_at hl 3 rfl) ?_
          refine lv_icmp_le (tgt := 65) hx hb dX5_mostSlighted_57 (by decide) (fun c57 => ?_) (fun c57 => ?_)
          · exfalso; exact c37 c57
          · refine lv_iload hx hb dX5_mostSlighted_60 (lv_at hl 1 rfl) ?_
            refine lv_goto (tgt := 66) hx hb dX5_mostSlighted_62 (by decide) ?_
            refine lv_istore_n (lv' := [(2, .int (gX g 2 (gT g y))), (1, .int (nI (gT g y))), (4, .int (gX g 2 (gT g y))), (3, .int (nI y)), (0, .ref (b 0))]) hx hb dX5_mostSlighted_66 rfl hl (by decide) rfl (fun ls hl => ?_)
            refine lv_iinc (v := nI (y + 1)) (lv' := [(3, .int (nI (y + 1))), (2, .int (gX g 2 (gT g y))), (1, .int (nI (gT g y))), (4, .int (gX g 2 (gT g y))), (0, .ref (b 0))]) hx hb dX5_mostSlighted_67 hl (k := 3) rfl (kb_inc1 y) (by decide) rfl (fun ls hl => ?_)
            refine lv_goto (tgt := 7) hx hb dX5_mostSlighted_70 (by decide) ?_
            exact ih_7 (y + 1) (nI (gT g y)) (gX g 2 (gT g y)) (by omega) (by first | (rw [msI_s, ← hmm, if_pos (Int32.not_le.mp c37)]) | (rw [msI_s, ← hmm, if_neg (Int32.not_lt.mpr c37)]; exact hbb)) (by first | (rw [msI_s, ← hmm, if_pos (Int32.not_le.mp c37)]) | (rw [msI_s, ← hmm, if_neg (Int32.not_lt.mpr c37)]; exact hmm)) (by omega) _ _ hP hD hS _ (lv_sub hl [0, 1, 2, 4] rfl)
  exact L_7 ((nT g - 0) + 1) 0 (-5) (nI 0) (by omega) rfl rfl (Nat.lt_succ_self _) _ _ hP hD hS _ (lv_sub hl [0, 1, 2, 3] rfl)
