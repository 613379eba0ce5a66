abbrev rmX3_isLesserAbove : Room := { frames := 1, cells := 0, slots := 0, locals := 22 }
theorem hdX3_isLesserAbove : yX3_isLesserAbove.cls = RX3 ∧ yX3_isLesserAbove.cls ≠ "java/lang/invoke/MethodHandle" ∧ yX3_isLesserAbove.cls ≠ "java/lang/invoke/VarHandle" ∧ (parseMethodDescriptor yX3_isLesserAbove.desc).map (fun d => d.parameters.length) = some 1 := by decide +kernel
theorem inwX3_isLesserAbove_X3 : ∀ w ∈ wsX30, w ∈ wsX3_isLesserAbove := fun w h => List.mem_cons_of_mem _ (List.mem_append_left _ (List.mem_append_right _ h))
theorem inwX3_isLesserAbove_X2 : ∀ w ∈ wsX20, w ∈ wsX3_isLesserAbove := fun w h => List.mem_cons_of_mem _ (List.mem_append_right _ h)
set_option maxHeartbeats 4000000 in
set_option maxRecDepth 100000 in
theorem c_X3_isLesserAbove (l : Launch) (D : va_G) (cI : ClassId) (a : Nat → Nat) (nk : Nat) (mi : Int32) (ro : Int32) (ch : Int32) (Wf : Nat → Int32) (T : Nat → Int32) (g : Sg) (y : Nat) (hy : y < nT g) (hW : rW Wf g) (hT : rT T g) (ho : Ok g) : kb_R D [(cI, .int)] l yX3_isLesserAbove wsX3_isLesserAbove rmX3_isLesserAbove [.ref (a 0), .int (nI (gT g y))] [((a 0), .inr (3, [.ref (a 1), .ref (a 2), .ref (a 3), .ref (a 4), .ref (a 6), .int (nI nk), .int (mi), .int (ro), .int (ch)])), ((a 2), .inl (cI, 24, .inl Wf)), ((a 4), .inr (2, [.ref (a 5), .int (nI (nT g))])), ((a 5), .inl (cI, 12, .inl T))] (kb_b (sl g y)) := by
  refine kb_I_of (cc := cX3_isLesserAbove) (maxL := 4) (ret := (some .boolean)) (by decide) rfl (Nat.le_of_ble_eq_true rfl) ?_
  intro p e s mm args below meth c A hx hb hml hr hts hown hlocks hnm hA hN hK hP hD hS ls hl Q hQ
  have hl : lv_has ls 4 [(0, .ref (a 0)), (1, .int (nI (gT g y)))] := hl
  have hP : va_P D vwCl [((a 0), .inr (3, [.ref (a 1), .ref (a 2), .ref (a 3), .ref (a 4), .ref (a 6), .int (nI nk), .int (mi), .int (ro), .int (ch)])), ((a 2), .inl (cI, 24, .inl Wf)), ((a 4), .inr (2, [.ref (a 5), .int (nI (nT g))])), ((a 5), .inl (cI, 12, .inl T))] s.heap := hP
  have hD : va_D A [((a 0), .inr (3, [.ref (a 1), .ref (a 2), .ref (a 3), .ref (a 4), .ref (a 6), .int (nI nk), .int (mi), .int (ro), .int (ch)])), ((a 2), .inl (cI, 24, .inl Wf)), ((a 4), .inr (2, [.ref (a 5), .int (nI (nT g))])), ((a 5), .inl (cI, 12, .inl T))] := hD
  have fl26 := hts (.fieldLink RX3 26 "KingsBanquet$State" "table" "LKingsBanquet$Row;") (by decide +kernel)
  have hn := ho.n
  have hk24 := ok_t ho hy
  refine lv_aload_n hx hb dX3_isLesserAbove_0 rfl (lv_at hl 0 rfl) ?_
  refine va_get (D := D) (ci := 3) (v := .ref (a 4)) (C := RX3) (T := TX3) (N := 9) hx hb hts inwX3_isLesserAbove_X3 hown hK hP 0 rfl rfl 3 (by decide) fl26 (fun _ h9 => h9) rfl dX3_isLesserAbove_1 ?_
  refine lv_iload_n hx hb dX3_isLesserAbove_4 rfl (lv_at hl 1 rfl) ?_
  refine kb_vR (As := [.int (nI (gT g y))]) (rest := []) hx hb hml hts hown hN hK hP hD hS hA (c_X2_placeOf l D cI (fun i => a (4 + i)) 12 T (nT g) (nI (gT g y)) hn.2.1 (by decide)) gX3_isLesserAbove_X2_placeOf rfl ⟨rfl, rfl⟩ hdX2_placeOf ⟨Nat.le_of_ble_eq_true rfl, Nat.le_of_ble_eq_true rfl⟩ [2, 3] [0] rfl rfl rfl (ci := 2) rfl rfl rfl rfl rfl hl.1 (Nat.le_of_ble_eq_true rfl) dX3_isLesserAbove_5 ⟨Nat.zero_le _, Nat.zero_le _⟩ (fun H locs hP hS => ?_)
  refine kb_top (nI y) ((rT_find ho hT hk24).trans (by rw [plT_of ho hy, decide_eq_true hy]; rfl)) ?_
  refine lv_istore_n (lv' := [(2, .int (nI y)), (0, .ref (a 0)), (1, .int (nI (gT g y)))]) hx hb dX3_isLesserAbove_8 rfl hl (by decide) rfl (fun ls hl => ?_)
  refine lv_iconst (v := nI 0) hx hb dX3_isLesserAbove_9 (by decide) ?_
  refine lv_istore_n (lv' := [(3, .int (nI 0)), (2, .int (nI y)), (0, .ref (a 0)), (1, .int (nI (gT g y)))]) hx hb dX3_isLesserAbove_10 rfl hl (by decide) rfl (fun ls hl => ?_)
  have L_11 : ∀ (z : Nat) (i : Nat), (i ≤ y) → (∀ j, j < i → ¬ key g (gT g j) < key g (gT g y)) → (y - i) < z → ∀ (H : Heap) (locs : List Loc), va_P D vwCl [((a 0), .inr (3, [.ref (a 1), .ref (a 2), .ref (a 3), .ref (a 4), .ref (a 6), .int (nI nk), .int (mi), .int (ro), .int (ch)])), ((a 2), .inl (cI, 24, .inl Wf)), ((a 4), .inr (2, [.ref (a 5), .int (nI (nT g))])), ((a 5), .inl (cI, 12, .inl T))] H → va_D A [((a 0), .inr (3, [.ref (a 1), .ref (a 2), .ref (a 3), .ref (a 4), .ref (a 6), .int (nI nk), .int (mi), .int (ro), .int (ch)])), ((a 2), .inl (cI, 24, .inl Wf)), ((a 4), .inr (2, [.ref (a 5), .int (nI (nT g))])), ((a 5), .inl (cI, 12, .inl T))] → va_S A s.heap H locs → ∀ ls : Array Slot, lv_has ls 4 [(3, .int (nI i)), (2, .int (nI y)), (0, .ref (a 0)), (1, .int (nI (gT g y)))] → W p l e rmX3_isLesserAbove s mm args below meth c H locs 0 0 Q (F0 mm 11 ls []) := by
    intro z
    induction z with
    | zero =>
      intro i _ _ hz
      exact absurd hz (Nat.not_lt_zero _)
    | succ z ih_11 =>
      intro i hi hm hz H locs hP hD hS ls hl
      refine lv_iload_n hx hb dX3_isLesserAbove_11 rfl (lv_at hl 0 rfl) ?_
      refine lv_iload_n hx hb dX3_isLesserAbove_12 rfl (lv_at hl 1 rfl) ?_
      refine kb_icmp_ge (tgt := 40) hx hb dX3_isLesserAbove_13 (by decide) (by omega) (by omega) (fun c13 => ?_) (fun c13 => ?_)
      · refine lv_iconst (v := nI 0) hx hb dX3_isLesserAbove_40 (by decide) ?_
        exact kb_zret (D := D) hQ hx hb hr hlocks hK hP hD hS dX3_isLesserAbove_41 rfl () rfl (Nat.le_refl _) (Nat.le_refl _) (show nI 0 = kb_b (sl g y) from kb_t0 (sl_none (fun j hj => hm j (by omega))))
      · refine lv_aload_n hx hb dX3_isLesserAbove_16 rfl (lv_at hl 2 rfl) ?_
        refine lv_iload_n hx hb dX3_isLesserAbove_17 rfl (lv_at hl 3 rfl) ?_
        refine lv_aload_n hx hb dX3_isLesserAbove_18 rfl (lv_at hl 2 rfl) ?_
        refine va_get (D := D) (ci := 3) (v := .ref (a 4)) (C := RX3) (T := TX3) (N := 9) hx hb hts inwX3_isLesserAbove_X3 hown hK hP 0 rfl rfl 3 (by decide) fl26 (fun _ h9 => h9) rfl dX3_isLesserAbove_19 ?_
        refine lv_iload_n hx hb dX3_isLesserAbove_22 rfl (lv_at hl 0 rfl) ?_
        refine kb_vR (As := [.int (nI i)]) (rest := [.int (nI (gT g y)), .ref (a 0)]) hx hb hml hts hown hN hK hP hD hS hA (c_X2_at l D cI (fun i => a (4 + i)) 12 T (nT g) (nI i) hn.2.1 (by decide)) gX3_isLesserAbove_X2_at rfl ⟨rfl, rfl⟩ hdX2_at ⟨Nat.le_of_ble_eq_true rfl, Nat.le_of_ble_eq_true rfl⟩ [2, 3] [0] rfl rfl rfl (ci := 2) rfl rfl rfl rfl rfl hl.1 (Nat.le_of_ble_eq_true rfl) dX3_isLesserAbove_23 ⟨Nat.zero_le _, Nat.zero_le _⟩ (fun H locs hP hS => ?_)
        refine kb_top (nI (gT g i)) ((rAt_in (by omega) (by omega)).trans (hT _ (by omega))) ?_
        refine kb_vR (As := [.int (nI (gT g y)), .int (nI (gT g i))]) (rest := []) hx hb hml hts hown hN hK hP hD hS hA (c_X3_isGreater l D cI a nk mi ro ch Wf (gT g y) (gT g i) (key g (gT g y)) (key g (gT g i)) (ok_t ho (by omega)) (ok_t ho (by omega)) (hW _ (ho.t _ (by omega)).1) (hW _ (ho.t _ (by omega)).1) (key_lt ho (ho.t _ (by omega)).1) (key_lt ho (ho.t _ (by omega)).1)) gX3_isLesserAbove_X3_isGreater rfl ⟨rfl, rfl⟩ hdX3_isGreater ⟨Nat.le_of_ble_eq_true rfl, Nat.le_of_ble_eq_true rfl⟩ [0, 1] [0] rfl rfl rfl (ci := 3) rfl rfl rfl rfl rfl hl.1 (Nat.le_of_ble_eq_true rfl) dX3_isLesserAbove_26 ⟨Nat.zero_le _, Nat.zero_le _⟩ (fun H locs hP hS => ?_)
        refine kb_bif_eq (tgt := 34) hx hb dX3_isLesserAbove_29 (by decide) (fun c29 => ?_) (fun c29 => ?_)
        · refine lv_iinc (v := nI (i + 1)) (lv' := [(3, .int (nI (i + 1))), (2, .int (nI y)), (0, .ref (a 0)), (1, .int (nI (gT g y)))]) hx hb dX3_isLesserAbove_34 hl (k := 0) rfl (kb_inc1 i) (by decide) rfl (fun ls hl => ?_)
          refine lv_goto (tgt := 11) hx hb dX3_isLesserAbove_37 (by decide) ?_
          exact ih_11 (i + 1) (by omega) (lt_s hm (of_decide_eq_false c29)) (by omega) _ _ hP hD hS _ (lv_sub hl [0, 1, 2, 3] rfl)
        · refine lv_iconst (v := nI 1) hx hb dX3_isLesserAbove_32 (by decide) ?_
          exact kb_zret (D := D) hQ hx hb hr hlocks hK hP hD hS dX3_isLesserAbove_33 rfl () rfl (Nat.le_refl _) (Nat.le_refl _) (show nI 1 = kb_b (sl g y) from kb_t1 (sl_yes c13 (of_decide_eq_true c29)))
  exact L_11 ((y - 0) + 1) 0 (by omega) (fun j h => absurd h (Nat.not_lt_zero j)) (Nat.lt_succ_self _) _ _ hP hD hS _ (lv_sub hl [0, 1, 2, 3] rfl)
abbrev rmX3_slight : Room := { frames := 2, cells := 0, slots := 0, locals := 45 }
theorem hdX3_slight : yX3_slight.cls = RX3 ∧ yX3_slight.cls ≠ "java/lang/invoke/MethodHandle" ∧ yX3_slight.cls ≠ "java/lang/invoke/VarHandle" ∧ (parseMethodDescriptor yX3_slight.desc).map (fun d => d.parameters.length) = some 0 := by decide +kernel
theorem inwX3_slight_X3 : ∀ w ∈ wsX30, w ∈ wsX3_slight := fun w h => List.mem_cons_of_mem _ (List.mem_append_left _ (List.mem_append_right _ h))
theorem inwX3_slight_X2 : ∀ w ∈ wsX20, w ∈ wsX3_slight := fun w h => List.mem_cons_of_mem _ (List.mem_append_right _ h)
set_option maxHeartbeats 4000000 in
set_option maxRecDepth 100000 in
theorem c_X3_slight (l : Launch) (D : va_G) (cI : ClassId) (a : Nat → Nat) (nk : Nat) (mi : Int32) (ro : Int32) (ch : Int32) (F : Nat → Int32) (Wf : Nat → Int32) (T : Nat → Int32) (g : Sg) (hk : nk = nK g) (hW : rW Wf g) (hT : rT T g) (ho : Ok g) : kb_V (S := (Nat → Int32)) D [(cI, .int)] l yX3_slight wsX3_slight rmX3_slight [.ref (a 0)] [((a 0), .inr (3, [.ref (a 1), .ref (a 2), .ref (a 3), .ref (a 4), .ref (a 6), .int (nI nk), .int (mi), .int (ro), .int (ch)])), ((a 1), .inl (cI, 216, .inl F)), ((a 2), .inl (cI, 24, .inl Wf)), ((a 4), .inr (2, [.ref (a 5), .int (nI (nT g))])), ((a 5), .inl (cI, 12, .inl T))] (fun (u : (Nat → Int32)) => slR F u g (nT g)) (fun (u : (Nat → Int32)) => [((a 0), .inr (3, [.ref (a 1), .ref (a 2), .ref (a 3), .ref (a 4), .ref (a 6), .int (nI nk), .int (mi), .int (ro), .int (ch)])), ((a 1), .inl (cI, 216, .inl u)), ((a 2), .inl (cI, 24, .inl Wf)), ((a 4), .inr (2, [.ref (a 5), .int (nI (nT g))])), ((a 5), .inl (cI, 12, .inl T))]) 0 0 := by
  refine kb_V_of (cc := cX3_slight) (maxL := 3) (ret := none) (by decide) rfl (Nat.le_of_ble_eq_true rfl) ?_
  intro p e s mm args below meth c A hx hb hml hr hts hown hlocks hnm hA hN hK hP hD hS ls hl Q hQ
  have hl : lv_has ls 3 [(0, .ref (a 0))] := hl
  have hP : va_P D vwCl [((a 0), .inr (3, [.ref (a 1), .ref (a 2), .ref (a 3), .ref (a 4), .ref (a 6), .int (nI nk), .int (mi), .int (ro), .int (ch)])), ((a 1), .inl (cI, 216, .inl F)), ((a 2), .inl (cI, 24, .inl Wf)), ((a 4), .inr (2, [.ref (a 5), .int (nI (nT g))])), ((a 5), .inl (cI, 12, .inl T))] s.heap := hP
  have hD : va_D A [((a 0), .inr (3, [.ref (a 1), .ref (a 2), .ref (a 3), .ref (a 4), .ref (a 6), .int (nI nk), .int (mi), .int (ro), .int (ch)])), ((a 1), .inl (cI, 216, .inl F)), ((a 2), .inl (cI, 24, .inl Wf)), ((a 4), .inr (2, [.ref (a 5), .int (nI (nT g))])), ((a 5), .inl (cI, 12, .inl T))] := hD
  have fl26 := hts (.fieldLink RX3 26 "KingsBanquet$State" "table" "LKingsBanquet$Row;") (by decide +kernel)
  have hn := ho.n
  refine lv_iconst (v := nI 0) hx hb dX3_slight_0 (by decide) ?_
  refine lv_istore_n (lv' := [(1, .int (nI 0)), (0, .ref (a 0))]) hx hb dX3_slight_1 rfl hl (by decide) rfl (fun ls hl => ?_)
  have L_2 : ∀ (z : Nat) (y : Nat) (Fc : Nat → Int32), (y ≤ nT g) → (slR F Fc g y) → (nT g - y) < z → ∀ (H : Heap) (locs : List Loc), va_P D vwCl [((a 0), .inr (3, [.ref (a 1), .ref (a 2), .ref (a 3), .ref (a 4), .ref (a 6), .int (nI nk), .int (mi), .int (ro), .int (ch)])), ((a 1), .inl (cI, 216, .inl Fc)), ((a 2), .inl (cI, 24, .inl Wf)), ((a 4), .inr (2, [.ref (a 5), .int (nI (nT g))])), ((a 5), .inl (cI, 12, .inl T))] H → va_D A [((a 0), .inr (3, [.ref (a 1), .ref (a 2), .ref (a 3), .ref (a 4), .ref (a 6), .int (nI nk), .int (mi), .int (ro), .int (ch)])), ((a 1), .inl (cI, 216, .inl Fc)), ((a 2), .inl (cI, 24, .inl Wf)), ((a 4), .inr (2, [.ref (a 5), .int (nI (nT g))])), ((a 5), .inl (cI, 12, .inl T))] → va_S A s.heap H locs → ∀ ls : Array Slot, lv_has ls 3 [(1, .int (nI y)), (0, .ref (a 0))] → W p l e rmX3_slight s mm args below meth c H locs 0 0 Q (F0 mm 2 ls []) := by
    intro z
    induction z with
    | zero =>
      intro y Fc _ _ hz
      exact absurd hz (Nat.not_lt_zero _)
    | succ z ih_2 =>
      intro y Fc hi hF hz H locs hP hD hS ls hl
      refine lv_iload_n hx hb dX3_slight_2 rfl (lv_at hl 0 rfl) ?_
      refine lv_aload_n hx hb dX3_slight_3 rfl (lv_at hl 1 rfl) ?_
      refine va_get (D := D) (ci := 3) (v := .ref (a 4)) (C := RX3) (T := TX3) (N := 9) hx hb hts inwX3_slight_X3 hown hK hP 0 rfl rfl 3 (by decide) fl26 (fun _ h9 => h9) rfl dX3_slight_4 ?_
      refine kb_vR (As := []) (rest := [.int (nI y)]) hx hb hml hts hown hN hK hP hD hS hA (c_X2_size l D cI (fun i => a (4 + i)) 12 T (nT g)) gX3_slight_X2_size rfl ⟨rfl, rfl⟩ hdX2_size ⟨Nat.le_of_ble_eq_true rfl, Nat.le_of_ble_eq_true rfl⟩ [3, 4] [0] rfl rfl rfl (ci := 2) rfl rfl rfl rfl rfl hl.1 (Nat.le_of_ble_eq_true rfl) dX3_slight_7 ⟨Nat.zero_le _, Nat.zero_le _⟩ (fun H locs hP hS => ?_)
      refine kb_icmp_ge (tgt := 52) hx hb dX3_slight_10 (by decide) (by omega) (by omega) (fun c10 => ?_) (fun c10 => ?_)
      · exact kb_vret (D := D) hQ hx hb hr hlocks hK hP hD hS dX3_slight_52 Fc rfl (Nat.le_refl _) (Nat.le_refl _) (show slR F Fc g (nT g) from (by rw [show nT g = y by omega]; exact hF))
      · refine lv_aload_n hx hb dX3_slight_13 rfl (lv_at hl 1 rfl) ?_
        refine va_get (D := D) (ci := 3) (v := .ref (a 4)) (C := RX3) (T := TX3) (N := 9) hx hb hts inwX3_slight_X3 hown hK hP 0 rfl rfl 3 (by decide) fl26 (fun _ h9 => h9) rfl dX3_slight_14 ?_
        refine lv_iload_n hx hb dX3_slight_17 rfl (lv_at hl 0 rfl) ?_
        refine kb_vR (As := [.int (nI y)]) (rest := []) hx hb hml hts hown hN hK hP hD hS hA (c_X2_at l D cI (fun i => a (4 + i)) 12 T (nT g) (nI y) hn.2.1 (by decide)) gX3_slight_X2_at rfl ⟨rfl, rfl⟩ hdX2_at ⟨Nat.le_of_ble_eq_true rfl, Nat.le_of_ble_eq_true rfl⟩ [3, 4] [0] rfl rfl rfl (ci := 2) rfl rfl rfl rfl rfl hl.1 (Nat.le_of_ble_eq_true rfl) dX3_slight_18 ⟨Nat.zero_le _, Nat.zero_le _⟩ (fun H locs hP hS => ?_)
        refine kb_top (nI (gT g y)) ((rAt_in (by omega) (by omega)).trans (hT _ (by omega))) ?_
        refine lv_istore_n (lv' := [(2, .int (nI (gT g y))), (1, .int (nI y)), (0, .ref (a 0))]) hx hb dX3_slight_21 rfl hl (by decide) rfl (fun ls hl => ?_)
        refine lv_aload_n hx hb dX3_slight_22 rfl (lv_at hl 2 rfl) ?_
        refine lv_iload_n hx hb dX3_slight_23 rfl (lv_at hl 0 rfl) ?_
        refine kb_vR (As := [.int (nI (gT g y))]) (rest := []) hx hb hml hts hown hN hK hP hD hS hA (c_X3_isLesserAbove l D cI a nk mi ro ch Wf T g y c10 (by first | assumption | omega) (by first | assumption | omega) (by first | assumption | omega)) gX3_slight_X3_isLesserAbove rfl ⟨rfl, rfl⟩ hdX3_isLesserAbove ⟨Nat.le_of_ble_eq_true rfl, Nat.le_of_ble_eq_true rfl⟩ [0, 2, 3, 4] [0] rfl rfl rfl (ci := 3) rfl rfl rfl rfl rfl hl.1 (Nat.le_of_ble_eq_true rfl) dX3_slight_24 ⟨Nat.zero_le _, Nat.zero_le _⟩ (fun H locs hP hS => ?_)
        refine kb_bif_eq (tgt := 46) hx hb dX3_slight_27 (by decide) (fun c27 => ?_) (fun c27 => ?_)
        · refine lv_iinc (v := nI (y + 1)) (lv' := [(1, .int (nI (y + 1))), (2, .int (nI (gT g y))), (0, .ref (a 0))]) hx hb dX3_slight_46 hl (k := 1) rfl (kb_inc1 y) (by decide) rfl (fun ls hl => ?_)
          refine lv_goto (tgt := 2) hx hb dX3_slight_49 (by decide) ?_
          exact ih_2 (y + 1) Fc (by omega) (by first | exact slR_0 hF (by omega) c27 | exact slR_1 ho hF (by omega) c27) (by omega) _ _ hP hD hS _ (lv_sub hl [0, 2] rfl)
        · refine lv_aload_n hx hb dX3_slight_30 rfl (lv_at hl 2 rfl) ?_
          refine lv_iload_n hx hb dX3_slight_31 rfl (lv_at hl 0 rfl) ?_
          refine lv_bipush (v := nI 7) hx hb dX3_slight_32 (by decide) ?_
          refine lv_aload_n hx hb dX3_slight_34 rfl (lv_at hl 2 rfl) ?_
          refine lv_iload_n hx hb dX3_slight_35 rfl (lv_at hl 0 rfl) ?_
          refine lv_bipush (v := nI 7) hx hb dX3_slight_36 (by decide) ?_
          refine kb_vR (As := [.int (nI (gT g y)), .int (nI 7)]) (rest := [.int (nI 7), .int (nI (gT g y)), .ref (a 0)]) hx hb hml hts hown hN hK hP hD hS hA (c_X3_fact l D cI a nk mi ro ch Fc (gT g y) 7 (by have := (ho.t _ c10).1; omega) (by omega) (by omega)) gX3_slight_X3_fact rfl ⟨rfl, rfl⟩ hdX3_fact ⟨Nat.le_of_ble_eq_true rfl, Nat.le_of_ble_eq_true rfl⟩ [0, 1] [0] rfl rfl rfl (ci := 3) rfl rfl rfl rfl rfl hl.1 (Nat.le_of_ble_eq_true rfl) dX3_slight_38 ⟨Nat.zero_le _, Nat.zero_le _⟩ (fun H locs hP hS => ?_)
          refine lv_iconst (v := nI 1) hx hb dX3_slight_41 (by decide) ?_
          refine lv_iadd hx hb dX3_slight_42 ?_
          refine kb_vV (As := [.int (nI (gT g y)), .int (nI 7), .int (Fc ((gT g y) * 9 + 7) + nI 1)]) (rest := []) hx hb hml hts hown hN hK hP hD hS hA (c_X3_setFact l D cI a nk mi ro ch Fc (gT g y) 7 (Fc ((gT g y) * 9 + 7) + nI 1) (by have := (ho.t _ c10).1; omega) (by omega) (by omega)) gX3_slight_X3_setFact rfl ⟨rfl, rfl⟩ hdX3_setFact ⟨Nat.le_of_ble_eq_true rfl, Nat.le_of_ble_eq_true rfl⟩ [0, 1] [0] rfl rfl rfl (ci := 3) rfl rfl rfl (fun _ => rfl) rfl rfl hl.1 (Nat.le_of_ble_eq_true rfl) dX3_slight_43 ⟨Nat.zero_le _, Nat.zero_le _⟩ (fun u H locs hw_43 hP hD hS => ?_)
          have hw_43 : True := hw_43
          have hP : va_P D vwCl [((a 0), .inr (3, [.ref (a 1), .ref (a 2), .ref (a 3), .ref (a 4), .ref (a 6), .int (nI nk), .int (mi), .int (ro), .int (ch)])), ((a 1), .inl (cI, 216, .inl (upd Fc ((gT g y) * 9 + 7) (Fc ((gT g y) * 9 + 7) + nI 1)))), ((a 2), .inl (cI, 24, .inl Wf)), ((a 4), .inr (2, [.ref (a 5), .int (nI (nT g))])), ((a 5), .inl (cI, 12, .inl T))] H := hP
          have hD : va_D A [((a 0), .inr (3, [.ref (a 1), .ref (a 2), .ref (a 3), .ref (a 4), .ref (a 6), .int (nI nk), .int (mi), .int (ro), .int (ch)])), ((a 1), .inl (cI, 216, .inl (upd Fc ((gT g y) * 9 + 7) (Fc ((gT g y) * 9 + 7) + nI 1)))), ((a 2), .inl (cI, 24, .inl Wf)), ((a 4), .inr (2, [.ref (a 5), .int (nI (nT g))])), ((a 5), .inl (cI, 12, .inl T))] := hD
          refine lv_iinc (v := nI (y + 1)) (lv' := [(1, .int (nI (y + 1))), (2, .int (nI (gT g y))), (0, .ref (a 0))]) hx hb dX3_slight_46 hl (k := 1) rfl (kb_inc1 y) (by decide) rfl (fun ls hl => ?_)
          refine lv_goto (tgt := 2) hx hb dX3_slight_49 (by decide) ?_
          exact ih_2 (y + 1) (upd Fc ((gT g y) * 9 + 7) (Fc ((gT g y) * 9 + 7) + nI 1)) (by omega) (by first | exact slR_0 hF (by omega) c27 | exact slR_1 ho hF (by omega) c27) (by omega) _ _ hP hD hS _ (lv_sub hl [0, 2] rfl)
  exact L_2 ((nT g - 0) + 1) 0 F (by omega) (slR_00 F g) (Nat.lt_succ_self _) _ _ hP hD hS _ (lv_sub hl [0, 1] rfl)
abbrev rmX3_sendEnvoys : Room := { frames := 2, cells := 0, slots := 0, locals := 43 }
theorem hdX3_sendEnvoys : yX3_sendEnvoys.cls = RX3 ∧ yX3_sendEnvoys.cls ≠ "java/lang/invoke/MethodHandle" ∧ yX3_sendEnvoys.cls ≠ "java/lang/invoke/VarHandle" ∧ (parseMethodDescriptor yX3_sendEnvoys.desc).map (fun d => d.parameters.length) = some 1 := by decide +kernel
theorem inwX3_sendEnvoys_X3 : ∀ w ∈ wsX30, w ∈ wsX3_sendEnvoys := fun w h => List.mem_cons_of_mem _ (List.mem_append_left _ (List.mem_append_right _ h))
theorem inwX3_sendEnvoys_X2 : ∀ w ∈ wsX20, w ∈ wsX3_sendEnvoys := fun w h => List.mem_cons_of_mem _ (List.mem_append_right _ h)
set_option maxHeartbeats 4000000 in
set_option maxRecDepth 100000 in
theorem c_X3_sendEnvoys (l : Launch) (D : va_G) (cI : ClassId) (a : Nat → Nat) (nk : Nat) (mi : Int32) (ro : Int32) (Wf : Nat → Int32) (T : Nat → Int32) (g : Sg) (n : Nat) (hn : n < 2 ^ 30) (hW : rW Wf g) (hT : rT T g) (ho : Ok g) : kb_I (S := (Nat → Int32)) D [(cI, .int)] l yX3_sendEnvoys wsX3_sendEnvoys rmX3_sendEnvoys [.ref (a 0), .int (nI n)] [((a 0), .inr (3, [.ref (a 1), .ref (a 2), .ref (a 3), .ref (a 4), .ref (a 6), .int (nI nk), .int (mi), .int (ro), .int (gc g 10)])), ((a 2), .inl (cI, 24, .inl Wf)), ((a 4), .inr (2, [.ref (a 5), .int (nI (nT g))])), ((a 5), .inl (cI, 12, .inl T))] (fun (r : Int32) (u : (Nat → Int32)) => r = nI (oEnvN n g) ∧ rT u (oEnv n g)) (fun (u : (Nat → Int32)) => [((a 0), .inr (3, [.ref (a 1), .ref (a 2), .ref (a 3), .ref (a 4), .ref (a 6), .int (nI nk), .int (mi), .int (ro), .int (gc (oEnv n g) 10)])), ((a 2), .inl (cI, 24, .inl Wf)), ((a 4), .inr (2, [.ref (a 5), .int (nI (nT g))])), ((a 5), .inl (cI, 12, .inl u))]) 0 0 := by
  refine kb_I_of (cc := cX3_sendEnvoys) (maxL := 4) (ret := (some .int)) (by decide) rfl (Nat.le_of_ble_eq_true rfl) ?_
  intro p e s mm args below meth c A hx hb hml hr hts hown hlocks hnm hA hN hK hP hD hS ls hl Q hQ
  have hl : lv_has ls 4 [(0, .ref (a 0)), (1, .int (nI n))] := hl
  have hP : va_P D vwCl [((a 0), .inr (3, [.ref (a 1), .ref (a 2), .ref (a 3), .ref (a 4), .ref (a 6), .int (nI nk), .int (mi), .int (ro), .int (gc g 10)])), ((a 2), .inl (cI, 24, .inl Wf)), ((a 4), .inr (2, [.ref (a 5), .int (nI (nT g))])), ((a 5), .inl (cI, 12, .inl T))] s.heap := hP
  have hD : va_D A [((a 0), .inr (3, [.ref (a 1), .ref (a 2), .ref (a 3), .ref (a 4), .ref (a 6), .int (nI nk), .int (mi), .int (ro), .int (gc g 10)])), ((a 2), .inl (cI, 24, .inl Wf)), ((a 4), .inr (2, [.ref (a 5), .int (nI (nT g))])), ((a 5), .inl (cI, 12, .inl T))] := hD
  have hn0 := ho.n
  refine lv_iconst (v := nI 0) hx hb dX3_sendEnvoys_0 (by decide) ?_
  refine lv_istore_n (lv' := [(2, .int (nI 0)), (0, .ref (a 0)), (1, .int (nI n))]) hx hb dX3_sendEnvoys_1 rfl hl (by decide) rfl (fun ls hl => ?_)
  have L_2 : ∀ (z : Nat) (i : Nat) (h : Sg) (Tc : Nat → Int32), (i ≤ n) → (Ok h) → (rT Tc h) → (rW Wf h) → (nT h = nT g) → (oEnv n g = oEnv (n - i) h) → (oEnvN n g = i + oEnvN (n - i) h) → (n - i) < z → ∀ (H : Heap) (locs : List Loc), va_P D vwCl [((a 0), .inr (3, [.ref (a 1), .ref (a 2), .ref (a 3), .ref (a 4), .ref (a 6), .int (nI nk), .int (mi), .int (ro), .int (gc h 10)])), ((a 2), .inl (cI, 24, .inl Wf)), ((a 4), .inr (2, [.ref (a 5), .int (nI (nT h))])), ((a 5), .inl (cI, 12, .inl Tc))] H → va_D A [((a 0), .inr (3, [.ref (a 1), .ref (a 2), .ref (a 3), .ref (a 4), .ref (a 6), .int (nI nk), .int (mi), .int (ro), .int (gc h 10)])), ((a 2), .inl (cI, 24, .inl Wf)), ((a 4), .inr (2, [.ref (a 5), .int (nI (nT h))])), ((a 5), .inl (cI, 12, .inl Tc))] → va_S A s.heap H locs → ∀ ls : Array Slot, lv_has ls 4 [(2, .int (nI i)), (0, .ref (a 0)), (1, .int (nI n))] → W p l e rmX3_sendEnvoys s mm args below meth c H locs 0 0 Q (F0 mm 2 ls []) := by
    intro z
    induction z with
    | zero =>
      intro i h Tc _ _ _ _ _ _ _ hz
      exact absurd hz (Nat.not_lt_zero _)
    | succ z ih_2 =>
      intro i h Tc hi hh hTc hWh hnT he heN hz H locs hP hD hS ls hl
      refine lv_iload_n hx hb dX3_sendEnvoys_2 rfl (lv_at hl 0 rfl) ?_
      refine lv_iload_n hx hb dX3_sendEnvoys_3 rfl (lv_at hl 2 rfl) ?_
      refine kb_icmp_ge (tgt := 31) hx hb dX3_sendEnvoys_4 (by decide) (by omega) (by omega) (fun c4 => ?_) (fun c4 => ?_)
      · refine lv_iload_n hx hb dX3_sendEnvoys_31 rfl (lv_at hl 2 rfl) ?_
        exact kb_iret (D := D) hQ hx hb hr hlocks hK hP hD hS dX3_sendEnvoys_32 Tc (by rw [he, show n - i = 0 by omega, ← hnT]; rfl) (Nat.le_refl _) (Nat.le_refl _) (show (nI n) = nI (oEnvN n g) ∧ rT Tc (oEnv n g) from ⟨by rw [heN, show n - i = 0 by omega, show n = i by omega]; rfl, by rw [he, show n - i = 0 by omega]; exact hTc⟩)
      · refine lv_aload_n hx hb dX3_sendEnvoys_7 rfl (lv_at hl 1 rfl) ?_
        refine kb_vR (As := []) (rest := []) hx hb hml hts hown hN hK hP hD hS hA (c_X3_firstWrongSeat l D cI a nk mi ro (gc h 10) Wf Tc h hWh hTc hh) gX3_sendEnvoys_X3_firstWrongSeat rfl ⟨rfl, rfl⟩ hdX3_firstWrongSeat ⟨Nat.le_of_ble_eq_true rfl, Nat.le_of_ble_eq_true rfl⟩ [0, 1, 2, 3] [0] rfl rfl rfl (ci := 3) rfl rfl rfl rfl rfl hl.1 (Nat.le_of_ble_eq_true rfl) dX3_sendEnvoys_8 ⟨Nat.zero_le _, Nat.zero_le _⟩ (fun H locs hP hS => ?_)
        refine lv_istore_n (lv' := [(3, .int (fwI h)), (2, .int (nI i)), (0, .ref (a 0)), (1, .int (nI n))]) hx hb dX3_sendEnvoys_11 rfl hl (by decide) rfl (fun ls hl => ?_)
        refine lv_iload_n hx hb dX3_sendEnvoys_12 rfl (lv_at hl 0 rfl) ?_
        refine lv_bipush (v := (-5)) hx hb dX3_sendEnvoys_13 (by decide) ?_
        refine lv_icmp_ne (tgt := 20) hx hb dX3_sendEnvoys_15 (by decide) (fun c15 => ?_) (fun c15 => ?_)
        · have hfw := fwI_ex hh c15
          rw [fwI_1 hfw] at hl
          refine lv_aload_n hx hb dX3_sendEnvoys_20 rfl (lv_at hl 2 rfl) ?_
          refine lv_iload_n hx hb dX3_sendEnvoys_21 rfl (lv_at hl 0 rfl) ?_
          refine kb_vV (As := [.int (nI (fw h))]) (rest := []) hx hb hml hts hown hN hK hP hD hS hA (c_X3_changeSeats l D cI a nk mi ro (gc h 10) Tc (nT h) (fw h) (by omega) (by omega)) gX3_sendEnvoys_X3_changeSeats rfl ⟨rfl, rfl⟩ hdX3_changeSeats ⟨Nat.le_of_ble_eq_true rfl, Nat.le_of_ble_eq_true rfl⟩ [0, 2, 3] [0] rfl rfl rfl (ci := 3) rfl rfl rfl (fun _ => rfl) rfl rfl hl.1 (Nat.le_of_ble_eq_true rfl) dX3_sendEnvoys_22 ⟨Nat.zero_le _, Nat.zero_le _⟩ (fun u H locs hw_22 hP hD hS => ?_)
          have hw_22 : True := hw_22
          have hP : va_P D vwCl [((a 0), .inr (3, [.ref (a 1), .ref (a 2), .ref (a 3), .ref (a 4), .ref (a 6), .int (nI nk), .int (mi), .int (ro), .int ((gc h 10) + nI 1)])), ((a 2), .inl (cI, 24, .inl Wf)), ((a 4), .inr (2, [.ref (a 5), .int (nI (nT h))])), ((a 5), .inl (cI, 12, .inl (rSw Tc (fw h))))] H := hP
          have hD : va_D A [((a 0), .inr (3, [.ref (a 1), .ref (a 2), .ref (a 3), .ref (a 4), .ref (a 6), .int (nI nk), .int (mi), .int (ro), .int ((gc h 10) + nI 1)])), ((a 2), .inl (cI, 24, .inl Wf)), ((a 4), .inr (2, [.ref (a 5), .int (nI (nT h))])), ((a 5), .inl (cI, 12, .inl (rSw Tc (fw h))))] := hD
          refine lv_iinc (v := nI (i + 1)) (lv' := [(2, .int (nI (i + 1))), (3, .int (nI (fw h))), (0, .ref (a 0)), (1, .int (nI n))]) hx hb dX3_sendEnvoys_25 hl (k := 1) rfl (kb_inc1 i) (by decide) rfl (fun ls hl => ?_)
          refine lv_goto (tgt := 2) hx hb dX3_sendEnvoys_28 (by decide) ?_
          exact ih_2 (i + 1) (oSw h (fw h)) (rSw Tc (fw h)) (by omega) (oSw_ok hh (by omega)) (rSw_T hTc (by omega)) hWh hnT (by rw [he, show n - i = n - (i + 1) + 1 by omega, oEnv_s1 hfw]) (by rw [heN, show n - i = n - (i + 1) + 1 by omega, oEnvN_s1 hfw]; omega) (by omega) _ _ hP hD hS _ (lv_sub hl [0, 2, 3] rfl)
        · refine lv_iload_n hx hb dX3_sendEnvoys_18 rfl (lv_at hl 1 rfl) ?_
          exact kb_iret (D := D) hQ hx hb hr hlocks hK hP hD hS dX3_sendEnvoys_19 Tc (by rw [he, oEnv_0 (fwI_n5 hh c15), hnT]) (Nat.le_refl _) (Nat.le_refl _) (show (nI i) = nI (oEnvN n g) ∧ rT Tc (oEnv n g) from ⟨by rw [heN, oEnvN_0 (fwI_n5 hh c15)]; rfl, by rw [he, oEnv_0 (fwI_n5 hh c15)]; exact hTc⟩)
  exact L_2 ((n - 0) + 1) 0 g T (by omega) ho hT hW rfl rfl (Nat.zero_add _).symm (Nat.lt_succ_self _) _ _ hP hD hS _ (lv_sub hl [0, 1, 2] rfl)
