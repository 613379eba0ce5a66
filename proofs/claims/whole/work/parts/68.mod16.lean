theorem nA_1 {g : Sg} {k : Nat} {best : Int32} (h : best = faI g k) (c : gD g k = 0) (d : best = -5 ∨ gX g 0 k < best) : gX g 0 k = faI g (k + 1) := by rw [faI_s, ← h, if_pos ⟨c, d⟩]
theorem nA_0 {g : Sg} {k : Nat} {best : Int32} (h : best = faI g k) (c : ¬ (gD g k = 0 ∧ (best = -5 ∨ gX g 0 k < best))) : best = faI g (k + 1) := by rw [faI_s, ← h, if_neg c]
abbrev rmX5_nextArrival : Room := { frames := 1, cells := 0, slots := 0, locals := 22 }
theorem hdX5_nextArrival : yX5_nextArrival.cls = RX5 ∧ yX5_nextArrival.cls ≠ "java/lang/invoke/MethodHandle" ∧ yX5_nextArrival.cls ≠ "java/lang/invoke/VarHandle" ∧ (parseMethodDescriptor yX5_nextArrival.desc).map (fun d => d.parameters.length) = some 0 := by decide +kernel
theorem inwX5_nextArrival_X5 : ∀ w ∈ wsX50, w ∈ wsX5_nextArrival := fun w h => List.mem_cons_of_mem _ (List.mem_append_right _ h)
set_option maxHeartbeats 4000000 in
set_option maxRecDepth 100000 in
theorem c_X5_nextArrival (l : Launch) (D : va_G) (cI : ClassId) (b : Nat → Nat) (hL : Nat) (iK : Int32) (tL : Nat) (sP : Nat) (nU : Int32) (iS : Int32) (sN : Int32) (sR : Int32) (lE : Int32) (fI : Int32) (sC : Int32) (v : Nat → Int32) (g : Sg) (hv : rV v g) (ho : Ok g) : kb_R D [(cI, .int)] l yX5_nextArrival wsX5_nextArrival rmX5_nextArrival [.ref (b 0)] [((b 0), .inr (5, [.ref (b 1), .ref (b 2), .ref (b 3), .ref (b 4), .int (nI hL), .ref (b 5), .int (iK), .ref (b 6), .ref (b 7), .int (nI tL), .int (nI sP), .int (nU), .int (iS), .int (sN), .int (sR), .int (lE), .int (fI), .int (sC)])), ((b 1), .inl (cI, 217, .inl v))] (faI g (nK g)) := by
  refine kb_I_of (cc := cX5_nextArrival) (maxL := 4) (ret := (some .int)) (by decide) rfl (Nat.le_of_ble_eq_true rfl) ?_
  intro p e s mm args below meth c A hx hb hml hr hts hown hlocks hnm hA hN hK hP hD hS ls hl Q hQ
  have hl : lv_has ls 4 [(0, .ref (b 0))] := hl
  have hP : va_P D vwCl [((b 0), .inr (5, [.ref (b 1), .ref (b 2), .ref (b 3), .ref (b 4), .int (nI hL), .ref (b 5), .int (iK), .ref (b 6), .ref (b 7), .int (nI tL), .int (nI sP), .int (nU), .int (iS), .int (sN), .int (sR), .int (lE), .int (fI), .int (sC)])), ((b 1), .inl (cI, 217, .inl v))] s.heap := hP
  have hD : va_D A [((b 0), .inr (5, [.ref (b 1), .ref (b 2), .ref (b 3), .ref (b 4), .int (nI hL), .ref (b 5), .int (iK), .ref (b 6), .ref (b 7), .int (nI tL), .int (nI sP), .int (nU), .int (iS), .int (sN), .int (sR), .int (lE), .int (fI), .int (sC)])), ((b 1), .inl (cI, 217, .inl v))] := hD
  have fl7 := hts (.fieldLink RX5 7 "KingsBanquetModel" "all" "[I") (by decide +kernel)
  have hn := ho.n
  refine lv_bipush (v := (-5)) hx hb dX5_nextArrival_0 (by decide) ?_
  refine lv_istore_n (lv' := [(1, .int ((-5))), (0, .ref (b 0))]) hx hb dX5_nextArrival_2 rfl hl (by decide) rfl (fun ls hl => ?_)
  refine lv_iconst (v := nI 0) hx hb dX5_nextArrival_3 (by decide) ?_
  refine lv_istore_n (lv' := [(2, .int (nI 0)), (1, .int ((-5))), (0, .ref (b 0))]) hx hb dX5_nextArrival_4 rfl hl (by decide) rfl (fun ls hl => ?_)
  have L_5 : ∀ (z : Nat) (k : Nat) (best : Int32), (k ≤ nK g) → (best = faI g k) → (nK g - k) < z → ∀ (H : Heap) (locs : List Loc), va_P D vwCl [((b 0), .inr (5, [.ref (b 1), .ref (b 2), .ref (b 3), .ref (b 4), .int (nI hL), .ref (b 5), .int (iK), .ref (b 6), .ref (b 7), .int (nI tL), .int (nI sP), .int (nU), .int (iS), .int (sN), .int (sR), .int (lE), .int (fI), .int (sC)])), ((b 1), .inl (cI, 217, .inl v))] H → va_D A [((b 0), .inr (5, [.ref (b 1), .ref (b 2), .ref (b 3), .ref (b 4), .int (nI hL), .ref (b 5), .int (iK), .ref (b 6), .ref (b 7), .int (nI tL), .int (nI sP), .int (nU), .int (iS), .int (sN), .int (sR), .int (lE), .int (fI), .int (sC)])), ((b 1), .inl (cI, 217, .inl v))] → va_S A s.heap H locs → ∀ ls : Array Slot, lv_has ls 4 [(2, .int (nI k)), (1, .int (best)), (0, .ref (b 0))] → W p l e rmX5_nextArrival s mm args below meth c H locs 0 0 Q (F0 mm 5 ls []) := by
    intro z
    induction z with
    | zero =>
      intro k best _ _ hz
      exact absurd hz (Nat.not_lt_zero _)
    | succ z ih_5 =>
      intro k best hk hbb hz H locs hP hD hS ls hl
      refine lv_iload_n hx hb dX5_nextArrival_5 rfl (lv_at hl 0 rfl) ?_
      refine lv_aload_n hx hb dX5_nextArrival_6 rfl (lv_at hl 2 rfl) ?_
      refine va_get (D := D) (ci := 5) (v := .ref (b 1)) (C := RX5) (T := TX5) (N := 18) hx hb hts inwX5_nextArrival_X5 hown hK hP 0 rfl rfl 0 (by decide) fl7 (fun _ h9 => h9) rfl dX5_nextArrival_7 ?_
      refine lv_iconst (v := nI 5) hx hb dX5_nextArrival_10 (by decide) ?_
      refine kb_iald hx hb hK hP 1 0 rfl rfl (by decide) (by omega) dX5_nextArrival_11 ?_
      refine kb_top (nI (nK g)) hv.k ?_
      refine kb_icmp_ge (tgt := 54) hx hb dX5_nextArrival_12 (by decide) (by omega) (by omega) (fun c12 => ?_) (fun c12 => ?_)
      · refine lv_iload_n hx hb dX5_nextArrival_54 rfl (lv_at hl 1 rfl) ?_
        exact kb_iret (D := D) hQ hx hb hr hlocks hK hP hD hS dX5_nextArrival_55 () rfl (Nat.le_refl _) (Nat.le_refl _) (show best = faI g (nK g) from (by rw [hbb, show k = nK g by omega]))
      · refine lv_aload_n hx hb dX5_nextArrival_15 rfl (lv_at hl 2 rfl) ?_
        refine lv_iload_n hx hb dX5_nextArrival_16 rfl (lv_at hl 0 rfl) ?_
        refine lv_iconst (v := nI 2) hx hb dX5_nextArrival_17 (by decide) ?_
        refine kb_vR (As := [.int (nI k), .int (nI 2)]) (rest := []) hx hb hml hts hown hN hK hP hD hS hA (c_X5_get l D cI b hL iK tL sP nU iS sN sR lE fI sC v k 2 (by omega) (by decide)) gX5_nextArrival_X5_get rfl ⟨rfl, rfl⟩ hdX5_get ⟨Nat.le_of_ble_eq_true rfl, Nat.le_of_ble_eq_true rfl⟩ [0, 1] [0] rfl rfl rfl (ci := 5) rfl rfl rfl rfl rfl hl.1 (Nat.le_of_ble_eq_true rfl) dX5_nextArrival_18 ⟨Nat.zero_le _, Nat.zero_le _⟩ (fun H locs hP hS => ?_)
        refine kb_top (gX g 0 k) (hv.f (by omega)).2.2.1 ?_
        refine lv_istore_n (lv' := [(3, .int (gX g 0 k)), (2, .int (nI k)), (1, .int (best)), (0, .ref (b 0))]) hx hb dX5_nextArrival_21 rfl hl (by decide) rfl (fun ls hl => ?_)
        refine lv_aload_n hx hb dX5_nextArrival_22 rfl (lv_at hl 3 rfl) ?_
        refine lv_iload_n hx hb dX5_nextArrival_23 rfl (lv_at hl 1 rfl) ?_
        refine lv_iconst (v := nI 3) hx hb dX5_nextArrival_24 (by decide) ?_
        refine kb_vR (As := [.int (nI k), .int (nI 3)]) (rest := []) hx hb hml hts hown hN hK hP hD hS hA (c_X5_get l D cI b hL iK tL sP nU iS sN sR lE fI sC v k 3 (by omega) (by decide)) gX5_nextArrival_X5_get rfl ⟨rfl, rfl⟩ hdX5_get ⟨Nat.le_of_ble_eq_true rfl, Nat.le_of_ble_eq_true rfl⟩ [0, 1] [0] rfl rfl rfl (ci := 5) rfl rfl rfl rfl rfl hl.1 (Nat.le_of_ble_eq_true rfl) dX5_nextArrival_25 ⟨Nat.zero_le _, Nat.zero_le _⟩ (fun H locs hP hS => ?_)
        refine kb_top (nI (gD g k)) (hv.f (by omega)).2.2.2.1 ?_
        refine kb_nif_ne (tgt := 46) hx hb dX5_nextArrival_28 (by decide) (by have := (ho.k k (by omega)).1; omega) (fun c28 => ?_) (fun c28 => ?_)
        · refine lv_iload_n hx hb dX5_nextArrival_46 rfl (lv_at hl 2 rfl) ?_
          refine lv_istore_n (lv' := [(1, .int (best)), (3, .int (gX g 0 k)), (2, .int (nI k)), (0, .ref (b 0))]) hx hb dX5_nextArrival_47 rfl hl (by decide) rfl (fun ls hl => ?_)
          refine lv_iinc (v := nI (k + 1)) (lv' := [(2, .int (nI (k + 1))), (1, .int (best)), (3, .int (gX g 0 k)), (0, .ref (b 0))]) hx hb dX5_nextArrival_48 hl (k := 2) rfl (kb_inc1 k) (by decide) rfl (fun ls hl => ?_)
          refine lv_goto (tgt := 5) hx hb dX5_nextArrival_51 (by decide) ?_
          exact ih_5 (k + 1) best (by omega) (by first | exact nA_1 hbb c28 (Or.inl c34) | exact nA_1 hbb c28 (Or.inr (Int32.not_le.mp c39)) | exact nA_0 hbb (fun q => q.2.elim c34 (fun z => Int32.not_lt.mpr c39 z)) | exact nA_0 hbb (fun q => c28 q.1)) (by omega) _ _ hP hD hS _ (lv_sub hl [0, 1, 3] rfl)
        · refine lv_iload_n hx hb dX5_nextArrival_31 rfl (lv_at hl 2 rfl) ?_
          refine lv_bipush (v := (-5)) hx hb dX5_nextArrival_32 (by decide) ?_
          refine lv_icmp_eq (tgt := 42) hx hb dX5_nextArrival_34 (by decide) (fun c34 => ?_) (fun c34 => ?_)
          · refine lv_iload_n hx hb dX5_nextArrival_42 rfl (lv_at hl 0 rfl) ?_
            refine lv_goto (tgt := 47) hx hb dX5_nextArrival_43 (by decide) ?_
            refine lv_istore_n (lv' := [(1, .int (gX g 0 k)), (3, .int (gX g 0 k)), (2, .int (nI k)), (0, .ref (b 0))]) hx hb dX5_nextArrival_47 rfl hl (by decide) rfl (fun ls hl => ?_)
            refine lv_iinc (v := nI (k + 1)) (lv' := [(2, .int (nI (k + 1))), (1, .int (gX g 0 k)), (3, .int (gX g 0 k)), (0, .ref (b 0))]) hx hb dX5_nextArrival_48 hl (k := 2) rfl (kb_inc1 k) (by decide) rfl (fun ls hl => ?_)
            refine lv_goto (tgt := 5) hx hb dX5_nextArrival_51 (by decide) ?_
            exact ih_5 (k + 1) (gX g 0 k) (by omega) (by first | exact nA_1 hbb c28 (Or.inl c34) | exact nA_1 hbb c28 (Or.inr (Int32.not_le.mp c39)) | exact nA_0 hbb (fun q => q.2.elim c34 (fun z => Int32.not_lt.mpr c39 z)) | exact nA_0 hbb (fun q => c28 q.1)) (by omega) _ _ hP hD hS _ (lv_sub hl [0, 1, 3] rfl)
          · refine lv_iload_n hx hb dX5_nextArrival_37 rfl (lv_at hl 0 rfl) ?_
            refine lv_iload_n hx hb dX5_nextArrival_38 rfl (lv_at hl 2 rfl) ?_
            refine lv_icmp_ge (tgt := 46) hx hb dX5_nextArrival_39 (by decide) (fun c39 => ?_) (fun c39 => ?_)
            · refine lv_iload_n hx hb dX5_nextArrival_46 rfl (lv_at hl 2 rfl) ?_
              refine lv_istore_n (lv' := [(1, .int (best)), (3, .int (gX g 0 k)), (2, .int (nI k)), (0, .ref (b 0))]) hx hb dX5_nextArrival_47 rfl hl (by decide) rfl (fun ls hl => ?_)
              refine lv_iinc (v := nI (k + 1)) (lv' := [(2, .int (nI (k + 1))), (1, .int (best)), (3, .int (gX g 0 k)), (0, .ref (b 0))]) hx hb dX5_nextArrival_48 hl (k := 2) rfl (kb_inc1 k) (by decide) rfl (fun ls hl => ?_)
              refine lv_goto (tgt := 5) hx hb dX5_nextArrival_51 (by decide) ?_
              exact ih_5 (k + 1) best (by omega) (by first | exact nA_1 hbb c28 (Or.inl c34) | exact nA_1 hbb c28 (Or.inr (Int32.not_le.mp c39)) | exact nA_0 hbb (fun q => q.2.elim c34 (fun z => Int32.not_lt.mpr c39 z)) | exact nA_0 hbb (fun q => c28 q.1)) (by omega) _ _ hP hD hS _ (lv_sub hl [0, 1, 3] rfl)
            · refine lv_iload_n hx hb dX5_nextArrival_42 rfl (lv_at hl 0 rfl) ?_
              refine lv_goto (tgt := 47) hx hb dX5_nextArrival_43 (by decide) ?_
              refine lv_istore_n (lv' := [(1, .int (gX g 0 k)), (3, .int (gX g 0 k)), (2, .int (nI k)), (0, .ref (b 0))]) hx hb dX5_nextArrival_47 rfl hl (by decide) rfl (fun ls hl => ?_)
              refine lv_iinc (v := nI (k + 1)) (lv' := [(2, .int (nI (k + 1))), (1, .int (gX g 0 k)), (3, .int (gX g 0 k)), (0, .ref (b 0))]) hx hb dX5_nextArrival_48 hl (k := 2) rfl (kb_inc1 k) (by decide) rfl (fun ls hl => ?_)
              refine lv_goto (tgt := 5) hx hb dX5_nextArrival_51 (by decide) ?_
              exact ih_5 (k + 1) (gX g 0 k) (by omega) (by first | exact nA_1 hbb c28 (Or.inl c34) | exact nA_1 hbb c28 (Or.inr (Int32.not_le.mp c39)) | exact nA_0 hbb (fun q => q.2.elim c34 (fun z => Int32.not_lt.mpr c39 z)) | exact nA_0 hbb (fun q => c28 q.1)) (by omega) _ _ hP hD hS _ (lv_sub hl [0, 1, 3] rfl)
  exact L_5 ((nK g - 0) + 1) 0 (-5) (by omega) rfl (Nat.lt_succ_self _) _ _ hP hD hS _ (lv_sub hl [0, 1, 2] rfl)
