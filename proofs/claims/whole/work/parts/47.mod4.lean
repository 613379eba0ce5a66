abbrev rmX5_arrive : Room := { frames := 3, cells := 0, slots := 0, locals := 69 }
theorem hdX5_arrive : yX5_arrive.cls = RX5 ∧ yX5_arrive.cls ≠ "java/lang/invoke/MethodHandle" ∧ yX5_arrive.cls ≠ "java/lang/invoke/VarHandle" ∧ (parseMethodDescriptor yX5_arrive.desc).map (fun d => d.parameters.length) = some 0 := by decide +kernel
theorem inwX5_arrive_X5 : ∀ w ∈ wsX50, w ∈ wsX5_arrive := fun w h => List.mem_cons_of_mem _ (List.mem_append_right _ h)
set_option maxHeartbeats 4000000 in
set_option maxRecDepth 100000 in
theorem c_X5_arrive (l : Launch) (D : va_G) (cI : ClassId) (b : Nat → Nat) (hL : Nat) (iK : Int32) (tL : Nat) (sP : Nat) (nU : Int32) (iS : Int32) (sN : Int32) (sR : Int32) (lE : Int32) (fI : Int32) (sC : Int32) (v : Nat → Int32) (g : Sg) (hv : rV v g) (ho : Ok g) : kb_V (S := (Nat → Int32)) D [(cI, .int)] l yX5_arrive wsX5_arrive rmX5_arrive [.ref (b 0)] [((b 0), .inr (5, [.ref (b 1), .ref (b 2), .ref (b 3), .ref (b 4), .int (nI hL), .ref (b 5), .int (iK), .ref (b 6), .ref (b 7), .int (nI tL), .int (nI sP), .int (nU), .int (iS), .int (sN), .int (sR), .int (lE), .int (fI), .int (sC)])), ((b 1), .inl (cI, 217, .inl v))] (fun (u : (Nat → Int32)) => rV u (oArr' g)) (fun (u : (Nat → Int32)) => [((b 0), .inr (5, [.ref (b 1), .ref (b 2), .ref (b 3), .ref (b 4), .int (nI hL), .ref (b 5), .int (iK), .ref (b 6), .ref (b 7), .int (nI tL), .int (nI sP), .int (nU), .int (iS), .int (sN), .int (sR), .int (lE), .int (fI), .int (sC)])), ((b 1), .inl (cI, 217, .inl u))]) 0 0 := by
  refine kb_V_of (cc := cX5_arrive) (maxL := 2) (ret := none) (by decide) rfl (Nat.le_of_ble_eq_true rfl) ?_
  intro p e s mm args below meth c A hx hb hml hr hts hown hlocks hnm hA hN hK hP hD hS ls hl Q hQ
  have hl : lv_has ls 2 [(0, .ref (b 0))] := hl
  have hP : va_P D vwCl [((b 0), .inr (5, [.ref (b 1), .ref (b 2), .ref (b 3), .ref (b 4), .int (nI hL), .ref (b 5), .int (iK), .ref (b 6), .ref (b 7), .int (nI tL), .int (nI sP), .int (nU), .int (iS), .int (sN), .int (sR), .int (lE), .int (fI), .int (sC)])), ((b 1), .inl (cI, 217, .inl v))] s.heap := hP
  have hD : va_D A [((b 0), .inr (5, [.ref (b 1), .ref (b 2), .ref (b 3), .ref (b 4), .int (nI hL), .ref (b 5), .int (iK), .ref (b 6), .ref (b 7), .int (nI tL), .int (nI sP), .int (nU), .int (iS), .int (sN), .int (sR), .int (lE), .int (fI), .int (sC)])), ((b 1), .inl (cI, 217, .inl v))] := hD
  have fl7 := hts (.fieldLink RX5 7 "KingsBanquetModel" "all" "[I") (by decide +kernel)
  refine lv_aload_n hx hb dX5_arrive_0 rfl (lv_at hl 0 rfl) ?_
  refine kb_vR (As := []) (rest := []) hx hb hml hts hown hN hK hP hD hS hA (c_X5_nextIn l D cI b hL iK tL sP nU iS sN sR lE fI sC v g hv ho) gX5_arrive_X5_nextIn rfl ⟨rfl, rfl⟩ hdX5_nextIn ⟨Nat.le_of_ble_eq_true rfl, Nat.le_of_ble_eq_true rfl⟩ [0, 1] [0] rfl rfl rfl (ci := 5) rfl rfl rfl rfl rfl hl.1 (Nat.le_of_ble_eq_true rfl) dX5_arrive_1 ⟨Nat.zero_le _, Nat.zero_le _⟩ (fun H locs hP hS => ?_)
  refine lv_istore_n (lv' := [(1, .int (nxI (nx g))), (0, .ref (b 0))]) hx hb dX5_arrive_4 rfl hl (by decide) rfl (fun ls hl => ?_)
  have L_5 : ∀ (z : Nat) (m : Nat) (h : Sg) (vc : Nat → Int32), (Ok h) → (rV vc h) → (oArr' g = oArr m h) → (cA h ≤ m) → m < z → ∀ (H : Heap) (locs : List Loc), va_P D vwCl [((b 0), .inr (5, [.ref (b 1), .ref (b 2), .ref (b 3), .ref (b 4), .int (nI hL), .ref (b 5), .int (iK), .ref (b 6), .ref (b 7), .int (nI tL), .int (nI sP), .int (nU), .int (iS), .int (sN), .int (sR), .int (lE), .int (fI), .int (sC)])), ((b 1), .inl (cI, 217, .inl vc))] H → va_D A [((b 0), .inr (5, [.ref (b 1), .ref (b 2), .ref (b 3), .ref (b 4), .int (nI hL), .ref (b 5), .int (iK), .ref (b 6), .ref (b 7), .int (nI tL), .int (nI sP), .int (nU), .int (iS), .int (sN), .int (sR), .int (lE), .int (fI), .int (sC)])), ((b 1), .inl (cI, 217, .inl vc))] → va_S A s.heap H locs → ∀ ls : Array Slot, lv_has ls 2 [(1, .int (nxI (nx h))), (0, .ref (b 0))] → W p l e rmX5_arrive s mm args below meth c H locs 0 0 Q (F0 mm 5 ls []) := by
    intro z
    induction z with
    | zero =>
      intro m h vc _ _ _ _ hz
      exact absurd hz (Nat.not_lt_zero _)
    | succ z ih_5 =>
      intro m h vc hh hvc he hcm hz H locs hP hD hS ls hl
      refine lv_iload_n hx hb dX5_arrive_5 rfl (lv_at hl 0 rfl) ?_
      refine lv_bipush (v := (-5)) hx hb dX5_arrive_6 (by decide) ?_
      refine lv_icmp_eq (tgt := 53) hx hb dX5_arrive_8 (by decide) (fun c8 => ?_) (fun c8 => ?_)
      · exact kb_vret (D := D) hQ hx hb hr hlocks hK hP hD hS dX5_arrive_53 vc rfl (Nat.le_refl _) (Nat.le_refl _) (show rV vc (oArr' g) from (by rw [he, oArr_st ((nxI_5 (nx_le hh)).mp c8)]; exact hvc))
      · have hnx : nx h ≠ 24 := fun q => c8 ((nxI_5 (nx_le hh)).mpr q)
        rw [nxI_n hnx] at hl
        have hni := nx_in hh hnx
        obtain ⟨he2, hc2, hm1⟩ := oArr_m hh he hcm hnx
        have hnn := hh.n
        have hfit := fb_fit hh hni.1 (by omega)
        refine lv_aload_n hx hb dX5_arrive_11 rfl (lv_at hl 1 rfl) ?_
        refine lv_iload_n hx hb dX5_arrive_12 rfl (lv_at hl 0 rfl) ?_
        refine lv_iconst (v := nI 3) hx hb dX5_arrive_13 (by decide) ?_
        refine lv_iconst (v := nI 1) hx hb dX5_arrive_14 (by decide) ?_
        refine kb_vV (As := [.int (nI (nx h)), .int (nI 3), .int (nI 1)]) (rest := []) hx hb hml hts hown hN hK hP hD hS hA (c_X5_lays l D cI b hL iK tL sP nU iS sN sR lE fI sC vc (nx h) 3 (by omega) (by decide) (nI 1)) gX5_arrive_X5_lays rfl ⟨rfl, rfl⟩ hdX5_lays ⟨Nat.le_of_ble_eq_true rfl, Nat.le_of_ble_eq_true rfl⟩ [0, 1] [0] rfl rfl rfl (ci := 5) rfl rfl rfl (fun _ => rfl) rfl rfl hl.1 (Nat.le_of_ble_eq_true rfl) dX5_arrive_15 ⟨Nat.zero_le _, Nat.zero_le _⟩ (fun u H locs hw_15 hP hD hS => ?_)
        have hw_15 : True := hw_15
        have hP : va_P D vwCl [((b 0), .inr (5, [.ref (b 1), .ref (b 2), .ref (b 3), .ref (b 4), .int (nI hL), .ref (b 5), .int (iK), .ref (b 6), .ref (b 7), .int (nI tL), .int (nI sP), .int (nU), .int (iS), .int (sN), .int (sR), .int (lE), .int (fI), .int (sC)])), ((b 1), .inl (cI, 217, .inl (upd vc (49 + 7 * (nx h) + 3) (nI 1))))] H := hP
        have hD : va_D A [((b 0), .inr (5, [.ref (b 1), .ref (b 2), .ref (b 3), .ref (b 4), .int (nI hL), .ref (b 5), .int (iK), .ref (b 6), .ref (b 7), .int (nI tL), .int (nI sP), .int (nU), .int (iS), .int (sN), .int (sR), .int (lE), .int (fI), .int (sC)])), ((b 1), .inl (cI, 217, .inl (upd vc (49 + 7 * (nx h) + 3) (nI 1))))] := hD
        refine lv_aload_n hx hb dX5_arrive_18 rfl (lv_at hl 1 rfl) ?_
        refine va_get (D := D) (ci := 5) (v := .ref (b 1)) (C := RX5) (T := TX5) (N := 18) hx hb hts inwX5_arrive_X5 hown hK hP 0 rfl rfl 0 (by decide) fl7 (fun _ h9 => h9) rfl dX5_arrive_19 ?_
        refine lv_bipush (v := nI 25) hx hb dX5_arrive_22 (by decide) ?_
        refine lv_aload_n hx hb dX5_arrive_24 rfl (lv_at hl 1 rfl) ?_
        refine va_get (D := D) (ci := 5) (v := .ref (b 1)) (C := RX5) (T := TX5) (N := 18) hx hb hts inwX5_arrive_X5 hown hK hP 0 rfl rfl 0 (by decide) fl7 (fun _ h9 => h9) rfl dX5_arrive_25 ?_
        refine lv_bipush (v := nI 24) hx hb dX5_arrive_28 (by decide) ?_
        refine kb_iald hx hb hK hP 1 0 rfl rfl (by decide) (by omega) dX5_arrive_30 ?_
        refine kb_top (nI (nW h)) ((up_n (by omega)).trans hvc.w) ?_
        refine lv_iadd hx hb dX5_arrive_31 ?_
        refine kb_top (nI (25 + (nW h))) (nI_add 25 (nW h)) ?_
        refine lv_iload_n hx hb dX5_arrive_32 rfl (lv_at hl 0 rfl) ?_
        refine kb_iast hx hb hK hP hD hS 1 0 rfl rfl (by decide) (by omega) dX5_arrive_33 (fun H locs hP hD hS => ?_)
        have hP : va_P D vwCl [((b 0), .inr (5, [.ref (b 1), .ref (b 2), .ref (b 3), .ref (b 4), .int (nI hL), .ref (b 5), .int (iK), .ref (b 6), .ref (b 7), .int (nI tL), .int (nI sP), .int (nU), .int (iS), .int (sN), .int (sR), .int (lE), .int (fI), .int (sC)])), ((b 1), .inl (cI, 217, .inl (upd (upd vc (49 + 7 * (nx h) + 3) (nI 1)) (25 + (nW h)) (nI (nx h)))))] H := hP
        have hD : va_D A [((b 0), .inr (5, [.ref (b 1), .ref (b 2), .ref (b 3), .ref (b 4), .int (nI hL), .ref (b 5), .int (iK), .ref (b 6), .ref (b 7), .int (nI tL), .int (nI sP), .int (nU), .int (iS), .int (sN), .int (sR), .int (lE), .int (fI), .int (sC)])), ((b 1), .inl (cI, 217, .inl (upd (upd vc (49 + 7 * (nx h) + 3) (nI 1)) (25 + (nW h)) (nI (nx h)))))] := hD
        refine lv_aload_n hx hb dX5_arrive_34 rfl (lv_at hl 1 rfl) ?_
        refine va_get (D := D) (ci := 5) (v := .ref (b 1)) (C := RX5) (T := TX5) (N := 18) hx hb hts inwX5_arrive_X5 hown hK hP 0 rfl rfl 0 (by decide) fl7 (fun _ h9 => h9) rfl dX5_arrive_35 ?_
        refine lv_bipush (v := nI 24) hx hb dX5_arrive_38 (by decide) ?_
        refine lv_dup2_11 hx hb dX5_arrive_40 rfl rfl ?_
        refine kb_iald hx hb hK hP 1 0 rfl rfl (by decide) (by omega) dX5_arrive_41 ?_
        refine kb_top (nI (nW h)) ((up_n (by omega)).trans ((up_n (by omega)).trans hvc.w)) ?_
        refine lv_iconst (v := nI 1) hx hb dX5_arrive_42 (by decide) ?_
        refine lv_iadd hx hb dX5_arrive_43 ?_
        refine kb_top (nI (nW h + 1)) (nI_add (nW h) 1) ?_
        refine kb_iast hx hb hK hP hD hS 1 0 rfl rfl (by decide) (by omega) dX5_arrive_44 (fun H locs hP hD hS => ?_)
        have hP : va_P D vwCl [((b 0), .inr (5, [.ref (b 1), .ref (b 2), .ref (b 3), .ref (b 4), .int (nI hL), .ref (b 5), .int (iK), .ref (b 6), .ref (b 7), .int (nI tL), .int (nI sP), .int (nU), .int (iS), .int (sN), .int (sR), .int (lE), .int (fI), .int (sC)])), ((b 1), .inl (cI, 217, .inl (upd (upd (upd vc (49 + 7 * (nx h) + 3) (nI 1)) (25 + (nW h)) (nI (nx h))) 24 (nI (nW h + 1)))))] H := hP
        have hD : va_D A [((b 0), .inr (5, [.ref (b 1), .ref (b 2), .ref (b 3), .ref (b 4), .int (nI hL), .ref (b 5), .int (iK), .ref (b 6), .ref (b 7), .int (nI tL), .int (nI sP), .int (nU), .int (iS), .int (sN), .int (sR), .int (lE), .int (fI), .int (sC)])), ((b 1), .inl (cI, 217, .inl (upd (upd (upd vc (49 + 7 * (nx h) + 3) (nI 1)) (25 + (nW h)) (nI (nx h))) 24 (nI (nW h + 1)))))] := hD
        refine lv_aload_n hx hb dX5_arrive_45 rfl (lv_at hl 1 rfl) ?_
        refine kb_vR (As := []) (rest := []) hx hb hml hts hown hN hK hP hD hS hA (c_X5_nextIn l D cI b hL iK tL sP nU iS sN sR lE fI sC (upd (upd (upd vc (49 + 7 * (nx h) + 3) (nI 1)) (25 + (nW h)) (nI (nx h))) 24 (nI (nW h + 1))) (oAr1 h (nx h)) (rV_ar1 hvc (by omega) (by omega) (by omega)) (oAr1_ok hh hni.1 hni.2.1)) gX5_arrive_X5_nextIn rfl ⟨rfl, rfl⟩ hdX5_nextIn ⟨Nat.le_of_ble_eq_true rfl, Nat.le_of_ble_eq_true rfl⟩ [0, 1] [0] rfl rfl rfl (ci := 5) rfl rfl rfl rfl rfl hl.1 (Nat.le_of_ble_eq_true rfl) dX5_arrive_46 ⟨Nat.zero_le _, Nat.zero_le _⟩ (fun H locs hP hS => ?_)
        refine lv_istore_n (lv' := [(1, .int (nxI (nx (oAr1 h (nx h))))), (0, .ref (b 0))]) hx hb dX5_arrive_49 rfl hl (by decide) rfl (fun ls hl => ?_)
        refine lv_goto (tgt := 5) hx hb dX5_arrive_50 (by decide) ?_
        exact ih_5 (m - 1) (oAr1 h (nx h)) (upd (upd (upd vc (49 + 7 * (nx h) + 3) (nI 1)) (25 + (nW h)) (nI (nx h))) 24 (nI (nW h + 1))) (oAr1_ok hh hni.1 hni.2.1) (rV_ar1 hvc (by omega) (by omega) (by omega)) he2 hc2 (by omega) _ _ hP hD hS _ (lv_sub hl [0, 1] rfl)
  exact L_5 ((nK g) + 1) (nK g) g v ho hv rfl (cA_le g) (Nat.lt_succ_self _) _ _ hP hD hS _ (lv_sub hl [0, 1] rfl)
abbrev rmX5_sitDown : Room := { frames := 1, cells := 0, slots := 0, locals := 24 }
theorem hdX5_sitDown : yX5_sitDown.cls = RX5 ∧ yX5_sitDown.cls ≠ "java/lang/invoke/MethodHandle" ∧ yX5_sitDown.cls ≠ "java/lang/invoke/VarHandle" ∧ (parseMethodDescriptor yX5_sitDown.desc).map (fun d => d.parameters.length) = some 0 := by decide +kernel
theorem inwX5_sitDown_X5 : ∀ w ∈ wsX50, w ∈ wsX5_sitDown := fun w h => List.mem_cons_of_mem _ (List.mem_append_right _ h)
set_option maxHeartbeats 4000000 in
set_option maxRecDepth 100000 in
theorem c_X5_sitDown (l : Launch) (D : va_G) (cI : ClassId) (b : Nat → Nat) (hL : Nat) (iK : Int32) (tL : Nat) (sP : Nat) (nU : Int32) (iS : Int32) (sN : Int32) (sR : Int32) (lE : Int32) (fI : Int32) (sC : Int32) (v : Nat → Int32) (g : Sg) (hv : rV v g) (ho : Ok g) : kb_V (S := (Nat → Int32)) D [(cI, .int)] l yX5_sitDown wsX5_sitDown rmX5_sitDown [.ref (b 0)] [((b 0), .inr (5, [.ref (b 1), .ref (b 2), .ref (b 3), .ref (b 4), .int (nI hL), .ref (b 5), .int (iK), .ref (b 6), .ref (b 7), .int (nI tL), .int (nI sP), .int (nU), .int (iS), .int (sN), .int (sR), .int (lE), .int (fI), .int (sC)])), ((b 1), .inl (cI, 217, .inl v))] (fun (u : (Nat → Int32)) => rV u (oSit' g)) (fun (u : (Nat → Int32)) => [((b 0), .inr (5, [.ref (b 1), .ref (b 2), .ref (b 3), .ref (b 4), .int (nI hL), .ref (b 5), .int (iK), .ref (b 6), .ref (b 7), .int (nI tL), .int (nI sP), .int (nU), .int (iS), .int (sN), .int (sR), .int (lE), .int (fI), .int (sC)])), ((b 1), .inl (cI, 217, .inl u))]) 0 0 := by
  refine kb_V_of (cc := cX5_sitDown) (maxL := 2) (ret := none) (by decide) rfl (Nat.le_of_ble_eq_true rfl) ?_
  intro p e s mm args below meth c A hx hb hml hr hts hown hlocks hnm hA hN hK hP hD hS ls hl Q hQ
  have hl : lv_has ls 2 [(0, .ref (b 0))] := hl
  have hP : va_P D vwCl [((b 0), .inr (5, [.ref (b 1), .ref (b 2), .ref (b 3), .ref (b 4), .int (nI hL), .ref (b 5), .int (iK), .ref (b 6), .ref (b 7), .int (nI tL), .int (nI sP), .int (nU), .int (iS), .int (sN), .int (sR), .int (lE), .int (fI), .int (sC)])), ((b 1), .inl (cI, 217, .inl v))] s.heap := hP
  have hD : va_D A [((b 0), .inr (5, [.ref (b 1), .ref (b 2), .ref (b 3), .ref (b 4), .int (nI hL), .ref (b 5), .int (iK), .ref (b 6), .ref (b 7), .int (nI tL), .int (nI sP), .int (nU), .int (iS), .int (sN), .int (sR), .int (lE), .int (fI), .int (sC)])), ((b 1), .inl (cI, 217, .inl v))] := hD
  have fl7 := hts (.fieldLink RX5 7 "KingsBanquetModel" "all" "[I") (by decide +kernel)
  obtain ⟨e0, he0, he1, he12, hte⟩ := ho.c0
  have L_0 : ∀ (z : Nat) (n : Nat) (h : Sg) (vc : Nat → Int32), (Ok h) → (rV vc h) → (gc h 0 = nI e0) → (n = e0 - nT h) → (oSit' g = oSit n h) → n < z → ∀ (H : Heap) (locs : List Loc), va_P D vwCl [((b 0), .inr (5, [.ref (b 1), .ref (b 2), .ref (b 3), .ref (b 4), .int (nI hL), .ref (b 5), .int (iK), .ref (b 6), .ref (b 7), .int (nI tL), .int (nI sP), .int (nU), .int (iS), .int (sN), .int (sR), .int (lE), .int (fI), .int (sC)])), ((b 1), .inl (cI, 217, .inl vc))] H → va_D A [((b 0), .inr (5, [.ref (b 1), .ref (b 2), .ref (b 3), .ref (b 4), .int (nI hL), .ref (b 5), .int (iK), .ref (b 6), .ref (b 7), .int (nI tL), .int (nI sP), .int (nU), .int (iS), .int (sN), .int (sR), .int (lE), .int (fI), .int (sC)])), ((b 1), .inl (cI, 217, .inl vc))] → va_S A s.heap H locs → ∀ ls : Array Slot, lv_has ls 2 [(0, .ref (b 0))] → W p l e rmX5_sitDown s mm args below meth c H locs 0 0 Q (F0 mm 0 ls []) := by
    intro z
    induction z with
    | zero =>
      intro n h vc _ _ _ _ _ hz
      exact absurd hz (Nat.not_lt_zero _)
    | succ z ih_0 =>
      intro n h vc hh hvc hg0 hne he hz H locs hP hD hS ls hl
      have hnn := hh.n
      refine lv_aload_n hx hb dX5_sitDown_0 rfl (lv_at hl 0 rfl) ?_
      refine va_get (D := D) (ci := 5) (v := .ref (b 1)) (C := RX5) (T := TX5) (N := 18) hx hb hts inwX5_sitDown_X5 hown hK hP 0 rfl rfl 0 (by decide) fl7 (fun _ h9 => h9) rfl dX5_sitDown_1 ?_
      refine lv_bipush (v := nI 24) hx hb dX5_sitDown_4 (by decide) ?_
      refine kb_iald hx hb hK hP 1 0 rfl rfl (by decide) (by omega) dX5_sitDown_6 ?_
      refine kb_top (nI (nW h)) hvc.w ?_
      refine kb_nif_le (tgt := 80) hx hb dX5_sitDown_7 (by decide) (by omega) (fun c7 => ?_) (fun c7 => ?_)
      · exact kb_vret (D := D) hQ hx hb hr hlocks hK hP hD hS dX5_sitDown_80 vc rfl (Nat.le_refl _) (Nat.le_refl _) (show rV vc (oSit' g) from (by rw [he]; first | (rw [oSit_st (by omega)]; exact hvc) | (rw [show n = 0 by omega]; exact hvc)))
      · refine lv_aload_n hx hb dX5_sitDown_10 rfl (lv_at hl 0 rfl) ?_
        refine va_get (D := D) (ci := 5) (v := .ref (b 1)) (C := RX5) (T := TX5) (N := 18) hx hb hts inwX5_sitDown_X5 hown hK hP 0 rfl rfl 0 (by decide) fl7 (fun _ h9 => h9) rfl dX5_sitDown_11 ?_
        refine lv_bipush (v := nI 11) hx hb dX5_sitDown_14 (by decide) ?_
        refine kb_iald hx hb hK hP 1 0 rfl rfl (by decide) (by omega) dX5_sitDown_16 ?_
        refine kb_top (nI (nT h)) hvc.t ?_
        refine lv_aload_n hx hb dX5_sitDown_17 rfl (lv_at hl 0 rfl) ?_
        refine va_get (D := D) (ci := 5) (v := .ref (b 1)) (C := RX5) (T := TX5) (N := 18) hx hb hts inwX5_sitDown_X5 hown hK hP 0 rfl rfl 0 (by decide) fl7 (fun _ h9 => h9) rfl dX5_sitDown_18 ?_
        refine lv_iconst (v := nI 0) hx hb dX5_sitDown_21 (by decide) ?_
        refine kb_iald hx hb hK hP 1 0 rfl rfl (by decide) (by omega) dX5_sitDown_22 ?_
        refine kb_top (nI e0) ((hvc.c (by decide)).trans hg0) ?_
        refine kb_icmp_ge (tgt := 80) hx hb dX5_sitDown_23 (by decide) (by omega) (by omega) (fun c23 => ?_) (fun c23 => ?_)
        · exact kb_vret (D := D) hQ hx hb hr hlocks hK hP hD hS dX5_sitDown_80 vc rfl (Nat.le_refl _) (Nat.le_refl _) (show rV vc (oSit' g) from (by rw [he]; first | (rw [oSit_st (by omega)]; exact hvc) | (rw [show n = 0 by omega]; exact hvc)))
        · refine lv_aload_n hx hb dX5_sitDown_26 rfl (lv_at hl 0 rfl) ?_
          refine va_get (D := D) (ci := 5) (v := .ref (b 1)) (C := RX5) (T := TX5) (N := 18) hx hb hts inwX5_sitDown_X5 hown hK hP 0 rfl rfl 0 (by decide) fl7 (fun _ h9 => h9) rfl dX5_sitDown_27 ?_
          refine lv_bipush (v := nI 25) hx hb dX5_sitDown_30 (by decide) ?_
          refine kb_iald hx hb hK hP 1 0 rfl rfl (by decide) (by omega) dX5_sitDown_32 ?_
          refine kb_top (nI (gW h 0)) (hvc.u (j := 0) (by omega)) ?_
          refine lv_istore_n (lv' := [(1, .int (nI (gW h 0))), (0, .ref (b 0))]) hx hb dX5_sitDown_33 rfl hl (by decide) rfl (fun ls hl => ?_)
          have hg24 := (hh.w 0 (by omega)).1
          refine lv_aload_n hx hb dX5_sitDown_34 rfl (lv_at hl 1 rfl) ?_
          refine lv_bipush (v := nI 25) hx hb dX5_sitDown_35 (by decide) ?_
          refine lv_bipush (v := nI 24) hx hb dX5_sitDown_37 (by decide) ?_
          refine lv_iconst (v := nI 0) hx hb dX5_sitDown_39 (by decide) ?_
          refine kb_vV (As := [.int (nI 25), .int (nI 24), .int (nI 0)]) (rest := []) hx hb hml hts hown hN hK hP hD hS hA (c_X5_takesOff l D cI b hL iK tL sP nU iS sN sR lE fI sC vc 25 24 0 (nW h) (by omega) (by decide) (by omega) (by omega) hvc.w) gX5_sitDown_X5_takesOff rfl ⟨rfl, rfl⟩ hdX5_takesOff ⟨Nat.le_of_ble_eq_true rfl, Nat.le_of_ble_eq_true rfl⟩ [0, 1] [0] rfl rfl rfl (ci := 5) rfl rfl rfl (fun _ => rfl) rfl rfl hl.1 (Nat.le_of_ble_eq_true rfl) dX5_sitDown_40 ⟨Nat.zero_le _, Nat.zero_le _⟩ (fun u H locs hw_40 hP hD hS => ?_)
          obtain ⟨vo_40, rfl⟩ : ∃ z, z = u := ⟨_, rfl⟩
          have hw_40 : tkO vc vo_40 25 24 0 (nW h) := hw_40
          have hP : va_P D vwCl [((b 0), .inr (5, [.ref (b 1), .ref (b 2), .ref (b 3), .ref (b 4), .int (nI hL), .ref (b 5), .int (iK), .ref (b 6), .ref (b 7), .int (nI tL), .int (nI sP), .int (nU), .int (iS), .int (sN), .int (sR), .int (lE), .int (fI), .int (sC)])), ((b 1), .inl (cI, 217, .inl vo_40))] H := hP
          have hD : va_D A [((b 0), .inr (5, [.ref (b 1), .ref (b 2), .ref (b 3), .ref (b 4), .int (nI hL), .ref (b 5), .int (iK), .ref (b 6), .ref (b 7), .int (nI tL), .int (nI sP), .int (nU), .int (iS), .int (sN), .int (sR), .int (lE), .int (fI), .int (sC)])), ((b 1), .inl (cI, 217, .inl vo_40))] := hD
          refine lv_aload_n hx hb dX5_sitDown_43 rfl (lv_at hl 1 rfl) ?_
          refine lv_iload_n hx hb dX5_sitDown_44 rfl (lv_at hl 0 rfl) ?_
          refine lv_iconst (v := nI 3) hx hb dX5_sitDown_45 (by decide) ?_
          refine lv_iconst (v := nI 2) hx hb dX5_sitDown_46 (by decide) ?_
          refine kb_vV (As := [.int (nI (gW h 0)), .int (nI 3), .int (nI 2)]) (rest := []) hx hb hml hts hown hN hK hP hD hS hA (c_X5_lays l D cI b hL iK tL sP nU iS sN sR lE fI sC vo_40 (gW h 0) 3 (by omega) (by decide) (nI 2)) gX5_sitDown_X5_lays rfl ⟨rfl, rfl⟩ hdX5_lays ⟨Nat.le_of_ble_eq_true rfl, Nat.le_of_ble_eq_true rfl⟩ [0, 1] [0] rfl rfl rfl (ci := 5) rfl rfl rfl (fun _ => rfl) rfl rfl hl.1 (Nat.le_of_ble_eq_true rfl) dX5_sitDown_47 ⟨Nat.zero_le _, Nat.zero_le _⟩ (fun u H locs hw_47 hP hD hS => ?_)
          have hw_47 : True := hw_47
          have hP : va_P D vwCl [((b 0), .inr (5, [.ref (b 1), .ref (b 2), .ref (b 3), .ref (b 4), .int (nI hL), .ref (b 5), .int (iK), .ref (b 6), .ref (b 7), .int (nI tL), .int (nI sP), .int (nU), .int (iS), .int (sN), .int (sR), .int (lE), .int (fI), .int (sC)])), ((b 1), .inl (cI, 217, .inl (upd vo_40 (49 + 7 * (gW h 0) + 3) (nI 2))))] H := hP
          have hD : va_D A [((b 0), .inr (5, [.ref (b 1), .ref (b 2), .ref (b 3), .ref (b 4), .int (nI hL), .ref (b 5), .int (iK), .ref (b 6), .ref (b 7), .int (nI tL), .int (nI sP), .int (nU), .int (iS), .int (sN), .int (sR), .int (lE), .int (fI), .int (sC)])), ((b 1), .inl (cI, 217, .inl (upd vo_40 (49 + 7 * (gW h 0) + 3) (nI 2))))] := hD
          refine lv_aload_n hx hb dX5_sitDown_50 rfl (lv_at hl 1 rfl) ?_
          refine va_get (D := D) (ci := 5) (v := .ref (b 1)) (C := RX5) (T := TX5) (N := 18) hx hb hts inwX5_sitDown_X5 hown hK hP 0 rfl rfl 0 (by decide) fl7 (fun _ h9 => h9) rfl dX5_sitDown_51 ?_
          refine lv_bipush (v := nI 12) hx hb dX5_sitDown_54 (by decide) ?_
          refine lv_aload_n hx hb dX5_sitDown_56 rfl (lv_at hl 1 rfl) ?_
          refine va_get (D := D) (ci := 5) (v := .ref (b 1)) (C := RX5) (T := TX5) (N := 18) hx hb hts inwX5_sitDown_X5 hown hK hP 0 rfl rfl 0 (by decide) fl7 (fun _ h9 => h9) rfl dX5_sitDown_57 ?_
          refine lv_bipush (v := nI 11) hx hb dX5_sitDown_60 (by decide) ?_
          refine kb_iald hx hb hK hP 1 0 rfl rfl (by decide) (by omega) dX5_sitDown_62 ?_
          refine kb_top (nI (nT h)) ((up_n (by omega)).trans ((hw_40.2.2 11 (by omega) (by omega)).trans hvc.t)) ?_
          refine lv_iadd hx hb dX5_sitDown_63 ?_
          refine kb_top (nI (12 + (nT h))) (nI_add 12 (nT h)) ?_
          refine lv_iload_n hx hb dX5_sitDown_64 rfl (lv_at hl 0 rfl) ?_
          refine kb_iast hx hb hK hP hD hS 1 0 rfl rfl (by decide) (by omega) dX5_sitDown_65 (fun H locs hP hD hS => ?_)
          have hP : va_P D vwCl [((b 0), .inr (5, [.ref (b 1), .ref (b 2), .ref (b 3), .ref (b 4), .int (nI hL), .ref (b 5), .int (iK), .ref (b 6), .ref (b 7), .int (nI tL), .int (nI sP), .int (nU), .int (iS), .int (sN), .int (sR), .int (lE), .int (fI), .int (sC)])), ((b 1), .inl (cI, 217, .inl (upd (upd vo_40 (49 + 7 * (gW h 0) + 3) (nI 2)) (12 + (nT h)) (nI (gW h 0)))))] H := hP
          have hD : va_D A [((b 0), .inr (5, [.ref (b 1), .ref (b 2), .ref (b 3), .ref (b 4), .int (nI hL), .ref (b 5), .int (iK), .ref (b 6), .ref (b 7), .int (nI tL), .int (nI sP), .int (nU), .int (iS), .int (sN), .int (sR), .int (lE), .int (fI), .int (sC)])), ((b 1), .inl (cI, 217, .inl (upd (upd vo_40 (49 + 7 * (gW h 0) + 3) (nI 2)) (12 + (nT h)) (nI (gW h 0)))))] := hD
          refine lv_aload_n hx hb dX5_sitDown_66 rfl (lv_at hl 1 rfl) ?_
          refine va_get (D := D) (ci := 5) (v := .ref (b 1)) (C := RX5) (T := TX5) (N := 18) hx hb hts inwX5_sitDown_X5 hown hK hP 0 rfl rfl 0 (by decide) fl7 (fun _ h9 => h9) rfl dX5_sitDown_67 ?_
          refine lv_bipush (v := nI 11) hx hb dX5_sitDown_70 (by decide) ?_
          refine lv_dup2_11 hx hb dX5_sitDown_72 rfl rfl ?_
          refine kb_iald hx hb hK hP 1 0 rfl rfl (by decide) (by omega) dX5_sitDown_73 ?_
          refine kb_top (nI (nT h)) ((up_n (by omega)).trans ((up_n (by omega)).trans ((hw_40.2.2 11 (by omega) (by omega)).trans hvc.t))) ?_
          refine lv_iconst (v := nI 1) hx hb dX5_sitDown_74 (by decide) ?_
          refine lv_iadd hx hb dX5_sitDown_75 ?_
          refine kb_top (nI (nT h + 1)) (nI_add (nT h) 1) ?_
          refine kb_iast hx hb hK hP hD hS 1 0 rfl rfl (by decide) (by omega) dX5_sitDown_76 (fun H locs hP hD hS => ?_)
          have hP : va_P D vwCl [((b 0), .inr (5, [.ref (b 1), .ref (b 2), .ref (b 3), .ref (b 4), .int (nI hL), .ref (b 5), .int (iK), .ref (b 6), .ref (b 7), .int (nI tL), .int (nI sP), .int (nU), .int (iS), .int (sN), .int (sR), .int (lE), .int (fI), .int (sC)])), ((b 1), .inl (cI, 217, .inl (upd (upd (upd vo_40 (49 + 7 * (gW h 0) + 3) (nI 2)) (12 + (nT h)) (nI (gW h 0))) 11 (nI (nT h + 1)))))] H := hP
          have hD : va_D A [((b 0), .inr (5, [.ref (b 1), .ref (b 2), .ref (b 3), .ref (b 4), .int (nI hL), .ref (b 5), .int (iK), .ref (b 6), .ref (b 7), .int (nI tL), .int (nI sP), .int (nU), .int (iS), .int (sN), .int (sR), .int (lE), .int (fI), .int (sC)])), ((b 1), .inl (cI, 217, .inl (upd (upd (upd vo_40 (49 + 7 * (gW h 0) + 3) (nI 2)) (12 + (nT h)) (nI (gW h 0))) 11 (nI (nT h + 1)))))] := hD
          refine lv_goto (tgt := 0) hx hb dX5_sitDown_77 (by decide) ?_
          exact ih_0 (n - 1) (oSi1 h) (upd (upd (upd vo_40 (49 + 7 * (gW h 0) + 3) (nI 2)) (12 + (nT h)) (nI (gW h 0))) 11 (nI (nT h + 1))) (oSi1_ok hh (e0 := e0) hg0 he12 (by omega) (by omega)) (rV_si1 hvc (by omega) (by omega) (by omega) (by omega) hw_40) hg0 (show n - 1 = e0 - (nT h + 1) by omega) (by rw [he]; exact oSit_p (by omega) (by omega)) (by omega) _ _ hP hD hS _ (lv_sub hl [1] rfl)
  exact L_0 ((e0 - nT g) + 1) (e0 - nT g) g v ho hv he0 rfl (by unfold oSit'; rw [he0, nI_clamp (by omega)]) (Nat.lt_succ_self _) _ _ hP hD hS _ (lv_sub hl [0] rfl)
