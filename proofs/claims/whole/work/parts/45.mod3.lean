abbrev rmX5_takesOff : Room := { frames := 0, cells := 0, slots := 0, locals := 0 }
theorem hdX5_takesOff : yX5_takesOff.cls = RX5 ∧ yX5_takesOff.cls ≠ "java/lang/invoke/MethodHandle" ∧ yX5_takesOff.cls ≠ "java/lang/invoke/VarHandle" ∧ (parseMethodDescriptor yX5_takesOff.desc).map (fun d => d.parameters.length) = some 3 := by decide +kernel
theorem inwX5_takesOff_X5 : ∀ w ∈ wsX50, w ∈ wsX5_takesOff := fun w h => List.mem_cons_of_mem _ (List.mem_append_right _ h)
set_option maxHeartbeats 4000000 in
set_option maxRecDepth 100000 in
theorem c_X5_takesOff (l : Launch) (D : va_G) (cI : ClassId) (b : Nat → Nat) (hL : Nat) (iK : Int32) (tL : Nat) (sP : Nat) (nU : Int32) (iS : Int32) (sN : Int32) (sR : Int32) (lE : Int32) (fI : Int32) (sC : Int32) (v : Nat → Int32) (o : Nat) (mm1 : Nat) (pp : Nat) (n : Nat) (hon : o + n ≤ 217) (hm2 : mm1 < 217) (hm : mm1 < o ∨ o + n ≤ mm1) (hpp : pp < n) (hvn : v mm1 = nI n) : kb_V (S := (Nat → Int32)) D [(cI, .int)] l yX5_takesOff wsX5_takesOff rmX5_takesOff [.ref (b 0), .int (nI o), .int (nI mm1), .int (nI pp)] [((b 0), .inr (5, [.ref (b 1), .ref (b 2), .ref (b 3), .ref (b 4), .int (nI hL), .ref (b 5), .int (iK), .ref (b 6), .ref (b 7), .int (nI tL), .int (nI sP), .int (nU), .int (iS), .int (sN), .int (sR), .int (lE), .int (fI), .int (sC)])), ((b 1), .inl (cI, 217, .inl v))] (fun (u : (Nat → Int32)) => tkO v u o mm1 pp n) (fun (u : (Nat → Int32)) => [((b 0), .inr (5, [.ref (b 1), .ref (b 2), .ref (b 3), .ref (b 4), .int (nI hL), .ref (b 5), .int (iK), .ref (b 6), .ref (b 7), .int (nI tL), .int (nI sP), .int (nU), .int (iS), .int (sN), .int (sR), .int (lE), .int (fI), .int (sC)])), ((b 1), .inl (cI, 217, .inl u))]) 0 0 := by
  refine kb_V_of (cc := cX5_takesOff) (maxL := 5) (ret := none) (by decide) rfl (Nat.le_of_ble_eq_true rfl) ?_
  intro p e s mm args below meth c A hx hb hml hr hts hown hlocks hnm hA hN hK hP hD hS ls hl Q hQ
  have hl : lv_has ls 5 [(0, .ref (b 0)), (1, .int (nI o)), (2, .int (nI mm1)), (3, .int (nI pp))] := hl
  have hP : va_P D vwCl [((b 0), .inr (5, [.ref (b 1), .ref (b 2), .ref (b 3), .ref (b 4), .int (nI hL), .ref (b 5), .int (iK), .ref (b 6), .ref (b 7), .int (nI tL), .int (nI sP), .int (nU), .int (iS), .int (sN), .int (sR), .int (lE), .int (fI), .int (sC)])), ((b 1), .inl (cI, 217, .inl v))] s.heap := hP
  have hD : va_D A [((b 0), .inr (5, [.ref (b 1), .ref (b 2), .ref (b 3), .ref (b 4), .int (nI hL), .ref (b 5), .int (iK), .ref (b 6), .ref (b 7), .int (nI tL), .int (nI sP), .int (nU), .int (iS), .int (sN), .int (sR), .int (lE), .int (fI), .int (sC)])), ((b 1), .inl (cI, 217, .inl v))] := hD
  have fl7 := hts (.fieldLink RX5 7 "KingsBanquetModel" "all" "[I") (by decide +kernel)
  refine lv_iload_n hx hb dX5_takesOff_0 rfl (lv_at hl 3 rfl) ?_
  refine lv_istore (lv' := [(4, .int (nI pp)), (0, .ref (b 0)), (1, .int (nI o)), (2, .int (nI mm1)), (3, .int (nI pp))]) hx hb dX5_takesOff_1 hl (by decide) rfl (fun ls hl => ?_)
  have L_3 : ∀ (z : Nat) (k : Nat) (vc : Nat → Int32), (pp ≤ k) → (k ≤ n - 1) → (∀ j, pp ≤ j → j < k → vc (o + j) = v (o + j + 1)) → (∀ x, (x < o + pp ∨ o + k ≤ x) → vc x = v x) → (n - k) < z → ∀ (H : Heap) (locs : List Loc), va_P D vwCl [((b 0), .inr (5, [.ref (b 1), .ref (b 2), .ref (b 3), .ref (b 4), .int (nI hL), .ref (b 5), .int (iK), .ref (b 6), .ref (b 7), .int (nI tL), .int (nI sP), .int (nU), .int (iS), .int (sN), .int (sR), .int (lE), .int (fI), .int (sC)])), ((b 1), .inl (cI, 217, .inl vc))] H → va_D A [((b 0), .inr (5, [.ref (b 1), .ref (b 2), .ref (b 3), .ref (b 4), .int (nI hL), .ref (b 5), .int (iK), .ref (b 6), .ref (b 7), .int (nI tL), .int (nI sP), .int (nU), .int (iS), .int (sN), .int (sR), .int (lE), .int (fI), .int (sC)])), ((b 1), .inl (cI, 217, .inl vc))] → va_S A s.heap H locs → ∀ ls : Array Slot, lv_has ls 5 [(4, .int (nI k)), (0, .ref (b 0)), (1, .int (nI o)), (2, .int (nI mm1)), (3, .int (nI pp))] → W p l e rmX5_takesOff s mm args below meth c H locs 0 0 Q (F0 mm 3 ls []) := by
    intro z
    induction z with
    | zero =>
      intro k vc _ _ _ _ hz
      exact absurd hz (Nat.not_lt_zero _)
    | succ z ih_3 =>
      intro k vc hk1 hk2 hA1 hB1 hz H locs hP hD hS ls hl
      refine lv_iload hx hb dX5_takesOff_3 (lv_at hl 0 rfl) ?_
      refine lv_aload_n hx hb dX5_takesOff_5 rfl (lv_at hl 1 rfl) ?_
      refine va_get (D := D) (ci := 5) (v := .ref (b 1)) (C := RX5) (T := TX5) (N := 18) hx hb hts inwX5_takesOff_X5 hown hK hP 0 rfl rfl 0 (by decide) fl7 (fun _ h9 => h9) rfl dX5_takesOff_6 ?_
      refine lv_iload_n hx hb dX5_takesOff_9 rfl (lv_at hl 3 rfl) ?_
      refine kb_iald hx hb hK hP 1 0 rfl rfl (by decide) (by omega) dX5_takesOff_10 ?_
      refine kb_top (nI n) ((hB1 mm1 (by omega)).trans hvn) ?_
      refine lv_iconst (v := nI 1) hx hb dX5_takesOff_11 (by decide) ?_
      refine lv_isub hx hb dX5_takesOff_12 ?_
      refine kb_top (nI (n - 1)) (pk_sub (by omega)) ?_
      refine kb_icmp_ge (tgt := 42) hx hb dX5_takesOff_13 (by decide) (by omega) (by omega) (fun c13 => ?_) (fun c13 => ?_)
      · refine lv_aload_n hx hb dX5_takesOff_42 rfl (lv_at hl 1 rfl) ?_
        refine va_get (D := D) (ci := 5) (v := .ref (b 1)) (C := RX5) (T := TX5) (N := 18) hx hb hts inwX5_takesOff_X5 hown hK hP 0 rfl rfl 0 (by decide) fl7 (fun _ h9 => h9) rfl dX5_takesOff_43 ?_
        refine lv_iload_n hx hb dX5_takesOff_46 rfl (lv_at hl 3 rfl) ?_
        refine lv_dup2_11 hx hb dX5_takesOff_47 rfl rfl ?_
        refine kb_iald hx hb hK hP 1 0 rfl rfl (by decide) (by omega) dX5_takesOff_48 ?_
        refine kb_top (nI n) ((hB1 mm1 (by omega)).trans hvn) ?_
        refine lv_iconst (v := nI 1) hx hb dX5_takesOff_49 (by decide) ?_
        refine lv_isub hx hb dX5_takesOff_50 ?_
        refine kb_top (nI (n - 1)) (pk_sub (by omega)) ?_
        refine kb_iast hx hb hK hP hD hS 1 0 rfl rfl (by decide) (by omega) dX5_takesOff_51 (fun H locs hP hD hS => ?_)
        have hP : va_P D vwCl [((b 0), .inr (5, [.ref (b 1), .ref (b 2), .ref (b 3), .ref (b 4), .int (nI hL), .ref (b 5), .int (iK), .ref (b 6), .ref (b 7), .int (nI tL), .int (nI sP), .int (nU), .int (iS), .int (sN), .int (sR), .int (lE), .int (fI), .int (sC)])), ((b 1), .inl (cI, 217, .inl (upd vc mm1 (nI (n - 1)))))] H := hP
        have hD : va_D A [((b 0), .inr (5, [.ref (b 1), .ref (b 2), .ref (b 3), .ref (b 4), .int (nI hL), .ref (b 5), .int (iK), .ref (b 6), .ref (b 7), .int (nI tL), .int (nI sP), .int (nU), .int (iS), .int (sN), .int (sR), .int (lE), .int (fI), .int (sC)])), ((b 1), .inl (cI, 217, .inl (upd vc mm1 (nI (n - 1)))))] := hD
        refine lv_aload_n hx hb dX5_takesOff_52 rfl (lv_at hl 1 rfl) ?_
        refine va_get (D := D) (ci := 5) (v := .ref (b 1)) (C := RX5) (T := TX5) (N := 18) hx hb hts inwX5_takesOff_X5 hown hK hP 0 rfl rfl 0 (by decide) fl7 (fun _ h9 => h9) rfl dX5_takesOff_53 ?_
        refine lv_iload_n hx hb dX5_takesOff_56 rfl (lv_at hl 2 rfl) ?_
        refine lv_aload_n hx hb dX5_takesOff_57 rfl (lv_at hl 1 rfl) ?_
        refine va_get (D := D) (ci := 5) (v := .ref (b 1)) (C := RX5) (T := TX5) (N := 18) hx hb hts inwX5_takesOff_X5 hown hK hP 0 rfl rfl 0 (by decide) fl7 (fun _ h9 => h9) rfl dX5_takesOff_58 ?_
        refine lv_iload_n hx hb dX5_takesOff_61 rfl (lv_at hl 3 rfl) ?_
        refine kb_iald hx hb hK hP 1 0 rfl rfl (by decide) (by omega) dX5_takesOff_62 ?_
        refine kb_top (nI (n - 1)) (up_s _ _ _) ?_
        refine lv_iadd hx hb dX5_takesOff_63 ?_
        refine kb_top (nI (o + (n - 1))) (nI_add o (n - 1)) ?_
        refine lv_iconst (v := nI 0) hx hb dX5_takesOff_64 (by decide) ?_
        refine kb_iast hx hb hK hP hD hS 1 0 rfl rfl (by decide) (by omega) dX5_takesOff_65 (fun H locs hP hD hS => ?_)
        have hP : va_P D vwCl [((b 0), .inr (5, [.ref (b 1), .ref (b 2), .ref (b 3), .ref (b 4), .int (nI hL), .ref (b 5), .int (iK), .ref (b 6), .ref (b 7), .int (nI tL), .int (nI sP), .int (nU), .int (iS), .int (sN), .int (sR), .int (lE), .int (fI), .int (sC)])), ((b 1), .inl (cI, 217, .inl (upd (upd vc mm1 (nI (n - 1))) (o + (n - 1)) (nI 0))))] H := hP
        have hD : va_D A [((b 0), .inr (5, [.ref (b 1), .ref (b 2), .ref (b 3), .ref (b 4), .int (nI hL), .ref (b 5), .int (iK), .ref (b 6), .ref (b 7), .int (nI tL), .int (nI sP), .int (nU), .int (iS), .int (sN), .int (sR), .int (lE), .int (fI), .int (sC)])), ((b 1), .inl (cI, 217, .inl (upd (upd vc mm1 (nI (n - 1))) (o + (n - 1)) (nI 0))))] := hD
        exact kb_vret (D := D) hQ hx hb hr hlocks hK hP hD hS dX5_takesOff_66 (upd (upd vc mm1 (nI (n - 1))) (o + (n - 1)) (nI 0)) rfl (Nat.le_refl _) (Nat.le_refl _) (show tkO v (upd (upd vc mm1 (nI (n - 1))) (o + (n - 1)) (nI 0)) o mm1 pp n from (tk_post hA1 hB1 (by omega) hm hpp))
      · refine lv_aload_n hx hb dX5_takesOff_16 rfl (lv_at hl 1 rfl) ?_
        refine va_get (D := D) (ci := 5) (v := .ref (b 1)) (C := RX5) (T := TX5) (N := 18) hx hb hts inwX5_takesOff_X5 hown hK hP 0 rfl rfl 0 (by decide) fl7 (fun _ h9 => h9) rfl dX5_takesOff_17 ?_
        refine lv_iload_n hx hb dX5_takesOff_20 rfl (lv_at hl 2 rfl) ?_
        refine lv_iload hx hb dX5_takesOff_21 (lv_at hl 0 rfl) ?_
        refine lv_iadd hx hb dX5_takesOff_23 ?_
        refine kb_top (nI (o + k)) (nI_add o k) ?_
        refine lv_aload_n hx hb dX5_takesOff_24 rfl (lv_at hl 1 rfl) ?_
        refine va_get (D := D) (ci := 5) (v := .ref (b 1)) (C := RX5) (T := TX5) (N := 18) hx hb hts inwX5_takesOff_X5 hown hK hP 0 rfl rfl 0 (by decide) fl7 (fun _ h9 => h9) rfl dX5_takesOff_25 ?_
        refine lv_iload_n hx hb dX5_takesOff_28 rfl (lv_at hl 2 rfl) ?_
        refine lv_iload hx hb dX5_takesOff_29 (lv_at hl 0 rfl) ?_
        refine lv_iadd hx hb dX5_takesOff_31 ?_
        refine kb_top (nI (o + k)) (nI_add o k) ?_
        refine lv_iconst (v := nI 1) hx hb dX5_takesOff_32 (by decide) ?_
        refine lv_iadd hx hb dX5_takesOff_33 ?_
        refine kb_top (nI (o + k + 1)) (nI_add (o + k) 1) ?_
        refine kb_iald hx hb hK hP 1 0 rfl rfl (by decide) (by omega) dX5_takesOff_34 ?_
        refine kb_iast hx hb hK hP hD hS 1 0 rfl rfl (by decide) (by omega) dX5_takesOff_35 (fun H locs hP hD hS => ?_)
        have hP : va_P D vwCl [((b 0), .inr (5, [.ref (b 1), .ref (b 2), .ref (b 3), .ref (b 4), .int (nI hL), .ref (b 5), .int (iK), .ref (b 6), .ref (b 7), .int (nI tL), .int (nI sP), .int (nU), .int (iS), .int (sN), .int (sR), .int (lE), .int (fI), .int (sC)])), ((b 1), .inl (cI, 217, .inl (upd vc (o + k) (vc (o + k + 1)))))] H := hP
        have hD : va_D A [((b 0), .inr (5, [.ref (b 1), .ref (b 2), .ref (b 3), .ref (b 4), .int (nI hL), .ref (b 5), .int (iK), .ref (b 6), .ref (b 7), .int (nI tL), .int (nI sP), .int (nU), .int (iS), .int (sN), .int (sR), .int (lE), .int (fI), .int (sC)])), ((b 1), .inl (cI, 217, .inl (upd vc (o + k) (vc (o + k + 1)))))] := hD
        refine lv_iinc (v := nI (k + 1)) (lv' := [(4, .int (nI (k + 1))), (0, .ref (b 0)), (1, .int (nI o)), (2, .int (nI mm1)), (3, .int (nI pp))]) hx hb dX5_takesOff_36 hl (k := 0) rfl (kb_inc1 k) (by decide) rfl (fun ls hl => ?_)
        refine lv_goto (tgt := 3) hx hb dX5_takesOff_39 (by decide) ?_
        exact ih_3 (k + 1) (upd vc (o + k) (vc (o + k + 1))) (by omega) (by omega) (tk_A hA1 hB1) (tk_B hk1 hB1) (by omega) _ _ hP hD hS _ (lv_sub hl [0, 1, 2, 3, 4] rfl)
  exact L_3 ((n - pp) + 1) pp v (by omega) (by omega) (fun j h1 h2 => absurd h2 (by omega)) (fun x _ => rfl) (Nat.lt_succ_self _) _ _ hP hD hS _ (lv_sub hl [0, 1, 2, 3, 4] rfl)
abbrev rmX5_envoysGo : Room := { frames := 4, cells := 0, slots := 0, locals := 88 }
theorem hdX5_envoysGo : yX5_envoysGo.cls = RX5 ∧ yX5_envoysGo.cls ≠ "java/lang/invoke/MethodHandle" ∧ yX5_envoysGo.cls ≠ "java/lang/invoke/VarHandle" ∧ (parseMethodDescriptor yX5_envoysGo.desc).map (fun d => d.parameters.length) = some 0 := by decide +kernel
theorem inwX5_envoysGo_X5 : ∀ w ∈ wsX50, w ∈ wsX5_envoysGo := fun w h => List.mem_cons_of_mem _ (List.mem_append_right _ h)
set_option maxHeartbeats 4000000 in
set_option maxRecDepth 100000 in
theorem c_X5_envoysGo (l : Launch) (D : va_G) (cI : ClassId) (b : Nat → Nat) (hL : Nat) (iK : Int32) (tL : Nat) (sP : Nat) (nU : Int32) (iS : Int32) (sN : Int32) (sR : Int32) (lE : Int32) (fI : Int32) (sC : Int32) (v : Nat → Int32) (g : Sg) (hv : rV v g) (ho : Ok g) : kb_V (S := (Nat → Int32)) D [(cI, .int)] l yX5_envoysGo wsX5_envoysGo rmX5_envoysGo [.ref (b 0)] [((b 0), .inr (5, [.ref (b 1), .ref (b 2), .ref (b 3), .ref (b 4), .int (nI hL), .ref (b 5), .int (iK), .ref (b 6), .ref (b 7), .int (nI tL), .int (nI sP), .int (nU), .int (iS), .int (sN), .int (sR), .int (lE), .int (fI), .int (sC)])), ((b 1), .inl (cI, 217, .inl v))] (fun (u : (Nat → Int32)) => rV u (oEnv (gc g 2).toNatClampNeg g)) (fun (u : (Nat → Int32)) => [((b 0), .inr (5, [.ref (b 1), .ref (b 2), .ref (b 3), .ref (b 4), .int (nI hL), .ref (b 5), .int (iK), .ref (b 6), .ref (b 7), .int (nI tL), .int (nI sP), .int (nU), .int (iS), .int (sN), .int (sR), .int (lE), .int (fI), .int (sC)])), ((b 1), .inl (cI, 217, .inl u))]) 0 0 := by
  refine kb_V_of (cc := cX5_envoysGo) (maxL := 3) (ret := none) (by decide) rfl (Nat.le_of_ble_eq_true rfl) ?_
  intro p e s mm args below meth c A hx hb hml hr hts hown hlocks hnm hA hN hK hP hD hS ls hl Q hQ
  have hl : lv_has ls 3 [(0, .ref (b 0))] := hl
  have hP : va_P D vwCl [((b 0), .inr (5, [.ref (b 1), .ref (b 2), .ref (b 3), .ref (b 4), .int (nI hL), .ref (b 5), .int (iK), .ref (b 6), .ref (b 7), .int (nI tL), .int (nI sP), .int (nU), .int (iS), .int (sN), .int (sR), .int (lE), .int (fI), .int (sC)])), ((b 1), .inl (cI, 217, .inl v))] s.heap := hP
  have hD : va_D A [((b 0), .inr (5, [.ref (b 1), .ref (b 2), .ref (b 3), .ref (b 4), .int (nI hL), .ref (b 5), .int (iK), .ref (b 6), .ref (b 7), .int (nI tL), .int (nI sP), .int (nU), .int (iS), .int (sN), .int (sR), .int (lE), .int (fI), .int (sC)])), ((b 1), .inl (cI, 217, .inl v))] := hD
  have fl7 := hts (.fieldLink RX5 7 "KingsBanquetModel" "all" "[I") (by decide +kernel)
  have hn := ho.n
  obtain ⟨ev, hev, hev9⟩ := ho.c2
  refine lv_aload_n hx hb dX5_envoysGo_0 rfl (lv_at hl 0 rfl) ?_
  refine kb_vR (As := []) (rest := []) hx hb hml hts hown hN hK hP hD hS hA (c_X5_firstWrong l D cI b hL iK tL sP nU iS sN sR lE fI sC v g hv ho) gX5_envoysGo_X5_firstWrong rfl ⟨rfl, rfl⟩ hdX5_firstWrong ⟨Nat.le_of_ble_eq_true rfl, Nat.le_of_ble_eq_true rfl⟩ [0, 1] [0] rfl rfl rfl (ci := 5) rfl rfl rfl rfl rfl hl.1 (Nat.le_of_ble_eq_true rfl) dX5_envoysGo_1 ⟨Nat.zero_le _, Nat.zero_le _⟩ (fun H locs hP hS => ?_)
  refine lv_istore_n (lv' := [(1, .int (fwI g)), (0, .ref (b 0))]) hx hb dX5_envoysGo_4 rfl hl (by decide) rfl (fun ls hl => ?_)
  refine lv_iconst (v := nI 0) hx hb dX5_envoysGo_5 (by decide) ?_
  refine lv_istore_n (lv' := [(2, .int (nI 0)), (1, .int (fwI g)), (0, .ref (b 0))]) hx hb dX5_envoysGo_6 rfl hl (by decide) rfl (fun ls hl => ?_)
  have L_7 : ∀ (z : Nat) (i : Nat) (h : Sg) (vc : Nat → Int32), (i ≤ ev) → (Ok h) → (rV vc h) → (gc h 2 = nI ev) → (oEnv ev g = oEnv (ev - i) h) → (ev - i) < z → ∀ (H : Heap) (locs : List Loc), va_P D vwCl [((b 0), .inr (5, [.ref (b 1), .ref (b 2), .ref (b 3), .ref (b 4), .int (nI hL), .ref (b 5), .int (iK), .ref (b 6), .ref (b 7), .int (nI tL), .int (nI sP), .int (nU), .int (iS), .int (sN), .int (sR), .int (lE), .int (fI), .int (sC)])), ((b 1), .inl (cI, 217, .inl vc))] H → va_D A [((b 0), .inr (5, [.ref (b 1), .ref (b 2), .ref (b 3), .ref (b 4), .int (nI hL), .ref (b 5), .int (iK), .ref (b 6), .ref (b 7), .int (nI tL), .int (nI sP), .int (nU), .int (iS), .int (sN), .int (sR), .int (lE), .int (fI), .int (sC)])), ((b 1), .inl (cI, 217, .inl vc))] → va_S A s.heap H locs → ∀ ls : Array Slot, lv_has ls 3 [(2, .int (nI i)), (1, .int (fwI h)), (0, .ref (b 0))] → W p l e rmX5_envoysGo s mm args below meth c H locs 0 0 Q (F0 mm 7 ls []) := by
    intro z
    induction z with
    | zero =>
      intro i h vc _ _ _ _ _ hz
      exact absurd hz (Nat.not_lt_zero _)
    | succ z ih_7 =>
      intro i h vc hi hh hvc hg2 he hz H locs hP hD hS ls hl
      refine lv_iload_n hx hb dX5_envoysGo_7 rfl (lv_at hl 0 rfl) ?_
      refine lv_aload_n hx hb dX5_envoysGo_8 rfl (lv_at hl 2 rfl) ?_
      refine va_get (D := D) (ci := 5) (v := .ref (b 1)) (C := RX5) (T := TX5) (N := 18) hx hb hts inwX5_envoysGo_X5 hown hK hP 0 rfl rfl 0 (by decide) fl7 (fun _ h9 => h9) rfl dX5_envoysGo_9 ?_
      refine lv_iconst (v := nI 2) hx hb dX5_envoysGo_12 (by decide) ?_
      refine kb_iald hx hb hK hP 1 0 rfl rfl (by decide) (by omega) dX5_envoysGo_13 ?_
      refine kb_top (nI ev) ((hvc.c (by decide)).trans hg2) ?_
      refine kb_icmp_ge (tgt := 50) hx hb dX5_envoysGo_14 (by decide) (by omega) (by omega) (fun c14 => ?_) (fun c14 => ?_)
      · exact kb_vret (D := D) hQ hx hb hr hlocks hK hP hD hS dX5_envoysGo_50 vc rfl (Nat.le_refl _) (Nat.le_refl _) (show rV vc (oEnv (gc g 2).toNatClampNeg g) from (by rw [hev, nI_clamp (by omega), he]; first | (rw [show ev - i = 0 by omega]; exact hvc) | (rw [oEnv_0 (fwI_n5 hh c20)]; exact hvc)))
      · refine lv_iload_n hx hb dX5_envoysGo_17 rfl (lv_at hl 1 rfl) ?_
        refine lv_bipush (v := (-5)) hx hb dX5_envoysGo_18 (by decide) ?_
        refine lv_icmp_eq (tgt := 50) hx hb dX5_envoysGo_20 (by decide) (fun c20 => ?_) (fun c20 => ?_)
        · exact kb_vret (D := D) hQ hx hb hr hlocks hK hP hD hS dX5_envoysGo_50 vc rfl (Nat.le_refl _) (Nat.le_refl _) (show rV vc (oEnv (gc g 2).toNatClampNeg g) from (by rw [hev, nI_clamp (by omega), he]; first | (rw [show ev - i = 0 by omega]; exact hvc) | (rw [oEnv_0 (fwI_n5 hh c20)]; exact hvc)))
        · have hfw := fwI_ex hh c20
          rw [fwI_1 hfw] at hl
          refine lv_aload_n hx hb dX5_envoysGo_23 rfl (lv_at hl 2 rfl) ?_
          refine lv_iload_n hx hb dX5_envoysGo_24 rfl (lv_at hl 1 rfl) ?_
          refine kb_vV (As := [.int (nI (fw h))]) (rest := []) hx hb hml hts hown hN hK hP hD hS hA (c_X5_swaps l D cI b hL iK tL sP nU iS sN sR lE fI sC vc (fw h) (by have := hh.n.2.1; omega)) gX5_envoysGo_X5_swaps rfl ⟨rfl, rfl⟩ hdX5_swaps ⟨Nat.le_of_ble_eq_true rfl, Nat.le_of_ble_eq_true rfl⟩ [0, 1] [0] rfl rfl rfl (ci := 5) rfl rfl rfl (fun _ => rfl) rfl rfl hl.1 (Nat.le_of_ble_eq_true rfl) dX5_envoysGo_25 ⟨Nat.zero_le _, Nat.zero_le _⟩ (fun u H locs hw_25 hP hD hS => ?_)
          have hw_25 : True := hw_25
          have hP : va_P D vwCl [((b 0), .inr (5, [.ref (b 1), .ref (b 2), .ref (b 3), .ref (b 4), .int (nI hL), .ref (b 5), .int (iK), .ref (b 6), .ref (b 7), .int (nI tL), .int (nI sP), .int (nU), .int (iS), .int (sN), .int (sR), .int (lE), .int (fI), .int (sC)])), ((b 1), .inl (cI, 217, .inl (upd (upd vc (12 + (fw h)) (vc (12 + (fw h) + 1))) (12 + (fw h) + 1) (vc (12 + (fw h))))))] H := hP
          have hD : va_D A [((b 0), .inr (5, [.ref (b 1), .ref (b 2), .ref (b 3), .ref (b 4), .int (nI hL), .ref (b 5), .int (iK), .ref (b 6), .ref (b 7), .int (nI tL), .int (nI sP), .int (nU), .int (iS), .int (sN), .int (sR), .int (lE), .int (fI), .int (sC)])), ((b 1), .inl (cI, 217, .inl (upd (upd vc (12 + (fw h)) (vc (12 + (fw h) + 1))) (12 + (fw h) + 1) (vc (12 + (fw h))))))] := hD
          refine lv_aload_n hx hb dX5_envoysGo_28 rfl (lv_at hl 2 rfl) ?_
          refine va_get (D := D) (ci := 5) (v := .ref (b 1)) (C := RX5) (T := TX5) (N := 18) hx hb hts inwX5_envoysGo_X5 hown hK hP 0 rfl rfl 0 (by decide) fl7 (fun _ h9 => h9) rfl dX5_envoysGo_29 ?_
          refine lv_bipush (v := nI 10) hx hb dX5_envoysGo_32 (by decide) ?_
          refine lv_dup2_11 hx hb dX5_envoysGo_34 rfl rfl ?_
          refine kb_iald hx hb hK hP 1 0 rfl rfl (by decide) (by omega) dX5_envoysGo_35 ?_
          refine kb_top (vc 10) sw10 ?_
          refine lv_iconst (v := nI 1) hx hb dX5_envoysGo_36 (by decide) ?_
          refine lv_iadd hx hb dX5_envoysGo_37 ?_
          refine kb_iast hx hb hK hP hD hS 1 0 rfl rfl (by decide) (by omega) dX5_envoysGo_38 (fun H locs hP hD hS => ?_)
          have hP : va_P D vwCl [((b 0), .inr (5, [.ref (b 1), .ref (b 2), .ref (b 3), .ref (b 4), .int (nI hL), .ref (b 5), .int (iK), .ref (b 6), .ref (b 7), .int (nI tL), .int (nI sP), .int (nU), .int (iS), .int (sN), .int (sR), .int (lE), .int (fI), .int (sC)])), ((b 1), .inl (cI, 217, .inl (upd (upd (upd vc (12 + (fw h)) (vc (12 + (fw h) + 1))) (12 + (fw h) + 1) (vc (12 + (fw h)))) 10 (vc 10 + nI 1))))] H := hP
          have hD : va_D A [((b 0), .inr (5, [.ref (b 1), .ref (b 2), .ref (b 3), .ref (b 4), .int (nI hL), .ref (b 5), .int (iK), .ref (b 6), .ref (b 7), .int (nI tL), .int (nI sP), .int (nU), .int (iS), .int (sN), .int (sR), .int (lE), .int (fI), .int (sC)])), ((b 1), .inl (cI, 217, .inl (upd (upd (upd vc (12 + (fw h)) (vc (12 + (fw h) + 1))) (12 + (fw h) + 1) (vc (12 + (fw h)))) 10 (vc 10 + nI 1))))] := hD
          refine lv_aload_n hx hb dX5_envoysGo_39 rfl (lv_at hl 2 rfl) ?_
          refine kb_vR (As := []) (rest := []) hx hb hml hts hown hN hK hP hD hS hA (c_X5_firstWrong l D cI b hL iK tL sP nU iS sN sR lE fI sC (upd (upd (upd vc (12 + (fw h)) (vc (12 + (fw h) + 1))) (12 + (fw h) + 1) (vc (12 + (fw h)))) 10 (vc 10 + nI 1)) (oSw h (fw h)) (rV_sw hvc (by omega) hh.n.2.1) (oSw_ok hh (by omega))) gX5_envoysGo_X5_firstWrong rfl ⟨rfl, rfl⟩ hdX5_firstWrong ⟨Nat.le_of_ble_eq_true rfl, Nat.le_of_ble_eq_true rfl⟩ [0, 1] [0] rfl rfl rfl (ci := 5) rfl rfl rfl rfl rfl hl.1 (Nat.le_of_ble_eq_true rfl) dX5_envoysGo_40 ⟨Nat.zero_le _, Nat.zero_le _⟩ (fun H locs hP hS => ?_)
          refine lv_istore_n (lv' := [(1, .int (fwI (oSw h (fw h)))), (2, .int (nI i)), (0, .ref (b 0))]) hx hb dX5_envoysGo_43 rfl hl (by decide) rfl (fun ls hl => ?_)
          refine lv_iinc (v := nI (i + 1)) (lv' := [(2, .int (nI (i + 1))), (1, .int (fwI (oSw h (fw h)))), (0, .ref (b 0))]) hx hb dX5_envoysGo_44 hl (k := 1) rfl (kb_inc1 i) (by decide) rfl (fun ls hl => ?_)
          refine lv_goto (tgt := 7) hx hb dX5_envoysGo_47 (by decide) ?_
          exact ih_7 (i + 1) (oSw h (fw h)) (upd (upd (upd vc (12 + (fw h)) (vc (12 + (fw h) + 1))) (12 + (fw h) + 1) (vc (12 + (fw h)))) 10 (vc 10 + nI 1)) (by omega) (oSw_ok hh (by omega)) (rV_sw hvc (by omega) hh.n.2.1) ((show gc (oSw h (fw h)) 2 = gc h 2 from rfl).trans hg2) (by rw [he, show ev - i = ev - (i + 1) + 1 by omega, oEnv_s1 hfw]) (by omega) _ _ hP hD hS _ (lv_sub hl [0, 1, 2] rfl)
  exact L_7 ((ev - 0) + 1) 0 g v (by omega) ho hv hev rfl (Nat.lt_succ_self _) _ _ hP hD hS _ (lv_sub hl [0, 1, 2] rfl)
abbrev rmX5_nextIn : Room := { frames := 2, cells := 0, slots := 0, locals := 46 }
theorem hdX5_nextIn : yX5_nextIn.cls = RX5 ∧ yX5_nextIn.cls ≠ "java/lang/invoke/MethodHandle" ∧ yX5_nextIn.cls ≠ "java/lang/invoke/VarHandle" ∧ (parseMethodDescriptor yX5_nextIn.desc).map (fun d => d.parameters.length) = some 0 := by decide +kernel
theorem inwX5_nextIn_X5 : ∀ w ∈ wsX50, w ∈ wsX5_nextIn := fun w h => List.mem_cons_of_mem _ (List.mem_append_right _ h)
set_option maxHeartbeats 4000000 in
set_option maxRecDepth 100000 in
theorem c_X5_nextIn (l : Launch) (D : va_G) (cI : ClassId) (b : Nat → Nat) (hL : Nat) (iK : Int32) (tL : Nat) (sP : Nat) (nU : Int32) (iS : Int32) (sN : Int32) (sR : Int32) (lE : Int32) (fI : Int32) (sC : Int32) (v : Nat → Int32) (g : Sg) (hv : rV v g) (ho : Ok g) : kb_R D [(cI, .int)] l yX5_nextIn wsX5_nextIn rmX5_nextIn [.ref (b 0)] [((b 0), .inr (5, [.ref (b 1), .ref (b 2), .ref (b 3), .ref (b 4), .int (nI hL), .ref (b 5), .int (iK), .ref (b 6), .ref (b 7), .int (nI tL), .int (nI sP), .int (nU), .int (iS), .int (sN), .int (sR), .int (lE), .int (fI), .int (sC)])), ((b 1), .inl (cI, 217, .inl v))] (nxI (nx g)) := by
  refine kb_I_of (cc := cX5_nextIn) (maxL := 4) (ret := (some .int)) (by decide) rfl (Nat.le_of_ble_eq_true rfl) ?_
  intro p e s mm args below meth c A hx hb hml hr hts hown hlocks hnm hA hN hK hP hD hS ls hl Q hQ
  have hl : lv_has ls 4 [(0, .ref (b 0))] := hl
  have hP : va_P D vwCl [((b 0), .inr (5, [.ref (b 1), .ref (b 2), .ref (b 3), .ref (b 4), .int (nI hL), .ref (b 5), .int (iK), .ref (b 6), .ref (b 7), .int (nI tL), .int (nI sP), .int (nU), .int (iS), .int (sN), .int (sR), .int (lE), .int (fI), .int (sC)])), ((b 1), .inl (cI, 217, .inl v))] s.heap := hP
  have hD : va_D A [((b 0), .inr (5, [.ref (b 1), .ref (b 2), .ref (b 3), .ref (b 4), .int (nI hL), .ref (b 5), .int (iK), .ref (b 6), .ref (b 7), .int (nI tL), .int (nI sP), .int (nU), .int (iS), .int (sN), .int (sR), .int (lE), .int (fI), .int (sC)])), ((b 1), .inl (cI, 217, .inl v))] := hD
  have fl7 := hts (.fieldLink RX5 7 "KingsBanquetModel" "all" "[I") (by decide +kernel)
  have hn := ho.n
  refine lv_bipush (v := (-5)) hx hb dX5_nextIn_0 (by decide) ?_
  refine lv_istore_n (lv' := [(1, .int ((-5))), (0, .ref (b 0))]) hx hb dX5_nextIn_2 rfl hl (by decide) rfl (fun ls hl => ?_)
  refine lv_iconst (v := nI 0) hx hb dX5_nextIn_3 (by decide) ?_
  refine lv_istore_n (lv' := [(2, .int (nI 0)), (1, .int ((-5))), (0, .ref (b 0))]) hx hb dX5_nextIn_4 rfl hl (by decide) rfl (fun ls hl => ?_)
  have L_5 : ∀ (z : Nat) (k : Nat) (best : Int32), (k ≤ nK g) → (best = nxI (bst (arv g) (key g) k)) → (nK g - k) < z → ∀ (H : Heap) (locs : List Loc), va_P D vwCl [((b 0), .inr (5, [.ref (b 1), .ref (b 2), .ref (b 3), .ref (b 4), .int (nI hL), .ref (b 5), .int (iK), .ref (b 6), .ref (b 7), .int (nI tL), .int (nI sP), .int (nU), .int (iS), .int (sN), .int (sR), .int (lE), .int (fI), .int (sC)])), ((b 1), .inl (cI, 217, .inl v))] H → va_D A [((b 0), .inr (5, [.ref (b 1), .ref (b 2), .ref (b 3), .ref (b 4), .int (nI hL), .ref (b 5), .int (iK), .ref (b 6), .ref (b 7), .int (nI tL), .int (nI sP), .int (nU), .int (iS), .int (sN), .int (sR), .int (lE), .int (fI), .int (sC)])), ((b 1), .inl (cI, 217, .inl v))] → va_S A s.heap H locs → ∀ ls : Array Slot, lv_has ls 4 [(2, .int (nI k)), (1, .int (best)), (0, .ref (b 0))] → W p l e rmX5_nextIn s mm args below meth c H locs 0 0 Q (F0 mm 5 ls []) := by
    intro z
    induction z with
    | zero =>
      intro k best _ _ hz
      exact absurd hz (Nat.not_lt_zero _)
    | succ z ih_5 =>
      intro k best hk hbb hz H locs hP hD hS ls hl
      refine lv_iload_n hx hb dX5_nextIn_5 rfl (lv_at hl 0 rfl) ?_
      refine lv_aload_n hx hb dX5_nextIn_6 rfl (lv_at hl 2 rfl) ?_
      refine va_get (D := D) (ci := 5) (v := .ref (b 1)) (C := RX5) (T := TX5) (N := 18) hx hb hts inwX5_nextIn_X5 hown hK hP 0 rfl rfl 0 (by decide) fl7 (fun _ h9 => h9) rfl dX5_nextIn_7 ?_
      refine lv_iconst (v := nI 5) hx hb dX5_nextIn_10 (by decide) ?_
      refine kb_iald hx hb hK hP 1 0 rfl rfl (by decide) (by omega) dX5_nextIn_11 ?_
      refine kb_top (nI (nK g)) hv.k ?_
      refine kb_icmp_ge (tgt := 76) hx hb dX5_nextIn_12 (by decide) (by omega) (by omega) (fun c12 => ?_) (fun c12 => ?_)
      · refine lv_iload_n hx hb dX5_nextIn_76 rfl (lv_at hl 1 rfl) ?_
        exact kb_iret (D := D) hQ hx hb hr hlocks hK hP hD hS dX5_nextIn_77 () rfl (Nat.le_refl _) (Nat.le_refl _) (show best = nxI (nx g) from (hbb.trans (by rw [show k = nK g by omega]; rfl)))
      · refine lv_aload_n hx hb dX5_nextIn_15 rfl (lv_at hl 2 rfl) ?_
        refine lv_iload_n hx hb dX5_nextIn_16 rfl (lv_at hl 0 rfl) ?_
        refine lv_iconst (v := nI 3) hx hb dX5_nextIn_17 (by decide) ?_
        refine kb_vR (As := [.int (nI k), .int (nI 3)]) (rest := []) hx hb hml hts hown hN hK hP hD hS hA (c_X5_get l D cI b hL iK tL sP nU iS sN sR lE fI sC v k 3 (by omega) (by decide)) gX5_nextIn_X5_get rfl ⟨rfl, rfl⟩ hdX5_get ⟨Nat.le_of_ble_eq_true rfl, Nat.le_of_ble_eq_true rfl⟩ [0, 1] [0] rfl rfl rfl (ci := 5) rfl rfl rfl rfl rfl hl.1 (Nat.le_of_ble_eq_true rfl) dX5_nextIn_18 ⟨Nat.zero_le _, Nat.zero_le _⟩ (fun H locs hP hS => ?_)
        refine kb_top (nI (gD g k)) (hv.f (by omega)).2.2.2.1 ?_
        refine kb_nif_ne (tgt := 43) hx hb dX5_nextIn_21 (by decide) (by have := (ho.k k (by omega)).1; omega) (fun c21 => ?_) (fun c21 => ?_)
        · refine lv_iconst (v := nI 0) hx hb dX5_nextIn_43 (by decide) ?_
          refine lv_istore_n (lv' := [(3, .int (nI 0)), (2, .int (nI k)), (1, .int (best)), (0, .ref (b 0))]) hx hb dX5_nextIn_44 rfl hl (by decide) rfl (fun ls hl => ?_)
          refine lv_iload_n hx hb dX5_nextIn_45 rfl (lv_at hl 0 rfl) ?_
          refine kb_nif_eq (tgt := 68) hx hb dX5_nextIn_46 (by decide) (by decide) (fun _ => ?_) (fun c => absurd c (by decide))
          refine lv_iload_n hx hb dX5_nextIn_68 rfl (lv_at hl 2 rfl) ?_
          refine lv_istore_n (lv' := [(1, .int (best)), (3, .int (nI 0)), (2, .int (nI k)), (0, .ref (b 0))]) hx hb dX5_nextIn_69 rfl hl (by decide) rfl (fun ls hl => ?_)
          refine lv_iinc (v := nI (k + 1)) (lv' := [(2, .int (nI (k + 1))), (1, .int (best)), (3, .int (nI 0)), (0, .ref (b 0))]) hx hb dX5_nextIn_70 hl (k := 2) rfl (kb_inc1 k) (by decide) rfl (fun ls hl => ?_)
          refine lv_goto (tgt := 5) hx hb dX5_nextIn_73 (by decide) ?_
          exact ih_5 (k + 1) best (by omega) (by first | exact bsx_a hbb (arv_0a c21) | exact bsx_a hbb (arv_0b c36) | exact bsx_b (by omega) hbb (arv_1 c21 c36) c52 | exact bsx_c (by omega) (arv_1 c21 c36) (of_decide_eq_true c61) | exact bsx_d hb24 (of_decide_eq_false c61)) (by omega) _ _ hP hD hS _ (lv_sub hl [0, 1, 3] rfl)
        · refine lv_aload_n hx hb dX5_nextIn_24 rfl (lv_at hl 2 rfl) ?_
          refine lv_iload_n hx hb dX5_nextIn_25 rfl (lv_at hl 0 rfl) ?_
          refine lv_iconst (v := nI 2) hx hb dX5_nextIn_26 (by decide) ?_
          refine kb_vR (As := [.int (nI k), .int (nI 2)]) (rest := []) hx hb hml hts hown hN hK hP hD hS hA (c_X5_get l D cI b hL iK tL sP nU iS sN sR lE fI sC v k 2 (by omega) (by decide)) gX5_nextIn_X5_get rfl ⟨rfl, rfl⟩ hdX5_get ⟨Nat.le_of_ble_eq_true rfl, Nat.le_of_ble_eq_true rfl⟩ [0, 1] [0] rfl rfl rfl (ci := 5) rfl rfl rfl rfl rfl hl.1 (Nat.le_of_ble_eq_true rfl) dX5_nextIn_27 ⟨Nat.zero_le _, Nat.zero_le _⟩ (fun H locs hP hS => ?_)
          refine kb_top (gX g 0 k) (hv.f (by omega)).2.2.1 ?_
          refine lv_aload_n hx hb dX5_nextIn_30 rfl (lv_at hl 2 rfl) ?_
          refine va_get (D := D) (ci := 5) (v := .ref (b 1)) (C := RX5) (T := TX5) (N := 18) hx hb hts inwX5_nextIn_X5 hown hK hP 0 rfl rfl 0 (by decide) fl7 (fun _ h9 => h9) rfl dX5_nextIn_31 ?_
          refine lv_iconst (v := nI 4) hx hb dX5_nextIn_34 (by decide) ?_
          refine kb_iald hx hb hK hP 1 0 rfl rfl (by decide) (by omega) dX5_nextIn_35 ?_
          refine kb_top (gc g 4) hv.m ?_
          refine lv_icmp_ne (tgt := 43) hx hb dX5_nextIn_36 (by decide) (fun c36 => ?_) (fun c36 => ?_)
          · refine lv_iconst (v := nI 0) hx hb dX5_nextIn_43 (by decide) ?_
            refine lv_istore_n (lv' := [(3, .int (nI 0)), (2, .int (nI k)), (1, .int (best)), (0, .ref (b 0))]) hx hb dX5_nextIn_44 rfl hl (by decide) rfl (fun ls hl => ?_)
            refine lv_iload_n hx hb dX5_nextIn_45 rfl (lv_at hl 0 rfl) ?_
            refine kb_nif_eq (tgt := 68) hx hb dX5_nextIn_46 (by decide) (by decide) (fun _ => ?_) (fun c => absurd c (by decide))
            refine lv_iload_n hx hb dX5_nextIn_68 rfl (lv_at hl 2 rfl) ?_
            refine lv_istore_n (lv' := [(1, .int (best)), (3, .int (nI 0)), (2, .int (nI k)), (0, .ref (b 0))]) hx hb dX5_nextIn_69 rfl hl (by decide) rfl (fun ls hl => ?_)
            refine lv_iinc (v := nI (k + 1)) (lv' := [(2, .int (nI (k + 1))), (1, .int (best)), (3, .int (nI 0)), (0, .ref (b 0))]) hx hb dX5_nextIn_70 hl (k := 2) rfl (kb_inc1 k) (by decide) rfl (fun ls hl => ?_)
            refine lv_goto (tgt := 5) hx hb dX5_nextIn_73 (by decide) ?_
            exact ih_5 (k + 1) best (by omega) (by first | exact bsx_a hbb (arv_0a c21) | exact bsx_a hbb (arv_0b c36) | exact bsx_b (by omega) hbb (arv_1 c21 c36) c52 | exact bsx_c (by omega) (arv_1 c21 c36) (of_decide_eq_true c61) | exact bsx_d hb24 (of_decide_eq_false c61)) (by omega) _ _ hP hD hS _ (lv_sub hl [0, 1, 3] rfl)
          · refine lv_iconst (v := nI 1) hx hb dX5_nextIn_39 (by decide) ?_
            refine lv_goto (tgt := 44) hx hb dX5_nextIn_40 (by decide) ?_
            refine lv_istore_n (lv' := [(3, .int (nI 1)), (2, .int (nI k)), (1, .int (best)), (0, .ref (b 0))]) hx hb dX5_nextIn_44 rfl hl (by decide) rfl (fun ls hl => ?_)
            refine lv_iload_n hx hb dX5_nextIn_45 rfl (lv_at hl 0 rfl) ?_
            refine kb_nif_eq (tgt := 68) hx hb dX5_nextIn_46 (by decide) (by decide) (fun c => absurd c (by decide)) (fun _ => ?_)
            refine lv_iload_n hx hb dX5_nextIn_49 rfl (lv_at hl 2 rfl) ?_
            refine lv_bipush (v := (-5)) hx hb dX5_nextIn_50 (by decide) ?_
            refine lv_icmp_eq (tgt := 64) hx hb dX5_nextIn_52 (by decide) (fun c52 => ?_) (fun c52 => ?_)
            · refine lv_iload_n hx hb dX5_nextIn_64 rfl (lv_at hl 1 rfl) ?_
              refine lv_goto (tgt := 69) hx hb dX5_nextIn_65 (by decide) ?_
              refine lv_istore_n (lv' := [(1, .int (nI k)), (3, .int (nI 1)), (2, .int (nI k)), (0, .ref (b 0))]) hx hb dX5_nextIn_69 rfl hl (by decide) rfl (fun ls hl => ?_)
              refine lv_iinc (v := nI (k + 1)) (lv' := [(2, .int (nI (k + 1))), (1, .int (nI k)), (3, .int (nI 1)), (0, .ref (b 0))]) hx hb dX5_nextIn_70 hl (k := 2) rfl (kb_inc1 k) (by decide) rfl (fun ls hl => ?_)
              refine lv_goto (tgt := 5) hx hb dX5_nextIn_73 (by decide) ?_
              exact ih_5 (k + 1) (nI k) (by omega) (by first | exact bsx_a hbb (arv_0a c21) | exact bsx_a hbb (arv_0b c36) | exact bsx_b (by omega) hbb (arv_1 c21 c36) c52 | exact bsx_c (by omega) (arv_1 c21 c36) (of_decide_eq_true c61) | exact bsx_d hb24 (of_decide_eq_false c61)) (by omega) _ _ hP hD hS _ (lv_sub hl [0, 1, 3] rfl)
            · obtain ⟨hb24, hbk⟩ := bst_n5 ho hk hbb c52
              have hbe : best = nI (bst (arv g) (key g) k) := hbb.trans (nxI_n hb24)
              subst hbe
              refine lv_aload_n hx hb dX5_nextIn_55 rfl (lv_at hl 3 rfl) ?_
              refine lv_iload_n hx hb dX5_nextIn_56 rfl (lv_at hl 1 rfl) ?_
              refine lv_iload_n hx hb dX5_nextIn_57 rfl (lv_at hl 2 rfl) ?_
              refine kb_vR (As := [.int (nI k), .int (nI (bst (arv g) (key g) k))]) (rest := []) hx hb hml hts hown hN hK hP hD hS hA (c_X5_isGreater l D cI b hL iK tL sP nU iS sN sR lE fI sC v g hv ho k (bst (arv g) (key g) k) (by omega) (by omega)) gX5_nextIn_X5_isGreater rfl ⟨rfl, rfl⟩ hdX5_isGreater ⟨Nat.le_of_ble_eq_true rfl, Nat.le_of_ble_eq_true rfl⟩ [0, 1] [0] rfl rfl rfl (ci := 5) rfl rfl rfl rfl rfl hl.1 (Nat.le_of_ble_eq_true rfl) dX5_nextIn_58 ⟨Nat.zero_le _, Nat.zero_le _⟩ (fun H locs hP hS => ?_)
              refine kb_bif_eq (tgt := 68) hx hb dX5_nextIn_61 (by decide) (fun c61 => ?_) (fun c61 => ?_)
              · refine lv_iload_n hx hb dX5_nextIn_68 rfl (lv_at hl 2 rfl) ?_
                refine lv_istore_n (lv' := [(1, .int (nI (bst (arv g) (key g) k))), (3, .int (nI 1)), (2, .int (nI k)), (0, .ref (b 0))]) hx hb dX5_nextIn_69 rfl hl (by decide) rfl (fun ls hl => ?_)
                refine lv_iinc (v := nI (k + 1)) (lv' := [(2, .int (nI (k + 1))), (1, .int (nI (bst (arv g) (key g) k))), (3, .int (nI 1)), (0, .ref (b 0))]) hx hb dX5_nextIn_70 hl (k := 2) rfl (kb_inc1 k) (by decide) rfl (fun ls hl => ?_)
                refine lv_goto (tgt := 5) hx hb dX5_nextIn_73 (by decide) ?_
                exact ih_5 (k + 1) (nI (bst (arv g) (key g) k)) (by omega) (by first | exact bsx_a hbb (arv_0a c21) | exact bsx_a hbb (arv_0b c36) | exact bsx_b (by omega) hbb (arv_1 c21 c36) c52 | exact bsx_c (by omega) (arv_1 c21 c36) (of_decide_eq_true c61) | exact bsx_d hb24 (of_decide_eq_false c61)) (by omega) _ _ hP hD hS _ (lv_sub hl [0, 1, 3] rfl)
              · refine lv_iload_n hx hb dX5_nextIn_64 rfl (lv_at hl 1 rfl) ?_
                refine lv_goto (tgt := 69) hx hb dX5_nextIn_65 (by decide) ?_
                refine lv_istore_n (lv' := [(1, .int (nI k)), (3, .int (nI 1)), (2, .int (nI k)), (0, .ref (b 0))]) hx hb dX5_nextIn_69 rfl hl (by decide) rfl (fun ls hl => ?_)
                refine lv_iinc (v := nI (k + 1)) (lv' := [(2, .int (nI (k + 1))), (1, .int (nI k)), (3, .int (nI 1)), (0, .ref (b 0))]) hx hb dX5_nextIn_70 hl (k := 2) rfl (kb_inc1 k) (by decide) rfl (fun ls hl => ?_)
                refine lv_goto (tgt := 5) hx hb dX5_nextIn_73 (by decide) ?_
                exact ih_5 (k + 1) (nI k) (by omega) (by first | exact bsx_a hbb (arv_0a c21) | exact bsx_a hbb (arv_0b c36) | exact bsx_b (by omega) hbb (arv_1 c21 c36) c52 | exact bsx_c (by omega) (arv_1 c21 c36) (of_decide_eq_true c61) | exact bsx_d hb24 (of_decide_eq_false c61)) (by omega) _ _ hP hD hS _ (lv_sub hl [0, 1, 3] rfl)
  exact L_5 ((nK g - 0) + 1) 0 (-5) (by omega) rfl (Nat.lt_succ_self _) _ _ hP hD hS _ (lv_sub hl [0, 1, 2] rfl)
