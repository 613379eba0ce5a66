abbrev rmX5_rounds : Room := { frames := 5, cells := 0, slots := 0, locals := 110 }
theorem hdX5_rounds : yX5_rounds.cls = RX5 ∧ yX5_rounds.cls ≠ "java/lang/invoke/MethodHandle" ∧ yX5_rounds.cls ≠ "java/lang/invoke/VarHandle" ∧ (parseMethodDescriptor yX5_rounds.desc).map (fun d => d.parameters.length) = some 0 := by decide +kernel
theorem inwX5_rounds_X5 : ∀ w ∈ wsX50, w ∈ wsX5_rounds := fun w h => List.mem_cons_of_mem _ (List.mem_append_right _ h)
set_option maxHeartbeats 4000000 in
set_option maxRecDepth 100000 in
theorem c_X5_rounds (l : Launch) (D : va_G) (cI : ClassId) (b : Nat → Nat) (hL : Nat) (iK : Int32) (tL : Nat) (sP : Nat) (nU : Int32) (iS : Int32) (sN : Int32) (sR : Int32) (lE : Int32) (fI : Int32) (sC : Int32) (v : Nat → Int32) (g : Sg) (hv : rV v g) (ho : Ok g) (lf : Nat → Int32) : kb_I (S := (Nat → Int32) × (Nat → Int32)) D [(cI, .int)] l yX5_rounds wsX5_rounds rmX5_rounds [.ref (b 0)] [((b 0), .inr (5, [.ref (b 1), .ref (b 2), .ref (b 3), .ref (b 4), .int (nI hL), .ref (b 5), .int (iK), .ref (b 6), .ref (b 7), .int (nI tL), .int (nI sP), .int (nU), .int (iS), .int (sN), .int (sR), .int (lE), .int (fI), .int (sC)])), ((b 1), .inl (cI, 217, .inl v)), ((b 6), .inl (cI, 12, .inl lf))] (fun (r : Int32) (u : (Nat → Int32) × (Nat → Int32)) => rV u.1 (oRnd g) ∧ gc (oRnd g) 6 = gc g 6 + r) (fun (u : (Nat → Int32) × (Nat → Int32)) => [((b 0), .inr (5, [.ref (b 1), .ref (b 2), .ref (b 3), .ref (b 4), .int (nI hL), .ref (b 5), .int (iK), .ref (b 6), .ref (b 7), .int (nI tL), .int (nI sP), .int (nU), .int (iS), .int (sN), .int (sR), .int (lE), .int (fI), .int (sC)])), ((b 1), .inl (cI, 217, .inl u.1)), ((b 6), .inl (cI, 12, .inl u.2))]) 0 0 := by
  refine kb_I_of (cc := cX5_rounds) (maxL := 2) (ret := (some .int)) (by decide) rfl (Nat.le_of_ble_eq_true rfl) ?_
  intro p e s mm args below meth c A hx hb hml hr hts hown hlocks hnm hA hN hK hP hD hS ls hl Q hQ
  have hl : lv_has ls 2 [(0, .ref (b 0))] := hl
  have hP : va_P D vwCl [((b 0), .inr (5, [.ref (b 1), .ref (b 2), .ref (b 3), .ref (b 4), .int (nI hL), .ref (b 5), .int (iK), .ref (b 6), .ref (b 7), .int (nI tL), .int (nI sP), .int (nU), .int (iS), .int (sN), .int (sR), .int (lE), .int (fI), .int (sC)])), ((b 1), .inl (cI, 217, .inl v)), ((b 6), .inl (cI, 12, .inl lf))] s.heap := hP
  have hD : va_D A [((b 0), .inr (5, [.ref (b 1), .ref (b 2), .ref (b 3), .ref (b 4), .int (nI hL), .ref (b 5), .int (iK), .ref (b 6), .ref (b 7), .int (nI tL), .int (nI sP), .int (nU), .int (iS), .int (sN), .int (sR), .int (lE), .int (fI), .int (sC)])), ((b 1), .inl (cI, 217, .inl v)), ((b 6), .inl (cI, 12, .inl lf))] := hD
  have fl7 := hts (.fieldLink RX5 7 "KingsBanquetModel" "all" "[I") (by decide +kernel)
  have hn := ho.n
  refine lv_aload_n hx hb dX5_rounds_0 rfl (lv_at hl 0 rfl) ?_
  refine va_get (D := D) (ci := 5) (v := .ref (b 1)) (C := RX5) (T := TX5) (N := 18) hx hb hts inwX5_rounds_X5 hown hK hP 0 rfl rfl 0 (by decide) fl7 (fun _ h9 => h9) rfl dX5_rounds_1 ?_
  refine lv_bipush (v := nI 7) hx hb dX5_rounds_4 (by decide) ?_
  refine lv_dup2_11 hx hb dX5_rounds_6 rfl rfl ?_
  refine kb_iald hx hb hK hP 1 0 rfl rfl (by decide) (by omega) dX5_rounds_7 ?_
  refine lv_iconst (v := nI 1) hx hb dX5_rounds_8 (by decide) ?_
  refine lv_iadd hx hb dX5_rounds_9 ?_
  refine kb_iast hx hb hK hP hD hS 1 0 rfl rfl (by decide) (by omega) dX5_rounds_10 (fun H locs hP hD hS => ?_)
  have hP : va_P D vwCl [((b 0), .inr (5, [.ref (b 1), .ref (b 2), .ref (b 3), .ref (b 4), .int (nI hL), .ref (b 5), .int (iK), .ref (b 6), .ref (b 7), .int (nI tL), .int (nI sP), .int (nU), .int (iS), .int (sN), .int (sR), .int (lE), .int (fI), .int (sC)])), ((b 1), .inl (cI, 217, .inl (upd v 7 (v 7 + nI 1)))), ((b 6), .inl (cI, 12, .inl lf))] H := hP
  have hD : va_D A [((b 0), .inr (5, [.ref (b 1), .ref (b 2), .ref (b 3), .ref (b 4), .int (nI hL), .ref (b 5), .int (iK), .ref (b 6), .ref (b 7), .int (nI tL), .int (nI sP), .int (nU), .int (iS), .int (sN), .int (sR), .int (lE), .int (fI), .int (sC)])), ((b 1), .inl (cI, 217, .inl (upd v 7 (v 7 + nI 1)))), ((b 6), .inl (cI, 12, .inl lf))] := hD
  refine lv_iconst (v := nI 0) hx hb dX5_rounds_11 (by decide) ?_
  refine lv_istore_n (lv' := [(1, .int (nI 0)), (0, .ref (b 0))]) hx hb dX5_rounds_12 rfl hl (by decide) rfl (fun ls hl => ?_)
  have L_13 : ∀ (z : Nat) (y : Nat) (vc : Nat → Int32), (y ≤ nT g) → (rV vc (oTo g y y)) → (nT g - y) < z → ∀ (H : Heap) (locs : List Loc), va_P D vwCl [((b 0), .inr (5, [.ref (b 1), .ref (b 2), .ref (b 3), .ref (b 4), .int (nI hL), .ref (b 5), .int (iK), .ref (b 6), .ref (b 7), .int (nI tL), .int (nI sP), .int (nU), .int (iS), .int (sN), .int (sR), .int (lE), .int (fI), .int (sC)])), ((b 1), .inl (cI, 217, .inl vc)), ((b 6), .inl (cI, 12, .inl lf))] H → va_D A [((b 0), .inr (5, [.ref (b 1), .ref (b 2), .ref (b 3), .ref (b 4), .int (nI hL), .ref (b 5), .int (iK), .ref (b 6), .ref (b 7), .int (nI tL), .int (nI sP), .int (nU), .int (iS), .int (sN), .int (sR), .int (lE), .int (fI), .int (sC)])), ((b 1), .inl (cI, 217, .inl vc)), ((b 6), .inl (cI, 12, .inl lf))] → va_S A s.heap H locs → ∀ ls : Array Slot, lv_has ls 2 [(1, .int (nI y)), (0, .ref (b 0))] → W p l e rmX5_rounds s mm args below meth c H locs 0 0 Q (F0 mm 13 ls []) := by
    intro z
    induction z with
    | zero =>
      intro y vc _ _ hz
      exact absurd hz (Nat.not_lt_zero _)
    | succ z ih_13 =>
      intro y vc hy hvc hz H locs hP hD hS ls hl
      refine lv_iload_n hx hb dX5_rounds_13 rfl (lv_at hl 0 rfl) ?_
      refine lv_aload_n hx hb dX5_rounds_14 rfl (lv_at hl 1 rfl) ?_
      refine va_get (D := D) (ci := 5) (v := .ref (b 1)) (C := RX5) (T := TX5) (N := 18) hx hb hts inwX5_rounds_X5 hown hK hP 0 rfl rfl 0 (by decide) fl7 (fun _ h9 => h9) rfl dX5_rounds_15 ?_
      refine lv_bipush (v := nI 11) hx hb dX5_rounds_18 (by decide) ?_
      refine kb_iald hx hb hK hP 1 0 rfl rfl (by decide) (by omega) dX5_rounds_20 ?_
      refine kb_top (nI (nT g)) hvc.t ?_
      refine kb_icmp_ge (tgt := 88) hx hb dX5_rounds_21 (by decide) (by omega) (by omega) (fun c21 => ?_) (fun c21 => ?_)
      · have hyn : y = nT g := by omega
        subst hyn
        have hoT := oTo_ok ho (Nat.le_refl (nT g)) (Nat.le_refl (nT g))
        refine lv_aload_n hx hb dX5_rounds_88 rfl (lv_at hl 1 rfl) ?_
        refine kb_vV (As := []) (rest := []) hx hb hml hts hown hN hK hP hD hS hA (c_X5_envoysGo l D cI b hL iK tL sP nU iS sN sR lE fI sC vc (oTo g (nT g) (nT g)) hvc hoT) gX5_rounds_X5_envoysGo rfl ⟨rfl, rfl⟩ hdX5_envoysGo ⟨Nat.le_of_ble_eq_true rfl, Nat.le_of_ble_eq_true rfl⟩ [0, 1] [0] rfl rfl rfl (ci := 5) rfl rfl rfl (fun _ => rfl) rfl rfl hl.1 (Nat.le_of_ble_eq_true rfl) dX5_rounds_89 ⟨Nat.zero_le _, Nat.zero_le _⟩ (fun u H locs hw_89 hP hD hS => ?_)
        obtain ⟨vo_89, rfl⟩ : ∃ z, z = u := ⟨_, rfl⟩
        have hw_89 : rV vo_89 (oEnv (gc (oTo g (nT g) (nT g)) 2).toNatClampNeg (oTo g (nT g) (nT g))) := hw_89
        have hP : va_P D vwCl [((b 0), .inr (5, [.ref (b 1), .ref (b 2), .ref (b 3), .ref (b 4), .int (nI hL), .ref (b 5), .int (iK), .ref (b 6), .ref (b 7), .int (nI tL), .int (nI sP), .int (nU), .int (iS), .int (sN), .int (sR), .int (lE), .int (fI), .int (sC)])), ((b 1), .inl (cI, 217, .inl vo_89)), ((b 6), .inl (cI, 12, .inl lf))] H := hP
        have hD : va_D A [((b 0), .inr (5, [.ref (b 1), .ref (b 2), .ref (b 3), .ref (b 4), .int (nI hL), .ref (b 5), .int (iK), .ref (b 6), .ref (b 7), .int (nI tL), .int (nI sP), .int (nU), .int (iS), .int (sN), .int (sR), .int (lE), .int (fI), .int (sC)])), ((b 1), .inl (cI, 217, .inl vo_89)), ((b 6), .inl (cI, 12, .inl lf))] := hD
        refine lv_aload_n hx hb dX5_rounds_92 rfl (lv_at hl 1 rfl) ?_
        refine kb_vI (As := []) (rest := []) hx hb hml hts hown hN hK hP hD hS hA (c_X5_leaveInAnger l D cI b hL iK tL sP nU iS sN sR lE fI sC vo_89 (oEnv (gc g 2).toNatClampNeg (oTo g (nT g) (nT g))) hw_89 (oEnv_ok _ hoT) lf) gX5_rounds_X5_leaveInAnger rfl ⟨rfl, rfl⟩ hdX5_leaveInAnger ⟨Nat.le_of_ble_eq_true rfl, Nat.le_of_ble_eq_true rfl⟩ [0, 1, 2] [0] rfl rfl rfl (ci := 5) rfl rfl rfl (fun _ => rfl) rfl rfl hl.1 (Nat.le_of_ble_eq_true rfl) dX5_rounds_93 ⟨Nat.zero_le _, Nat.zero_le _⟩ (fun r_93 u H locs hw_93 hP hD hS => ?_)
        obtain ⟨vo_93, lo_93⟩ := u
        have hw_93 : rV vo_93 (oAng (ang (oEnv (gc g 2).toNatClampNeg (oTo g (nT g) (nT g)))) (nT (oEnv (gc g 2).toNatClampNeg (oTo g (nT g) (nT g)))) (oEnv (gc g 2).toNatClampNeg (oTo g (nT g) (nT g)))) ∧ gc (oAng (ang (oEnv (gc g 2).toNatClampNeg (oTo g (nT g) (nT g)))) (nT (oEnv (gc g 2).toNatClampNeg (oTo g (nT g) (nT g)))) (oEnv (gc g 2).toNatClampNeg (oTo g (nT g) (nT g)))) 6 = gc (oEnv (gc g 2).toNatClampNeg (oTo g (nT g) (nT g))) 6 + r_93 := hw_93
        have hP : va_P D vwCl [((b 0), .inr (5, [.ref (b 1), .ref (b 2), .ref (b 3), .ref (b 4), .int (nI hL), .ref (b 5), .int (iK), .ref (b 6), .ref (b 7), .int (nI tL), .int (nI sP), .int (nU), .int (iS), .int (sN), .int (sR), .int (lE), .int (fI), .int (sC)])), ((b 1), .inl (cI, 217, .inl vo_93)), ((b 6), .inl (cI, 12, .inl lo_93))] H := hP
        have hD : va_D A [((b 0), .inr (5, [.ref (b 1), .ref (b 2), .ref (b 3), .ref (b 4), .int (nI hL), .ref (b 5), .int (iK), .ref (b 6), .ref (b 7), .int (nI tL), .int (nI sP), .int (nU), .int (iS), .int (sN), .int (sR), .int (lE), .int (fI), .int (sC)])), ((b 1), .inl (cI, 217, .inl vo_93)), ((b 6), .inl (cI, 12, .inl lo_93))] := hD
        exact kb_iret (D := D) hQ hx hb hr hlocks hK hP hD hS dX5_rounds_96 (vo_93, lo_93) rfl (Nat.le_refl _) (Nat.le_refl _) (show rV vo_93 (oRnd g) ∧ gc (oRnd g) 6 = gc g 6 + r_93 from ⟨hw_93.1, hw_93.2.trans (by rw [oEnv_gc _ _ (by decide)]; rfl)⟩)
      · have hgk := (ho.t y (by omega)).1
        refine lv_aload_n hx hb dX5_rounds_24 rfl (lv_at hl 1 rfl) ?_
        refine lv_aload_n hx hb dX5_rounds_25 rfl (lv_at hl 1 rfl) ?_
        refine va_get (D := D) (ci := 5) (v := .ref (b 1)) (C := RX5) (T := TX5) (N := 18) hx hb hts inwX5_rounds_X5 hown hK hP 0 rfl rfl 0 (by decide) fl7 (fun _ h9 => h9) rfl dX5_rounds_26 ?_
        refine lv_bipush (v := nI 12) hx hb dX5_rounds_29 (by decide) ?_
        refine lv_iload_n hx hb dX5_rounds_31 rfl (lv_at hl 0 rfl) ?_
        refine lv_iadd hx hb dX5_rounds_32 ?_
        refine kb_top (nI (12 + y)) (nI_add 12 y) ?_
        refine kb_iald hx hb hK hP 1 0 rfl rfl (by decide) (by omega) dX5_rounds_33 ?_
        refine kb_top (nI (gT g y)) (hvc.s (j := y) (show y < nT g by omega)) ?_
        refine lv_iconst (v := nI 4) hx hb dX5_rounds_34 (by decide) ?_
        refine kb_vV (As := [.int (nI (gT g y)), .int (nI 4)]) (rest := []) hx hb hml hts hown hN hK hP hD hS hA (c_X5_more l D cI b hL iK tL sP nU iS sN sR lE fI sC vc (gT g y) 4 (by omega) (by decide)) gX5_rounds_X5_more rfl ⟨rfl, rfl⟩ hdX5_more ⟨Nat.le_of_ble_eq_true rfl, Nat.le_of_ble_eq_true rfl⟩ [0, 1] [0] rfl rfl rfl (ci := 5) rfl rfl rfl (fun _ => rfl) rfl rfl hl.1 (Nat.le_of_ble_eq_true rfl) dX5_rounds_35 ⟨Nat.zero_le _, Nat.zero_le _⟩ (fun u H locs hw_35 hP hD hS => ?_)
        have hw_35 : True := hw_35
        have hP : va_P D vwCl [((b 0), .inr (5, [.ref (b 1), .ref (b 2), .ref (b 3), .ref (b 4), .int (nI hL), .ref (b 5), .int (iK), .ref (b 6), .ref (b 7), .int (nI tL), .int (nI sP), .int (nU), .int (iS), .int (sN), .int (sR), .int (lE), .int (fI), .int (sC)])), ((b 1), .inl (cI, 217, .inl (upd vc (49 + 7 * (gT g y) + 4) (vc (49 + 7 * (gT g y) + 4) + nI 1)))), ((b 6), .inl (cI, 12, .inl lf))] H := hP
        have hD : va_D A [((b 0), .inr (5, [.ref (b 1), .ref (b 2), .ref (b 3), .ref (b 4), .int (nI hL), .ref (b 5), .int (iK), .ref (b 6), .ref (b 7), .int (nI tL), .int (nI sP), .int (nU), .int (iS), .int (sN), .int (sR), .int (lE), .int (fI), .int (sC)])), ((b 1), .inl (cI, 217, .inl (upd vc (49 + 7 * (gT g y) + 4) (vc (49 + 7 * (gT g y) + 4) + nI 1)))), ((b 6), .inl (cI, 12, .inl lf))] := hD
        refine lv_aload_n hx hb dX5_rounds_38 rfl (lv_at hl 1 rfl) ?_
        refine va_get (D := D) (ci := 5) (v := .ref (b 1)) (C := RX5) (T := TX5) (N := 18) hx hb hts inwX5_rounds_X5 hown hK hP 0 rfl rfl 0 (by decide) fl7 (fun _ h9 => h9) rfl dX5_rounds_39 ?_
        refine lv_bipush (v := nI 8) hx hb dX5_rounds_42 (by decide) ?_
        refine lv_dup2_11 hx hb dX5_rounds_44 rfl rfl ?_
        refine kb_iald hx hb hK hP 1 0 rfl rfl (by decide) (by omega) dX5_rounds_45 ?_
        refine kb_top (vc 8) (up_n (by omega)) ?_
        refine lv_iconst (v := nI 1) hx hb dX5_rounds_46 (by decide) ?_
        refine lv_iadd hx hb dX5_rounds_47 ?_
        refine kb_iast hx hb hK hP hD hS 1 0 rfl rfl (by decide) (by omega) dX5_rounds_48 (fun H locs hP hD hS => ?_)
        have hP : va_P D vwCl [((b 0), .inr (5, [.ref (b 1), .ref (b 2), .ref (b 3), .ref (b 4), .int (nI hL), .ref (b 5), .int (iK), .ref (b 6), .ref (b 7), .int (nI tL), .int (nI sP), .int (nU), .int (iS), .int (sN), .int (sR), .int (lE), .int (fI), .int (sC)])), ((b 1), .inl (cI, 217, .inl (upd (upd vc (49 + 7 * (gT g y) + 4) (vc (49 + 7 * (gT g y) + 4) + nI 1)) 8 (vc 8 + nI 1)))), ((b 6), .inl (cI, 12, .inl lf))] H := hP
        have hD : va_D A [((b 0), .inr (5, [.ref (b 1), .ref (b 2), .ref (b 3), .ref (b 4), .int (nI hL), .ref (b 5), .int (iK), .ref (b 6), .ref (b 7), .int (nI tL), .int (nI sP), .int (nU), .int (iS), .int (sN), .int (sR), .int (lE), .int (fI), .int (sC)])), ((b 1), .inl (cI, 217, .inl (upd (upd vc (49 + 7 * (gT g y) + 4) (vc (49 + 7 * (gT g y) + 4) + nI 1)) 8 (vc 8 + nI 1)))), ((b 6), .inl (cI, 12, .inl lf))] := hD
        have hv1 := rV_to1 hvc ho (show y < nT g by omega)
        refine lv_aload_n hx hb dX5_rounds_49 rfl (lv_at hl 1 rfl) ?_
        refine lv_iload_n hx hb dX5_rounds_50 rfl (lv_at hl 0 rfl) ?_
        refine kb_vR (As := [.int (nI y)]) (rest := []) hx hb hml hts hown hN hK hP hD hS hA (c_X5_isSlightedAt l D cI b hL iK tL sP nU iS sN sR lE fI sC (upd (upd vc (49 + 7 * (gT g y) + 4) (vc (49 + 7 * (gT g y) + 4) + nI 1)) 8 (vc 8 + nI 1)) (oTo g (y + 1) y) hv1 (oTo_ok ho (by omega) (by omega)) y (show y < nT g by omega)) gX5_rounds_X5_isSlightedAt rfl ⟨rfl, rfl⟩ hdX5_isSlightedAt ⟨Nat.le_of_ble_eq_true rfl, Nat.le_of_ble_eq_true rfl⟩ [0, 1] [0] rfl rfl rfl (ci := 5) rfl rfl rfl rfl rfl hl.1 (Nat.le_of_ble_eq_true rfl) dX5_rounds_51 ⟨Nat.zero_le _, Nat.zero_le _⟩ (fun H locs hP hS => ?_)
        refine kb_bif_eq (tgt := 82) hx hb dX5_rounds_54 (by decide) (fun c54 => ?_) (fun c54 => ?_)
        · refine lv_iinc (v := nI (y + 1)) (lv' := [(1, .int (nI (y + 1))), (0, .ref (b 0))]) hx hb dX5_rounds_82 hl (k := 0) rfl (kb_inc1 y) (by decide) rfl (fun ls hl => ?_)
          refine lv_goto (tgt := 13) hx hb dX5_rounds_85 (by decide) ?_
          exact ih_13 (y + 1) (upd (upd vc (49 + 7 * (gT g y) + 4) (vc (49 + 7 * (gT g y) + 4) + nI 1)) 8 (vc 8 + nI 1)) (by omega) (by first | exact rV_to2 hv1 ho (by omega) c54 | exact rV_to3 hv1 c54) (by omega) _ _ hP hD hS _ (lv_sub hl [0, 1] rfl)
        · refine lv_aload_n hx hb dX5_rounds_57 rfl (lv_at hl 1 rfl) ?_
          refine lv_aload_n hx hb dX5_rounds_58 rfl (lv_at hl 1 rfl) ?_
          refine va_get (D := D) (ci := 5) (v := .ref (b 1)) (C := RX5) (T := TX5) (N := 18) hx hb hts inwX5_rounds_X5 hown hK hP 0 rfl rfl 0 (by decide) fl7 (fun _ h9 => h9) rfl dX5_rounds_59 ?_
          refine lv_bipush (v := nI 12) hx hb dX5_rounds_62 (by decide) ?_
          refine lv_iload_n hx hb dX5_rounds_64 rfl (lv_at hl 0 rfl) ?_
          refine lv_iadd hx hb dX5_rounds_65 ?_
          refine kb_top (nI (12 + y)) (nI_add 12 y) ?_
          refine kb_iald hx hb hK hP 1 0 rfl rfl (by decide) (by omega) dX5_rounds_66 ?_
          refine kb_top (nI (gT g y)) (hv1.s (j := y) (show y < nT g by omega)) ?_
          refine lv_iconst (v := nI 5) hx hb dX5_rounds_67 (by decide) ?_
          refine kb_vV (As := [.int (nI (gT g y)), .int (nI 5)]) (rest := []) hx hb hml hts hown hN hK hP hD hS hA (c_X5_more l D cI b hL iK tL sP nU iS sN sR lE fI sC (upd (upd vc (49 + 7 * (gT g y) + 4) (vc (49 + 7 * (gT g y) + 4) + nI 1)) 8 (vc 8 + nI 1)) (gT g y) 5 (by omega) (by decide)) gX5_rounds_X5_more rfl ⟨rfl, rfl⟩ hdX5_more ⟨Nat.le_of_ble_eq_true rfl, Nat.le_of_ble_eq_true rfl⟩ [0, 1] [0] rfl rfl rfl (ci := 5) rfl rfl rfl (fun _ => rfl) rfl rfl hl.1 (Nat.le_of_ble_eq_true rfl) dX5_rounds_68 ⟨Nat.zero_le _, Nat.zero_le _⟩ (fun u H locs hw_68 hP hD hS => ?_)
          have hw_68 : True := hw_68
          have hP : va_P D vwCl [((b 0), .inr (5, [.ref (b 1), .ref (b 2), .ref (b 3), .ref (b 4), .int (nI hL), .ref (b 5), .int (iK), .ref (b 6), .ref (b 7), .int (nI tL), .int (nI sP), .int (nU), .int (iS), .int (sN), .int (sR), .int (lE), .int (fI), .int (sC)])), ((b 1), .inl (cI, 217, .inl (upd (upd (upd vc (49 + 7 * (gT g y) + 4) (vc (49 + 7 * (gT g y) + 4) + nI 1)) 8 (vc 8 + nI 1)) (49 + 7 * (gT g y) + 5) ((upd (upd vc (49 + 7 * (gT g y) + 4) (vc (49 + 7 * (gT g y) + 4) + nI 1)) 8 (vc 8 + nI 1)) (49 + 7 * (gT g y) + 5) + nI 1)))), ((b 6), .inl (cI, 12, .inl lf))] H := hP
          have hD : va_D A [((b 0), .inr (5, [.ref (b 1), .ref (b 2), .ref (b 3), .ref (b 4), .int (nI hL), .ref (b 5), .int (iK), .ref (b 6), .ref (b 7), .int (nI tL), .int (nI sP), .int (nU), .int (iS), .int (sN), .int (sR), .int (lE), .int (fI), .int (sC)])), ((b 1), .inl (cI, 217, .inl (upd (upd (upd vc (49 + 7 * (gT g y) + 4) (vc (49 + 7 * (gT g y) + 4) + nI 1)) 8 (vc 8 + nI 1)) (49 + 7 * (gT g y) + 5) ((upd (upd vc (49 + 7 * (gT g y) + 4) (vc (49 + 7 * (gT g y) + 4) + nI 1)) 8 (vc 8 + nI 1)) (49 + 7 * (gT g y) + 5) + nI 1)))), ((b 6), .inl (cI, 12, .inl lf))] := hD
          refine lv_aload_n hx hb dX5_rounds_71 rfl (lv_at hl 1 rfl) ?_
          refine va_get (D := D) (ci := 5) (v := .ref (b 1)) (C := RX5) (T := TX5) (N := 18) hx hb hts inwX5_rounds_X5 hown hK hP 0 rfl rfl 0 (by decide) fl7 (fun _ h9 => h9) rfl dX5_rounds_72 ?_
          refine lv_bipush (v := nI 9) hx hb dX5_rounds_75 (by decide) ?_
          refine lv_dup2_11 hx hb dX5_rounds_77 rfl rfl ?_
          refine kb_iald hx hb hK hP 1 0 rfl rfl (by decide) (by omega) dX5_rounds_78 ?_
          refine kb_top ((upd (upd vc (49 + 7 * gT g y + 4) (vc (49 + 7 * gT g y + 4) + nI 1)) 8 (vc 8 + nI 1)) 9) (up_n (by omega)) ?_
          refine lv_iconst (v := nI 1) hx hb dX5_rounds_79 (by decide) ?_
          refine lv_iadd hx hb dX5_rounds_80 ?_
          refine kb_iast hx hb hK hP hD hS 1 0 rfl rfl (by decide) (by omega) dX5_rounds_81 (fun H locs hP hD hS => ?_)
          have hP : va_P D vwCl [((b 0), .inr (5, [.ref (b 1), .ref (b 2), .ref (b 3), .ref (b 4), .int (nI hL), .ref (b 5), .int (iK), .ref (b 6), .ref (b 7), .int (nI tL), .int (nI sP), .int (nU), .int (iS), .int (sN), .int (sR), .int (lE), .int (fI), .int (sC)])), ((b 1), .inl (cI, 217, .inl (upd (upd (upd (upd vc (49 + 7 * (gT g y) + 4) (vc (49 + 7 * (gT g y) + 4) + nI 1)) 8 (vc 8 + nI 1)) (49 + 7 * (gT g y) + 5) ((upd (upd vc (49 + 7 * (gT g y) + 4) (vc (49 + 7 * (gT g y) + 4) + nI 1)) 8 (vc 8 + nI 1)) (49 + 7 * (gT g y) + 5) + nI 1)) 9 ((upd (upd vc (49 + 7 * gT g y + 4) (vc (49 + 7 * gT g y + 4) + nI 1)) 8 (vc 8 + nI 1)) 9 + nI 1)))), ((b 6), .inl (cI, 12, .inl lf))] H := hP
          have hD : va_D A [((b 0), .inr (5, [.ref (b 1), .ref (b 2), .ref (b 3), .ref (b 4), .int (nI hL), .ref (b 5), .int (iK), .ref (b 6), .ref (b 7), .int (nI tL), .int (nI sP), .int (nU), .int (iS), .int (sN), .int (sR), .int (lE), .int (fI), .int (sC)])), ((b 1), .inl (cI, 217, .inl (upd (upd (upd (upd vc (49 + 7 * (gT g y) + 4) (vc (49 + 7 * (gT g y) + 4) + nI 1)) 8 (vc 8 + nI 1)) (49 + 7 * (gT g y) + 5) ((upd (upd vc (49 + 7 * (gT g y) + 4) (vc (49 + 7 * (gT g y) + 4) + nI 1)) 8 (vc 8 + nI 1)) (49 + 7 * (gT g y) + 5) + nI 1)) 9 ((upd (upd vc (49 + 7 * gT g y + 4) (vc (49 + 7 * gT g y + 4) + nI 1)) 8 (vc 8 + nI 1)) 9 + nI 1)))), ((b 6), .inl (cI, 12, .inl lf))] := hD
          refine lv_iinc (v := nI (y + 1)) (lv' := [(1, .int (nI (y + 1))), (0, .ref (b 0))]) hx hb dX5_rounds_82 hl (k := 0) rfl (kb_inc1 y) (by decide) rfl (fun ls hl => ?_)
          refine lv_goto (tgt := 13) hx hb dX5_rounds_85 (by decide) ?_
          exact ih_13 (y + 1) (upd (upd (upd (upd vc (49 + 7 * (gT g y) + 4) (vc (49 + 7 * (gT g y) + 4) + nI 1)) 8 (vc 8 + nI 1)) (49 + 7 * (gT g y) + 5) ((upd (upd vc (49 + 7 * (gT g y) + 4) (vc (49 + 7 * (gT g y) + 4) + nI 1)) 8 (vc 8 + nI 1)) (49 + 7 * (gT g y) + 5) + nI 1)) 9 ((upd (upd vc (49 + 7 * gT g y + 4) (vc (49 + 7 * gT g y + 4) + nI 1)) 8 (vc 8 + nI 1)) 9 + nI 1)) (by omega) (by first | exact rV_to2 hv1 ho (by omega) c54 | exact rV_to3 hv1 c54) (by omega) _ _ hP hD hS _ (lv_sub hl [0, 1] rfl)
  exact L_13 ((nT g - 0) + 1) 0 (upd v 7 (v 7 + nI 1)) (by omega) (rV_to0 hv hn.2.1) (Nat.lt_succ_self _) _ _ hP hD hS _ (lv_sub hl [0, 1] rfl)
