abbrev rmX5_leaveInAnger : Room := { frames := 3, cells := 0, slots := 0, locals := 69 }
theorem hdX5_leaveInAnger : yX5_leaveInAnger.cls = RX5 ∧ yX5_leaveInAnger.cls ≠ "java/lang/invoke/MethodHandle" ∧ yX5_leaveInAnger.cls ≠ "java/lang/invoke/VarHandle" ∧ (parseMethodDescriptor yX5_leaveInAnger.desc).map (fun d => d.parameters.length) = some 0 := by decide +kernel
theorem inwX5_leaveInAnger_X5 : ∀ w ∈ wsX50, w ∈ wsX5_leaveInAnger := fun w h => List.mem_cons_of_mem _ (List.mem_append_right _ h)
set_option maxHeartbeats 4000000 in
set_option maxRecDepth 100000 in
theorem c_X5_leaveInAnger (l : Launch) (D : va_G) (cI : ClassId) (b : Nat → Nat) (hL : Nat) (iK : Int32) (tL : Nat) (sP : Nat) (nU : Int32) (iS : Int32) (sN : Int32) (sR : Int32) (lE : Int32) (fI : Int32) (sC : Int32) (v : Nat → Int32) (g : Sg) (hv : rV v g) (ho : Ok g) (lf : Nat → Int32) : kb_I (S := (Nat → Int32) × (Nat → Int32)) D [(cI, .int)] l yX5_leaveInAnger wsX5_leaveInAnger rmX5_leaveInAnger [.ref (b 0)] [((b 0), .inr (5, [.ref (b 1), .ref (b 2), .ref (b 3), .ref (b 4), .int (nI hL), .ref (b 5), .int (iK), .ref (b 6), .ref (b 7), .int (nI tL), .int (nI sP), .int (nU), .int (iS), .int (sN), .int (sR), .int (lE), .int (fI), .int (sC)])), ((b 1), .inl (cI, 217, .inl v)), ((b 6), .inl (cI, 12, .inl lf))] (fun (r : Int32) (u : (Nat → Int32) × (Nat → Int32)) => rV u.1 (oAng (ang g) (nT g) g) ∧ gc (oAng (ang g) (nT g) g) 6 = gc g 6 + r) (fun (u : (Nat → Int32) × (Nat → Int32)) => [((b 0), .inr (5, [.ref (b 1), .ref (b 2), .ref (b 3), .ref (b 4), .int (nI hL), .ref (b 5), .int (iK), .ref (b 6), .ref (b 7), .int (nI tL), .int (nI sP), .int (nU), .int (iS), .int (sN), .int (sR), .int (lE), .int (fI), .int (sC)])), ((b 1), .inl (cI, 217, .inl u.1)), ((b 6), .inl (cI, 12, .inl u.2))]) 0 0 := by
  refine kb_I_of (cc := cX5_leaveInAnger) (maxL := 4) (ret := (some .int)) (by decide) rfl (Nat.le_of_ble_eq_true rfl) ?_
  intro p e s mm args below meth c A hx hb hml hr hts hown hlocks hnm hA hN hK hP hD hS ls hl Q hQ
  have hl : lv_has ls 4 [(0, .ref (b 0))] := hl
  have hP : va_P D vwCl [((b 0), .inr (5, [.ref (b 1), .ref (b 2), .ref (b 3), .ref (b 4), .int (nI hL), .ref (b 5), .int (iK), .ref (b 6), .ref (b 7), .int (nI tL), .int (nI sP), .int (nU), .int (iS), .int (sN), .int (sR), .int (lE), .int (fI), .int (sC)])), ((b 1), .inl (cI, 217, .inl v)), ((b 6), .inl (cI, 12, .inl lf))] s.heap := hP
  have hD : va_D A [((b 0), .inr (5, [.ref (b 1), .ref (b 2), .ref (b 3), .ref (b 4), .int (nI hL), .ref (b 5), .int (iK), .ref (b 6), .ref (b 7), .int (nI tL), .int (nI sP), .int (nU), .int (iS), .int (sN), .int (sR), .int (lE), .int (fI), .int (sC)])), ((b 1), .inl (cI, 217, .inl v)), ((b 6), .inl (cI, 12, .inl lf))] := hD
  have fl7 := hts (.fieldLink RX5 7 "KingsBanquetModel" "all" "[I") (by decide +kernel)
  have fl25 := hts (.fieldLink RX5 25 "KingsBanquetModel" "leaves" "[I") (by decide +kernel)
  have hn := ho.n
  refine lv_iconst (v := nI 0) hx hb dX5_leaveInAnger_0 (by decide) ?_
  refine lv_istore_n (lv' := [(1, .int (nI 0)), (0, .ref (b 0))]) hx hb dX5_leaveInAnger_1 rfl hl (by decide) rfl (fun ls hl => ?_)
  refine lv_iconst (v := nI 0) hx hb dX5_leaveInAnger_2 (by decide) ?_
  refine lv_istore_n (lv' := [(2, .int (nI 0)), (1, .int (nI 0)), (0, .ref (b 0))]) hx hb dX5_leaveInAnger_3 rfl hl (by decide) rfl (fun ls hl => ?_)
  have L_4 : ∀ (z : Nat) (i : Nat) (lc : Nat → Int32), (i ≤ nT g) → (∀ j, j < i → lc j = kb_b (ang g j)) → (nT g - i) < z → ∀ (H : Heap) (locs : List Loc), va_P D vwCl [((b 0), .inr (5, [.ref (b 1), .ref (b 2), .ref (b 3), .ref (b 4), .int (nI hL), .ref (b 5), .int (iK), .ref (b 6), .ref (b 7), .int (nI tL), .int (nI sP), .int (nU), .int (iS), .int (sN), .int (sR), .int (lE), .int (fI), .int (sC)])), ((b 1), .inl (cI, 217, .inl v)), ((b 6), .inl (cI, 12, .inl lc))] H → va_D A [((b 0), .inr (5, [.ref (b 1), .ref (b 2), .ref (b 3), .ref (b 4), .int (nI hL), .ref (b 5), .int (iK), .ref (b 6), .ref (b 7), .int (nI tL), .int (nI sP), .int (nU), .int (iS), .int (sN), .int (sR), .int (lE), .int (fI), .int (sC)])), ((b 1), .inl (cI, 217, .inl v)), ((b 6), .inl (cI, 12, .inl lc))] → va_S A s.heap H locs → ∀ ls : Array Slot, lv_has ls 4 [(2, .int (nI i)), (1, .int (nI 0)), (0, .ref (b 0))] → W p l e rmX5_leaveInAnger s mm args below meth c H locs 0 0 Q (F0 mm 4 ls []) := by
    intro z
    induction z with
    | zero =>
      intro i lc _ _ hz
      exact absurd hz (Nat.not_lt_zero _)
    | succ z ih_4 =>
      intro i lc hi hlf hz H locs hP hD hS ls hl
      refine lv_iload_n hx hb dX5_leaveInAnger_4 rfl (lv_at hl 0 rfl) ?_
      refine lv_aload_n hx hb dX5_leaveInAnger_5 rfl (lv_at hl 2 rfl) ?_
      refine va_get (D := D) (ci := 5) (v := .ref (b 1)) (C := RX5) (T := TX5) (N := 18) hx hb hts inwX5_leaveInAnger_X5 hown hK hP 0 rfl rfl 0 (by decide) fl7 (fun _ h9 => h9) rfl dX5_leaveInAnger_6 ?_
      refine lv_bipush (v := nI 11) hx hb dX5_leaveInAnger_9 (by decide) ?_
      refine kb_iald hx hb hK hP 1 0 rfl rfl (by decide) (by omega) dX5_leaveInAnger_11 ?_
      refine kb_top (nI (nT g)) hv.t ?_
      refine kb_icmp_ge (tgt := 63) hx hb dX5_leaveInAnger_12 (by decide) (by omega) (by omega) (fun c12 => ?_) (fun c12 => ?_)
      · refine lv_aload_n hx hb dX5_leaveInAnger_63 rfl (lv_at hl 2 rfl) ?_
        refine va_get (D := D) (ci := 5) (v := .ref (b 1)) (C := RX5) (T := TX5) (N := 18) hx hb hts inwX5_leaveInAnger_X5 hown hK hP 0 rfl rfl 0 (by decide) fl7 (fun _ h9 => h9) rfl dX5_leaveInAnger_64 ?_
        refine lv_bipush (v := nI 11) hx hb dX5_leaveInAnger_67 (by decide) ?_
        refine kb_iald hx hb hK hP 1 0 rfl rfl (by decide) (by omega) dX5_leaveInAnger_69 ?_
        refine kb_top (nI (nT g)) hv.t ?_
        refine lv_iconst (v := nI 1) hx hb dX5_leaveInAnger_70 (by decide) ?_
        refine lv_isub hx hb dX5_leaveInAnger_71 ?_
        refine lv_istore_n (lv' := [(2, .int (nI (nT g) - nI 1)), (1, .int (nI 0)), (0, .ref (b 0))]) hx hb dX5_leaveInAnger_72 rfl hl (by decide) rfl (fun ls hl => ?_)
        have L_73 : ∀ (z : Nat) (n : Nat) (h : Sg) (vc : Nat → Int32) (nn : Nat), (Ok h) → (n ≤ nT h) → (nn + n ≤ nT g) → (rV (upd vc 6 (gc h 6)) h) → (gc h 6 = gc g 6 + nI nn ∧ vc 6 = gc g 6) → (oAng (ang g) (nT g) g = oAng (ang g) n h) → n < z → ∀ (H : Heap) (locs : List Loc), va_P D vwCl [((b 0), .inr (5, [.ref (b 1), .ref (b 2), .ref (b 3), .ref (b 4), .int (nI hL), .ref (b 5), .int (iK), .ref (b 6), .ref (b 7), .int (nI tL), .int (nI sP), .int (nU), .int (iS), .int (sN), .int (sR), .int (lE), .int (fI), .int (sC)])), ((b 1), .inl (cI, 217, .inl vc)), ((b 6), .inl (cI, 12, .inl lc))] H → va_D A [((b 0), .inr (5, [.ref (b 1), .ref (b 2), .ref (b 3), .ref (b 4), .int (nI hL), .ref (b 5), .int (iK), .ref (b 6), .ref (b 7), .int (nI tL), .int (nI sP), .int (nU), .int (iS), .int (sN), .int (sR), .int (lE), .int (fI), .int (sC)])), ((b 1), .inl (cI, 217, .inl vc)), ((b 6), .inl (cI, 12, .inl lc))] → va_S A s.heap H locs → ∀ ls : Array Slot, lv_has ls 4 [(2, .int (nI n - nI 1)), (1, .int (nI nn)), (0, .ref (b 0))] → W p l e rmX5_leaveInAnger s mm args below meth c H locs 0 0 Q (F0 mm 73 ls []) := by
          intro z
          induction z with
          | zero =>
            intro n h vc nn _ _ _ _ _ _ hz
            exact absurd hz (Nat.not_lt_zero _)
          | succ z ih_73 =>
            intro n h vc nn hh hn1 hng hvc hcn he hz H locs hP hD hS ls hl
            refine lv_iload_n hx hb dX5_leaveInAnger_73 rfl (lv_at hl 0 rfl) ?_
            refine kb_pif_lt (tgt := 130) hx hb dX5_leaveInAnger_74 (by decide) (by have := hh.n; omega) (fun c74 => ?_) (fun c74 => ?_)
            · refine lv_aload_n hx hb dX5_leaveInAnger_130 rfl (lv_at hl 2 rfl) ?_
              refine va_get (D := D) (ci := 5) (v := .ref (b 1)) (C := RX5) (T := TX5) (N := 18) hx hb hts inwX5_leaveInAnger_X5 hown hK hP 0 rfl rfl 0 (by decide) fl7 (fun _ h9 => h9) rfl dX5_leaveInAnger_131 ?_
              refine lv_bipush (v := nI 6) hx hb dX5_leaveInAnger_134 (by decide) ?_
              refine lv_dup2_11 hx hb dX5_leaveInAnger_136 rfl rfl ?_
              refine kb_iald hx hb hK hP 1 0 rfl rfl (by decide) (by omega) dX5_leaveInAnger_137 ?_
              refine lv_iload_n hx hb dX5_leaveInAnger_138 rfl (lv_at hl 1 rfl) ?_
              refine lv_iadd hx hb dX5_leaveInAnger_139 ?_
              refine kb_iast hx hb hK hP hD hS 1 0 rfl rfl (by decide) (by omega) dX5_leaveInAnger_140 (fun H locs hP hD hS => ?_)
              have hP : va_P D vwCl [((b 0), .inr (5, [.ref (b 1), .ref (b 2), .ref (b 3), .ref (b 4), .int (nI hL), .ref (b 5), .int (iK), .ref (b 6), .ref (b 7), .int (nI tL), .int (nI sP), .int (nU), .int (iS), .int (sN), .int (sR), .int (lE), .int (fI), .int (sC)])), ((b 1), .inl (cI, 217, .inl (upd vc 6 (vc 6 + nI nn)))), ((b 6), .inl (cI, 12, .inl lc))] H := hP
              have hD : va_D A [((b 0), .inr (5, [.ref (b 1), .ref (b 2), .ref (b 3), .ref (b 4), .int (nI hL), .ref (b 5), .int (iK), .ref (b 6), .ref (b 7), .int (nI tL), .int (nI sP), .int (nU), .int (iS), .int (sN), .int (sR), .int (lE), .int (fI), .int (sC)])), ((b 1), .inl (cI, 217, .inl (upd vc 6 (vc 6 + nI nn)))), ((b 6), .inl (cI, 12, .inl lc))] := hD
              refine lv_iload_n hx hb dX5_leaveInAnger_141 rfl (lv_at hl 1 rfl) ?_
              exact kb_iret (D := D) hQ hx hb hr hlocks hK hP hD hS dX5_leaveInAnger_142 (upd vc 6 (vc 6 + nI nn), lc) rfl (Nat.le_refl _) (Nat.le_refl _) (show rV (upd vc 6 (vc 6 + nI nn)) (oAng (ang g) (nT g) g) ∧ gc (oAng (ang g) (nT g) g) 6 = gc g 6 + (nI nn) from (by rw [he, show n = 0 by omega]; show rV _ h ∧ gc h 6 = gc g 6 + nI nn; rw [hcn.2]; exact ⟨by rw [← hcn.1]; exact hvc, hcn.1⟩))
            · obtain ⟨n', rfl⟩ : ∃ n', n = n' + 1 := ⟨n - 1, by omega⟩
              have hgk := (hh.t n' (by omega)).1
              have hhn := hh.n
              refine lv_aload_n hx hb dX5_leaveInAnger_77 rfl (lv_at hl 2 rfl) ?_
              refine va_get (D := D) (ci := 5) (v := .ref (b 6)) (C := RX5) (T := TX5) (N := 18) hx hb hts inwX5_leaveInAnger_X5 hown hK hP 0 rfl rfl 7 (by decide) fl25 (fun _ h9 => h9) rfl dX5_leaveInAnger_78 ?_
              refine lv_iload_n hx hb dX5_leaveInAnger_81 rfl (lv_at hl 0 rfl) ?_
              refine kb_top (nI n') (by rw [pk_sub (by omega), Nat.add_sub_cancel]) ?_
              refine kb_iald hx hb hK hP 2 0 rfl rfl (by decide) (by omega) dX5_leaveInAnger_82 ?_
              refine kb_top (kb_b (ang g n')) (hlf n' (by omega)) ?_
              refine lv_iconst (v := nI 1) hx hb dX5_leaveInAnger_83 (by decide) ?_
              refine lv_icmp_ne (tgt := 124) hx hb dX5_leaveInAnger_84 (by decide) (fun c84 => ?_) (fun c84 => ?_)
              · refine lv_iinc (v := nI n' - nI 1) (lv' := [(2, .int (nI n' - nI 1)), (1, .int (nI nn)), (0, .ref (b 0))]) hx hb dX5_leaveInAnger_124 hl (k := 0) rfl (kb_pdec (by omega)) (by decide) rfl (fun ls hl => ?_)
                refine lv_goto (tgt := 73) hx hb dX5_leaveInAnger_127 (by decide) ?_
                exact ih_73 n' h vc nn (by omega) (by omega) (by omega) (by omega) (by omega) (oAng_n he (fun q => c84 (kbb_1.mpr q))) (by omega) _ _ hP hD hS _ (lv_sub hl [0, 1, 2] rfl)
              · refine lv_aload_n hx hb dX5_leaveInAnger_87 rfl (lv_at hl 2 rfl) ?_
                refine va_get (D := D) (ci := 5) (v := .ref (b 1)) (C := RX5) (T := TX5) (N := 18) hx hb hts inwX5_leaveInAnger_X5 hown hK hP 0 rfl rfl 0 (by decide) fl7 (fun _ h9 => h9) rfl dX5_leaveInAnger_88 ?_
                refine lv_bipush (v := nI 12) hx hb dX5_leaveInAnger_91 (by decide) ?_
                refine lv_iload_n hx hb dX5_leaveInAnger_93 rfl (lv_at hl 0 rfl) ?_
                refine kb_top (nI n') (by rw [pk_sub (by omega), Nat.add_sub_cancel]) ?_
                refine lv_iadd hx hb dX5_leaveInAnger_94 ?_
                refine kb_top (nI (12 + n')) (nI_add 12 n') ?_
                refine kb_iald hx hb hK hP 1 0 rfl rfl (by decide) (by omega) dX5_leaveInAnger_95 ?_
                refine kb_top (nI (gT h n')) (by have q := hvc.s (j := n') (by omega); rwa [up_n (by omega)] at q) ?_
                refine lv_istore_n (lv' := [(3, .int (nI (gT h n'))), (2, .int (nI (n' + 1) - nI 1)), (1, .int (nI nn)), (0, .ref (b 0))]) hx hb dX5_leaveInAnger_96 rfl hl (by decide) rfl (fun ls hl => ?_)
                refine lv_aload_n hx hb dX5_leaveInAnger_97 rfl (lv_at hl 3 rfl) ?_
                refine lv_iload_n hx hb dX5_leaveInAnger_98 rfl (lv_at hl 0 rfl) ?_
                refine lv_iconst (v := nI 3) hx hb dX5_leaveInAnger_99 (by decide) ?_
                refine lv_iconst (v := nI 3) hx hb dX5_leaveInAnger_100 (by decide) ?_
                refine kb_vV (As := [.int (nI (gT h n')), .int (nI 3), .int (nI 3)]) (rest := []) hx hb hml hts hown hN hK hP hD hS hA (c_X5_lays l D cI b hL iK tL sP nU iS sN sR lE fI sC vc (gT h n') 3 (by omega) (by decide) (nI 3)) gX5_leaveInAnger_X5_lays rfl ⟨rfl, rfl⟩ hdX5_lays ⟨Nat.le_of_ble_eq_true rfl, Nat.le_of_ble_eq_true rfl⟩ [0, 1] [0] rfl rfl rfl (ci := 5) rfl rfl rfl (fun _ => rfl) rfl rfl hl.1 (Nat.le_of_ble_eq_true rfl) dX5_leaveInAnger_101 ⟨Nat.zero_le _, Nat.zero_le _⟩ (fun u H locs hw_101 hP hD hS => ?_)
                have hw_101 : True := hw_101
                have hP : va_P D vwCl [((b 0), .inr (5, [.ref (b 1), .ref (b 2), .ref (b 3), .ref (b 4), .int (nI hL), .ref (b 5), .int (iK), .ref (b 6), .ref (b 7), .int (nI tL), .int (nI sP), .int (nU), .int (iS), .int (sN), .int (sR), .int (lE), .int (fI), .int (sC)])), ((b 1), .inl (cI, 217, .inl (upd vc (49 + 7 * (gT h n') + 3) (nI 3)))), ((b 6), .inl (cI, 12, .inl lc))] H := hP
                have hD : va_D A [((b 0), .inr (5, [.ref (b 1), .ref (b 2), .ref (b 3), .ref (b 4), .int (nI hL), .ref (b 5), .int (iK), .ref (b 6), .ref (b 7), .int (nI tL), .int (nI sP), .int (nU), .int (iS), .int (sN), .int (sR), .int (lE), .int (fI), .int (sC)])), ((b 1), .inl (cI, 217, .inl (upd vc (49 + 7 * (gT h n') + 3) (nI 3)))), ((b 6), .inl (cI, 12, .inl lc))] := hD
                refine lv_aload_n hx hb dX5_leaveInAnger_104 rfl (lv_at hl 3 rfl) ?_
                refine lv_iload_n hx hb dX5_leaveInAnger_105 rfl (lv_at hl 0 rfl) ?_
                refine lv_bipush (v := nI 6) hx hb dX5_leaveInAnger_106 (by decide) ?_
                refine lv_iconst (v := nI 1) hx hb dX5_leaveInAnger_108 (by decide) ?_
                refine kb_vV (As := [.int (nI (gT h n')), .int (nI 6), .int (nI 1)]) (rest := []) hx hb hml hts hown hN hK hP hD hS hA (c_X5_lays l D cI b hL iK tL sP nU iS sN sR lE fI sC (upd vc (49 + 7 * (gT h n') + 3) (nI 3)) (gT h n') 6 (by omega) (by decide) (nI 1)) gX5_leaveInAnger_X5_lays rfl ⟨rfl, rfl⟩ hdX5_lays ⟨Nat.le_of_ble_eq_true rfl, Nat.le_of_ble_eq_true rfl⟩ [0, 1] [0] rfl rfl rfl (ci := 5) rfl rfl rfl (fun _ => rfl) rfl rfl hl.1 (Nat.le_of_ble_eq_true rfl) dX5_leaveInAnger_109 ⟨Nat.zero_le _, Nat.zero_le _⟩ (fun u H locs hw_109 hP hD hS => ?_)
                have hw_109 : True := hw_109
                have hP : va_P D vwCl [((b 0), .inr (5, [.ref (b 1), .ref (b 2), .ref (b 3), .ref (b 4), .int (nI hL), .ref (b 5), .int (iK), .ref (b 6), .ref (b 7), .int (nI tL), .int (nI sP), .int (nU), .int (iS), .int (sN), .int (sR), .int (lE), .int (fI), .int (sC)])), ((b 1), .inl (cI, 217, .inl (upd (upd vc (49 + 7 * (gT h n') + 3) (nI 3)) (49 + 7 * (gT h n') + 6) (nI 1)))), ((b 6), .inl (cI, 12, .inl lc))] H := hP
                have hD : va_D A [((b 0), .inr (5, [.ref (b 1), .ref (b 2), .ref (b 3), .ref (b 4), .int (nI hL), .ref (b 5), .int (iK), .ref (b 6), .ref (b 7), .int (nI tL), .int (nI sP), .int (nU), .int (iS), .int (sN), .int (sR), .int (lE), .int (fI), .int (sC)])), ((b 1), .inl (cI, 217, .inl (upd (upd vc (49 + 7 * (gT h n') + 3) (nI 3)) (49 + 7 * (gT h n') + 6) (nI 1)))), ((b 6), .inl (cI, 12, .inl lc))] := hD
                refine lv_aload_n hx hb dX5_leaveInAnger_112 rfl (lv_at hl 3 rfl) ?_
                refine lv_bipush (v := nI 12) hx hb dX5_leaveInAnger_113 (by decide) ?_
                refine lv_bipush (v := nI 11) hx hb dX5_leaveInAnger_115 (by decide) ?_
                refine lv_iload_n hx hb dX5_leaveInAnger_117 rfl (lv_at hl 1 rfl) ?_
                refine kb_top (nI n') (by rw [pk_sub (by omega), Nat.add_sub_cancel]) ?_
                refine kb_vV (As := [.int (nI 12), .int (nI 11), .int (nI n')]) (rest := []) hx hb hml hts hown hN hK hP hD hS hA (c_X5_takesOff l D cI b hL iK tL sP nU iS sN sR lE fI sC (upd (upd vc (49 + 7 * (gT h n') + 3) (nI 3)) (49 + 7 * (gT h n') + 6) (nI 1)) 12 11 n' (nT h) (by omega) (by decide) (by omega) (by omega) (by have q := hvc.t; rw [up_n (by omega)] at q; exact (up_n (by omega)).trans ((up_n (by omega)).trans q))) gX5_leaveInAnger_X5_takesOff rfl ⟨rfl, rfl⟩ hdX5_takesOff ⟨Nat.le_of_ble_eq_true rfl, Nat.le_of_ble_eq_true rfl⟩ [0, 1] [0] rfl rfl rfl (ci := 5) rfl rfl rfl (fun _ => rfl) rfl rfl hl.1 (Nat.le_of_ble_eq_true rfl) dX5_leaveInAnger_118 ⟨Nat.zero_le _, Nat.zero_le _⟩ (fun u H locs hw_118 hP hD hS => ?_)
                obtain ⟨vo_118, rfl⟩ : ∃ z, z = u := ⟨_, rfl⟩
                have hw_118 : tkO (upd (upd vc (49 + 7 * (gT h n') + 3) (nI 3)) (49 + 7 * (gT h n') + 6) (nI 1)) vo_118 12 11 n' (nT h) := hw_118
                have hP : va_P D vwCl [((b 0), .inr (5, [.ref (b 1), .ref (b 2), .ref (b 3), .ref (b 4), .int (nI hL), .ref (b 5), .int (iK), .ref (b 6), .ref (b 7), .int (nI tL), .int (nI sP), .int (nU), .int (iS), .int (sN), .int (sR), .int (lE), .int (fI), .int (sC)])), ((b 1), .inl (cI, 217, .inl vo_118)), ((b 6), .inl (cI, 12, .inl lc))] H := hP
                have hD : va_D A [((b 0), .inr (5, [.ref (b 1), .ref (b 2), .ref (b 3), .ref (b 4), .int (nI hL), .ref (b 5), .int (iK), .ref (b 6), .ref (b 7), .int (nI tL), .int (nI sP), .int (nU), .int (iS), .int (sN), .int (sR), .int (lE), .int (fI), .int (sC)])), ((b 1), .inl (cI, 217, .inl vo_118)), ((b 6), .inl (cI, 12, .inl lc))] := hD
                refine lv_iinc (v := nI (nn + 1)) (lv' := [(1, .int (nI (nn + 1))), (3, .int (nI (gT h n'))), (2, .int (nI (n' + 1) - nI 1)), (0, .ref (b 0))]) hx hb dX5_leaveInAnger_121 hl (k := 2) rfl (kb_inc1 nn) (by decide) rfl (fun ls hl => ?_)
                refine lv_iinc (v := nI n' - nI 1) (lv' := [(2, .int (nI n' - nI 1)), (1, .int (nI (nn + 1))), (3, .int (nI (gT h n'))), (0, .ref (b 0))]) hx hb dX5_leaveInAnger_124 hl (k := 2) rfl (kb_pdec (by omega)) (by decide) rfl (fun ls hl => ?_)
                refine lv_goto (tgt := 73) hx hb dX5_leaveInAnger_127 (by decide) ?_
                exact ih_73 n' (oRm h n') vo_118 (nn + 1) (oRm_ok hh (by omega)) (show n' ≤ nT h - 1 by omega) (by omega) (rV_rm hvc (by omega) hh.n.2.1 hh.n.2.2 (by omega) hw_118).1 ⟨(show gc h 6 + nI 1 = gc g 6 + nI (nn + 1) from by rw [hcn.1, Int32.add_assoc, nI_add]), (rV_rm hvc (by omega) hh.n.2.1 hh.n.2.2 (by omega) hw_118).2.trans hcn.2⟩ (oAng_y he (kbb_1.mp c84)) (by omega) _ _ hP hD hS _ (lv_sub hl [0, 1, 3] rfl)
        exact L_73 ((nT g) + 1) (nT g) g v 0 ho (Nat.le_refl _) (by omega) hv.six ⟨(Int32.add_zero _).symm, hv.a (by omega) (by omega)⟩ rfl (Nat.lt_succ_self _) _ _ hP hD hS _ (lv_sub hl [0, 1, 2] rfl)
      · have hgk := (ho.t i (by omega)).1
        refine lv_aload_n hx hb dX5_leaveInAnger_15 rfl (lv_at hl 2 rfl) ?_
        refine va_get (D := D) (ci := 5) (v := .ref (b 6)) (C := RX5) (T := TX5) (N := 18) hx hb hts inwX5_leaveInAnger_X5 hown hK hP 0 rfl rfl 7 (by decide) fl25 (fun _ h9 => h9) rfl dX5_leaveInAnger_16 ?_
        refine lv_iload_n hx hb dX5_leaveInAnger_19 rfl (lv_at hl 0 rfl) ?_
        refine lv_aload_n hx hb dX5_leaveInAnger_20 rfl (lv_at hl 2 rfl) ?_
        refine lv_aload_n hx hb dX5_leaveInAnger_21 rfl (lv_at hl 2 rfl) ?_
        refine va_get (D := D) (ci := 5) (v := .ref (b 1)) (C := RX5) (T := TX5) (N := 18) hx hb hts inwX5_leaveInAnger_X5 hown hK hP 0 rfl rfl 0 (by decide) fl7 (fun _ h9 => h9) rfl dX5_leaveInAnger_22 ?_
        refine lv_bipush (v := nI 12) hx hb dX5_leaveInAnger_25 (by decide) ?_
        refine lv_iload_n hx hb dX5_leaveInAnger_27 rfl (lv_at hl 0 rfl) ?_
        refine lv_iadd hx hb dX5_leaveInAnger_28 ?_
        refine kb_top (nI (12 + i)) (nI_add 12 i) ?_
        refine kb_iald hx hb hK hP 1 0 rfl rfl (by decide) (by omega) dX5_leaveInAnger_29 ?_
        refine kb_top (nI (gT g i)) (hv.s (by omega)) ?_
        refine lv_iconst (v := nI 5) hx hb dX5_leaveInAnger_30 (by decide) ?_
        refine kb_vR (As := [.int (nI (gT g i)), .int (nI 5)]) (rest := [.int (nI i), .ref (b 6)]) hx hb hml hts hown hN hK hP hD hS hA (c_X5_get l D cI b hL iK tL sP nU iS sN sR lE fI sC v (gT g i) 5 (by omega) (by decide)) gX5_leaveInAnger_X5_get rfl ⟨rfl, rfl⟩ hdX5_get ⟨Nat.le_of_ble_eq_true rfl, Nat.le_of_ble_eq_true rfl⟩ [0, 1] [0] rfl rfl rfl (ci := 5) rfl rfl rfl rfl rfl hl.1 (Nat.le_of_ble_eq_true rfl) dX5_leaveInAnger_31 ⟨Nat.zero_le _, Nat.zero_le _⟩ (fun H locs hP hS => ?_)
        refine kb_top (gX g 2 (gT g i)) (hv.f (by omega)).2.2.2.2.2.1 ?_
        refine lv_aload_n hx hb dX5_leaveInAnger_34 rfl (lv_at hl 2 rfl) ?_
        refine va_get (D := D) (ci := 5) (v := .ref (b 1)) (C := RX5) (T := TX5) (N := 18) hx hb hts inwX5_leaveInAnger_X5 hown hK hP 0 rfl rfl 0 (by decide) fl7 (fun _ h9 => h9) rfl dX5_leaveInAnger_35 ?_
        refine lv_iconst (v := nI 3) hx hb dX5_leaveInAnger_38 (by decide) ?_
        refine kb_iald hx hb hK hP 1 0 rfl rfl (by decide) (by omega) dX5_leaveInAnger_39 ?_
        refine kb_top (gc g 3) (hv.c (by decide)) ?_
        refine lv_icmp_lt (tgt := 55) hx hb dX5_leaveInAnger_40 (by decide) (fun c40 => ?_) (fun c40 => ?_)
        · refine lv_iconst (v := nI 0) hx hb dX5_leaveInAnger_55 (by decide) ?_
          refine kb_iast hx hb hK hP hD hS 2 0 rfl rfl (by decide) (by omega) dX5_leaveInAnger_56 (fun H locs hP hD hS => ?_)
          have hP : va_P D vwCl [((b 0), .inr (5, [.ref (b 1), .ref (b 2), .ref (b 3), .ref (b 4), .int (nI hL), .ref (b 5), .int (iK), .ref (b 6), .ref (b 7), .int (nI tL), .int (nI sP), .int (nU), .int (iS), .int (sN), .int (sR), .int (lE), .int (fI), .int (sC)])), ((b 1), .inl (cI, 217, .inl v)), ((b 6), .inl (cI, 12, .inl (upd lc i (nI 0))))] H := hP
          have hD : va_D A [((b 0), .inr (5, [.ref (b 1), .ref (b 2), .ref (b 3), .ref (b 4), .int (nI hL), .ref (b 5), .int (iK), .ref (b 6), .ref (b 7), .int (nI tL), .int (nI sP), .int (nU), .int (iS), .int (sN), .int (sR), .int (lE), .int (fI), .int (sC)])), ((b 1), .inl (cI, 217, .inl v)), ((b 6), .inl (cI, 12, .inl (upd lc i (nI 0))))] := hD
          refine lv_iinc (v := nI (i + 1)) (lv' := [(2, .int (nI (i + 1))), (1, .int (nI 0)), (0, .ref (b 0))]) hx hb dX5_leaveInAnger_57 hl (k := 0) rfl (kb_inc1 i) (by decide) rfl (fun ls hl => ?_)
          refine lv_goto (tgt := 4) hx hb dX5_leaveInAnger_60 (by decide) ?_
          exact ih_4 (i + 1) (upd lc i (nI 0)) (by omega) (anL_s hlf (by first | exact ang_a c40 | exact ang_b c48 | exact ang_c c40 c48)) (by omega) _ _ hP hD hS _ (lv_sub hl [0, 1, 2] rfl)
        · refine lv_aload_n hx hb dX5_leaveInAnger_43 rfl (lv_at hl 2 rfl) ?_
          refine lv_iload_n hx hb dX5_leaveInAnger_44 rfl (lv_at hl 0 rfl) ?_
          refine kb_vR (As := [.int (nI i)]) (rest := [.int (nI i), .ref (b 6)]) hx hb hml hts hown hN hK hP hD hS hA (c_X5_isSlightedAt l D cI b hL iK tL sP nU iS sN sR lE fI sC v g hv ho i (by omega)) gX5_leaveInAnger_X5_isSlightedAt rfl ⟨rfl, rfl⟩ hdX5_isSlightedAt ⟨Nat.le_of_ble_eq_true rfl, Nat.le_of_ble_eq_true rfl⟩ [0, 1] [0] rfl rfl rfl (ci := 5) rfl rfl rfl rfl rfl hl.1 (Nat.le_of_ble_eq_true rfl) dX5_leaveInAnger_45 ⟨Nat.zero_le _, Nat.zero_le _⟩ (fun H locs hP hS => ?_)
          refine kb_bif_eq (tgt := 55) hx hb dX5_leaveInAnger_48 (by decide) (fun c48 => ?_) (fun c48 => ?_)
          · refine lv_iconst (v := nI 0) hx hb dX5_leaveInAnger_55 (by decide) ?_
            refine kb_iast hx hb hK hP hD hS 2 0 rfl rfl (by decide) (by omega) dX5_leaveInAnger_56 (fun H locs hP hD hS => ?_)
            have hP : va_P D vwCl [((b 0), .inr (5, [.ref (b 1), .ref (b 2), .ref (b 3), .ref (b 4), .int (nI hL), .ref (b 5), .int (iK), .ref (b 6), .ref (b 7), .int (nI tL), .int (nI sP), .int (nU), .int (iS), .int (sN), .int (sR), .int (lE), .int (fI), .int (sC)])), ((b 1), .inl (cI, 217, .inl v)), ((b 6), .inl (cI, 12, .inl (upd lc i (nI 0))))] H := hP
            have hD : va_D A [((b 0), .inr (5, [.ref (b 1), .ref (b 2), .ref (b 3), .ref (b 4), .int (nI hL), .ref (b 5), .int (iK), .ref (b 6), .ref (b 7), .int (nI tL), .int (nI sP), .int (nU), .int (iS), .int (sN), .int (sR), .int (lE), .int (fI), .int (sC)])), ((b 1), .inl (cI, 217, .inl v)), ((b 6), .inl (cI, 12, .inl (upd lc i (nI 0))))] := hD
            refine lv_iinc (v := nI (i + 1)) (lv' := [(2, .int (nI (i + 1))), (1, .int (nI 0)), (0, .ref (b 0))]) hx hb dX5_leaveInAnger_57 hl (k := 0) rfl (kb_inc1 i) (by decide) rfl (fun ls hl => ?_)
            refine lv_goto (tgt := 4) hx hb dX5_leaveInAnger_60 (by decide) ?_
            exact ih_4 (i + 1) (upd lc i (nI 0)) (by omega) (anL_s hlf (by first | exact ang_a c40 | exact ang_b c48 | exact ang_c c40 c48)) (by omega) _ _ hP hD hS _ (lv_sub hl [0, 1, 2] rfl)
          · refine lv_iconst (v := nI 1) hx hb dX5_leaveInAnger_51 (by decide) ?_
            refine lv_goto (tgt := 56) hx hb dX5_leaveInAnger_52 (by decide) ?_
            refine kb_iast hx hb hK hP hD hS 2 0 rfl rfl (by decide) (by omega) dX5_leaveInAnger_56 (fun H locs hP hD hS => ?_)
            have hP : va_P D vwCl [((b 0), .inr (5, [.ref (b 1), .ref (b 2), .ref (b 3), .ref (b 4), .int (nI hL), .ref (b 5), .int (iK), .ref (b 6), .ref (b 7), .int (nI tL), .int (nI sP), .int (nU), .int (iS), .int (sN), .int (sR), .int (lE), .int (fI), .int (sC)])), ((b 1), .inl (cI, 217, .inl v)), ((b 6), .inl (cI, 12, .inl (upd lc i (nI 1))))] H := hP
            have hD : va_D A [((b 0), .inr (5, [.ref (b 1), .ref (b 2), .ref (b 3), .ref (b 4), .int (nI hL), .ref (b 5), .int (iK), .ref (b 6), .ref (b 7), .int (nI tL), .int (nI sP), .int (nU), .int (iS), .int (sN), .int (sR), .int (lE), .int (fI), .int (sC)])), ((b 1), .inl (cI, 217, .inl v)), ((b 6), .inl (cI, 12, .inl (upd lc i (nI 1))))] := hD
            refine lv_iinc (v := nI (i + 1)) (lv' := [(2, .int (nI (i + 1))), (1, .int (nI 0)), (0, .ref (b 0))]) hx hb dX5_leaveInAnger_57 hl (k := 0) rfl (kb_inc1 i) (by decide) rfl (fun ls hl => ?_)
            refine lv_goto (tgt := 4) hx hb dX5_leaveInAnger_60 (by decide) ?_
            exact ih_4 (i + 1) (upd lc i (nI 1)) (by omega) (anL_s hlf (by first | exact ang_a c40 | exact ang_b c48 | exact ang_c c40 c48)) (by omega) _ _ hP hD hS _ (lv_sub hl [0, 1, 2] rfl)
  exact L_4 ((nT g - 0) + 1) 0 lf (by omega) (fun j h => absurd h (Nat.not_lt_zero j)) (Nat.lt_succ_self _) _ _ hP hD hS _ (lv_sub hl [0, 1, 2] rfl)
