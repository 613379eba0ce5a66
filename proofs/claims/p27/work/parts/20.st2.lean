abbrev rmX3_letAngryLeave : Room := { frames := 2, cells := 0, slots := 0, locals := 45 }
theorem hdX3_letAngryLeave : yX3_letAngryLeave.cls = RX3 ∧ yX3_letAngryLeave.cls ≠ "java/lang/invoke/MethodHandle" ∧ yX3_letAngryLeave.cls ≠ "java/lang/invoke/VarHandle" ∧ (parseMethodDescriptor yX3_letAngryLeave.desc).map (fun d => d.parameters.length) = some 0 := by decide +kernel
theorem inwX3_letAngryLeave_X3 : ∀ w ∈ wsX30, w ∈ wsX3_letAngryLeave := fun w h => List.mem_cons_of_mem _ (List.mem_append_left _ (List.mem_append_right _ h))
theorem inwX3_letAngryLeave_X2 : ∀ w ∈ wsX20, w ∈ wsX3_letAngryLeave := fun w h => List.mem_cons_of_mem _ (List.mem_append_right _ h)
set_option maxHeartbeats 4000000 in
set_option maxRecDepth 100000 in
theorem c_X3_letAngryLeave (l : Launch) (D : va_G) (cI : ClassId) (a : Nat → Nat) (f : Nat → Nat → Int32) (g : Sg) (hrs : rS f g) (ho : Ok g) : kb_V (S := (Nat → Nat → Int32)) D [(cI, .int)] l yX3_letAngryLeave wsX3_letAngryLeave rmX3_letAngryLeave [.ref (a 0)] [((a 0), .inr (3, [.ref (a 1), .ref (a 2), .ref (a 3), .ref (a 4), .ref (a 6), .int (nI (nK g)), .int (gc g 4), .int (gc g 7), .int (gc g 10)])), ((a 1), .inl (cI, 216, .inl (f 0))), ((a 2), .inl (cI, 24, .inl (f 1))), ((a 3), .inl (cI, 4, .inl (f 2))), ((a 4), .inr (2, [.ref (a 5), .int (nI (nT g))])), ((a 5), .inl (cI, 12, .inl (f 3))), ((a 6), .inr (2, [.ref (a 7), .int (nI (nW g))])), ((a 7), .inl (cI, 24, .inl (f 4)))] (fun (u : (Nat → Nat → Int32)) => rS u (oAng (ang g) (nT g) g)) (fun (u : (Nat → Nat → Int32)) => [((a 0), .inr (3, [.ref (a 1), .ref (a 2), .ref (a 3), .ref (a 4), .ref (a 6), .int (nI (nK (oAng (ang g) (nT g) g))), .int (gc (oAng (ang g) (nT g) g) 4), .int (gc (oAng (ang g) (nT g) g) 7), .int (gc (oAng (ang g) (nT g) g) 10)])), ((a 1), .inl (cI, 216, .inl (u 0))), ((a 2), .inl (cI, 24, .inl (u 1))), ((a 3), .inl (cI, 4, .inl (u 2))), ((a 4), .inr (2, [.ref (a 5), .int (nI (nT (oAng (ang g) (nT g) g)))])), ((a 5), .inl (cI, 12, .inl (u 3))), ((a 6), .inr (2, [.ref (a 7), .int (nI (nW (oAng (ang g) (nT g) g)))])), ((a 7), .inl (cI, 24, .inl (u 4)))]) 0 0 := by
  refine kb_V_of (cc := cX3_letAngryLeave) (maxL := 3) (ret := none) (by decide) rfl (Nat.le_of_ble_eq_true rfl) ?_
  intro p e s mm args below meth c A hx hb hml hr hts hown hlocks hnm hA hN hK hP hD hS ls hl Q hQ
  have hl : lv_has ls 3 [(0, .ref (a 0))] := hl
  have hP : va_P D vwCl [((a 0), .inr (3, [.ref (a 1), .ref (a 2), .ref (a 3), .ref (a 4), .ref (a 6), .int (nI (nK g)), .int (gc g 4), .int (gc g 7), .int (gc g 10)])), ((a 1), .inl (cI, 216, .inl (f 0))), ((a 2), .inl (cI, 24, .inl (f 1))), ((a 3), .inl (cI, 4, .inl (f 2))), ((a 4), .inr (2, [.ref (a 5), .int (nI (nT g))])), ((a 5), .inl (cI, 12, .inl (f 3))), ((a 6), .inr (2, [.ref (a 7), .int (nI (nW g))])), ((a 7), .inl (cI, 24, .inl (f 4)))] s.heap := hP
  have hD : va_D A [((a 0), .inr (3, [.ref (a 1), .ref (a 2), .ref (a 3), .ref (a 4), .ref (a 6), .int (nI (nK g)), .int (gc g 4), .int (gc g 7), .int (gc g 10)])), ((a 1), .inl (cI, 216, .inl (f 0))), ((a 2), .inl (cI, 24, .inl (f 1))), ((a 3), .inl (cI, 4, .inl (f 2))), ((a 4), .inr (2, [.ref (a 5), .int (nI (nT g))])), ((a 5), .inl (cI, 12, .inl (f 3))), ((a 6), .inr (2, [.ref (a 7), .int (nI (nW g))])), ((a 7), .inl (cI, 24, .inl (f 4)))] := hD
  have fl26 := hts (.fieldLink RX3 26 "KingsBanquet$State" "table" "LKingsBanquet$Row;") (by decide +kernel)
  obtain ⟨hF, hW, hC, hT, hM⟩ := id hrs
  have hn := ho.n
  refine lv_iconst (v := nI 0) hx hb dX3_letAngryLeave_0 (by decide) ?_
  refine lv_istore_n (lv' := [(1, .int (nI 0)), (0, .ref (a 0))]) hx hb dX3_letAngryLeave_1 rfl hl (by decide) rfl (fun ls hl => ?_)
  have L_2 : ∀ (z : Nat) (y : Nat) (Fc : Nat → Int32), (y ≤ nT g) → (anR (f 0) Fc g y) → (nT g - y) < z → ∀ (H : Heap) (locs : List Loc), va_P D vwCl [((a 0), .inr (3, [.ref (a 1), .ref (a 2), .ref (a 3), .ref (a 4), .ref (a 6), .int (nI (nK g)), .int (gc g 4), .int (gc g 7), .int (gc g 10)])), ((a 1), .inl (cI, 216, .inl Fc)), ((a 2), .inl (cI, 24, .inl (f 1))), ((a 3), .inl (cI, 4, .inl (f 2))), ((a 4), .inr (2, [.ref (a 5), .int (nI (nT g))])), ((a 5), .inl (cI, 12, .inl (f 3))), ((a 6), .inr (2, [.ref (a 7), .int (nI (nW g))])), ((a 7), .inl (cI, 24, .inl (f 4)))] H → va_D A [((a 0), .inr (3, [.ref (a 1), .ref (a 2), .ref (a 3), .ref (a 4), .ref (a 6), .int (nI (nK g)), .int (gc g 4), .int (gc g 7), .int (gc g 10)])), ((a 1), .inl (cI, 216, .inl Fc)), ((a 2), .inl (cI, 24, .inl (f 1))), ((a 3), .inl (cI, 4, .inl (f 2))), ((a 4), .inr (2, [.ref (a 5), .int (nI (nT g))])), ((a 5), .inl (cI, 12, .inl (f 3))), ((a 6), .inr (2, [.ref (a 7), .int (nI (nW g))])), ((a 7), .inl (cI, 24, .inl (f 4)))] → va_S A s.heap H locs → ∀ ls : Array Slot, lv_has ls 3 [(1, .int (nI y)), (0, .ref (a 0))] → W p l e rmX3_letAngryLeave s mm args below meth c H locs 0 0 Q (F0 mm 2 ls []) := by
    intro z
    induction z with
    | zero =>
      intro y Fc _ _ hz
      exact absurd hz (Nat.not_lt_zero _)
    | succ z ih_2 =>
      intro y Fc hi hAn hz H locs hP hD hS ls hl
      refine lv_iload_n hx hb dX3_letAngryLeave_2 rfl (lv_at hl 0 rfl) ?_
      refine lv_aload_n hx hb dX3_letAngryLeave_3 rfl (lv_at hl 1 rfl) ?_
      refine va_get (D := D) (ci := 3) (v := .ref (a 4)) (C := RX3) (T := TX3) (N := 9) hx hb hts inwX3_letAngryLeave_X3 hown hK hP 0 rfl rfl 3 (by decide) fl26 (fun _ h9 => h9) rfl dX3_letAngryLeave_4 ?_
      refine kb_vR (As := []) (rest := [.int (nI y)]) hx hb hml hts hown hN hK hP hD hS hA (c_X2_size l D cI (fun i => a (4 + i)) 12 (f 3) (nT g)) gX3_letAngryLeave_X2_size rfl ⟨rfl, rfl⟩ hdX2_size ⟨Nat.le_of_ble_eq_true rfl, Nat.le_of_ble_eq_true rfl⟩ [4, 5] [0] rfl rfl rfl (ci := 2) rfl rfl rfl rfl rfl hl.1 (Nat.le_of_ble_eq_true rfl) dX3_letAngryLeave_7 ⟨Nat.zero_le _, Nat.zero_le _⟩ (fun H locs hP hS => ?_)
      refine kb_icmp_ge (tgt := 59) hx hb dX3_letAngryLeave_10 (by decide) (by omega) (by omega) (fun c10 => ?_) (fun c10 => ?_)
      · refine lv_aload_n hx hb dX3_letAngryLeave_59 rfl (lv_at hl 1 rfl) ?_
        refine va_get (D := D) (ci := 3) (v := .ref (a 4)) (C := RX3) (T := TX3) (N := 9) hx hb hts inwX3_letAngryLeave_X3 hown hK hP 0 rfl rfl 3 (by decide) fl26 (fun _ h9 => h9) rfl dX3_letAngryLeave_60 ?_
        refine kb_vR (As := []) (rest := []) hx hb hml hts hown hN hK hP hD hS hA (c_X2_size l D cI (fun i => a (4 + i)) 12 (f 3) (nT g)) gX3_letAngryLeave_X2_size rfl ⟨rfl, rfl⟩ hdX2_size ⟨Nat.le_of_ble_eq_true rfl, Nat.le_of_ble_eq_true rfl⟩ [4, 5] [0] rfl rfl rfl (ci := 2) rfl rfl rfl rfl rfl hl.1 (Nat.le_of_ble_eq_true rfl) dX3_letAngryLeave_63 ⟨Nat.zero_le _, Nat.zero_le _⟩ (fun H locs hP hS => ?_)
        refine lv_iconst (v := nI 1) hx hb dX3_letAngryLeave_66 (by decide) ?_
        refine lv_isub hx hb dX3_letAngryLeave_67 ?_
        refine lv_istore_n (lv' := [(1, .int (nI (nT g) - nI 1)), (0, .ref (a 0))]) hx hb dX3_letAngryLeave_68 rfl hl (by decide) rfl (fun ls hl => ?_)
        have L_69 : ∀ (z : Nat) (n : Nat) (h : Sg) (Fc : Nat → Int32) (Tc : Nat → Int32), (awR Fc g h n) → (rT Tc h) → ((∀ i, i ≠ 6 → gc h i = gc g i) ∧ nW h = nW g ∧ gW h = gW g) → n < z → ∀ (H : Heap) (locs : List Loc), va_P D vwCl [((a 0), .inr (3, [.ref (a 1), .ref (a 2), .ref (a 3), .ref (a 4), .ref (a 6), .int (nI (nK h)), .int (gc h 4), .int (gc h 7), .int (gc h 10)])), ((a 1), .inl (cI, 216, .inl Fc)), ((a 2), .inl (cI, 24, .inl (f 1))), ((a 3), .inl (cI, 4, .inl (f 2))), ((a 4), .inr (2, [.ref (a 5), .int (nI (nT h))])), ((a 5), .inl (cI, 12, .inl Tc)), ((a 6), .inr (2, [.ref (a 7), .int (nI (nW h))])), ((a 7), .inl (cI, 24, .inl (f 4)))] H → va_D A [((a 0), .inr (3, [.ref (a 1), .ref (a 2), .ref (a 3), .ref (a 4), .ref (a 6), .int (nI (nK h)), .int (gc h 4), .int (gc h 7), .int (gc h 10)])), ((a 1), .inl (cI, 216, .inl Fc)), ((a 2), .inl (cI, 24, .inl (f 1))), ((a 3), .inl (cI, 4, .inl (f 2))), ((a 4), .inr (2, [.ref (a 5), .int (nI (nT h))])), ((a 5), .inl (cI, 12, .inl Tc)), ((a 6), .inr (2, [.ref (a 7), .int (nI (nW h))])), ((a 7), .inl (cI, 24, .inl (f 4)))] → va_S A s.heap H locs → ∀ ls : Array Slot, lv_has ls 3 [(1, .int (nI n - nI 1)), (0, .ref (a 0))] → W p l e rmX3_letAngryLeave s mm args below meth c H locs 0 0 Q (F0 mm 69 ls []) := by
          intro z
          induction z with
          | zero =>
            intro n h Fc Tc _ _ _ hz
            exact absurd hz (Nat.not_lt_zero _)
          | succ z ih_69 =>
            intro n h Fc Tc hAw hTc hx1 hz H locs hP hD hS ls hl
            refine lv_iload_n hx hb dX3_letAngryLeave_69 rfl (lv_at hl 0 rfl) ?_
            refine kb_pif_lt (tgt := 114) hx hb dX3_letAngryLeave_70 (by decide) (by have := hAw.2.2.2.2.1; omega) (fun c70 => ?_) (fun c70 => ?_)
            · subst c70
              have hE := awR_end hAw
              exact kb_vret (D := D) hQ hx hb hr hlocks hK hP hD hS dX3_letAngryLeave_114 (kf5 Fc (f 1) (f 2) Tc (f 4)) (by rw [← hE.2] <;> rfl) (Nat.le_refl _) (Nat.le_refl _) (show rS (kf5 Fc (f 1) (f 2) Tc (f 4)) (oAng (ang g) (nT g) g) from (by rw [← hE.2]; exact ⟨hE.1, rW_of hAw.2.2.2.2.2.1 hAw.2.2.2.2.2.2.1 hW, rC_of (fun i hi => hx1.1 i (by omega)) hC, hTc, rM_of hx1.2.1 hx1.2.2 hM⟩))
            · obtain ⟨n', rfl⟩ : ∃ n', n = n' + 1 := ⟨n - 1, by omega⟩
              have hnn := hAw.2.2.2.1
              have hh := hAw.2.2.2.2.2.2.2.1
              have hhk := hAw.2.2.2.2.2.1
              have hhn := hh.n
              refine lv_aload_n hx hb dX3_letAngryLeave_73 rfl (lv_at hl 1 rfl) ?_
              refine va_get (D := D) (ci := 3) (v := .ref (a 4)) (C := RX3) (T := TX3) (N := 9) hx hb hts inwX3_letAngryLeave_X3 hown hK hP 0 rfl rfl 3 (by decide) fl26 (fun _ h9 => h9) rfl dX3_letAngryLeave_74 ?_
              refine lv_iload_n hx hb dX3_letAngryLeave_77 rfl (lv_at hl 0 rfl) ?_
              refine kb_top (nI n') (by rw [pk_sub (by omega), Nat.add_sub_cancel]) ?_
              refine kb_vR (As := [.int (nI n')]) (rest := []) hx hb hml hts hown hN hK hP hD hS hA (c_X2_at l D cI (fun i => a (4 + i)) 12 Tc (nT h) (nI n') hhn.2.1 (by decide)) gX3_letAngryLeave_X2_at rfl ⟨rfl, rfl⟩ hdX2_at ⟨Nat.le_of_ble_eq_true rfl, Nat.le_of_ble_eq_true rfl⟩ [4, 5] [0] rfl rfl rfl (ci := 2) rfl rfl rfl rfl rfl hl.1 (Nat.le_of_ble_eq_true rfl) dX3_letAngryLeave_78 ⟨Nat.zero_le _, Nat.zero_le _⟩ (fun H locs hP hS => ?_)
              refine kb_top (nI (gT h n')) ((rAt_in (by omega) (by omega)).trans (hTc _ (by omega))) ?_
              refine lv_istore_n (lv' := [(2, .int (nI (gT h n'))), (1, .int (nI (n' + 1) - nI 1)), (0, .ref (a 0))]) hx hb dX3_letAngryLeave_81 rfl hl (by decide) rfl (fun ls hl => ?_)
              refine lv_aload_n hx hb dX3_letAngryLeave_82 rfl (lv_at hl 2 rfl) ?_
              refine lv_iload_n hx hb dX3_letAngryLeave_83 rfl (lv_at hl 0 rfl) ?_
              refine lv_bipush (v := nI 8) hx hb dX3_letAngryLeave_84 (by decide) ?_
              refine kb_vR (As := [.int (nI (gT h n')), .int (nI 8)]) (rest := []) hx hb hml hts hown hN hK hP hD hS hA (c_X3_fact l D cI a (nK h) (gc h 4) (gc h 7) (gc h 10) Fc (gT h n') 8 (by have := (hh.t n' (by omega)).1; omega) (by omega) (by omega)) gX3_letAngryLeave_X3_fact rfl ⟨rfl, rfl⟩ hdX3_fact ⟨Nat.le_of_ble_eq_true rfl, Nat.le_of_ble_eq_true rfl⟩ [0, 1] [0] rfl rfl rfl (ci := 3) rfl rfl rfl rfl rfl hl.1 (Nat.le_of_ble_eq_true rfl) dX3_letAngryLeave_86 ⟨Nat.zero_le _, Nat.zero_le _⟩ (fun H locs hP hS => ?_)
              refine kb_top (kb_b (ang g n')) (awR_8 ho hAw) ?_
              refine lv_iconst (v := nI 1) hx hb dX3_letAngryLeave_89 (by decide) ?_
              refine lv_icmp_ne (tgt := 108) hx hb dX3_letAngryLeave_90 (by decide) (fun c90 => ?_) (fun c90 => ?_)
              · refine lv_iinc (v := nI n' - nI 1) (lv' := [(1, .int (nI n' - nI 1)), (2, .int (nI (gT h n'))), (0, .ref (a 0))]) hx hb dX3_letAngryLeave_108 hl (k := 1) rfl (kb_pdec (by omega)) (by decide) rfl (fun ls hl => ?_)
                refine lv_goto (tgt := 69) hx hb dX3_letAngryLeave_111 (by decide) ?_
                exact ih_69 n' h Fc Tc (awR_n ho hAw (by cases q : ang g n' with | false => rfl | true => exact absurd (kbb_1.mpr q) c90)) hTc hx1 (by omega) _ _ hP hD hS _ (lv_sub hl [0, 2] rfl)
              · refine lv_aload_n hx hb dX3_letAngryLeave_93 rfl (lv_at hl 2 rfl) ?_
                refine va_get (D := D) (ci := 3) (v := .ref (a 4)) (C := RX3) (T := TX3) (N := 9) hx hb hts inwX3_letAngryLeave_X3 hown hK hP 0 rfl rfl 3 (by decide) fl26 (fun _ h9 => h9) rfl dX3_letAngryLeave_94 ?_
                refine lv_iload_n hx hb dX3_letAngryLeave_97 rfl (lv_at hl 0 rfl) ?_
                refine kb_vV (As := [.int (nI (gT h n'))]) (rest := []) hx hb hml hts hown hN hK hP hD hS hA (c_X2_remove l D cI (fun i => a (4 + i)) 12 Tc (nT h) (nI (gT h n')) n' (by omega) (hTc _ (by omega)) (rT_fst hh hTc (by omega)) hhn.2.1 (by decide)) gX3_letAngryLeave_X2_remove rfl ⟨rfl, rfl⟩ hdX2_remove ⟨Nat.le_of_ble_eq_true rfl, Nat.le_of_ble_eq_true rfl⟩ [4, 5] [0] rfl rfl rfl (ci := 2) rfl rfl rfl (fun _ => rfl) rfl rfl hl.1 (Nat.le_of_ble_eq_true rfl) dX3_letAngryLeave_98 ⟨Nat.zero_le _, Nat.zero_le _⟩ (fun u H locs hw_98 hP hD hS => ?_)
                have hw_98 : True := hw_98
                have hP : va_P D vwCl [((a 0), .inr (3, [.ref (a 1), .ref (a 2), .ref (a 3), .ref (a 4), .ref (a 6), .int (nI (nK h)), .int (gc h 4), .int (gc h 7), .int (gc h 10)])), ((a 1), .inl (cI, 216, .inl Fc)), ((a 2), .inl (cI, 24, .inl (f 1))), ((a 3), .inl (cI, 4, .inl (f 2))), ((a 4), .inr (2, [.ref (a 5), .int (nI ((nT h) - 1))])), ((a 5), .inl (cI, 12, .inl (rDel Tc n' ((nT h) - 1)))), ((a 6), .inr (2, [.ref (a 7), .int (nI (nW h))])), ((a 7), .inl (cI, 24, .inl (f 4)))] H := hP
                have hD : va_D A [((a 0), .inr (3, [.ref (a 1), .ref (a 2), .ref (a 3), .ref (a 4), .ref (a 6), .int (nI (nK h)), .int (gc h 4), .int (gc h 7), .int (gc h 10)])), ((a 1), .inl (cI, 216, .inl Fc)), ((a 2), .inl (cI, 24, .inl (f 1))), ((a 3), .inl (cI, 4, .inl (f 2))), ((a 4), .inr (2, [.ref (a 5), .int (nI ((nT h) - 1))])), ((a 5), .inl (cI, 12, .inl (rDel Tc n' ((nT h) - 1)))), ((a 6), .inr (2, [.ref (a 7), .int (nI (nW h))])), ((a 7), .inl (cI, 24, .inl (f 4)))] := hD
                refine lv_aload_n hx hb dX3_letAngryLeave_101 rfl (lv_at hl 2 rfl) ?_
                refine lv_iload_n hx hb dX3_letAngryLeave_102 rfl (lv_at hl 0 rfl) ?_
                refine lv_iconst (v := nI 3) hx hb dX3_letAngryLeave_103 (by decide) ?_
                refine lv_iconst (v := nI 3) hx hb dX3_letAngryLeave_104 (by decide) ?_
                refine kb_vV (As := [.int (nI (gT h n')), .int (nI 3), .int (nI 3)]) (rest := []) hx hb hml hts hown hN hK hP hD hS hA (c_X3_setFact l D cI a (nK h) (gc h 4) (gc h 7) (gc h 10) Fc (gT h n') 3 (nI 3) (by have := (hh.t n' (by omega)).1; omega) (by omega) (by omega)) gX3_letAngryLeave_X3_setFact rfl ⟨rfl, rfl⟩ hdX3_setFact ⟨Nat.le_of_ble_eq_true rfl, Nat.le_of_ble_eq_true rfl⟩ [0, 1] [0] rfl rfl rfl (ci := 3) rfl rfl rfl (fun _ => rfl) rfl rfl hl.1 (Nat.le_of_ble_eq_true rfl) dX3_letAngryLeave_105 ⟨Nat.zero_le _, Nat.zero_le _⟩ (fun u H locs hw_105 hP hD hS => ?_)
                have hw_105 : True := hw_105
                have hP : va_P D vwCl [((a 0), .inr (3, [.ref (a 1), .ref (a 2), .ref (a 3), .ref (a 4), .ref (a 6), .int (nI (nK h)), .int ((gc h 4)), .int ((gc h 7)), .int ((gc h 10))])), ((a 1), .inl (cI, 216, .inl (upd Fc ((gT h n') * 9 + 3) (nI 3)))), ((a 2), .inl (cI, 24, .inl (f 1))), ((a 3), .inl (cI, 4, .inl (f 2))), ((a 4), .inr (2, [.ref (a 5), .int (nI ((nT h) - 1))])), ((a 5), .inl (cI, 12, .inl (rDel Tc n' ((nT h) - 1)))), ((a 6), .inr (2, [.ref (a 7), .int (nI (nW h))])), ((a 7), .inl (cI, 24, .inl (f 4)))] H := hP
                have hD : va_D A [((a 0), .inr (3, [.ref (a 1), .ref (a 2), .ref (a 3), .ref (a 4), .ref (a 6), .int (nI (nK h)), .int ((gc h 4)), .int ((gc h 7)), .int ((gc h 10))])), ((a 1), .inl (cI, 216, .inl (upd Fc ((gT h n') * 9 + 3) (nI 3)))), ((a 2), .inl (cI, 24, .inl (f 1))), ((a 3), .inl (cI, 4, .inl (f 2))), ((a 4), .inr (2, [.ref (a 5), .int (nI ((nT h) - 1))])), ((a 5), .inl (cI, 12, .inl (rDel Tc n' ((nT h) - 1)))), ((a 6), .inr (2, [.ref (a 7), .int (nI (nW h))])), ((a 7), .inl (cI, 24, .inl (f 4)))] := hD
                refine lv_iinc (v := nI n' - nI 1) (lv' := [(1, .int (nI n' - nI 1)), (2, .int (nI (gT h n'))), (0, .ref (a 0))]) hx hb dX3_letAngryLeave_108 hl (k := 1) rfl (kb_pdec (by omega)) (by decide) rfl (fun ls hl => ?_)
                refine lv_goto (tgt := 69) hx hb dX3_letAngryLeave_111 (by decide) ?_
                exact ih_69 n' (oRm h n') (upd Fc ((gT h n') * 9 + 3) (nI 3)) (rDel Tc n' ((nT h) - 1)) (awR_y ho hAw (kbb_1.mp c90)) (rT_del hTc rfl rfl) ⟨fun i hi => (up_n hi).trans (hx1.1 i hi), hx1.2⟩ (by omega) _ _ hP hD hS _ (lv_sub hl [0, 2] rfl)
        exact L_69 ((nT g) + 1) (nT g) g Fc (f 3) (awR_0 ho hF (by rw [show nT g = y by omega]; exact hAn)) hT ⟨fun _ _ => rfl, rfl, rfl⟩ (Nat.lt_succ_self _) _ _ hP hD hS _ (lv_sub hl [0, 1] rfl)
      · refine lv_aload_n hx hb dX3_letAngryLeave_13 rfl (lv_at hl 1 rfl) ?_
        refine va_get (D := D) (ci := 3) (v := .ref (a 4)) (C := RX3) (T := TX3) (N := 9) hx hb hts inwX3_letAngryLeave_X3 hown hK hP 0 rfl rfl 3 (by decide) fl26 (fun _ h9 => h9) rfl dX3_letAngryLeave_14 ?_
        refine lv_iload_n hx hb dX3_letAngryLeave_17 rfl (lv_at hl 0 rfl) ?_
        refine kb_vR (As := [.int (nI y)]) (rest := []) hx hb hml hts hown hN hK hP hD hS hA (c_X2_at l D cI (fun i => a (4 + i)) 12 (f 3) (nT g) (nI y) hn.2.1 (by decide)) gX3_letAngryLeave_X2_at rfl ⟨rfl, rfl⟩ hdX2_at ⟨Nat.le_of_ble_eq_true rfl, Nat.le_of_ble_eq_true rfl⟩ [4, 5] [0] rfl rfl rfl (ci := 2) rfl rfl rfl rfl rfl hl.1 (Nat.le_of_ble_eq_true rfl) dX3_letAngryLeave_18 ⟨Nat.zero_le _, Nat.zero_le _⟩ (fun H locs hP hS => ?_)
        refine kb_top (nI (gT g y)) ((rAt_in (by omega) (by omega)).trans (hT _ (by omega))) ?_
        refine lv_istore_n (lv' := [(2, .int (nI (gT g y))), (1, .int (nI y)), (0, .ref (a 0))]) hx hb dX3_letAngryLeave_21 rfl hl (by decide) rfl (fun ls hl => ?_)
        refine lv_aload_n hx hb dX3_letAngryLeave_22 rfl (lv_at hl 2 rfl) ?_
        refine lv_iload_n hx hb dX3_letAngryLeave_23 rfl (lv_at hl 0 rfl) ?_
        refine lv_bipush (v := nI 7) hx hb dX3_letAngryLeave_24 (by decide) ?_
        refine kb_vR (As := [.int (nI (gT g y)), .int (nI 7)]) (rest := []) hx hb hml hts hown hN hK hP hD hS hA (c_X3_fact l D cI a (nK g) (gc g 4) (gc g 7) (gc g 10) Fc (gT g y) 7 (by have := (ho.t _ c10).1; omega) (by omega) (by omega)) gX3_letAngryLeave_X3_fact rfl ⟨rfl, rfl⟩ hdX3_fact ⟨Nat.le_of_ble_eq_true rfl, Nat.le_of_ble_eq_true rfl⟩ [0, 1] [0] rfl rfl rfl (ci := 3) rfl rfl rfl rfl rfl hl.1 (Nat.le_of_ble_eq_true rfl) dX3_letAngryLeave_26 ⟨Nat.zero_le _, Nat.zero_le _⟩ (fun H locs hP hS => ?_)
        refine kb_top (gX g 2 (gT g y)) (anR_7 hF hAn (ok_t ho (by omega))) ?_
        refine lv_aload_n hx hb dX3_letAngryLeave_29 rfl (lv_at hl 2 rfl) ?_
        refine lv_iconst (v := nI 3) hx hb dX3_letAngryLeave_30 (by decide) ?_
        refine kb_vR (As := [.int (nI 3)]) (rest := [.int (gX g 2 (gT g y))]) hx hb hml hts hown hN hK hP hD hS hA (c_X3_setting l D cI a (nK g) (gc g 4) (gc g 7) (gc g 10) (f 2) 3 (by first | assumption | omega)) gX3_letAngryLeave_X3_setting rfl ⟨rfl, rfl⟩ hdX3_setting ⟨Nat.le_of_ble_eq_true rfl, Nat.le_of_ble_eq_true rfl⟩ [0, 3] [0] rfl rfl rfl (ci := 3) rfl rfl rfl rfl rfl hl.1 (Nat.le_of_ble_eq_true rfl) dX3_letAngryLeave_31 ⟨Nat.zero_le _, Nat.zero_le _⟩ (fun H locs hP hS => ?_)
        refine kb_top (gc g 3) (hC 3 (by omega)) ?_
        refine lv_icmp_lt (tgt := 53) hx hb dX3_letAngryLeave_34 (by decide) (fun c34 => ?_) (fun c34 => ?_)
        · refine lv_iinc (v := nI (y + 1)) (lv' := [(1, .int (nI (y + 1))), (2, .int (nI (gT g y))), (0, .ref (a 0))]) hx hb dX3_letAngryLeave_53 hl (k := 1) rfl (kb_inc1 y) (by decide) rfl (fun ls hl => ?_)
          refine lv_goto (tgt := 2) hx hb dX3_letAngryLeave_56 (by decide) ?_
          exact ih_2 (y + 1) Fc (by omega) (by first | exact anR_0 hAn (by unfold ang; rw [decide_eq_true c34]; rfl) | exact anR_0 hAn (by unfold ang; rw [c42, Bool.and_false]) | exact anR_1 ho hAn (by omega) (by unfold ang; rw [decide_eq_false c34, c42]; rfl)) (by omega) _ _ hP hD hS _ (lv_sub hl [0, 2] rfl)
        · refine lv_aload_n hx hb dX3_letAngryLeave_37 rfl (lv_at hl 2 rfl) ?_
          refine lv_iload_n hx hb dX3_letAngryLeave_38 rfl (lv_at hl 0 rfl) ?_
          refine kb_vR (As := [.int (nI (gT g y))]) (rest := []) hx hb hml hts hown hN hK hP hD hS hA (c_X3_isLesserAbove l D cI a (nK g) (gc g 4) (gc g 7) (gc g 10) (f 1) (f 3) g y c10 (by first | assumption | omega) (by first | assumption | omega) (by first | assumption | omega)) gX3_letAngryLeave_X3_isLesserAbove rfl ⟨rfl, rfl⟩ hdX3_isLesserAbove ⟨Nat.le_of_ble_eq_true rfl, Nat.le_of_ble_eq_true rfl⟩ [0, 2, 4, 5] [0] rfl rfl rfl (ci := 3) rfl rfl rfl rfl rfl hl.1 (Nat.le_of_ble_eq_true rfl) dX3_letAngryLeave_39 ⟨Nat.zero_le _, Nat.zero_le _⟩ (fun H locs hP hS => ?_)
          refine kb_bif_eq (tgt := 53) hx hb dX3_letAngryLeave_42 (by decide) (fun c42 => ?_) (fun c42 => ?_)
          · refine lv_iinc (v := nI (y + 1)) (lv' := [(1, .int (nI (y + 1))), (2, .int (nI (gT g y))), (0, .ref (a 0))]) hx hb dX3_letAngryLeave_53 hl (k := 1) rfl (kb_inc1 y) (by decide) rfl (fun ls hl => ?_)
            refine lv_goto (tgt := 2) hx hb dX3_letAngryLeave_56 (by decide) ?_
            exact ih_2 (y + 1) Fc (by omega) (by first | exact anR_0 hAn (by unfold ang; rw [decide_eq_true c34]; rfl) | exact anR_0 hAn (by unfold ang; rw [c42, Bool.and_false]) | exact anR_1 ho hAn (by omega) (by unfold ang; rw [decide_eq_false c34, c42]; rfl)) (by omega) _ _ hP hD hS _ (lv_sub hl [0, 2] rfl)
          · refine lv_aload_n hx hb dX3_letAngryLeave_45 rfl (lv_at hl 2 rfl) ?_
            refine lv_iload_n hx hb dX3_letAngryLeave_46 rfl (lv_at hl 0 rfl) ?_
            refine lv_bipush (v := nI 8) hx hb dX3_letAngryLeave_47 (by decide) ?_
            refine lv_iconst (v := nI 1) hx hb dX3_letAngryLeave_49 (by decide) ?_
            refine kb_vV (As := [.int (nI (gT g y)), .int (nI 8), .int (nI 1)]) (rest := []) hx hb hml hts hown hN hK hP hD hS hA (c_X3_setFact l D cI a (nK g) (gc g 4) (gc g 7) (gc g 10) Fc (gT g y) 8 (nI 1) (by have := (ho.t _ c10).1; omega) (by omega) (by omega)) gX3_letAngryLeave_X3_setFact rfl ⟨rfl, rfl⟩ hdX3_setFact ⟨Nat.le_of_ble_eq_true rfl, Nat.le_of_ble_eq_true rfl⟩ [0, 1] [0] rfl rfl rfl (ci := 3) rfl rfl rfl (fun _ => rfl) rfl rfl hl.1 (Nat.le_of_ble_eq_true rfl) dX3_letAngryLeave_50 ⟨Nat.zero_le _, Nat.zero_le _⟩ (fun u H locs hw_50 hP hD hS => ?_)
            have hw_50 : True := hw_50
            have hP : va_P D vwCl [((a 0), .inr (3, [.ref (a 1), .ref (a 2), .ref (a 3), .ref (a 4), .ref (a 6), .int (nI (nK g)), .int ((gc g 4)), .int ((gc g 7)), .int ((gc g 10))])), ((a 1), .inl (cI, 216, .inl (upd Fc ((gT g y) * 9 + 8) (nI 1)))), ((a 2), .inl (cI, 24, .inl (f 1))), ((a 3), .inl (cI, 4, .inl (f 2))), ((a 4), .inr (2, [.ref (a 5), .int (nI (nT g))])), ((a 5), .inl (cI, 12, .inl (f 3))), ((a 6), .inr (2, [.ref (a 7), .int (nI (nW g))])), ((a 7), .inl (cI, 24, .inl (f 4)))] H := hP
            have hD : va_D A [((a 0), .inr (3, [.ref (a 1), .ref (a 2), .ref (a 3), .ref (a 4), .ref (a 6), .int (nI (nK g)), .int ((gc g 4)), .int ((gc g 7)), .int ((gc g 10))])), ((a 1), .inl (cI, 216, .inl (upd Fc ((gT g y) * 9 + 8) (nI 1)))), ((a 2), .inl (cI, 24, .inl (f 1))), ((a 3), .inl (cI, 4, .inl (f 2))), ((a 4), .inr (2, [.ref (a 5), .int (nI (nT g))])), ((a 5), .inl (cI, 12, .inl (f 3))), ((a 6), .inr (2, [.ref (a 7), .int (nI (nW g))])), ((a 7), .inl (cI, 24, .inl (f 4)))] := hD
            refine lv_iinc (v := nI (y + 1)) (lv' := [(1, .int (nI (y + 1))), (2, .int (nI (gT g y))), (0, .ref (a 0))]) hx hb dX3_letAngryLeave_53 hl (k := 1) rfl (kb_inc1 y) (by decide) rfl (fun ls hl => ?_)
            refine lv_goto (tgt := 2) hx hb dX3_letAngryLeave_56 (by decide) ?_
            exact ih_2 (y + 1) (upd Fc ((gT g y) * 9 + 8) (nI 1)) (by omega) (by first | exact anR_0 hAn (by unfold ang; rw [decide_eq_true c34]; rfl) | exact anR_0 hAn (by unfold ang; rw [c42, Bool.and_false]) | exact anR_1 ho hAn (by omega) (by unfold ang; rw [decide_eq_false c34, c42]; rfl)) (by omega) _ _ hP hD hS _ (lv_sub hl [0, 2] rfl)
  exact L_2 ((nT g - 0) + 1) 0 (f 0) (by omega) (anR_00 (f 0) g) (Nat.lt_succ_self _) _ _ hP hD hS _ (lv_sub hl [0, 1] rfl)
abbrev rmX3_holdRound : Room := { frames := 3, cells := 0, slots := 0, locals := 67 }
theorem hdX3_holdRound : yX3_holdRound.cls = RX3 ∧ yX3_holdRound.cls ≠ "java/lang/invoke/MethodHandle" ∧ yX3_holdRound.cls ≠ "java/lang/invoke/VarHandle" ∧ (parseMethodDescriptor yX3_holdRound.desc).map (fun d => d.parameters.length) = some 0 := by decide +kernel
theorem inwX3_holdRound_X3 : ∀ w ∈ wsX30, w ∈ wsX3_holdRound := fun w h => List.mem_cons_of_mem _ (List.mem_append_left _ (List.mem_append_right _ h))
theorem inwX3_holdRound_X2 : ∀ w ∈ wsX20, w ∈ wsX3_holdRound := fun w h => List.mem_cons_of_mem _ (List.mem_append_right _ h)
set_option maxHeartbeats 4000000 in
set_option maxRecDepth 100000 in
theorem c_X3_holdRound (l : Launch) (D : va_G) (cI : ClassId) (a : Nat → Nat) (f : Nat → Nat → Int32) (g : Sg) (hrs : rS f g) (ho : Ok g) : kb_V (S := (Nat → Nat → Int32)) D [(cI, .int)] l yX3_holdRound wsX3_holdRound rmX3_holdRound [.ref (a 0)] [((a 0), .inr (3, [.ref (a 1), .ref (a 2), .ref (a 3), .ref (a 4), .ref (a 6), .int (nI (nK g)), .int (gc g 4), .int (gc g 7), .int (gc g 10)])), ((a 1), .inl (cI, 216, .inl (f 0))), ((a 2), .inl (cI, 24, .inl (f 1))), ((a 3), .inl (cI, 4, .inl (f 2))), ((a 4), .inr (2, [.ref (a 5), .int (nI (nT g))])), ((a 5), .inl (cI, 12, .inl (f 3))), ((a 6), .inr (2, [.ref (a 7), .int (nI (nW g))])), ((a 7), .inl (cI, 24, .inl (f 4)))] (fun (u : (Nat → Nat → Int32)) => rS u (oRnd g)) (fun (u : (Nat → Nat → Int32)) => [((a 0), .inr (3, [.ref (a 1), .ref (a 2), .ref (a 3), .ref (a 4), .ref (a 6), .int (nI (nK (oRnd g))), .int (gc (oRnd g) 4), .int (gc (oRnd g) 7), .int (gc (oRnd g) 10)])), ((a 1), .inl (cI, 216, .inl (u 0))), ((a 2), .inl (cI, 24, .inl (u 1))), ((a 3), .inl (cI, 4, .inl (u 2))), ((a 4), .inr (2, [.ref (a 5), .int (nI (nT (oRnd g)))])), ((a 5), .inl (cI, 12, .inl (u 3))), ((a 6), .inr (2, [.ref (a 7), .int (nI (nW (oRnd g)))])), ((a 7), .inl (cI, 24, .inl (u 4)))]) 0 0 := by
  refine kb_V_of (cc := cX3_holdRound) (maxL := 3) (ret := none) (by decide) rfl (Nat.le_of_ble_eq_true rfl) ?_
  intro p e s mm args below meth c A hx hb hml hr hts hown hlocks hnm hA hN hK hP hD hS ls hl Q hQ
  have hl : lv_has ls 3 [(0, .ref (a 0))] := hl
  have hP : va_P D vwCl [((a 0), .inr (3, [.ref (a 1), .ref (a 2), .ref (a 3), .ref (a 4), .ref (a 6), .int (nI (nK g)), .int (gc g 4), .int (gc g 7), .int (gc g 10)])), ((a 1), .inl (cI, 216, .inl (f 0))), ((a 2), .inl (cI, 24, .inl (f 1))), ((a 3), .inl (cI, 4, .inl (f 2))), ((a 4), .inr (2, [.ref (a 5), .int (nI (nT g))])), ((a 5), .inl (cI, 12, .inl (f 3))), ((a 6), .inr (2, [.ref (a 7), .int (nI (nW g))])), ((a 7), .inl (cI, 24, .inl (f 4)))] s.heap := hP
  have hD : va_D A [((a 0), .inr (3, [.ref (a 1), .ref (a 2), .ref (a 3), .ref (a 4), .ref (a 6), .int (nI (nK g)), .int (gc g 4), .int (gc g 7), .int (gc g 10)])), ((a 1), .inl (cI, 216, .inl (f 0))), ((a 2), .inl (cI, 24, .inl (f 1))), ((a 3), .inl (cI, 4, .inl (f 2))), ((a 4), .inr (2, [.ref (a 5), .int (nI (nT g))])), ((a 5), .inl (cI, 12, .inl (f 3))), ((a 6), .inr (2, [.ref (a 7), .int (nI (nW g))])), ((a 7), .inl (cI, 24, .inl (f 4)))] := hD
  have fl40 := hts (.fieldLink RX3 40 "KingsBanquet$State" "rounds" "I") (by decide +kernel)
  have fl26 := hts (.fieldLink RX3 26 "KingsBanquet$State" "table" "LKingsBanquet$Row;") (by decide +kernel)
  obtain ⟨hF, hW, hC, hT, hM⟩ := id hrs
  have hn := ho.n
  obtain ⟨e2, he2, he9⟩ := ho.c2
  have hoT := oTo_ok ho (Nat.le_refl (nT g)) (Nat.le_refl (nT g))
  refine lv_aload_n hx hb dX3_holdRound_0 rfl (lv_at hl 0 rfl) ?_
  refine lv_dup hx hb dX3_holdRound_1 rfl ?_
  refine va_get (D := D) (ci := 3) (v := .int (gc g 7)) (C := RX3) (T := TX3) (N := 9) hx hb hts inwX3_holdRound_X3 hown hK hP 0 rfl rfl 7 (by decide) fl40 (fun _ h9 => h9) rfl dX3_holdRound_2 ?_
  refine lv_iconst (v := nI 1) hx hb dX3_holdRound_5 (by decide) ?_
  refine lv_iadd hx hb dX3_holdRound_6 ?_
  refine va_put (D := D) (ci := 3) (v := .int (gc g 7 + nI 1)) (ty := .int) (C := RX3) (T := TX3) (N := 9) hx hb hts inwX3_holdRound_X3 tyX3 tyX3_ok nmX3 hown hK hP hD hS 0 rfl rfl 7 (by decide) fl40 (fun _ h9 => h9) rfl (by decide +kernel) rfl rfl (Nat.le_of_ble_eq_true rfl) dX3_holdRound_7 (fun H locs hP hD hS => ?_)
  have hP : va_P D vwCl [((a 0), .inr (3, [.ref (a 1), .ref (a 2), .ref (a 3), .ref (a 4), .ref (a 6), .int (nI (nK g)), .int (gc g 4), .int (gc g 7 + nI 1), .int (gc g 10)])), ((a 1), .inl (cI, 216, .inl (f 0))), ((a 2), .inl (cI, 24, .inl (f 1))), ((a 3), .inl (cI, 4, .inl (f 2))), ((a 4), .inr (2, [.ref (a 5), .int (nI (nT g))])), ((a 5), .inl (cI, 12, .inl (f 3))), ((a 6), .inr (2, [.ref (a 7), .int (nI (nW g))])), ((a 7), .inl (cI, 24, .inl (f 4)))] H := hP
  have hD : va_D A [((a 0), .inr (3, [.ref (a 1), .ref (a 2), .ref (a 3), .ref (a 4), .ref (a 6), .int (nI (nK g)), .int (gc g 4), .int (gc g 7 + nI 1), .int (gc g 10)])), ((a 1), .inl (cI, 216, .inl (f 0))), ((a 2), .inl (cI, 24, .inl (f 1))), ((a 3), .inl (cI, 4, .inl (f 2))), ((a 4), .inr (2, [.ref (a 5), .int (nI (nT g))])), ((a 5), .inl (cI, 12, .inl (f 3))), ((a 6), .inr (2, [.ref (a 7), .int (nI (nW g))])), ((a 7), .inl (cI, 24, .inl (f 4)))] := hD
  refine lv_iconst (v := nI 0) hx hb dX3_holdRound_10 (by decide) ?_
  refine lv_istore_n (lv' := [(1, .int (nI 0)), (0, .ref (a 0))]) hx hb dX3_holdRound_11 rfl hl (by decide) rfl (fun ls hl => ?_)
  have L_12 : ∀ (z : Nat) (y : Nat) (Fc : Nat → Int32), (y ≤ nT g) → (toR (f 0) Fc g y) → (nT g - y) < z → ∀ (H : Heap) (locs : List Loc), va_P D vwCl [((a 0), .inr (3, [.ref (a 1), .ref (a 2), .ref (a 3), .ref (a 4), .ref (a 6), .int (nI (nK g)), .int (gc g 4), .int (gc g 7 + nI 1), .int (gc g 10)])), ((a 1), .inl (cI, 216, .inl Fc)), ((a 2), .inl (cI, 24, .inl (f 1))), ((a 3), .inl (cI, 4, .inl (f 2))), ((a 4), .inr (2, [.ref (a 5), .int (nI (nT g))])), ((a 5), .inl (cI, 12, .inl (f 3))), ((a 6), .inr (2, [.ref (a 7), .int (nI (nW g))])), ((a 7), .inl (cI, 24, .inl (f 4)))] H → va_D A [((a 0), .inr (3, [.ref (a 1), .ref (a 2), .ref (a 3), .ref (a 4), .ref (a 6), .int (nI (nK g)), .int (gc g 4), .int (gc g 7 + nI 1), .int (gc g 10)])), ((a 1), .inl (cI, 216, .inl Fc)), ((a 2), .inl (cI, 24, .inl (f 1))), ((a 3), .inl (cI, 4, .inl (f 2))), ((a 4), .inr (2, [.ref (a 5), .int (nI (nT g))])), ((a 5), .inl (cI, 12, .inl (f 3))), ((a 6), .inr (2, [.ref (a 7), .int (nI (nW g))])), ((a 7), .inl (cI, 24, .inl (f 4)))] → va_S A s.heap H locs → ∀ ls : Array Slot, lv_has ls 3 [(1, .int (nI y)), (0, .ref (a 0))] → W p l e rmX3_holdRound s mm args below meth c H locs 0 0 Q (F0 mm 12 ls []) := by
    intro z
    induction z with
    | zero =>
      intro y Fc _ _ hz
      exact absurd hz (Nat.not_lt_zero _)
    | succ z ih_12 =>
      intro y Fc hi hTo hz H locs hP hD hS ls hl
      refine lv_iload_n hx hb dX3_holdRound_12 rfl (lv_at hl 0 rfl) ?_
      refine lv_aload_n hx hb dX3_holdRound_13 rfl (lv_at hl 1 rfl) ?_
      refine va_get (D := D) (ci := 3) (v := .ref (a 4)) (C := RX3) (T := TX3) (N := 9) hx hb hts inwX3_holdRound_X3 hown hK hP 0 rfl rfl 3 (by decide) fl26 (fun _ h9 => h9) rfl dX3_holdRound_14 ?_
      refine kb_vR (As := []) (rest := [.int (nI y)]) hx hb hml hts hown hN hK hP hD hS hA (c_X2_size l D cI (fun i => a (4 + i)) 12 (f 3) (nT g)) gX3_holdRound_X2_size rfl ⟨rfl, rfl⟩ hdX2_size ⟨Nat.le_of_ble_eq_true rfl, Nat.le_of_ble_eq_true rfl⟩ [4, 5] [0] rfl rfl rfl (ci := 2) rfl rfl rfl rfl rfl hl.1 (Nat.le_of_ble_eq_true rfl) dX3_holdRound_17 ⟨Nat.zero_le _, Nat.zero_le _⟩ (fun H locs hP hS => ?_)
      refine kb_icmp_ge (tgt := 54) hx hb dX3_holdRound_20 (by decide) (by omega) (by omega) (fun c20 => ?_) (fun c20 => ?_)
      · have hTo : toR (f 0) Fc g (nT g) := by rw [show nT g = y by omega]; exact hTo
        refine lv_aload_n hx hb dX3_holdRound_54 rfl (lv_at hl 1 rfl) ?_
        refine kb_vR (As := []) (rest := []) hx hb hml hts hown hN hK hP hD hS hA (c_X3_firstWrongSeat l D cI a (nK g) (gc g 4) (gc g 7 + nI 1) (gc g 10) (f 1) (f 3) g (by first | assumption | omega) (by first | assumption | omega) (by first | assumption | omega)) gX3_holdRound_X3_firstWrongSeat rfl ⟨rfl, rfl⟩ hdX3_firstWrongSeat ⟨Nat.le_of_ble_eq_true rfl, Nat.le_of_ble_eq_true rfl⟩ [0, 2, 4, 5] [0] rfl rfl rfl (ci := 3) rfl rfl rfl rfl rfl hl.1 (Nat.le_of_ble_eq_true rfl) dX3_holdRound_55 ⟨Nat.zero_le _, Nat.zero_le _⟩ (fun H locs hP hS => ?_)
        refine lv_bipush (v := (-5)) hx hb dX3_holdRound_58 (by decide) ?_
        refine lv_icmp_eq (tgt := 81) hx hb dX3_holdRound_60 (by decide) (fun c60 => ?_) (fun c60 => ?_)
        · exact kb_vret (D := D) hQ hx hb hr hlocks hK hP hD hS dX3_holdRound_81 (kf5 Fc (f 1) (f 2) (f 3) (f 4)) (by rw [rnd_0 (fwI_n5 ho c60)]; rfl) (Nat.le_refl _) (Nat.le_refl _) (show rS (kf5 Fc (f 1) (f 2) (f 3) (f 4)) (oRnd g) from (by rw [rnd_0 (fwI_n5 ho c60)]; exact ⟨rF_to hF hTo (slR_no (fwI_n5 ho c60)), hW, rC_to hC, hT, hM⟩))
        · refine lv_aload_n hx hb dX3_holdRound_63 rfl (lv_at hl 1 rfl) ?_
          refine kb_vV (As := []) (rest := []) hx hb hml hts hown hN hK hP hD hS hA (c_X3_slight l D cI a (nK g) (gc g 4) (gc g 7 + nI 1) (gc g 10) Fc (f 1) (f 3) g rfl (by first | assumption | omega) (by first | assumption | omega) (by first | assumption | omega)) gX3_holdRound_X3_slight rfl ⟨rfl, rfl⟩ hdX3_slight ⟨Nat.le_of_ble_eq_true rfl, Nat.le_of_ble_eq_true rfl⟩ [0, 1, 2, 4, 5] [0] rfl rfl rfl (ci := 3) rfl rfl rfl (fun _ => rfl) rfl rfl hl.1 (Nat.le_of_ble_eq_true rfl) dX3_holdRound_64 ⟨Nat.zero_le _, Nat.zero_le _⟩ (fun u H locs hw_64 hP hD hS => ?_)
          obtain ⟨Fo_64, rfl⟩ : ∃ z, z = u := ⟨_, rfl⟩
          have hw_64 : slR Fc Fo_64 g (nT g) := hw_64
          have hP : va_P D vwCl [((a 0), .inr (3, [.ref (a 1), .ref (a 2), .ref (a 3), .ref (a 4), .ref (a 6), .int (nI (nK g)), .int ((gc g 4)), .int ((gc g 7 + nI 1)), .int ((gc g 10))])), ((a 1), .inl (cI, 216, .inl Fo_64)), ((a 2), .inl (cI, 24, .inl (f 1))), ((a 3), .inl (cI, 4, .inl (f 2))), ((a 4), .inr (2, [.ref (a 5), .int (nI (nT g))])), ((a 5), .inl (cI, 12, .inl (f 3))), ((a 6), .inr (2, [.ref (a 7), .int (nI (nW g))])), ((a 7), .inl (cI, 24, .inl (f 4)))] H := hP
          have hD : va_D A [((a 0), .inr (3, [.ref (a 1), .ref (a 2), .ref (a 3), .ref (a 4), .ref (a 6), .int (nI (nK g)), .int ((gc g 4)), .int ((gc g 7 + nI 1)), .int ((gc g 10))])), ((a 1), .inl (cI, 216, .inl Fo_64)), ((a 2), .inl (cI, 24, .inl (f 1))), ((a 3), .inl (cI, 4, .inl (f 2))), ((a 4), .inr (2, [.ref (a 5), .int (nI (nT g))])), ((a 5), .inl (cI, 12, .inl (f 3))), ((a 6), .inr (2, [.ref (a 7), .int (nI (nW g))])), ((a 7), .inl (cI, 24, .inl (f 4)))] := hD
          refine lv_aload_n hx hb dX3_holdRound_67 rfl (lv_at hl 1 rfl) ?_
          refine lv_aload_n hx hb dX3_holdRound_68 rfl (lv_at hl 1 rfl) ?_
          refine lv_iconst (v := nI 2) hx hb dX3_holdRound_69 (by decide) ?_
          refine kb_vR (As := [.int (nI 2)]) (rest := [.ref (a 0)]) hx hb hml hts hown hN hK hP hD hS hA (c_X3_setting l D cI a (nK g) (gc g 4) (gc g 7 + nI 1) (gc g 10) (f 2) 2 (by first | assumption | omega)) gX3_holdRound_X3_setting rfl ⟨rfl, rfl⟩ hdX3_setting ⟨Nat.le_of_ble_eq_true rfl, Nat.le_of_ble_eq_true rfl⟩ [0, 3] [0] rfl rfl rfl (ci := 3) rfl rfl rfl rfl rfl hl.1 (Nat.le_of_ble_eq_true rfl) dX3_holdRound_70 ⟨Nat.zero_le _, Nat.zero_le _⟩ (fun H locs hP hS => ?_)
          refine kb_top (nI e2) ((hC 2 (by omega)).trans he2) ?_
          refine kb_vI (As := [.int (nI e2)]) (rest := []) hx hb hml hts hown hN hK hP hD hS hA (c_X3_sendEnvoys l D cI a (nK g) (gc g 4) (gc g 7 + nI 1) (f 1) (f 3) (oTo g (nT g) (nT g)) e2 (by omega) hW hT hoT) gX3_holdRound_X3_sendEnvoys rfl ⟨rfl, rfl⟩ hdX3_sendEnvoys ⟨Nat.le_of_ble_eq_true rfl, Nat.le_of_ble_eq_true rfl⟩ [0, 2, 4, 5] [0] rfl rfl rfl (ci := 3) rfl rfl rfl (fun _ => rfl) rfl rfl hl.1 (Nat.le_of_ble_eq_true rfl) dX3_holdRound_73 ⟨Nat.zero_le _, Nat.zero_le _⟩ (fun r_73 u H locs hw_73 hP hD hS => ?_)
          obtain ⟨To_73, rfl⟩ : ∃ z, z = u := ⟨_, rfl⟩
          have hw_73 : r_73 = nI (oEnvN e2 (oTo g (nT g) (nT g))) ∧ rT To_73 (oEnv e2 (oTo g (nT g) (nT g))) := hw_73
          have hP : va_P D vwCl [((a 0), .inr (3, [.ref (a 1), .ref (a 2), .ref (a 3), .ref (a 4), .ref (a 6), .int (nI (nK g)), .int ((gc g 4)), .int ((gc g 7 + nI 1)), .int (gc (oEnv e2 (oTo g (nT g) (nT g))) 10)])), ((a 1), .inl (cI, 216, .inl Fo_64)), ((a 2), .inl (cI, 24, .inl (f 1))), ((a 3), .inl (cI, 4, .inl (f 2))), ((a 4), .inr (2, [.ref (a 5), .int (nI (nT (oTo g (nT g) (nT g))))])), ((a 5), .inl (cI, 12, .inl To_73)), ((a 6), .inr (2, [.ref (a 7), .int (nI (nW g))])), ((a 7), .inl (cI, 24, .inl (f 4)))] H := hP
          have hD : va_D A [((a 0), .inr (3, [.ref (a 1), .ref (a 2), .ref (a 3), .ref (a 4), .ref (a 6), .int (nI (nK g)), .int ((gc g 4)), .int ((gc g 7 + nI 1)), .int (gc (oEnv e2 (oTo g (nT g) (nT g))) 10)])), ((a 1), .inl (cI, 216, .inl Fo_64)), ((a 2), .inl (cI, 24, .inl (f 1))), ((a 3), .inl (cI, 4, .inl (f 2))), ((a 4), .inr (2, [.ref (a 5), .int (nI (nT (oTo g (nT g) (nT g))))])), ((a 5), .inl (cI, 12, .inl To_73)), ((a 6), .inr (2, [.ref (a 7), .int (nI (nW g))])), ((a 7), .inl (cI, 24, .inl (f 4)))] := hD
          refine lv_pop hx hb dX3_holdRound_76 rfl ?_
          have hP : va_P D vwCl [((a 0), .inr (3, [.ref (a 1), .ref (a 2), .ref (a 3), .ref (a 4), .ref (a 6), .int (nI (nK (oEnv e2 (oTo g (nT g) (nT g))))), .int (gc (oEnv e2 (oTo g (nT g) (nT g))) 4), .int (gc (oEnv e2 (oTo g (nT g) (nT g))) 7), .int (gc (oEnv e2 (oTo g (nT g) (nT g))) 10)])), ((a 1), .inl (cI, 216, .inl Fo_64)), ((a 2), .inl (cI, 24, .inl (f 1))), ((a 3), .inl (cI, 4, .inl (f 2))), ((a 4), .inr (2, [.ref (a 5), .int (nI (nT (oEnv e2 (oTo g (nT g) (nT g)))))])), ((a 5), .inl (cI, 12, .inl To_73)), ((a 6), .inr (2, [.ref (a 7), .int (nI (nW (oEnv e2 (oTo g (nT g) (nT g)))))])), ((a 7), .inl (cI, 24, .inl (f 4)))] H := by rw [oEnv_nK, oEnv_nW, oEnv_nT, oEnv_gc _ _ (by decide), oEnv_gc _ _ (by decide)]; exact hP
          have hD : va_D A [((a 0), .inr (3, [.ref (a 1), .ref (a 2), .ref (a 3), .ref (a 4), .ref (a 6), .int (nI (nK (oEnv e2 (oTo g (nT g) (nT g))))), .int (gc (oEnv e2 (oTo g (nT g) (nT g))) 4), .int (gc (oEnv e2 (oTo g (nT g) (nT g))) 7), .int (gc (oEnv e2 (oTo g (nT g) (nT g))) 10)])), ((a 1), .inl (cI, 216, .inl Fo_64)), ((a 2), .inl (cI, 24, .inl (f 1))), ((a 3), .inl (cI, 4, .inl (f 2))), ((a 4), .inr (2, [.ref (a 5), .int (nI (nT (oEnv e2 (oTo g (nT g) (nT g)))))])), ((a 5), .inl (cI, 12, .inl To_73)), ((a 6), .inr (2, [.ref (a 7), .int (nI (nW (oEnv e2 (oTo g (nT g) (nT g)))))])), ((a 7), .inl (cI, 24, .inl (f 4)))] := by rw [oEnv_nK, oEnv_nW, oEnv_nT, oEnv_gc _ _ (by decide), oEnv_gc _ _ (by decide)]; exact hD
          refine lv_aload_n hx hb dX3_holdRound_77 rfl (lv_at hl 1 rfl) ?_
          refine kb_vV (As := []) (rest := []) hx hb hml hts hown hN hK hP hD hS hA (c_X3_letAngryLeave l D cI a (kf5 Fo_64 (f 1) (f 2) To_73 (f 4)) (oEnv e2 (oTo g (nT g) (nT g))) (⟨rF_env (rF_to hF hTo hw_64), rW_env hW, rC_env (rC_to hC), hw_73.2, rM_env hM⟩) (oEnv_ok _ hoT)) gX3_holdRound_X3_letAngryLeave rfl ⟨rfl, rfl⟩ hdX3_letAngryLeave ⟨Nat.le_of_ble_eq_true rfl, Nat.le_of_ble_eq_true rfl⟩ [0, 1, 2, 3, 4, 5, 6, 7] [0] rfl rfl rfl (ci := 3) rfl rfl rfl (fun _ => rfl) rfl rfl hl.1 (Nat.le_of_ble_eq_true rfl) dX3_holdRound_78 ⟨Nat.zero_le _, Nat.zero_le _⟩ (fun u H locs hw_78 hP hD hS => ?_)
          obtain ⟨fo_78, rfl⟩ : ∃ z, z = u := ⟨_, rfl⟩
          have hw_78 : rS fo_78 (oAng (ang (oEnv e2 (oTo g (nT g) (nT g)))) (nT (oEnv e2 (oTo g (nT g) (nT g)))) (oEnv e2 (oTo g (nT g) (nT g)))) := hw_78
          have hP : va_P D vwCl [((a 0), .inr (3, [.ref (a 1), .ref (a 2), .ref (a 3), .ref (a 4), .ref (a 6), .int (nI (nK (oAng (ang (oEnv e2 (oTo g (nT g) (nT g)))) (nT (oEnv e2 (oTo g (nT g) (nT g)))) (oEnv e2 (oTo g (nT g) (nT g)))))), .int (gc (oAng (ang (oEnv e2 (oTo g (nT g) (nT g)))) (nT (oEnv e2 (oTo g (nT g) (nT g)))) (oEnv e2 (oTo g (nT g) (nT g)))) 4), .int (gc (oAng (ang (oEnv e2 (oTo g (nT g) (nT g)))) (nT (oEnv e2 (oTo g (nT g) (nT g)))) (oEnv e2 (oTo g (nT g) (nT g)))) 7), .int (gc (oAng (ang (oEnv e2 (oTo g (nT g) (nT g)))) (nT (oEnv e2 (oTo g (nT g) (nT g)))) (oEnv e2 (oTo g (nT g) (nT g)))) 10)])), ((a 1), .inl (cI, 216, .inl (fo_78 0))), ((a 2), .inl (cI, 24, .inl (fo_78 1))), ((a 3), .inl (cI, 4, .inl (fo_78 2))), ((a 4), .inr (2, [.ref (a 5), .int (nI (nT (oAng (ang (oEnv e2 (oTo g (nT g) (nT g)))) (nT (oEnv e2 (oTo g (nT g) (nT g)))) (oEnv e2 (oTo g (nT g) (nT g))))))])), ((a 5), .inl (cI, 12, .inl (fo_78 3))), ((a 6), .inr (2, [.ref (a 7), .int (nI (nW (oAng (ang (oEnv e2 (oTo g (nT g) (nT g)))) (nT (oEnv e2 (oTo g (nT g) (nT g)))) (oEnv e2 (oTo g (nT g) (nT g))))))])), ((a 7), .inl (cI, 24, .inl (fo_78 4)))] H := hP
          have hD : va_D A [((a 0), .inr (3, [.ref (a 1), .ref (a 2), .ref (a 3), .ref (a 4), .ref (a 6), .int (nI (nK (oAng (ang (oEnv e2 (oTo g (nT g) (nT g)))) (nT (oEnv e2 (oTo g (nT g) (nT g)))) (oEnv e2 (oTo g (nT g) (nT g)))))), .int (gc (oAng (ang (oEnv e2 (oTo g (nT g) (nT g)))) (nT (oEnv e2 (oTo g (nT g) (nT g)))) (oEnv e2 (oTo g (nT g) (nT g)))) 4), .int (gc (oAng (ang (oEnv e2 (oTo g (nT g) (nT g)))) (nT (oEnv e2 (oTo g (nT g) (nT g)))) (oEnv e2 (oTo g (nT g) (nT g)))) 7), .int (gc (oAng (ang (oEnv e2 (oTo g (nT g) (nT g)))) (nT (oEnv e2 (oTo g (nT g) (nT g)))) (oEnv e2 (oTo g (nT g) (nT g)))) 10)])), ((a 1), .inl (cI, 216, .inl (fo_78 0))), ((a 2), .inl (cI, 24, .inl (fo_78 1))), ((a 3), .inl (cI, 4, .inl (fo_78 2))), ((a 4), .inr (2, [.ref (a 5), .int (nI (nT (oAng (ang (oEnv e2 (oTo g (nT g) (nT g)))) (nT (oEnv e2 (oTo g (nT g) (nT g)))) (oEnv e2 (oTo g (nT g) (nT g))))))])), ((a 5), .inl (cI, 12, .inl (fo_78 3))), ((a 6), .inr (2, [.ref (a 7), .int (nI (nW (oAng (ang (oEnv e2 (oTo g (nT g) (nT g)))) (nT (oEnv e2 (oTo g (nT g) (nT g)))) (oEnv e2 (oTo g (nT g) (nT g))))))])), ((a 7), .inl (cI, 24, .inl (fo_78 4)))] := hD
          exact kb_vret (D := D) hQ hx hb hr hlocks hK hP hD hS dX3_holdRound_81 fo_78 (by rw [rnd_1 he2 he9] <;> rfl) (Nat.le_refl _) (Nat.le_refl _) (show rS fo_78 (oRnd g) from (by rw [rnd_1 he2 he9]; exact hw_78))
      · refine lv_aload_n hx hb dX3_holdRound_23 rfl (lv_at hl 1 rfl) ?_
        refine va_get (D := D) (ci := 3) (v := .ref (a 4)) (C := RX3) (T := TX3) (N := 9) hx hb hts inwX3_holdRound_X3 hown hK hP 0 rfl rfl 3 (by decide) fl26 (fun _ h9 => h9) rfl dX3_holdRound_24 ?_
        refine lv_iload_n hx hb dX3_holdRound_27 rfl (lv_at hl 0 rfl) ?_
        refine kb_vR (As := [.int (nI y)]) (rest := []) hx hb hml hts hown hN hK hP hD hS hA (c_X2_at l D cI (fun i => a (4 + i)) 12 (f 3) (nT g) (nI y) hn.2.1 (by decide)) gX3_holdRound_X2_at rfl ⟨rfl, rfl⟩ hdX2_at ⟨Nat.le_of_ble_eq_true rfl, Nat.le_of_ble_eq_true rfl⟩ [4, 5] [0] rfl rfl rfl (ci := 2) rfl rfl rfl rfl rfl hl.1 (Nat.le_of_ble_eq_true rfl) dX3_holdRound_28 ⟨Nat.zero_le _, Nat.zero_le _⟩ (fun H locs hP hS => ?_)
        refine kb_top (nI (gT g y)) ((rAt_in (by omega) (by omega)).trans (hT _ (by omega))) ?_
        refine lv_istore_n (lv' := [(2, .int (nI (gT g y))), (1, .int (nI y)), (0, .ref (a 0))]) hx hb dX3_holdRound_31 rfl hl (by decide) rfl (fun ls hl => ?_)
        refine lv_aload_n hx hb dX3_holdRound_32 rfl (lv_at hl 2 rfl) ?_
        refine lv_iload_n hx hb dX3_holdRound_33 rfl (lv_at hl 0 rfl) ?_
        refine lv_bipush (v := nI 6) hx hb dX3_holdRound_34 (by decide) ?_
        refine lv_aload_n hx hb dX3_holdRound_36 rfl (lv_at hl 2 rfl) ?_
        refine lv_iload_n hx hb dX3_holdRound_37 rfl (lv_at hl 0 rfl) ?_
        refine lv_bipush (v := nI 6) hx hb dX3_holdRound_38 (by decide) ?_
        refine kb_vR (As := [.int (nI (gT g y)), .int (nI 6)]) (rest := [.int (nI 6), .int (nI (gT g y)), .ref (a 0)]) hx hb hml hts hown hN hK hP hD hS hA (c_X3_fact l D cI a (nK g) (gc g 4) (gc g 7 + nI 1) (gc g 10) Fc (gT g y) 6 (by have := (ho.t _ c20).1; omega) (by omega) (by omega)) gX3_holdRound_X3_fact rfl ⟨rfl, rfl⟩ hdX3_fact ⟨Nat.le_of_ble_eq_true rfl, Nat.le_of_ble_eq_true rfl⟩ [0, 1] [0] rfl rfl rfl (ci := 3) rfl rfl rfl rfl rfl hl.1 (Nat.le_of_ble_eq_true rfl) dX3_holdRound_40 ⟨Nat.zero_le _, Nat.zero_le _⟩ (fun H locs hP hS => ?_)
        refine lv_iconst (v := nI 1) hx hb dX3_holdRound_43 (by decide) ?_
        refine lv_iadd hx hb dX3_holdRound_44 ?_
        refine kb_vV (As := [.int (nI (gT g y)), .int (nI 6), .int (Fc ((gT g y) * 9 + 6) + nI 1)]) (rest := []) hx hb hml hts hown hN hK hP hD hS hA (c_X3_setFact l D cI a (nK g) (gc g 4) (gc g 7 + nI 1) (gc g 10) Fc (gT g y) 6 (Fc ((gT g y) * 9 + 6) + nI 1) (by have := (ho.t _ c20).1; omega) (by omega) (by omega)) gX3_holdRound_X3_setFact rfl ⟨rfl, rfl⟩ hdX3_setFact ⟨Nat.le_of_ble_eq_true rfl, Nat.le_of_ble_eq_true rfl⟩ [0, 1] [0] rfl rfl rfl (ci := 3) rfl rfl rfl (fun _ => rfl) rfl rfl hl.1 (Nat.le_of_ble_eq_true rfl) dX3_holdRound_45 ⟨Nat.zero_le _, Nat.zero_le _⟩ (fun u H locs hw_45 hP hD hS => ?_)
        have hw_45 : True := hw_45
        have hP : va_P D vwCl [((a 0), .inr (3, [.ref (a 1), .ref (a 2), .ref (a 3), .ref (a 4), .ref (a 6), .int (nI (nK g)), .int ((gc g 4)), .int ((gc g 7 + nI 1)), .int ((gc g 10))])), ((a 1), .inl (cI, 216, .inl (upd Fc ((gT g y) * 9 + 6) (Fc ((gT g y) * 9 + 6) + nI 1)))), ((a 2), .inl (cI, 24, .inl (f 1))), ((a 3), .inl (cI, 4, .inl (f 2))), ((a 4), .inr (2, [.ref (a 5), .int (nI (nT g))])), ((a 5), .inl (cI, 12, .inl (f 3))), ((a 6), .inr (2, [.ref (a 7), .int (nI (nW g))])), ((a 7), .inl (cI, 24, .inl (f 4)))] H := hP
        have hD : va_D A [((a 0), .inr (3, [.ref (a 1), .ref (a 2), .ref (a 3), .ref (a 4), .ref (a 6), .int (nI (nK g)), .int ((gc g 4)), .int ((gc g 7 + nI 1)), .int ((gc g 10))])), ((a 1), .inl (cI, 216, .inl (upd Fc ((gT g y) * 9 + 6) (Fc ((gT g y) * 9 + 6) + nI 1)))), ((a 2), .inl (cI, 24, .inl (f 1))), ((a 3), .inl (cI, 4, .inl (f 2))), ((a 4), .inr (2, [.ref (a 5), .int (nI (nT g))])), ((a 5), .inl (cI, 12, .inl (f 3))), ((a 6), .inr (2, [.ref (a 7), .int (nI (nW g))])), ((a 7), .inl (cI, 24, .inl (f 4)))] := hD
        refine lv_iinc (v := nI (y + 1)) (lv' := [(1, .int (nI (y + 1))), (2, .int (nI (gT g y))), (0, .ref (a 0))]) hx hb dX3_holdRound_48 hl (k := 1) rfl (kb_inc1 y) (by decide) rfl (fun ls hl => ?_)
        refine lv_goto (tgt := 12) hx hb dX3_holdRound_51 (by decide) ?_
        exact ih_12 (y + 1) (upd Fc ((gT g y) * 9 + 6) (Fc ((gT g y) * 9 + 6) + nI 1)) (by omega) (toR_1 ho hTo (by omega)) (by omega) _ _ hP hD hS _ (lv_sub hl [0, 2] rfl)
  exact L_12 ((nT g - 0) + 1) 0 (f 0) (by omega) (toR_0 (f 0) g) (Nat.lt_succ_self _) _ _ hP hD hS _ (lv_sub hl [0, 1] rfl)
abbrev rmX3_greatestArrival : Room := { frames := 2, cells := 0, slots := 0, locals := 44 }
theorem hdX3_greatestArrival : yX3_greatestArrival.cls = RX3 ∧ yX3_greatestArrival.cls ≠ "java/lang/invoke/MethodHandle" ∧ yX3_greatestArrival.cls ≠ "java/lang/invoke/VarHandle" ∧ (parseMethodDescriptor yX3_greatestArrival.desc).map (fun d => d.parameters.length) = some 0 := by decide +kernel
theorem inwX3_greatestArrival_X3 : ∀ w ∈ wsX30, w ∈ wsX3_greatestArrival := fun w h => List.mem_cons_of_mem _ (List.mem_append_right _ h)
set_option maxHeartbeats 4000000 in
set_option maxRecDepth 100000 in
theorem c_X3_greatestArrival (l : Launch) (D : va_G) (cI : ClassId) (a : Nat → Nat) (ro : Int32) (ch : Int32) (F : Nat → Int32) (Wf : Nat → Int32) (g : Sg) (hF : rF F g) (hW : rW Wf g) (ho : Ok g) : kb_R D [(cI, .int)] l yX3_greatestArrival wsX3_greatestArrival rmX3_greatestArrival [.ref (a 0)] [((a 0), .inr (3, [.ref (a 1), .ref (a 2), .ref (a 3), .ref (a 4), .ref (a 6), .int (nI (nK g)), .int (gc g 4), .int (ro), .int (ch)])), ((a 1), .inl (cI, 216, .inl F)), ((a 2), .inl (cI, 24, .inl Wf))] (nxI (nx g)) := by
  refine kb_I_of (cc := cX3_greatestArrival) (maxL := 4) (ret := (some .int)) (by decide) rfl (Nat.le_of_ble_eq_true rfl) ?_
  intro p e s mm args below meth c A hx hb hml hr hts hown hlocks hnm hA hN hK hP hD hS ls hl Q hQ
  have hl : lv_has ls 4 [(0, .ref (a 0))] := hl
  have hP : va_P D vwCl [((a 0), .inr (3, [.ref (a 1), .ref (a 2), .ref (a 3), .ref (a 4), .ref (a 6), .int (nI (nK g)), .int (gc g 4), .int (ro), .int (ch)])), ((a 1), .inl (cI, 216, .inl F)), ((a 2), .inl (cI, 24, .inl Wf))] s.heap := hP
  have hD : va_D A [((a 0), .inr (3, [.ref (a 1), .ref (a 2), .ref (a 3), .ref (a 4), .ref (a 6), .int (nI (nK g)), .int (gc g 4), .int (ro), .int (ch)])), ((a 1), .inl (cI, 216, .inl F)), ((a 2), .inl (cI, 24, .inl Wf))] := hD
  have fl33 := hts (.fieldLink RX3 33 "KingsBanquet$State" "kings" "I") (by decide +kernel)
  have fl37 := hts (.fieldLink RX3 37 "KingsBanquet$State" "minute" "I") (by decide +kernel)
  have hn := ho.n
  refine lv_bipush (v := (-5)) hx hb dX3_greatestArrival_0 (by decide) ?_
  refine lv_istore_n (lv' := [(1, .int ((-5))), (0, .ref (a 0))]) hx hb dX3_greatestArrival_2 rfl hl (by decide) rfl (fun ls hl => ?_)
  refine lv_iconst (v := nI 0) hx hb dX3_greatestArrival_3 (by decide) ?_
  refine lv_istore_n (lv' := [(2, .int (nI 0)), (1, .int ((-5))), (0, .ref (a 0))]) hx hb dX3_greatestArrival_4 rfl hl (by decide) rfl (fun ls hl => ?_)
  have L_5 : ∀ (z : Nat) (k : Nat) (best : Int32), (k ≤ nK g) → (best = nxI (bst (arv g) (key g) k)) → (nK g - k) < z → ∀ (H : Heap) (locs : List Loc), va_P D vwCl [((a 0), .inr (3, [.ref (a 1), .ref (a 2), .ref (a 3), .ref (a 4), .ref (a 6), .int (nI (nK g)), .int (gc g 4), .int (ro), .int (ch)])), ((a 1), .inl (cI, 216, .inl F)), ((a 2), .inl (cI, 24, .inl Wf))] H → va_D A [((a 0), .inr (3, [.ref (a 1), .ref (a 2), .ref (a 3), .ref (a 4), .ref (a 6), .int (nI (nK g)), .int (gc g 4), .int (ro), .int (ch)])), ((a 1), .inl (cI, 216, .inl F)), ((a 2), .inl (cI, 24, .inl Wf))] → va_S A s.heap H locs → ∀ ls : Array Slot, lv_has ls 4 [(2, .int (nI k)), (1, .int (best)), (0, .ref (a 0))] → W p l e rmX3_greatestArrival s mm args below meth c H locs 0 0 Q (F0 mm 5 ls []) := by
    intro z
    induction z with
    | zero =>
      intro k best _ _ hz
      exact absurd hz (Nat.not_lt_zero _)
    | succ z ih_5 =>
      intro k best hk hbb hz H locs hP hD hS ls hl
      refine lv_iload_n hx hb dX3_greatestArrival_5 rfl (lv_at hl 0 rfl) ?_
      refine lv_aload_n hx hb dX3_greatestArrival_6 rfl (lv_at hl 2 rfl) ?_
      refine va_get (D := D) (ci := 3) (v := .int (nI (nK g))) (C := RX3) (T := TX3) (N := 9) hx hb hts inwX3_greatestArrival_X3 hown hK hP 0 rfl rfl 5 (by decide) fl33 (fun _ h9 => h9) rfl dX3_greatestArrival_7 ?_
      refine kb_icmp_ge (tgt := 68) hx hb dX3_greatestArrival_10 (by decide) (by omega) (by omega) (fun c10 => ?_) (fun c10 => ?_)
      · refine lv_iload_n hx hb dX3_greatestArrival_68 rfl (lv_at hl 1 rfl) ?_
        exact kb_iret (D := D) hQ hx hb hr hlocks hK hP hD hS dX3_greatestArrival_69 () rfl (Nat.le_refl _) (Nat.le_refl _) (show best = nxI (nx g) from (hbb.trans (by rw [show k = nK g by omega]; rfl)))
      · refine lv_aload_n hx hb dX3_greatestArrival_13 rfl (lv_at hl 2 rfl) ?_
        refine lv_iload_n hx hb dX3_greatestArrival_14 rfl (lv_at hl 0 rfl) ?_
        refine lv_iconst (v := nI 3) hx hb dX3_greatestArrival_15 (by decide) ?_
        refine kb_vR (As := [.int (nI k), .int (nI 3)]) (rest := []) hx hb hml hts hown hN hK hP hD hS hA (c_X3_fact l D cI a (nK g) (gc g 4) ro ch F k 3 (by omega) (by omega) (by omega)) gX3_greatestArrival_X3_fact rfl ⟨rfl, rfl⟩ hdX3_fact ⟨Nat.le_of_ble_eq_true rfl, Nat.le_of_ble_eq_true rfl⟩ [0, 1] [0] rfl rfl rfl (ci := 3) rfl rfl rfl rfl rfl hl.1 (Nat.le_of_ble_eq_true rfl) dX3_greatestArrival_16 ⟨Nat.zero_le _, Nat.zero_le _⟩ (fun H locs hP hS => ?_)
        refine kb_top (nI (gD g k)) (hF k (by omega)).2.2.2.1 ?_
        refine kb_nif_ne (tgt := 39) hx hb dX3_greatestArrival_19 (by decide) (by have := (ho.k k (by omega)).1; omega) (fun c19 => ?_) (fun c19 => ?_)
        · refine lv_iconst (v := nI 0) hx hb dX3_greatestArrival_39 (by decide) ?_
          refine lv_istore_n (lv' := [(3, .int (nI 0)), (2, .int (nI k)), (1, .int (best)), (0, .ref (a 0))]) hx hb dX3_greatestArrival_40 rfl hl (by decide) rfl (fun ls hl => ?_)
          refine lv_iload_n hx hb dX3_greatestArrival_41 rfl (lv_at hl 0 rfl) ?_
          refine kb_nif_eq (tgt := 62) hx hb dX3_greatestArrival_42 (by decide) (by decide) (fun _ => ?_) (fun c => absurd c (by decide))
          refine lv_iinc (v := nI (k + 1)) (lv' := [(2, .int (nI (k + 1))), (3, .int (nI 0)), (1, .int (best)), (0, .ref (a 0))]) hx hb dX3_greatestArrival_62 hl (k := 1) rfl (kb_inc1 k) (by decide) rfl (fun ls hl => ?_)
          refine lv_goto (tgt := 5) hx hb dX3_greatestArrival_65 (by decide) ?_
          exact ih_5 (k + 1) best (by omega) (by first | exact bsx_a hbb (arv_0a c19) | exact bsx_a hbb (arv_0b c32) | exact bsx_b (by omega) hbb (arv_1 c19 c32) c48 | exact bsx_c (by omega) (arv_1 c19 c32) (of_decide_eq_true c57) | exact bsx_d hb24 (of_decide_eq_false c57)) (by omega) _ _ hP hD hS _ (lv_sub hl [0, 2, 3] rfl)
        · refine lv_aload_n hx hb dX3_greatestArrival_22 rfl (lv_at hl 2 rfl) ?_
          refine lv_iload_n hx hb dX3_greatestArrival_23 rfl (lv_at hl 0 rfl) ?_
          refine lv_iconst (v := nI 2) hx hb dX3_greatestArrival_24 (by decide) ?_
          refine kb_vR (As := [.int (nI k), .int (nI 2)]) (rest := []) hx hb hml hts hown hN hK hP hD hS hA (c_X3_fact l D cI a (nK g) (gc g 4) ro ch F k 2 (by omega) (by omega) (by omega)) gX3_greatestArrival_X3_fact rfl ⟨rfl, rfl⟩ hdX3_fact ⟨Nat.le_of_ble_eq_true rfl, Nat.le_of_ble_eq_true rfl⟩ [0, 1] [0] rfl rfl rfl (ci := 3) rfl rfl rfl rfl rfl hl.1 (Nat.le_of_ble_eq_true rfl) dX3_greatestArrival_25 ⟨Nat.zero_le _, Nat.zero_le _⟩ (fun H locs hP hS => ?_)
          refine kb_top (gX g 0 k) (hF k (by omega)).2.2.1 ?_
          refine lv_aload_n hx hb dX3_greatestArrival_28 rfl (lv_at hl 2 rfl) ?_
          refine va_get (D := D) (ci := 3) (v := .int (gc g 4)) (C := RX3) (T := TX3) (N := 9) hx hb hts inwX3_greatestArrival_X3 hown hK hP 0 rfl rfl 6 (by decide) fl37 (fun _ h9 => h9) rfl dX3_greatestArrival_29 ?_
          refine lv_icmp_ne (tgt := 39) hx hb dX3_greatestArrival_32 (by decide) (fun c32 => ?_) (fun c32 => ?_)
          · refine lv_iconst (v := nI 0) hx hb dX3_greatestArrival_39 (by decide) ?_
            refine lv_istore_n (lv' := [(3, .int (nI 0)), (2, .int (nI k)), (1, .int (best)), (0, .ref (a 0))]) hx hb dX3_greatestArrival_40 rfl hl (by decide) rfl (fun ls hl => ?_)
            refine lv_iload_n hx hb dX3_greatestArrival_41 rfl (lv_at hl 0 rfl) ?_
            refine kb_nif_eq (tgt := 62) hx hb dX3_greatestArrival_42 (by decide) (by decide) (fun _ => ?_) (fun c => absurd c (by decide))
            refine lv_iinc (v := nI (k + 1)) (lv' := [(2, .int (nI (k + 1))), (3, .int (nI 0)), (1, .int (best)), (0, .ref (a 0))]) hx hb dX3_greatestArrival_62 hl (k := 1) rfl (kb_inc1 k) (by decide) rfl (fun ls hl => ?_)
            refine lv_goto (tgt := 5) hx hb dX3_greatestArrival_65 (by decide) ?_
            exact ih_5 (k + 1) best (by omega) (by first | exact bsx_a hbb (arv_0a c19) | exact bsx_a hbb (arv_0b c32) | exact bsx_b (by omega) hbb (arv_1 c19 c32) c48 | exact bsx_c (by omega) (arv_1 c19 c32) (of_decide_eq_true c57) | exact bsx_d hb24 (of_decide_eq_false c57)) (by omega) _ _ hP hD hS _ (lv_sub hl [0, 2, 3] rfl)
          · refine lv_iconst (v := nI 1) hx hb dX3_greatestArrival_35 (by decide) ?_
            refine lv_goto (tgt := 40) hx hb dX3_greatestArrival_36 (by decide) ?_
            refine lv_istore_n (lv' := [(3, .int (nI 1)), (2, .int (nI k)), (1, .int (best)), (0, .ref (a 0))]) hx hb dX3_greatestArrival_40 rfl hl (by decide) rfl (fun ls hl => ?_)
            refine lv_iload_n hx hb dX3_greatestArrival_41 rfl (lv_at hl 0 rfl) ?_
            refine kb_nif_eq (tgt := 62) hx hb dX3_greatestArrival_42 (by decide) (by decide) (fun c => absurd c (by decide)) (fun _ => ?_)
            refine lv_iload_n hx hb dX3_greatestArrival_45 rfl (lv_at hl 2 rfl) ?_
            refine lv_bipush (v := (-5)) hx hb dX3_greatestArrival_46 (by decide) ?_
            refine lv_icmp_eq (tgt := 60) hx hb dX3_greatestArrival_48 (by decide) (fun c48 => ?_) (fun c48 => ?_)
            · refine lv_iload_n hx hb dX3_greatestArrival_60 rfl (lv_at hl 1 rfl) ?_
              refine lv_istore_n (lv' := [(1, .int (nI k)), (3, .int (nI 1)), (2, .int (nI k)), (0, .ref (a 0))]) hx hb dX3_greatestArrival_61 rfl hl (by decide) rfl (fun ls hl => ?_)
              refine lv_iinc (v := nI (k + 1)) (lv' := [(2, .int (nI (k + 1))), (1, .int (nI k)), (3, .int (nI 1)), (0, .ref (a 0))]) hx hb dX3_greatestArrival_62 hl (k := 2) rfl (kb_inc1 k) (by decide) rfl (fun ls hl => ?_)
              refine lv_goto (tgt := 5) hx hb dX3_greatestArrival_65 (by decide) ?_
              exact ih_5 (k + 1) (nI k) (by omega) (by first | exact bsx_a hbb (arv_0a c19) | exact bsx_a hbb (arv_0b c32) | exact bsx_b (by omega) hbb (arv_1 c19 c32) c48 | exact bsx_c (by omega) (arv_1 c19 c32) (of_decide_eq_true c57) | exact bsx_d hb24 (of_decide_eq_false c57)) (by omega) _ _ hP hD hS _ (lv_sub hl [0, 1, 3] rfl)
            · obtain ⟨hb24, hbk⟩ := bst_n5 ho hk hbb c48
              have hbe : best = nI (bst (arv g) (key g) k) := hbb.trans (nxI_n hb24)
              subst hbe
              refine lv_aload_n hx hb dX3_greatestArrival_51 rfl (lv_at hl 3 rfl) ?_
              refine lv_iload_n hx hb dX3_greatestArrival_52 rfl (lv_at hl 1 rfl) ?_
              refine lv_iload_n hx hb dX3_greatestArrival_53 rfl (lv_at hl 2 rfl) ?_
              refine kb_vR (As := [.int (nI k), .int (nI (bst (arv g) (key g) k))]) (rest := []) hx hb hml hts hown hN hK hP hD hS hA (c_X3_isGreater l D cI a (nK g) (gc g 4) ro ch Wf k (bst (arv g) (key g) k) (key g k) (key g (bst (arv g) (key g) k)) (by omega) (by omega) (hW _ (by omega)) (hW _ (by omega)) (key_lt ho (by omega)) (key_lt ho (by omega))) gX3_greatestArrival_X3_isGreater rfl ⟨rfl, rfl⟩ hdX3_isGreater ⟨Nat.le_of_ble_eq_true rfl, Nat.le_of_ble_eq_true rfl⟩ [0, 2] [0] rfl rfl rfl (ci := 3) rfl rfl rfl rfl rfl hl.1 (Nat.le_of_ble_eq_true rfl) dX3_greatestArrival_54 ⟨Nat.zero_le _, Nat.zero_le _⟩ (fun H locs hP hS => ?_)
              refine kb_bif_eq (tgt := 62) hx hb dX3_greatestArrival_57 (by decide) (fun c57 => ?_) (fun c57 => ?_)
              · refine lv_iinc (v := nI (k + 1)) (lv' := [(2, .int (nI (k + 1))), (3, .int (nI 1)), (1, .int (nI (bst (arv g) (key g) k))), (0, .ref (a 0))]) hx hb dX3_greatestArrival_62 hl (k := 1) rfl (kb_inc1 k) (by decide) rfl (fun ls hl => ?_)
                refine lv_goto (tgt := 5) hx hb dX3_greatestArrival_65 (by decide) ?_
                exact ih_5 (k + 1) (nI (bst (arv g) (key g) k)) (by omega) (by first | exact bsx_a hbb (arv_0a c19) | exact bsx_a hbb (arv_0b c32) | exact bsx_b (by omega) hbb (arv_1 c19 c32) c48 | exact bsx_c (by omega) (arv_1 c19 c32) (of_decide_eq_true c57) | exact bsx_d hb24 (of_decide_eq_false c57)) (by omega) _ _ hP hD hS _ (lv_sub hl [0, 2, 3] rfl)
              · refine lv_iload_n hx hb dX3_greatestArrival_60 rfl (lv_at hl 1 rfl) ?_
                refine lv_istore_n (lv' := [(1, .int (nI k)), (3, .int (nI 1)), (2, .int (nI k)), (0, .ref (a 0))]) hx hb dX3_greatestArrival_61 rfl hl (by decide) rfl (fun ls hl => ?_)
                refine lv_iinc (v := nI (k + 1)) (lv' := [(2, .int (nI (k + 1))), (1, .int (nI k)), (3, .int (nI 1)), (0, .ref (a 0))]) hx hb dX3_greatestArrival_62 hl (k := 2) rfl (kb_inc1 k) (by decide) rfl (fun ls hl => ?_)
                refine lv_goto (tgt := 5) hx hb dX3_greatestArrival_65 (by decide) ?_
                exact ih_5 (k + 1) (nI k) (by omega) (by first | exact bsx_a hbb (arv_0a c19) | exact bsx_a hbb (arv_0b c32) | exact bsx_b (by omega) hbb (arv_1 c19 c32) c48 | exact bsx_c (by omega) (arv_1 c19 c32) (of_decide_eq_true c57) | exact bsx_d hb24 (of_decide_eq_false c57)) (by omega) _ _ hP hD hS _ (lv_sub hl [0, 1, 3] rfl)
  exact L_5 ((nK g - 0) + 1) 0 (-5) (by omega) rfl (Nat.lt_succ_self _) _ _ hP hD hS _ (lv_sub hl [0, 1, 2] rfl)
abbrev rmX3_receiveArrivals : Room := { frames := 3, cells := 0, slots := 0, locals := 67 }
theorem hdX3_receiveArrivals : yX3_receiveArrivals.cls = RX3 ∧ yX3_receiveArrivals.cls ≠ "java/lang/invoke/MethodHandle" ∧ yX3_receiveArrivals.cls ≠ "java/lang/invoke/VarHandle" ∧ (parseMethodDescriptor yX3_receiveArrivals.desc).map (fun d => d.parameters.length) = some 0 := by decide +kernel
theorem inwX3_receiveArrivals_X3 : ∀ w ∈ wsX30, w ∈ wsX3_receiveArrivals := fun w h => List.mem_cons_of_mem _ (List.mem_append_left _ (List.mem_append_right _ h))
theorem inwX3_receiveArrivals_X2 : ∀ w ∈ wsX20, w ∈ wsX3_receiveArrivals := fun w h => List.mem_cons_of_mem _ (List.mem_append_right _ h)
set_option maxHeartbeats 4000000 in
set_option maxRecDepth 100000 in
theorem c_X3_receiveArrivals (l : Launch) (D : va_G) (cI : ClassId) (a : Nat → Nat) (f : Nat → Nat → Int32) (g : Sg) (hrs : rS f g) (ho : Ok g) : kb_V (S := (Nat → Nat → Int32)) D [(cI, .int)] l yX3_receiveArrivals wsX3_receiveArrivals rmX3_receiveArrivals [.ref (a 0)] [((a 0), .inr (3, [.ref (a 1), .ref (a 2), .ref (a 3), .ref (a 4), .ref (a 6), .int (nI (nK g)), .int (gc g 4), .int (gc g 7), .int (gc g 10)])), ((a 1), .inl (cI, 216, .inl (f 0))), ((a 2), .inl (cI, 24, .inl (f 1))), ((a 3), .inl (cI, 4, .inl (f 2))), ((a 4), .inr (2, [.ref (a 5), .int (nI (nT g))])), ((a 5), .inl (cI, 12, .inl (f 3))), ((a 6), .inr (2, [.ref (a 7), .int (nI (nW g))])), ((a 7), .inl (cI, 24, .inl (f 4)))] (fun (u : (Nat → Nat → Int32)) => rS u (oArr' g)) (fun (u : (Nat → Nat → Int32)) => [((a 0), .inr (3, [.ref (a 1), .ref (a 2), .ref (a 3), .ref (a 4), .ref (a 6), .int (nI (nK (oArr' g))), .int (gc (oArr' g) 4), .int (gc (oArr' g) 7), .int (gc (oArr' g) 10)])), ((a 1), .inl (cI, 216, .inl (u 0))), ((a 2), .inl (cI, 24, .inl (u 1))), ((a 3), .inl (cI, 4, .inl (u 2))), ((a 4), .inr (2, [.ref (a 5), .int (nI (nT (oArr' g)))])), ((a 5), .inl (cI, 12, .inl (u 3))), ((a 6), .inr (2, [.ref (a 7), .int (nI (nW (oArr' g)))])), ((a 7), .inl (cI, 24, .inl (u 4)))]) 0 0 := by
  refine kb_V_of (cc := cX3_receiveArrivals) (maxL := 3) (ret := none) (by decide) rfl (Nat.le_of_ble_eq_true rfl) ?_
  intro p e s mm args below meth c A hx hb hml hr hts hown hlocks hnm hA hN hK hP hD hS ls hl Q hQ
  have hl : lv_has ls 3 [(0, .ref (a 0))] := hl
  have hP : va_P D vwCl [((a 0), .inr (3, [.ref (a 1), .ref (a 2), .ref (a 3), .ref (a 4), .ref (a 6), .int (nI (nK g)), .int (gc g 4), .int (gc g 7), .int (gc g 10)])), ((a 1), .inl (cI, 216, .inl (f 0))), ((a 2), .inl (cI, 24, .inl (f 1))), ((a 3), .inl (cI, 4, .inl (f 2))), ((a 4), .inr (2, [.ref (a 5), .int (nI (nT g))])), ((a 5), .inl (cI, 12, .inl (f 3))), ((a 6), .inr (2, [.ref (a 7), .int (nI (nW g))])), ((a 7), .inl (cI, 24, .inl (f 4)))] s.heap := hP
  have hD : va_D A [((a 0), .inr (3, [.ref (a 1), .ref (a 2), .ref (a 3), .ref (a 4), .ref (a 6), .int (nI (nK g)), .int (gc g 4), .int (gc g 7), .int (gc g 10)])), ((a 1), .inl (cI, 216, .inl (f 0))), ((a 2), .inl (cI, 24, .inl (f 1))), ((a 3), .inl (cI, 4, .inl (f 2))), ((a 4), .inr (2, [.ref (a 5), .int (nI (nT g))])), ((a 5), .inl (cI, 12, .inl (f 3))), ((a 6), .inr (2, [.ref (a 7), .int (nI (nW g))])), ((a 7), .inl (cI, 24, .inl (f 4)))] := hD
  have fl33 := hts (.fieldLink RX3 33 "KingsBanquet$State" "kings" "I") (by decide +kernel)
  have fl30 := hts (.fieldLink RX3 30 "KingsBanquet$State" "hall" "LKingsBanquet$Row;") (by decide +kernel)
  obtain ⟨hF, hW, hC, hT, hM⟩ := id hrs
  have hn := ho.n
  refine lv_iconst (v := nI 0) hx hb dX3_receiveArrivals_0 (by decide) ?_
  refine lv_istore_n (lv' := [(1, .int (nI 0)), (0, .ref (a 0))]) hx hb dX3_receiveArrivals_1 rfl hl (by decide) rfl (fun ls hl => ?_)
  have L_2 : ∀ (z : Nat) (i : Nat) (h : Sg) (Fc : Nat → Int32) (Mc : Nat → Int32), (i ≤ nK h) → (Ok h) → (rF Fc h) → (rM Mc h) → (nK h = nK g ∧ nT h = nT g ∧ gT h = gT g ∧ gc h = gc g ∧ ∀ k, key h k = key g k) → (oArr' g = oArr (nK h - i) h) → (nK h - i) < z → ∀ (H : Heap) (locs : List Loc), va_P D vwCl [((a 0), .inr (3, [.ref (a 1), .ref (a 2), .ref (a 3), .ref (a 4), .ref (a 6), .int (nI (nK h)), .int (gc h 4), .int (gc h 7), .int (gc h 10)])), ((a 1), .inl (cI, 216, .inl Fc)), ((a 2), .inl (cI, 24, .inl (f 1))), ((a 3), .inl (cI, 4, .inl (f 2))), ((a 4), .inr (2, [.ref (a 5), .int (nI (nT h))])), ((a 5), .inl (cI, 12, .inl (f 3))), ((a 6), .inr (2, [.ref (a 7), .int (nI (nW h))])), ((a 7), .inl (cI, 24, .inl Mc))] H → va_D A [((a 0), .inr (3, [.ref (a 1), .ref (a 2), .ref (a 3), .ref (a 4), .ref (a 6), .int (nI (nK h)), .int (gc h 4), .int (gc h 7), .int (gc h 10)])), ((a 1), .inl (cI, 216, .inl Fc)), ((a 2), .inl (cI, 24, .inl (f 1))), ((a 3), .inl (cI, 4, .inl (f 2))), ((a 4), .inr (2, [.ref (a 5), .int (nI (nT h))])), ((a 5), .inl (cI, 12, .inl (f 3))), ((a 6), .inr (2, [.ref (a 7), .int (nI (nW h))])), ((a 7), .inl (cI, 24, .inl Mc))] → va_S A s.heap H locs → ∀ ls : Array Slot, lv_has ls 3 [(1, .int (nI i)), (0, .ref (a 0))] → W p l e rmX3_receiveArrivals s mm args below meth c H locs 0 0 Q (F0 mm 2 ls []) := by
    intro z
    induction z with
    | zero =>
      intro i h Fc Mc _ _ _ _ _ _ hz
      exact absurd hz (Nat.not_lt_zero _)
    | succ z ih_2 =>
      intro i h Fc Mc hi hh hFc hMc hx1 he hz H locs hP hD hS ls hl
      refine lv_iload_n hx hb dX3_receiveArrivals_2 rfl (lv_at hl 0 rfl) ?_
      refine lv_aload_n hx hb dX3_receiveArrivals_3 rfl (lv_at hl 1 rfl) ?_
      refine va_get (D := D) (ci := 3) (v := .int (nI (nK h))) (C := RX3) (T := TX3) (N := 9) hx hb hts inwX3_receiveArrivals_X3 hown hK hP 0 rfl rfl 5 (by decide) fl33 (fun _ h9 => h9) rfl dX3_receiveArrivals_4 ?_
      refine kb_icmp_ge (tgt := 43) hx hb dX3_receiveArrivals_7 (by decide) (by have := hh.n; omega) (by have := hh.n; omega) (fun c7 => ?_) (fun c7 => ?_)
      · exact kb_vret (D := D) hQ hx hb hr hlocks hK hP hD hS dX3_receiveArrivals_43 (kf5 Fc (f 1) (f 2) (f 3) Mc) (by rw [he, show nK h - i = 0 by omega, oArr_00] <;> rfl) (Nat.le_refl _) (Nat.le_refl _) (show rS (kf5 Fc (f 1) (f 2) (f 3) Mc) (oArr' g) from (by rw [he, show nK h - i = 0 by omega, oArr_00]; exact ⟨hFc, rW_of hx1.1 hx1.2.2.2.2 hW, rC_of (fun i _ => by rw [hx1.2.2.2.1]) hC, rT_of hx1.2.1 hx1.2.2.1 hT, hMc⟩))
      · refine lv_aload_n hx hb dX3_receiveArrivals_10 rfl (lv_at hl 1 rfl) ?_
        refine kb_vR (As := []) (rest := []) hx hb hml hts hown hN hK hP hD hS hA (c_X3_greatestArrival l D cI a (gc h 7) (gc h 10) Fc (f 1) h hFc (rW_of hx1.1 hx1.2.2.2.2 hW) hh) gX3_receiveArrivals_X3_greatestArrival rfl ⟨rfl, rfl⟩ hdX3_greatestArrival ⟨Nat.le_of_ble_eq_true rfl, Nat.le_of_ble_eq_true rfl⟩ [0, 1, 2] [0] rfl rfl rfl (ci := 3) rfl rfl rfl rfl rfl hl.1 (Nat.le_of_ble_eq_true rfl) dX3_receiveArrivals_11 ⟨Nat.zero_le _, Nat.zero_le _⟩ (fun H locs hP hS => ?_)
        refine lv_istore_n (lv' := [(2, .int (nxI (nx h))), (1, .int (nI i)), (0, .ref (a 0))]) hx hb dX3_receiveArrivals_14 rfl hl (by decide) rfl (fun ls hl => ?_)
        refine lv_iload_n hx hb dX3_receiveArrivals_15 rfl (lv_at hl 0 rfl) ?_
        refine lv_bipush (v := (-5)) hx hb dX3_receiveArrivals_16 (by decide) ?_
        refine lv_icmp_ne (tgt := 22) hx hb dX3_receiveArrivals_18 (by decide) (fun c18 => ?_) (fun c18 => ?_)
        · have hnx : nx h ≠ 24 := fun q => c18 ((nxI_5 (nx_le hh)).mpr q)
          rw [nxI_n hnx] at hl
          have hni := nx_in hh hnx
          refine lv_aload_n hx hb dX3_receiveArrivals_22 rfl (lv_at hl 2 rfl) ?_
          refine va_get (D := D) (ci := 3) (v := .ref (a 6)) (C := RX3) (T := TX3) (N := 9) hx hb hts inwX3_receiveArrivals_X3 hown hK hP 0 rfl rfl 4 (by decide) fl30 (fun _ h9 => h9) rfl dX3_receiveArrivals_23 ?_
          refine lv_iload_n hx hb dX3_receiveArrivals_26 rfl (lv_at hl 0 rfl) ?_
          refine kb_vV (As := [.int (nI (nx h))]) (rest := []) hx hb hml hts hown hN hK hP hD hS hA (c_X2_add l D cI (fun i => a (6 + i)) 24 Mc (nW h) (nI (nx h)) (by have := fb_fit hh hni.1 (by omega); have := hh.n; omega) (by decide)) gX3_receiveArrivals_X2_add rfl ⟨rfl, rfl⟩ hdX2_add ⟨Nat.le_of_ble_eq_true rfl, Nat.le_of_ble_eq_true rfl⟩ [6, 7] [0] rfl rfl rfl (ci := 2) rfl rfl rfl (fun _ => rfl) rfl rfl hl.1 (Nat.le_of_ble_eq_true rfl) dX3_receiveArrivals_27 ⟨Nat.zero_le _, Nat.zero_le _⟩ (fun u H locs hw_27 hP hD hS => ?_)
          have hw_27 : True := hw_27
          have hP : va_P D vwCl [((a 0), .inr (3, [.ref (a 1), .ref (a 2), .ref (a 3), .ref (a 4), .ref (a 6), .int (nI (nK h)), .int (gc h 4), .int (gc h 7), .int (gc h 10)])), ((a 1), .inl (cI, 216, .inl Fc)), ((a 2), .inl (cI, 24, .inl (f 1))), ((a 3), .inl (cI, 4, .inl (f 2))), ((a 4), .inr (2, [.ref (a 5), .int (nI (nT h))])), ((a 5), .inl (cI, 12, .inl (f 3))), ((a 6), .inr (2, [.ref (a 7), .int (nI ((nW h) + 1))])), ((a 7), .inl (cI, 24, .inl (upd Mc (nW h) (nI (nx h)))))] H := hP
          have hD : va_D A [((a 0), .inr (3, [.ref (a 1), .ref (a 2), .ref (a 3), .ref (a 4), .ref (a 6), .int (nI (nK h)), .int (gc h 4), .int (gc h 7), .int (gc h 10)])), ((a 1), .inl (cI, 216, .inl Fc)), ((a 2), .inl (cI, 24, .inl (f 1))), ((a 3), .inl (cI, 4, .inl (f 2))), ((a 4), .inr (2, [.ref (a 5), .int (nI (nT h))])), ((a 5), .inl (cI, 12, .inl (f 3))), ((a 6), .inr (2, [.ref (a 7), .int (nI ((nW h) + 1))])), ((a 7), .inl (cI, 24, .inl (upd Mc (nW h) (nI (nx h)))))] := hD
          refine lv_aload_n hx hb dX3_receiveArrivals_30 rfl (lv_at hl 2 rfl) ?_
          refine lv_iload_n hx hb dX3_receiveArrivals_31 rfl (lv_at hl 0 rfl) ?_
          refine lv_iconst (v := nI 3) hx hb dX3_receiveArrivals_32 (by decide) ?_
          refine lv_iconst (v := nI 1) hx hb dX3_receiveArrivals_33 (by decide) ?_
          refine kb_vV (As := [.int (nI (nx h)), .int (nI 3), .int (nI 1)]) (rest := []) hx hb hml hts hown hN hK hP hD hS hA (c_X3_setFact l D cI a (nK h) (gc h 4) (gc h 7) (gc h 10) Fc (nx h) 3 (nI 1) hni.1 (by omega) hh.n.1) gX3_receiveArrivals_X3_setFact rfl ⟨rfl, rfl⟩ hdX3_setFact ⟨Nat.le_of_ble_eq_true rfl, Nat.le_of_ble_eq_true rfl⟩ [0, 1] [0] rfl rfl rfl (ci := 3) rfl rfl rfl (fun _ => rfl) rfl rfl hl.1 (Nat.le_of_ble_eq_true rfl) dX3_receiveArrivals_34 ⟨Nat.zero_le _, Nat.zero_le _⟩ (fun u H locs hw_34 hP hD hS => ?_)
          have hw_34 : True := hw_34
          have hP : va_P D vwCl [((a 0), .inr (3, [.ref (a 1), .ref (a 2), .ref (a 3), .ref (a 4), .ref (a 6), .int (nI (nK h)), .int ((gc h 4)), .int ((gc h 7)), .int ((gc h 10))])), ((a 1), .inl (cI, 216, .inl (upd Fc ((nx h) * 9 + 3) (nI 1)))), ((a 2), .inl (cI, 24, .inl (f 1))), ((a 3), .inl (cI, 4, .inl (f 2))), ((a 4), .inr (2, [.ref (a 5), .int (nI (nT h))])), ((a 5), .inl (cI, 12, .inl (f 3))), ((a 6), .inr (2, [.ref (a 7), .int (nI ((nW h) + 1))])), ((a 7), .inl (cI, 24, .inl (upd Mc (nW h) (nI (nx h)))))] H := hP
          have hD : va_D A [((a 0), .inr (3, [.ref (a 1), .ref (a 2), .ref (a 3), .ref (a 4), .ref (a 6), .int (nI (nK h)), .int ((gc h 4)), .int ((gc h 7)), .int ((gc h 10))])), ((a 1), .inl (cI, 216, .inl (upd Fc ((nx h) * 9 + 3) (nI 1)))), ((a 2), .inl (cI, 24, .inl (f 1))), ((a 3), .inl (cI, 4, .inl (f 2))), ((a 4), .inr (2, [.ref (a 5), .int (nI (nT h))])), ((a 5), .inl (cI, 12, .inl (f 3))), ((a 6), .inr (2, [.ref (a 7), .int (nI ((nW h) + 1))])), ((a 7), .inl (cI, 24, .inl (upd Mc (nW h) (nI (nx h)))))] := hD
          refine lv_iinc (v := nI (i + 1)) (lv' := [(1, .int (nI (i + 1))), (2, .int (nI (nx h))), (0, .ref (a 0))]) hx hb dX3_receiveArrivals_37 hl (k := 1) rfl (kb_inc1 i) (by decide) rfl (fun ls hl => ?_)
          refine lv_goto (tgt := 2) hx hb dX3_receiveArrivals_40 (by decide) ?_
          exact ih_2 (i + 1) (oAr1 h (nx h)) (upd Fc ((nx h) * 9 + 3) (nI 1)) (upd Mc (nW h) (nI (nx h))) (show i + 1 ≤ nK h by omega) (oAr1_ok hh hni.1 hni.2.1) (rF_ar1 hFc) (rM_ar1 hMc) hx1 (by rw [he, show nK h - i = nK h - (i + 1) + 1 by omega, oArr_s1 hnx]; rfl) (show nK h - (i + 1) < z by omega) _ _ hP hD hS _ (lv_sub hl [0, 2] rfl)
        · exact kb_vret (D := D) hQ hx hb hr hlocks hK hP hD hS dX3_receiveArrivals_21 (kf5 Fc (f 1) (f 2) (f 3) Mc) (by rw [he, oArr_st ((nxI_5 (nx_le hh)).mp c18)] <;> rfl) (Nat.le_refl _) (Nat.le_refl _) (show rS (kf5 Fc (f 1) (f 2) (f 3) Mc) (oArr' g) from (by rw [he, oArr_st ((nxI_5 (nx_le hh)).mp c18)]; exact ⟨hFc, rW_of hx1.1 hx1.2.2.2.2 hW, rC_of (fun i _ => by rw [hx1.2.2.2.1]) hC, rT_of hx1.2.1 hx1.2.2.1 hT, hMc⟩))
  exact L_2 ((nK g - 0) + 1) 0 g (f 0) (f 4) (by omega) ho hF hM ⟨rfl, rfl, rfl, rfl, fun _ => rfl⟩ rfl (Nat.lt_succ_self _) _ _ hP hD hS _ (lv_sub hl [0, 1] rfl)
abbrev rmX3_letWaitersSit : Room := { frames := 2, cells := 0, slots := 0, locals := 45 }
theorem hdX3_letWaitersSit : yX3_letWaitersSit.cls = RX3 ∧ yX3_letWaitersSit.cls ≠ "java/lang/invoke/MethodHandle" ∧ yX3_letWaitersSit.cls ≠ "java/lang/invoke/VarHandle" ∧ (parseMethodDescriptor yX3_letWaitersSit.desc).map (fun d => d.parameters.length) = some 0 := by decide +kernel
theorem inwX3_letWaitersSit_X3 : ∀ w ∈ wsX30, w ∈ wsX3_letWaitersSit := fun w h => List.mem_cons_of_mem _ (List.mem_append_left _ (List.mem_append_right _ h))
theorem inwX3_letWaitersSit_X2 : ∀ w ∈ wsX20, w ∈ wsX3_letWaitersSit := fun w h => List.mem_cons_of_mem _ (List.mem_append_right _ h)
set_option maxHeartbeats 4000000 in
set_option maxRecDepth 100000 in
theorem c_X3_letWaitersSit (l : Launch) (D : va_G) (cI : ClassId) (a : Nat → Nat) (f : Nat → Nat → Int32) (g : Sg) (hrs : rS f g) (ho : Ok g) : kb_V (S := (Nat → Nat → Int32)) D [(cI, .int)] l yX3_letWaitersSit wsX3_letWaitersSit rmX3_letWaitersSit [.ref (a 0)] [((a 0), .inr (3, [.ref (a 1), .ref (a 2), .ref (a 3), .ref (a 4), .ref (a 6), .int (nI (nK g)), .int (gc g 4), .int (gc g 7), .int (gc g 10)])), ((a 1), .inl (cI, 216, .inl (f 0))), ((a 2), .inl (cI, 24, .inl (f 1))), ((a 3), .inl (cI, 4, .inl (f 2))), ((a 4), .inr (2, [.ref (a 5), .int (nI (nT g))])), ((a 5), .inl (cI, 12, .inl (f 3))), ((a 6), .inr (2, [.ref (a 7), .int (nI (nW g))])), ((a 7), .inl (cI, 24, .inl (f 4)))] (fun (u : (Nat → Nat → Int32)) => rS u (oSit' g)) (fun (u : (Nat → Nat → Int32)) => [((a 0), .inr (3, [.ref (a 1), .ref (a 2), .ref (a 3), .ref (a 4), .ref (a 6), .int (nI (nK (oSit' g))), .int (gc (oSit' g) 4), .int (gc (oSit' g) 7), .int (gc (oSit' g) 10)])), ((a 1), .inl (cI, 216, .inl (u 0))), ((a 2), .inl (cI, 24, .inl (u 1))), ((a 3), .inl (cI, 4, .inl (u 2))), ((a 4), .inr (2, [.ref (a 5), .int (nI (nT (oSit' g)))])), ((a 5), .inl (cI, 12, .inl (u 3))), ((a 6), .inr (2, [.ref (a 7), .int (nI (nW (oSit' g)))])), ((a 7), .inl (cI, 24, .inl (u 4)))]) 0 0 := by
  refine kb_V_of (cc := cX3_letWaitersSit) (maxL := 3) (ret := none) (by decide) rfl (Nat.le_of_ble_eq_true rfl) ?_
  intro p e s mm args below meth c A hx hb hml hr hts hown hlocks hnm hA hN hK hP hD hS ls hl Q hQ
  have hl : lv_has ls 3 [(0, .ref (a 0))] := hl
  have hP : va_P D vwCl [((a 0), .inr (3, [.ref (a 1), .ref (a 2), .ref (a 3), .ref (a 4), .ref (a 6), .int (nI (nK g)), .int (gc g 4), .int (gc g 7), .int (gc g 10)])), ((a 1), .inl (cI, 216, .inl (f 0))), ((a 2), .inl (cI, 24, .inl (f 1))), ((a 3), .inl (cI, 4, .inl (f 2))), ((a 4), .inr (2, [.ref (a 5), .int (nI (nT g))])), ((a 5), .inl (cI, 12, .inl (f 3))), ((a 6), .inr (2, [.ref (a 7), .int (nI (nW g))])), ((a 7), .inl (cI, 24, .inl (f 4)))] s.heap := hP
  have hD : va_D A [((a 0), .inr (3, [.ref (a 1), .ref (a 2), .ref (a 3), .ref (a 4), .ref (a 6), .int (nI (nK g)), .int (gc g 4), .int (gc g 7), .int (gc g 10)])), ((a 1), .inl (cI, 216, .inl (f 0))), ((a 2), .inl (cI, 24, .inl (f 1))), ((a 3), .inl (cI, 4, .inl (f 2))), ((a 4), .inr (2, [.ref (a 5), .int (nI (nT g))])), ((a 5), .inl (cI, 12, .inl (f 3))), ((a 6), .inr (2, [.ref (a 7), .int (nI (nW g))])), ((a 7), .inl (cI, 24, .inl (f 4)))] := hD
  have fl26 := hts (.fieldLink RX3 26 "KingsBanquet$State" "table" "LKingsBanquet$Row;") (by decide +kernel)
  have fl30 := hts (.fieldLink RX3 30 "KingsBanquet$State" "hall" "LKingsBanquet$Row;") (by decide +kernel)
  obtain ⟨hF, hW, hC, hT, hM⟩ := id hrs
  have hn := ho.n
  obtain ⟨e0, he0, he1, he12, hte⟩ := ho.c0
  refine lv_aload_n hx hb dX3_letWaitersSit_0 rfl (lv_at hl 0 rfl) ?_
  refine lv_iconst (v := nI 0) hx hb dX3_letWaitersSit_1 (by decide) ?_
  refine kb_vR (As := [.int (nI 0)]) (rest := []) hx hb hml hts hown hN hK hP hD hS hA (c_X3_setting l D cI a (nK g) (gc g 4) (gc g 7) (gc g 10) (f 2) 0 (by first | assumption | omega)) gX3_letWaitersSit_X3_setting rfl ⟨rfl, rfl⟩ hdX3_setting ⟨Nat.le_of_ble_eq_true rfl, Nat.le_of_ble_eq_true rfl⟩ [0, 3] [0] rfl rfl rfl (ci := 3) rfl rfl rfl rfl rfl hl.1 (Nat.le_of_ble_eq_true rfl) dX3_letWaitersSit_2 ⟨Nat.zero_le _, Nat.zero_le _⟩ (fun H locs hP hS => ?_)
  refine kb_top (nI e0) ((hC 0 (by omega)).trans he0) ?_
  refine lv_aload_n hx hb dX3_letWaitersSit_5 rfl (lv_at hl 0 rfl) ?_
  refine va_get (D := D) (ci := 3) (v := .ref (a 4)) (C := RX3) (T := TX3) (N := 9) hx hb hts inwX3_letWaitersSit_X3 hown hK hP 0 rfl rfl 3 (by decide) fl26 (fun _ h9 => h9) rfl dX3_letWaitersSit_6 ?_
  refine kb_vR (As := []) (rest := [.int (nI e0)]) hx hb hml hts hown hN hK hP hD hS hA (c_X2_size l D cI (fun i => a (4 + i)) 12 (f 3) (nT g)) gX3_letWaitersSit_X2_size rfl ⟨rfl, rfl⟩ hdX2_size ⟨Nat.le_of_ble_eq_true rfl, Nat.le_of_ble_eq_true rfl⟩ [4, 5] [0] rfl rfl rfl (ci := 2) rfl rfl rfl rfl rfl hl.1 (Nat.le_of_ble_eq_true rfl) dX3_letWaitersSit_9 ⟨Nat.zero_le _, Nat.zero_le _⟩ (fun H locs hP hS => ?_)
  refine lv_isub hx hb dX3_letWaitersSit_12 ?_
  refine kb_top (nI (e0 - (nT g))) (pk_sub (by omega)) ?_
  refine lv_istore_n (lv' := [(1, .int (nI (e0 - (nT g)))), (0, .ref (a 0))]) hx hb dX3_letWaitersSit_13 rfl hl (by decide) rfl (fun ls hl => ?_)
  have L_14 : ∀ (z : Nat) (n : Nat) (h : Sg) (Fc : Nat → Int32) (Tc : Nat → Int32) (Mc : Nat → Int32), (Ok h) → (rF Fc h) → (rT Tc h) → (rM Mc h) → (nK h = nK g ∧ gc h = gc g ∧ ∀ k, key h k = key g k) → (nT h + n ≤ e0) → (oSit' g = oSit n h) → n < z → ∀ (H : Heap) (locs : List Loc), va_P D vwCl [((a 0), .inr (3, [.ref (a 1), .ref (a 2), .ref (a 3), .ref (a 4), .ref (a 6), .int (nI (nK h)), .int (gc h 4), .int (gc h 7), .int (gc h 10)])), ((a 1), .inl (cI, 216, .inl Fc)), ((a 2), .inl (cI, 24, .inl (f 1))), ((a 3), .inl (cI, 4, .inl (f 2))), ((a 4), .inr (2, [.ref (a 5), .int (nI (nT h))])), ((a 5), .inl (cI, 12, .inl Tc)), ((a 6), .inr (2, [.ref (a 7), .int (nI (nW h))])), ((a 7), .inl (cI, 24, .inl Mc))] H → va_D A [((a 0), .inr (3, [.ref (a 1), .ref (a 2), .ref (a 3), .ref (a 4), .ref (a 6), .int (nI (nK h)), .int (gc h 4), .int (gc h 7), .int (gc h 10)])), ((a 1), .inl (cI, 216, .inl Fc)), ((a 2), .inl (cI, 24, .inl (f 1))), ((a 3), .inl (cI, 4, .inl (f 2))), ((a 4), .inr (2, [.ref (a 5), .int (nI (nT h))])), ((a 5), .inl (cI, 12, .inl Tc)), ((a 6), .inr (2, [.ref (a 7), .int (nI (nW h))])), ((a 7), .inl (cI, 24, .inl Mc))] → va_S A s.heap H locs → ∀ ls : Array Slot, lv_has ls 3 [(1, .int (nI n)), (0, .ref (a 0))] → W p l e rmX3_letWaitersSit s mm args below meth c H locs 0 0 Q (F0 mm 14 ls []) := by
    intro z
    induction z with
    | zero =>
      intro n h Fc Tc Mc _ _ _ _ _ _ _ hz
      exact absurd hz (Nat.not_lt_zero _)
    | succ z ih_14 =>
      intro n h Fc Tc Mc hh hFc hTc hMc hx1 hne he hz H locs hP hD hS ls hl
      refine lv_iload_n hx hb dX3_letWaitersSit_14 rfl (lv_at hl 0 rfl) ?_
      refine kb_nif_le (tgt := 63) hx hb dX3_letWaitersSit_15 (by decide) (by omega) (fun c15 => ?_) (fun c15 => ?_)
      · exact kb_vret (D := D) hQ hx hb hr hlocks hK hP hD hS dX3_letWaitersSit_63 (kf5 Fc (f 1) (f 2) Tc Mc) (by rw [he, c15, oSit_00] <;> rfl) (Nat.le_refl _) (Nat.le_refl _) (show rS (kf5 Fc (f 1) (f 2) Tc Mc) (oSit' g) from (by rw [he, c15, oSit_00]; exact ⟨hFc, rW_of hx1.1 hx1.2.2 hW, rC_of (fun i _ => by rw [hx1.2.1]) hC, hTc, hMc⟩))
      · refine lv_aload_n hx hb dX3_letWaitersSit_18 rfl (lv_at hl 1 rfl) ?_
        refine va_get (D := D) (ci := 3) (v := .ref (a 6)) (C := RX3) (T := TX3) (N := 9) hx hb hts inwX3_letWaitersSit_X3 hown hK hP 0 rfl rfl 4 (by decide) fl30 (fun _ h9 => h9) rfl dX3_letWaitersSit_19 ?_
        refine lv_iconst (v := nI 0) hx hb dX3_letWaitersSit_22 (by decide) ?_
        refine kb_vR (As := [.int (nI 0)]) (rest := []) hx hb hml hts hown hN hK hP hD hS hA (c_X2_at l D cI (fun i => a (6 + i)) 24 Mc (nW h) (nI 0) hh.n.2.2 (by decide)) gX3_letWaitersSit_X2_at rfl ⟨rfl, rfl⟩ hdX2_at ⟨Nat.le_of_ble_eq_true rfl, Nat.le_of_ble_eq_true rfl⟩ [6, 7] [0] rfl rfl rfl (ci := 2) rfl rfl rfl rfl rfl hl.1 (Nat.le_of_ble_eq_true rfl) dX3_letWaitersSit_23 ⟨Nat.zero_le _, Nat.zero_le _⟩ (fun H locs hP hS => ?_)
        refine kb_top (oI (decide (0 < nW h)) (gW h 0)) (atM0 hh hMc) ?_
        refine lv_istore_n (lv' := [(2, .int (oI (decide (0 < nW h)) (gW h 0))), (1, .int (nI n)), (0, .ref (a 0))]) hx hb dX3_letWaitersSit_26 rfl hl (by decide) rfl (fun ls hl => ?_)
        refine lv_iload_n hx hb dX3_letWaitersSit_27 rfl (lv_at hl 0 rfl) ?_
        refine lv_bipush (v := (-5)) hx hb dX3_letWaitersSit_28 (by decide) ?_
        refine lv_icmp_ne (tgt := 34) hx hb dX3_letWaitersSit_30 (by decide) (fun c30 => ?_) (fun c30 => ?_)
        · have h0 := atM_1 c30
          rw [oI_t h0] at hl
          refine lv_aload_n hx hb dX3_letWaitersSit_34 rfl (lv_at hl 2 rfl) ?_
          refine va_get (D := D) (ci := 3) (v := .ref (a 6)) (C := RX3) (T := TX3) (N := 9) hx hb hts inwX3_letWaitersSit_X3 hown hK hP 0 rfl rfl 4 (by decide) fl30 (fun _ h9 => h9) rfl dX3_letWaitersSit_35 ?_
          refine lv_iload_n hx hb dX3_letWaitersSit_38 rfl (lv_at hl 0 rfl) ?_
          refine kb_vV (As := [.int (nI (gW h 0))]) (rest := []) hx hb hml hts hown hN hK hP hD hS hA (c_X2_remove l D cI (fun i => a (6 + i)) 24 Mc (nW h) (nI (gW h 0)) 0 h0 (hMc 0 h0) (fun j hj => absurd hj (Nat.not_lt_zero j)) hh.n.2.2 (by decide)) gX3_letWaitersSit_X2_remove rfl ⟨rfl, rfl⟩ hdX2_remove ⟨Nat.le_of_ble_eq_true rfl, Nat.le_of_ble_eq_true rfl⟩ [6, 7] [0] rfl rfl rfl (ci := 2) rfl rfl rfl (fun _ => rfl) rfl rfl hl.1 (Nat.le_of_ble_eq_true rfl) dX3_letWaitersSit_39 ⟨Nat.zero_le _, Nat.zero_le _⟩ (fun u H locs hw_39 hP hD hS => ?_)
          have hw_39 : True := hw_39
          have hP : va_P D vwCl [((a 0), .inr (3, [.ref (a 1), .ref (a 2), .ref (a 3), .ref (a 4), .ref (a 6), .int (nI (nK h)), .int (gc h 4), .int (gc h 7), .int (gc h 10)])), ((a 1), .inl (cI, 216, .inl Fc)), ((a 2), .inl (cI, 24, .inl (f 1))), ((a 3), .inl (cI, 4, .inl (f 2))), ((a 4), .inr (2, [.ref (a 5), .int (nI (nT h))])), ((a 5), .inl (cI, 12, .inl Tc)), ((a 6), .inr (2, [.ref (a 7), .int (nI ((nW h) - 1))])), ((a 7), .inl (cI, 24, .inl (rDel Mc 0 ((nW h) - 1))))] H := hP
          have hD : va_D A [((a 0), .inr (3, [.ref (a 1), .ref (a 2), .ref (a 3), .ref (a 4), .ref (a 6), .int (nI (nK h)), .int (gc h 4), .int (gc h 7), .int (gc h 10)])), ((a 1), .inl (cI, 216, .inl Fc)), ((a 2), .inl (cI, 24, .inl (f 1))), ((a 3), .inl (cI, 4, .inl (f 2))), ((a 4), .inr (2, [.ref (a 5), .int (nI (nT h))])), ((a 5), .inl (cI, 12, .inl Tc)), ((a 6), .inr (2, [.ref (a 7), .int (nI ((nW h) - 1))])), ((a 7), .inl (cI, 24, .inl (rDel Mc 0 ((nW h) - 1))))] := hD
          refine lv_aload_n hx hb dX3_letWaitersSit_42 rfl (lv_at hl 2 rfl) ?_
          refine va_get (D := D) (ci := 3) (v := .ref (a 4)) (C := RX3) (T := TX3) (N := 9) hx hb hts inwX3_letWaitersSit_X3 hown hK hP 0 rfl rfl 3 (by decide) fl26 (fun _ h9 => h9) rfl dX3_letWaitersSit_43 ?_
          refine lv_iload_n hx hb dX3_letWaitersSit_46 rfl (lv_at hl 0 rfl) ?_
          refine kb_vV (As := [.int (nI (gW h 0))]) (rest := []) hx hb hml hts hown hN hK hP hD hS hA (c_X2_add l D cI (fun i => a (4 + i)) 12 Tc (nT h) (nI (gW h 0)) (by omega) (by decide)) gX3_letWaitersSit_X2_add rfl ⟨rfl, rfl⟩ hdX2_add ⟨Nat.le_of_ble_eq_true rfl, Nat.le_of_ble_eq_true rfl⟩ [4, 5] [0] rfl rfl rfl (ci := 2) rfl rfl rfl (fun _ => rfl) rfl rfl hl.1 (Nat.le_of_ble_eq_true rfl) dX3_letWaitersSit_47 ⟨Nat.zero_le _, Nat.zero_le _⟩ (fun u H locs hw_47 hP hD hS => ?_)
          have hw_47 : True := hw_47
          have hP : va_P D vwCl [((a 0), .inr (3, [.ref (a 1), .ref (a 2), .ref (a 3), .ref (a 4), .ref (a 6), .int (nI (nK h)), .int (gc h 4), .int (gc h 7), .int (gc h 10)])), ((a 1), .inl (cI, 216, .inl Fc)), ((a 2), .inl (cI, 24, .inl (f 1))), ((a 3), .inl (cI, 4, .inl (f 2))), ((a 4), .inr (2, [.ref (a 5), .int (nI ((nT h) + 1))])), ((a 5), .inl (cI, 12, .inl (upd Tc (nT h) (nI (gW h 0))))), ((a 6), .inr (2, [.ref (a 7), .int (nI ((nW h) - 1))])), ((a 7), .inl (cI, 24, .inl (rDel Mc 0 ((nW h) - 1))))] H := hP
          have hD : va_D A [((a 0), .inr (3, [.ref (a 1), .ref (a 2), .ref (a 3), .ref (a 4), .ref (a 6), .int (nI (nK h)), .int (gc h 4), .int (gc h 7), .int (gc h 10)])), ((a 1), .inl (cI, 216, .inl Fc)), ((a 2), .inl (cI, 24, .inl (f 1))), ((a 3), .inl (cI, 4, .inl (f 2))), ((a 4), .inr (2, [.ref (a 5), .int (nI ((nT h) + 1))])), ((a 5), .inl (cI, 12, .inl (upd Tc (nT h) (nI (gW h 0))))), ((a 6), .inr (2, [.ref (a 7), .int (nI ((nW h) - 1))])), ((a 7), .inl (cI, 24, .inl (rDel Mc 0 ((nW h) - 1))))] := hD
          refine lv_aload_n hx hb dX3_letWaitersSit_50 rfl (lv_at hl 2 rfl) ?_
          refine lv_iload_n hx hb dX3_letWaitersSit_51 rfl (lv_at hl 0 rfl) ?_
          refine lv_iconst (v := nI 3) hx hb dX3_letWaitersSit_52 (by decide) ?_
          refine lv_iconst (v := nI 2) hx hb dX3_letWaitersSit_53 (by decide) ?_
          refine kb_vV (As := [.int (nI (gW h 0)), .int (nI 3), .int (nI 2)]) (rest := []) hx hb hml hts hown hN hK hP hD hS hA (c_X3_setFact l D cI a (nK h) (gc h 4) (gc h 7) (gc h 10) Fc (gW h 0) 3 (nI 2) ((hh.w 0 h0).1) (by omega) hh.n.1) gX3_letWaitersSit_X3_setFact rfl ⟨rfl, rfl⟩ hdX3_setFact ⟨Nat.le_of_ble_eq_true rfl, Nat.le_of_ble_eq_true rfl⟩ [0, 1] [0] rfl rfl rfl (ci := 3) rfl rfl rfl (fun _ => rfl) rfl rfl hl.1 (Nat.le_of_ble_eq_true rfl) dX3_letWaitersSit_54 ⟨Nat.zero_le _, Nat.zero_le _⟩ (fun u H locs hw_54 hP hD hS => ?_)
          have hw_54 : True := hw_54
          have hP : va_P D vwCl [((a 0), .inr (3, [.ref (a 1), .ref (a 2), .ref (a 3), .ref (a 4), .ref (a 6), .int (nI (nK h)), .int ((gc h 4)), .int ((gc h 7)), .int ((gc h 10))])), ((a 1), .inl (cI, 216, .inl (upd Fc ((gW h 0) * 9 + 3) (nI 2)))), ((a 2), .inl (cI, 24, .inl (f 1))), ((a 3), .inl (cI, 4, .inl (f 2))), ((a 4), .inr (2, [.ref (a 5), .int (nI ((nT h) + 1))])), ((a 5), .inl (cI, 12, .inl (upd Tc (nT h) (nI (gW h 0))))), ((a 6), .inr (2, [.ref (a 7), .int (nI ((nW h) - 1))])), ((a 7), .inl (cI, 24, .inl (rDel Mc 0 ((nW h) - 1))))] H := hP
          have hD : va_D A [((a 0), .inr (3, [.ref (a 1), .ref (a 2), .ref (a 3), .ref (a 4), .ref (a 6), .int (nI (nK h)), .int ((gc h 4)), .int ((gc h 7)), .int ((gc h 10))])), ((a 1), .inl (cI, 216, .inl (upd Fc ((gW h 0) * 9 + 3) (nI 2)))), ((a 2), .inl (cI, 24, .inl (f 1))), ((a 3), .inl (cI, 4, .inl (f 2))), ((a 4), .inr (2, [.ref (a 5), .int (nI ((nT h) + 1))])), ((a 5), .inl (cI, 12, .inl (upd Tc (nT h) (nI (gW h 0))))), ((a 6), .inr (2, [.ref (a 7), .int (nI ((nW h) - 1))])), ((a 7), .inl (cI, 24, .inl (rDel Mc 0 ((nW h) - 1))))] := hD
          refine lv_iinc (v := nI (n - 1)) (lv' := [(1, .int (nI (n - 1))), (2, .int (nI (gW h 0))), (0, .ref (a 0))]) hx hb dX3_letWaitersSit_57 hl (k := 1) rfl (kb_dec1 (by omega)) (by decide) rfl (fun ls hl => ?_)
          refine lv_goto (tgt := 14) hx hb dX3_letWaitersSit_60 (by decide) ?_
          exact ih_14 (n - 1) (oSi1 h) (upd Fc ((gW h 0) * 9 + 3) (nI 2)) (upd Tc (nT h) (nI (gW h 0))) (rDel Mc 0 ((nW h) - 1)) (oSi1_ok hh (e0 := e0) (by rw [hx1.2.1]; exact he0) he12 (by omega) h0) (rF_si1 hFc) (rT_si1 hTc) (rM_del hMc rfl rfl) hx1 (show nT h + 1 + (n - 1) ≤ e0 by omega) (by rw [he]; exact oSit_p (by omega) (by omega)) (by omega) _ _ hP hD hS _ (lv_sub hl [0, 2] rfl)
        · exact kb_vret (D := D) hQ hx hb hr hlocks hK hP hD hS dX3_letWaitersSit_33 (kf5 Fc (f 1) (f 2) Tc Mc) (by rw [he, oSit_st (atM_0 hh c30)] <;> rfl) (Nat.le_refl _) (Nat.le_refl _) (show rS (kf5 Fc (f 1) (f 2) Tc Mc) (oSit' g) from (by rw [he, oSit_st (atM_0 hh c30)]; exact ⟨hFc, rW_of hx1.1 hx1.2.2 hW, rC_of (fun i _ => by rw [hx1.2.1]) hC, hTc, hMc⟩))
  exact L_14 ((e0 - (nT g)) + 1) (e0 - (nT g)) g (f 0) (f 3) (f 4) ho hF hT hM ⟨rfl, rfl, fun _ => rfl⟩ (by omega) (by unfold oSit'; rw [he0, nI_clamp (by omega)]) (Nat.lt_succ_self _) _ _ hP hD hS _ (lv_sub hl [0, 1] rfl)
abbrev rmX3_isRoundDue : Room := { frames := 1, cells := 0, slots := 0, locals := 21 }
theorem hdX3_isRoundDue : yX3_isRoundDue.cls = RX3 ∧ yX3_isRoundDue.cls ≠ "java/lang/invoke/MethodHandle" ∧ yX3_isRoundDue.cls ≠ "java/lang/invoke/VarHandle" ∧ (parseMethodDescriptor yX3_isRoundDue.desc).map (fun d => d.parameters.length) = some 0 := by decide +kernel
theorem inwX3_isRoundDue_X3 : ∀ w ∈ wsX30, w ∈ wsX3_isRoundDue := fun w h => List.mem_cons_of_mem _ (List.mem_append_right _ h)
set_option maxHeartbeats 4000000 in
set_option maxRecDepth 100000 in
theorem c_X3_isRoundDue (l : Launch) (D : va_G) (cI : ClassId) (a : Nat → Nat) (nk : Nat) (ro : Int32) (ch : Int32) (S : Nat → Int32) (g : Sg) (hC : rC S g) (ho : Ok g) : kb_R D [(cI, .int)] l yX3_isRoundDue wsX3_isRoundDue rmX3_isRoundDue [.ref (a 0)] [((a 0), .inr (3, [.ref (a 1), .ref (a 2), .ref (a 3), .ref (a 4), .ref (a 6), .int (nI nk), .int (gc g 4), .int (ro), .int (ch)])), ((a 3), .inl (cI, 4, .inl S))] (kb_b (due g)) := by
  refine kb_I_of (cc := cX3_isRoundDue) (maxL := 2) (ret := (some .boolean)) (by decide) rfl (Nat.le_of_ble_eq_true rfl) ?_
  intro p e s mm args below meth c A hx hb hml hr hts hown hlocks hnm hA hN hK hP hD hS ls hl Q hQ
  have hl : lv_has ls 2 [(0, .ref (a 0))] := hl
  have hP : va_P D vwCl [((a 0), .inr (3, [.ref (a 1), .ref (a 2), .ref (a 3), .ref (a 4), .ref (a 6), .int (nI nk), .int (gc g 4), .int (ro), .int (ch)])), ((a 3), .inl (cI, 4, .inl S))] s.heap := hP
  have hD : va_D A [((a 0), .inr (3, [.ref (a 1), .ref (a 2), .ref (a 3), .ref (a 4), .ref (a 6), .int (nI nk), .int (gc g 4), .int (ro), .int (ch)])), ((a 3), .inl (cI, 4, .inl S))] := hD
  have fl37 := hts (.fieldLink RX3 37 "KingsBanquet$State" "minute" "I") (by decide +kernel)
  obtain ⟨e1, he1, hl1, hl60⟩ := ho.c1
  refine lv_aload_n hx hb dX3_isRoundDue_0 rfl (lv_at hl 0 rfl) ?_
  refine lv_iconst (v := nI 1) hx hb dX3_isRoundDue_1 (by decide) ?_
  refine kb_vR (As := [.int (nI 1)]) (rest := []) hx hb hml hts hown hN hK hP hD hS hA (c_X3_setting l D cI a nk (gc g 4) ro ch S 1 (by first | assumption | omega)) gX3_isRoundDue_X3_setting rfl ⟨rfl, rfl⟩ hdX3_setting ⟨Nat.le_of_ble_eq_true rfl, Nat.le_of_ble_eq_true rfl⟩ [0, 1] [0] rfl rfl rfl (ci := 3) rfl rfl rfl rfl rfl hl.1 (Nat.le_of_ble_eq_true rfl) dX3_isRoundDue_2 ⟨Nat.zero_le _, Nat.zero_le _⟩ (fun H locs hP hS => ?_)
  refine kb_top (gc g 1) (hC 1 (by omega)) ?_
  refine lv_istore_n (lv' := [(1, .int (gc g 1)), (0, .ref (a 0))]) hx hb dX3_isRoundDue_5 rfl hl (by decide) rfl (fun ls hl => ?_)
  refine lv_iload_n hx hb dX3_isRoundDue_6 rfl (lv_at hl 0 rfl) ?_
  refine lv_if_le (tgt := 25) hx hb dX3_isRoundDue_7 (by decide) (fun c7 => ?_) (fun c7 => ?_)
  · exfalso; rw [he1] at c7; exact nI_nle (by omega) (by omega) c7
  · refine lv_aload_n hx hb dX3_isRoundDue_10 rfl (lv_at hl 1 rfl) ?_
    refine va_get (D := D) (ci := 3) (v := .int (gc g 4)) (C := RX3) (T := TX3) (N := 9) hx hb hts inwX3_isRoundDue_X3 hown hK hP 0 rfl rfl 6 (by decide) fl37 (fun _ h9 => h9) rfl dX3_isRoundDue_11 ?_
    refine lv_iconst (v := nI 1) hx hb dX3_isRoundDue_14 (by decide) ?_
    refine lv_iadd hx hb dX3_isRoundDue_15 ?_
    refine lv_iload_n hx hb dX3_isRoundDue_16 rfl (lv_at hl 0 rfl) ?_
    refine lv_irem hx hb dX3_isRoundDue_17 (by rw [he1]; exact nI_ne0 (by omega) (by omega)) ?_
    refine lv_if_ne (tgt := 25) hx hb dX3_isRoundDue_18 (by decide) (fun c18 => ?_) (fun c18 => ?_)
    · refine lv_iconst (v := nI 0) hx hb dX3_isRoundDue_25 (by decide) ?_
      exact kb_zret (D := D) hQ hx hb hr hlocks hK hP hD hS dX3_isRoundDue_26 rfl () rfl (Nat.le_refl _) (Nat.le_refl _) (show nI 0 = kb_b (due g) from kb_d0 c18)
    · refine lv_iconst (v := nI 1) hx hb dX3_isRoundDue_21 (by decide) ?_
      refine lv_goto (tgt := 26) hx hb dX3_isRoundDue_22 (by decide) ?_
      exact kb_zret (D := D) hQ hx hb hr hlocks hK hP hD hS dX3_isRoundDue_26 rfl () rfl (Nat.le_refl _) (Nat.le_refl _) (show nI 1 = kb_b (due g) from kb_d1 c18)
abbrev rmX3_letPass : Room := { frames := 4, cells := 0, slots := 0, locals := 89 }
theorem hdX3_letPass : yX3_letPass.cls = RX3 ∧ yX3_letPass.cls ≠ "java/lang/invoke/MethodHandle" ∧ yX3_letPass.cls ≠ "java/lang/invoke/VarHandle" ∧ (parseMethodDescriptor yX3_letPass.desc).map (fun d => d.parameters.length) = some 1 := by decide +kernel
theorem inwX3_letPass_X3 : ∀ w ∈ wsX30, w ∈ wsX3_letPass := fun w h => List.mem_cons_of_mem _ (List.mem_append_left _ (List.mem_append_right _ h))
theorem inwX3_letPass_X2 : ∀ w ∈ wsX20, w ∈ wsX3_letPass := fun w h => List.mem_cons_of_mem _ (List.mem_append_right _ h)
set_option maxHeartbeats 4000000 in
set_option maxRecDepth 100000 in
theorem c_X3_letPass (l : Launch) (D : va_G) (cI : ClassId) (a : Nat → Nat) (f : Nat → Nat → Int32) (g : Sg) (x : Int32) (hrs : rS f g) (ho : Ok g) : kb_I (S := (Nat → Nat → Int32)) D [(cI, .int)] l yX3_letPass wsX3_letPass rmX3_letPass [.ref (a 0), .int (x)] [((a 0), .inr (3, [.ref (a 1), .ref (a 2), .ref (a 3), .ref (a 4), .ref (a 6), .int (nI (nK g)), .int (gc g 4), .int (gc g 7), .int (gc g 10)])), ((a 1), .inl (cI, 216, .inl (f 0))), ((a 2), .inl (cI, 24, .inl (f 1))), ((a 3), .inl (cI, 4, .inl (f 2))), ((a 4), .inr (2, [.ref (a 5), .int (nI (nT g))])), ((a 5), .inl (cI, 12, .inl (f 3))), ((a 6), .inr (2, [.ref (a 7), .int (nI (nW g))])), ((a 7), .inl (cI, 24, .inl (f 4)))] (fun (r : Int32) (u : (Nat → Nat → Int32)) => r = (opP g x).1 ∧ rS u (opP g x).2) (fun (u : (Nat → Nat → Int32)) => [((a 0), .inr (3, [.ref (a 1), .ref (a 2), .ref (a 3), .ref (a 4), .ref (a 6), .int (nI (nK (opP g x).2)), .int (gc (opP g x).2 4), .int (gc (opP g x).2 7), .int (gc (opP g x).2 10)])), ((a 1), .inl (cI, 216, .inl (u 0))), ((a 2), .inl (cI, 24, .inl (u 1))), ((a 3), .inl (cI, 4, .inl (u 2))), ((a 4), .inr (2, [.ref (a 5), .int (nI (nT (opP g x).2))])), ((a 5), .inl (cI, 12, .inl (u 3))), ((a 6), .inr (2, [.ref (a 7), .int (nI (nW (opP g x).2))])), ((a 7), .inl (cI, 24, .inl (u 4)))]) 0 0 := by
  refine kb_I_of (cc := cX3_letPass) (maxL := 4) (ret := (some .int)) (by decide) rfl (Nat.le_of_ble_eq_true rfl) ?_
  intro p e s mm args below meth c A hx hb hml hr hts hown hlocks hnm hA hN hK hP hD hS ls hl Q hQ
  have hl : lv_has ls 4 [(0, .ref (a 0)), (1, .int (x))] := hl
  have hP : va_P D vwCl [((a 0), .inr (3, [.ref (a 1), .ref (a 2), .ref (a 3), .ref (a 4), .ref (a 6), .int (nI (nK g)), .int (gc g 4), .int (gc g 7), .int (gc g 10)])), ((a 1), .inl (cI, 216, .inl (f 0))), ((a 2), .inl (cI, 24, .inl (f 1))), ((a 3), .inl (cI, 4, .inl (f 2))), ((a 4), .inr (2, [.ref (a 5), .int (nI (nT g))])), ((a 5), .inl (cI, 12, .inl (f 3))), ((a 6), .inr (2, [.ref (a 7), .int (nI (nW g))])), ((a 7), .inl (cI, 24, .inl (f 4)))] s.heap := hP
  have hD : va_D A [((a 0), .inr (3, [.ref (a 1), .ref (a 2), .ref (a 3), .ref (a 4), .ref (a 6), .int (nI (nK g)), .int (gc g 4), .int (gc g 7), .int (gc g 10)])), ((a 1), .inl (cI, 216, .inl (f 0))), ((a 2), .inl (cI, 24, .inl (f 1))), ((a 3), .inl (cI, 4, .inl (f 2))), ((a 4), .inr (2, [.ref (a 5), .int (nI (nT g))])), ((a 5), .inl (cI, 12, .inl (f 3))), ((a 6), .inr (2, [.ref (a 7), .int (nI (nW g))])), ((a 7), .inl (cI, 24, .inl (f 4)))] := hD
  have fl37 := hts (.fieldLink RX3 37 "KingsBanquet$State" "minute" "I") (by decide +kernel)
  have fl40 := hts (.fieldLink RX3 40 "KingsBanquet$State" "rounds" "I") (by decide +kernel)
  refine lv_iload_n hx hb dX3_letPass_0 rfl (lv_at hl 1 rfl) ?_
  refine lv_iconst (v := nI 1) hx hb dX3_letPass_1 (by decide) ?_
  refine lv_icmp_lt (tgt := 11) hx hb dX3_letPass_2 (by decide) (fun c2 => ?_) (fun c2 => ?_)
  · refine lv_bipush (v := (-2)) hx hb dX3_letPass_11 (by decide) ?_
    exact kb_iret (D := D) hQ hx hb hr hlocks hK hP hD hS dX3_letPass_13 f (by rw [opP_1 (isIn_o (by first | exact Or.inl c2 | exact Or.inr (Int32.not_le.mp c8)))] <;> rfl) (Nat.le_refl _) (Nat.le_refl _) (show (-2) = (opP g x).1 ∧ rS f (opP g x).2 from (by rw [opP_1 (isIn_o (by first | exact Or.inl c2 | exact Or.inr (Int32.not_le.mp c8)))]; exact ⟨rfl, hrs⟩))
  · refine lv_iload_n hx hb dX3_letPass_5 rfl (lv_at hl 1 rfl) ?_
    refine lv_bipush (v := nI 99) hx hb dX3_letPass_6 (by decide) ?_
    refine lv_icmp_le (tgt := 14) hx hb dX3_letPass_8 (by decide) (fun c8 => ?_) (fun c8 => ?_)
    · have hin := isIn_i c2 (Int32.not_lt.mpr c8)
      obtain ⟨j, hj1, hj9, rfl⟩ := isIn_ex (by decide) (by decide) hin
      refine lv_aload_n hx hb dX3_letPass_14 rfl (lv_at hl 0 rfl) ?_
      refine va_get (D := D) (ci := 3) (v := .int (gc g 4)) (C := RX3) (T := TX3) (N := 9) hx hb hts inwX3_letPass_X3 hown hK hP 0 rfl rfl 6 (by decide) fl37 (fun _ h9 => h9) rfl dX3_letPass_15 ?_
      refine lv_iload_n hx hb dX3_letPass_18 rfl (lv_at hl 1 rfl) ?_
      refine lv_iadd hx hb dX3_letPass_19 ?_
      refine lv_ldc (v := 99999) hx hb hown (hts (.constant RX3 97 (99999)) (by decide +kernel)) dX3_letPass_20 ?_
      refine kb_top (nI 99999) (by decide) ?_
      refine lv_icmp_le (tgt := 28) hx hb dX3_letPass_22 (by decide) (fun c22 => ?_) (fun c22 => ?_)
      · refine lv_aload_n hx hb dX3_letPass_28 rfl (lv_at hl 0 rfl) ?_
        refine va_get (D := D) (ci := 3) (v := .int (gc g 7)) (C := RX3) (T := TX3) (N := 9) hx hb hts inwX3_letPass_X3 hown hK hP 0 rfl rfl 7 (by decide) fl40 (fun _ h9 => h9) rfl dX3_letPass_29 ?_
        refine lv_istore_n (lv' := [(2, .int (gc g 7)), (0, .ref (a 0)), (1, .int (nI j))]) hx hb dX3_letPass_32 rfl hl (by decide) rfl (fun ls hl => ?_)
        refine lv_iconst (v := nI 0) hx hb dX3_letPass_33 (by decide) ?_
        refine lv_istore_n (lv' := [(3, .int (nI 0)), (2, .int (gc g 7)), (0, .ref (a 0)), (1, .int (nI j))]) hx hb dX3_letPass_34 rfl hl (by decide) rfl (fun ls hl => ?_)
        have L_35 : ∀ (z : Nat) (i : Nat) (h : Sg) (fc : Nat → Nat → Int32), (i ≤ j) → (h = oPass i g) → (Ok h) → (rS fc h) → (j - i) < z → ∀ (H : Heap) (locs : List Loc), va_P D vwCl [((a 0), .inr (3, [.ref (a 1), .ref (a 2), .ref (a 3), .ref (a 4), .ref (a 6), .int (nI (nK h)), .int (gc h 4), .int (gc h 7), .int (gc h 10)])), ((a 1), .inl (cI, 216, .inl (fc 0))), ((a 2), .inl (cI, 24, .inl (fc 1))), ((a 3), .inl (cI, 4, .inl (fc 2))), ((a 4), .inr (2, [.ref (a 5), .int (nI (nT h))])), ((a 5), .inl (cI, 12, .inl (fc 3))), ((a 6), .inr (2, [.ref (a 7), .int (nI (nW h))])), ((a 7), .inl (cI, 24, .inl (fc 4)))] H → va_D A [((a 0), .inr (3, [.ref (a 1), .ref (a 2), .ref (a 3), .ref (a 4), .ref (a 6), .int (nI (nK h)), .int (gc h 4), .int (gc h 7), .int (gc h 10)])), ((a 1), .inl (cI, 216, .inl (fc 0))), ((a 2), .inl (cI, 24, .inl (fc 1))), ((a 3), .inl (cI, 4, .inl (fc 2))), ((a 4), .inr (2, [.ref (a 5), .int (nI (nT h))])), ((a 5), .inl (cI, 12, .inl (fc 3))), ((a 6), .inr (2, [.ref (a 7), .int (nI (nW h))])), ((a 7), .inl (cI, 24, .inl (fc 4)))] → va_S A s.heap H locs → ∀ ls : Array Slot, lv_has ls 4 [(3, .int (nI i)), (2, .int (gc g 7)), (0, .ref (a 0)), (1, .int (nI j))] → W p l e rmX3_letPass s mm args below meth c H locs 0 0 Q (F0 mm 35 ls []) := by
          intro z
          induction z with
          | zero =>
            intro i h fc _ _ _ _ hz
            exact absurd hz (Nat.not_lt_zero _)
          | succ z ih_35 =>
            intro i h fc hi hh hho hrf hz H locs hP hD hS ls hl
            refine lv_iload_n hx hb dX3_letPass_35 rfl (lv_at hl 0 rfl) ?_
            refine lv_iload_n hx hb dX3_letPass_36 rfl (lv_at hl 3 rfl) ?_
            refine kb_icmp_ge (tgt := 75) hx hb dX3_letPass_37 (by decide) (by omega) (by omega) (fun c37 => ?_) (fun c37 => ?_)
            · refine lv_aload_n hx hb dX3_letPass_75 rfl (lv_at hl 2 rfl) ?_
              refine va_get (D := D) (ci := 3) (v := .int (gc h 7)) (C := RX3) (T := TX3) (N := 9) hx hb hts inwX3_letPass_X3 hown hK hP 0 rfl rfl 7 (by decide) fl40 (fun _ h9 => h9) rfl dX3_letPass_76 ?_
              refine lv_iload_n hx hb dX3_letPass_79 rfl (lv_at hl 1 rfl) ?_
              refine lv_isub hx hb dX3_letPass_80 ?_
              refine kb_top (nI (oPassN j g)) (by rw [hh, show i = j by omega, oPass_7, Int32.add_comm, Int32.add_sub_cancel]) ?_
              exact kb_iret (D := D) hQ hx hb hr hlocks hK hP hD hS dX3_letPass_81 fc (by rw [opP_3 hin (by omega) (Int32.not_lt.mpr c22), ← show i = j by omega, ← hh] <;> rfl) (Nat.le_refl _) (Nat.le_refl _) (show (nI (oPassN j g)) = (opP g (nI j)).1 ∧ rS fc (opP g (nI j)).2 from (by rw [opP_3 hin (by omega) (Int32.not_lt.mpr c22)]; exact ⟨rfl, by rw [← show i = j by omega, ← hh]; exact hrf⟩))
            · refine lv_aload_n hx hb dX3_letPass_40 rfl (lv_at hl 2 rfl) ?_
              refine kb_vV (As := []) (rest := []) hx hb hml hts hown hN hK hP hD hS hA (c_X3_receiveArrivals l D cI a fc h hrf hho) gX3_letPass_X3_receiveArrivals rfl ⟨rfl, rfl⟩ hdX3_receiveArrivals ⟨Nat.le_of_ble_eq_true rfl, Nat.le_of_ble_eq_true rfl⟩ [0, 1, 2, 3, 4, 5, 6, 7] [0] rfl rfl rfl (ci := 3) rfl rfl rfl (fun _ => rfl) rfl rfl hl.1 (Nat.le_of_ble_eq_true rfl) dX3_letPass_41 ⟨Nat.zero_le _, Nat.zero_le _⟩ (fun u H locs hw_41 hP hD hS => ?_)
              obtain ⟨fo_41, rfl⟩ : ∃ z, z = u := ⟨_, rfl⟩
              have hw_41 : rS fo_41 (oArr' h) := hw_41
              have hP : va_P D vwCl [((a 0), .inr (3, [.ref (a 1), .ref (a 2), .ref (a 3), .ref (a 4), .ref (a 6), .int (nI (nK (oArr' h))), .int (gc (oArr' h) 4), .int (gc (oArr' h) 7), .int (gc (oArr' h) 10)])), ((a 1), .inl (cI, 216, .inl (fo_41 0))), ((a 2), .inl (cI, 24, .inl (fo_41 1))), ((a 3), .inl (cI, 4, .inl (fo_41 2))), ((a 4), .inr (2, [.ref (a 5), .int (nI (nT (oArr' h)))])), ((a 5), .inl (cI, 12, .inl (fo_41 3))), ((a 6), .inr (2, [.ref (a 7), .int (nI (nW (oArr' h)))])), ((a 7), .inl (cI, 24, .inl (fo_41 4)))] H := hP
              have hD : va_D A [((a 0), .inr (3, [.ref (a 1), .ref (a 2), .ref (a 3), .ref (a 4), .ref (a 6), .int (nI (nK (oArr' h))), .int (gc (oArr' h) 4), .int (gc (oArr' h) 7), .int (gc (oArr' h) 10)])), ((a 1), .inl (cI, 216, .inl (fo_41 0))), ((a 2), .inl (cI, 24, .inl (fo_41 1))), ((a 3), .inl (cI, 4, .inl (fo_41 2))), ((a 4), .inr (2, [.ref (a 5), .int (nI (nT (oArr' h)))])), ((a 5), .inl (cI, 12, .inl (fo_41 3))), ((a 6), .inr (2, [.ref (a 7), .int (nI (nW (oArr' h)))])), ((a 7), .inl (cI, 24, .inl (fo_41 4)))] := hD
              have h1 := oArr_ok (nK h) hho
              refine lv_aload_n hx hb dX3_letPass_44 rfl (lv_at hl 2 rfl) ?_
              refine kb_vV (As := []) (rest := []) hx hb hml hts hown hN hK hP hD hS hA (c_X3_letWaitersSit l D cI a fo_41 (oArr' h) hw_41 h1) gX3_letPass_X3_letWaitersSit rfl ⟨rfl, rfl⟩ hdX3_letWaitersSit ⟨Nat.le_of_ble_eq_true rfl, Nat.le_of_ble_eq_true rfl⟩ [0, 1, 2, 3, 4, 5, 6, 7] [0] rfl rfl rfl (ci := 3) rfl rfl rfl (fun _ => rfl) rfl rfl hl.1 (Nat.le_of_ble_eq_true rfl) dX3_letPass_45 ⟨Nat.zero_le _, Nat.zero_le _⟩ (fun u H locs hw_45 hP hD hS => ?_)
              obtain ⟨fo_45, rfl⟩ : ∃ z, z = u := ⟨_, rfl⟩
              have hw_45 : rS fo_45 (oSit' (oArr' h)) := hw_45
              have hP : va_P D vwCl [((a 0), .inr (3, [.ref (a 1), .ref (a 2), .ref (a 3), .ref (a 4), .ref (a 6), .int (nI (nK (oSit' (oArr' h)))), .int (gc (oSit' (oArr' h)) 4), .int (gc (oSit' (oArr' h)) 7), .int (gc (oSit' (oArr' h)) 10)])), ((a 1), .inl (cI, 216, .inl (fo_45 0))), ((a 2), .inl (cI, 24, .inl (fo_45 1))), ((a 3), .inl (cI, 4, .inl (fo_45 2))), ((a 4), .inr (2, [.ref (a 5), .int (nI (nT (oSit' (oArr' h))))])), ((a 5), .inl (cI, 12, .inl (fo_45 3))), ((a 6), .inr (2, [.ref (a 7), .int (nI (nW (oSit' (oArr' h))))])), ((a 7), .inl (cI, 24, .inl (fo_45 4)))] H := hP
              have hD : va_D A [((a 0), .inr (3, [.ref (a 1), .ref (a 2), .ref (a 3), .ref (a 4), .ref (a 6), .int (nI (nK (oSit' (oArr' h)))), .int (gc (oSit' (oArr' h)) 4), .int (gc (oSit' (oArr' h)) 7), .int (gc (oSit' (oArr' h)) 10)])), ((a 1), .inl (cI, 216, .inl (fo_45 0))), ((a 2), .inl (cI, 24, .inl (fo_45 1))), ((a 3), .inl (cI, 4, .inl (fo_45 2))), ((a 4), .inr (2, [.ref (a 5), .int (nI (nT (oSit' (oArr' h))))])), ((a 5), .inl (cI, 12, .inl (fo_45 3))), ((a 6), .inr (2, [.ref (a 7), .int (nI (nW (oSit' (oArr' h))))])), ((a 7), .inl (cI, 24, .inl (fo_45 4)))] := hD
              have h2 : Ok (oSit' (oArr' h)) := oSit'_ok h1
              refine lv_aload_n hx hb dX3_letPass_48 rfl (lv_at hl 2 rfl) ?_
              refine kb_vR (As := []) (rest := []) hx hb hml hts hown hN hK hP hD hS hA (c_X3_isRoundDue l D cI a (nK (oSit' (oArr' h))) (gc (oSit' (oArr' h)) 7) (gc (oSit' (oArr' h)) 10) (fo_45 2) (oSit' (oArr' h)) hw_45.2.2.1 h2) gX3_letPass_X3_isRoundDue rfl ⟨rfl, rfl⟩ hdX3_isRoundDue ⟨Nat.le_of_ble_eq_true rfl, Nat.le_of_ble_eq_true rfl⟩ [0, 3] [0] rfl rfl rfl (ci := 3) rfl rfl rfl rfl rfl hl.1 (Nat.le_of_ble_eq_true rfl) dX3_letPass_49 ⟨Nat.zero_le _, Nat.zero_le _⟩ (fun H locs hP hS => ?_)
              refine kb_bif_eq (tgt := 59) hx hb dX3_letPass_52 (by decide) (fun c52 => ?_) (fun c52 => ?_)
              · refine lv_aload_n hx hb dX3_letPass_59 rfl (lv_at hl 2 rfl) ?_
                refine lv_dup hx hb dX3_letPass_60 rfl ?_
                refine va_get (D := D) (ci := 3) (v := .int (gc (oSit' (oArr' h)) 4)) (C := RX3) (T := TX3) (N := 9) hx hb hts inwX3_letPass_X3 hown hK hP 0 rfl rfl 6 (by decide) fl37 (fun _ h9 => h9) rfl dX3_letPass_61 ?_
                refine lv_iconst (v := nI 1) hx hb dX3_letPass_64 (by decide) ?_
                refine lv_iadd hx hb dX3_letPass_65 ?_
                refine va_put (D := D) (ci := 3) (v := .int (gc (oSit' (oArr' h)) 4 + nI 1)) (ty := .int) (C := RX3) (T := TX3) (N := 9) hx hb hts inwX3_letPass_X3 tyX3 tyX3_ok nmX3 hown hK hP hD hS 0 rfl rfl 6 (by decide) fl37 (fun _ h9 => h9) rfl (by decide +kernel) rfl rfl (Nat.le_of_ble_eq_true rfl) dX3_letPass_66 (fun H locs hP hD hS => ?_)
                have hP : va_P D vwCl [((a 0), .inr (3, [.ref (a 1), .ref (a 2), .ref (a 3), .ref (a 4), .ref (a 6), .int (nI (nK (oSit' (oArr' h)))), .int (gc (oSit' (oArr' h)) 4 + nI 1), .int (gc (oSit' (oArr' h)) 7), .int (gc (oSit' (oArr' h)) 10)])), ((a 1), .inl (cI, 216, .inl (fo_45 0))), ((a 2), .inl (cI, 24, .inl (fo_45 1))), ((a 3), .inl (cI, 4, .inl (fo_45 2))), ((a 4), .inr (2, [.ref (a 5), .int (nI (nT (oSit' (oArr' h))))])), ((a 5), .inl (cI, 12, .inl (fo_45 3))), ((a 6), .inr (2, [.ref (a 7), .int (nI (nW (oSit' (oArr' h))))])), ((a 7), .inl (cI, 24, .inl (fo_45 4)))] H := hP
                have hD : va_D A [((a 0), .inr (3, [.ref (a 1), .ref (a 2), .ref (a 3), .ref (a 4), .ref (a 6), .int (nI (nK (oSit' (oArr' h)))), .int (gc (oSit' (oArr' h)) 4 + nI 1), .int (gc (oSit' (oArr' h)) 7), .int (gc (oSit' (oArr' h)) 10)])), ((a 1), .inl (cI, 216, .inl (fo_45 0))), ((a 2), .inl (cI, 24, .inl (fo_45 1))), ((a 3), .inl (cI, 4, .inl (fo_45 2))), ((a 4), .inr (2, [.ref (a 5), .int (nI (nT (oSit' (oArr' h))))])), ((a 5), .inl (cI, 12, .inl (fo_45 3))), ((a 6), .inr (2, [.ref (a 7), .int (nI (nW (oSit' (oArr' h))))])), ((a 7), .inl (cI, 24, .inl (fo_45 4)))] := hD
                have hP : va_P D vwCl [((a 0), .inr (3, [.ref (a 1), .ref (a 2), .ref (a 3), .ref (a 4), .ref (a 6), .int (nI (nK (oTick (oSit' (oArr' h))))), .int (gc (oTick (oSit' (oArr' h))) 4), .int (gc (oTick (oSit' (oArr' h))) 7), .int (gc (oTick (oSit' (oArr' h))) 10)])), ((a 1), .inl (cI, 216, .inl (fo_45 0))), ((a 2), .inl (cI, 24, .inl (fo_45 1))), ((a 3), .inl (cI, 4, .inl (fo_45 2))), ((a 4), .inr (2, [.ref (a 5), .int (nI (nT (oTick (oSit' (oArr' h)))))])), ((a 5), .inl (cI, 12, .inl (fo_45 3))), ((a 6), .inr (2, [.ref (a 7), .int (nI (nW (oTick (oSit' (oArr' h)))))])), ((a 7), .inl (cI, 24, .inl (fo_45 4)))] H := by rw [tk_K, tk_T, tk_W, tk_4, tk_c _ (by decide), tk_c _ (by decide)]; exact hP
                have hD : va_D A [((a 0), .inr (3, [.ref (a 1), .ref (a 2), .ref (a 3), .ref (a 4), .ref (a 6), .int (nI (nK (oTick (oSit' (oArr' h))))), .int (gc (oTick (oSit' (oArr' h))) 4), .int (gc (oTick (oSit' (oArr' h))) 7), .int (gc (oTick (oSit' (oArr' h))) 10)])), ((a 1), .inl (cI, 216, .inl (fo_45 0))), ((a 2), .inl (cI, 24, .inl (fo_45 1))), ((a 3), .inl (cI, 4, .inl (fo_45 2))), ((a 4), .inr (2, [.ref (a 5), .int (nI (nT (oTick (oSit' (oArr' h)))))])), ((a 5), .inl (cI, 12, .inl (fo_45 3))), ((a 6), .inr (2, [.ref (a 7), .int (nI (nW (oTick (oSit' (oArr' h)))))])), ((a 7), .inl (cI, 24, .inl (fo_45 4)))] := by rw [tk_K, tk_T, tk_W, tk_4, tk_c _ (by decide), tk_c _ (by decide)]; exact hD
                refine lv_iinc (v := nI (i + 1)) (lv' := [(3, .int (nI (i + 1))), (2, .int (gc g 7)), (0, .ref (a 0)), (1, .int (nI j))]) hx hb dX3_letPass_69 hl (k := 0) rfl (kb_inc1 i) (by decide) rfl (fun ls hl => ?_)
                refine lv_goto (tgt := 35) hx hb dX3_letPass_72 (by decide) ?_
                exact ih_35 (i + 1) (oTick (oSit' (oArr' h))) fo_45 (by omega) (by rw [oPass_s, ← hh]; exact (oMin_f c52).symm) (oTick_ok h2) (rS_tick hw_45) (by omega) _ _ hP hD hS _ (lv_sub hl [0, 1, 2, 3] rfl)
              · refine lv_aload_n hx hb dX3_letPass_55 rfl (lv_at hl 2 rfl) ?_
                refine kb_vV (As := []) (rest := []) hx hb hml hts hown hN hK hP hD hS hA (c_X3_holdRound l D cI a fo_45 (oSit' (oArr' h)) hw_45 h2) gX3_letPass_X3_holdRound rfl ⟨rfl, rfl⟩ hdX3_holdRound ⟨Nat.le_of_ble_eq_true rfl, Nat.le_of_ble_eq_true rfl⟩ [0, 1, 2, 3, 4, 5, 6, 7] [0] rfl rfl rfl (ci := 3) rfl rfl rfl (fun _ => rfl) rfl rfl hl.1 (Nat.le_of_ble_eq_true rfl) dX3_letPass_56 ⟨Nat.zero_le _, Nat.zero_le _⟩ (fun u H locs hw_56 hP hD hS => ?_)
                obtain ⟨fo_56, rfl⟩ : ∃ z, z = u := ⟨_, rfl⟩
                have hw_56 : rS fo_56 (oRnd (oSit' (oArr' h))) := hw_56
                have hP : va_P D vwCl [((a 0), .inr (3, [.ref (a 1), .ref (a 2), .ref (a 3), .ref (a 4), .ref (a 6), .int (nI (nK (oRnd (oSit' (oArr' h))))), .int (gc (oRnd (oSit' (oArr' h))) 4), .int (gc (oRnd (oSit' (oArr' h))) 7), .int (gc (oRnd (oSit' (oArr' h))) 10)])), ((a 1), .inl (cI, 216, .inl (fo_56 0))), ((a 2), .inl (cI, 24, .inl (fo_56 1))), ((a 3), .inl (cI, 4, .inl (fo_56 2))), ((a 4), .inr (2, [.ref (a 5), .int (nI (nT (oRnd (oSit' (oArr' h)))))])), ((a 5), .inl (cI, 12, .inl (fo_56 3))), ((a 6), .inr (2, [.ref (a 7), .int (nI (nW (oRnd (oSit' (oArr' h)))))])), ((a 7), .inl (cI, 24, .inl (fo_56 4)))] H := hP
                have hD : va_D A [((a 0), .inr (3, [.ref (a 1), .ref (a 2), .ref (a 3), .ref (a 4), .ref (a 6), .int (nI (nK (oRnd (oSit' (oArr' h))))), .int (gc (oRnd (oSit' (oArr' h))) 4), .int (gc (oRnd (oSit' (oArr' h))) 7), .int (gc (oRnd (oSit' (oArr' h))) 10)])), ((a 1), .inl (cI, 216, .inl (fo_56 0))), ((a 2), .inl (cI, 24, .inl (fo_56 1))), ((a 3), .inl (cI, 4, .inl (fo_56 2))), ((a 4), .inr (2, [.ref (a 5), .int (nI (nT (oRnd (oSit' (oArr' h)))))])), ((a 5), .inl (cI, 12, .inl (fo_56 3))), ((a 6), .inr (2, [.ref (a 7), .int (nI (nW (oRnd (oSit' (oArr' h)))))])), ((a 7), .inl (cI, 24, .inl (fo_56 4)))] := hD
                refine lv_aload_n hx hb dX3_letPass_59 rfl (lv_at hl 2 rfl) ?_
                refine lv_dup hx hb dX3_letPass_60 rfl ?_
                refine va_get (D := D) (ci := 3) (v := .int (gc (oRnd (oSit' (oArr' h))) 4)) (C := RX3) (T := TX3) (N := 9) hx hb hts inwX3_letPass_X3 hown hK hP 0 rfl rfl 6 (by decide) fl37 (fun _ h9 => h9) rfl dX3_letPass_61 ?_
                refine lv_iconst (v := nI 1) hx hb dX3_letPass_64 (by decide) ?_
                refine lv_iadd hx hb dX3_letPass_65 ?_
                refine va_put (D := D) (ci := 3) (v := .int (gc (oRnd (oSit' (oArr' h))) 4 + nI 1)) (ty := .int) (C := RX3) (T := TX3) (N := 9) hx hb hts inwX3_letPass_X3 tyX3 tyX3_ok nmX3 hown hK hP hD hS 0 rfl rfl 6 (by decide) fl37 (fun _ h9 => h9) rfl (by decide +kernel) rfl rfl (Nat.le_of_ble_eq_true rfl) dX3_letPass_66 (fun H locs hP hD hS => ?_)
                have hP : va_P D vwCl [((a 0), .inr (3, [.ref (a 1), .ref (a 2), .ref (a 3), .ref (a 4), .ref (a 6), .int (nI (nK (oRnd (oSit' (oArr' h))))), .int (gc (oRnd (oSit' (oArr' h))) 4 + nI 1), .int (gc (oRnd (oSit' (oArr' h))) 7), .int (gc (oRnd (oSit' (oArr' h))) 10)])), ((a 1), .inl (cI, 216, .inl (fo_56 0))), ((a 2), .inl (cI, 24, .inl (fo_56 1))), ((a 3), .inl (cI, 4, .inl (fo_56 2))), ((a 4), .inr (2, [.ref (a 5), .int (nI (nT (oRnd (oSit' (oArr' h)))))])), ((a 5), .inl (cI, 12, .inl (fo_56 3))), ((a 6), .inr (2, [.ref (a 7), .int (nI (nW (oRnd (oSit' (oArr' h)))))])), ((a 7), .inl (cI, 24, .inl (fo_56 4)))] H := hP
                have hD : va_D A [((a 0), .inr (3, [.ref (a 1), .ref (a 2), .ref (a 3), .ref (a 4), .ref (a 6), .int (nI (nK (oRnd (oSit' (oArr' h))))), .int (gc (oRnd (oSit' (oArr' h))) 4 + nI 1), .int (gc (oRnd (oSit' (oArr' h))) 7), .int (gc (oRnd (oSit' (oArr' h))) 10)])), ((a 1), .inl (cI, 216, .inl (fo_56 0))), ((a 2), .inl (cI, 24, .inl (fo_56 1))), ((a 3), .inl (cI, 4, .inl (fo_56 2))), ((a 4), .inr (2, [.ref (a 5), .int (nI (nT (oRnd (oSit' (oArr' h)))))])), ((a 5), .inl (cI, 12, .inl (fo_56 3))), ((a 6), .inr (2, [.ref (a 7), .int (nI (nW (oRnd (oSit' (oArr' h)))))])), ((a 7), .inl (cI, 24, .inl (fo_56 4)))] := hD
                have hP : va_P D vwCl [((a 0), .inr (3, [.ref (a 1), .ref (a 2), .ref (a 3), .ref (a 4), .ref (a 6), .int (nI (nK (oTick (oRnd (oSit' (oArr' h)))))), .int (gc (oTick (oRnd (oSit' (oArr' h)))) 4), .int (gc (oTick (oRnd (oSit' (oArr' h)))) 7), .int (gc (oTick (oRnd (oSit' (oArr' h)))) 10)])), ((a 1), .inl (cI, 216, .inl (fo_56 0))), ((a 2), .inl (cI, 24, .inl (fo_56 1))), ((a 3), .inl (cI, 4, .inl (fo_56 2))), ((a 4), .inr (2, [.ref (a 5), .int (nI (nT (oTick (oRnd (oSit' (oArr' h))))))])), ((a 5), .inl (cI, 12, .inl (fo_56 3))), ((a 6), .inr (2, [.ref (a 7), .int (nI (nW (oTick (oRnd (oSit' (oArr' h))))))])), ((a 7), .inl (cI, 24, .inl (fo_56 4)))] H := by rw [tk_K, tk_T, tk_W, tk_4, tk_c _ (by decide), tk_c _ (by decide)]; exact hP
                have hD : va_D A [((a 0), .inr (3, [.ref (a 1), .ref (a 2), .ref (a 3), .ref (a 4), .ref (a 6), .int (nI (nK (oTick (oRnd (oSit' (oArr' h)))))), .int (gc (oTick (oRnd (oSit' (oArr' h)))) 4), .int (gc (oTick (oRnd (oSit' (oArr' h)))) 7), .int (gc (oTick (oRnd (oSit' (oArr' h)))) 10)])), ((a 1), .inl (cI, 216, .inl (fo_56 0))), ((a 2), .inl (cI, 24, .inl (fo_56 1))), ((a 3), .inl (cI, 4, .inl (fo_56 2))), ((a 4), .inr (2, [.ref (a 5), .int (nI (nT (oTick (oRnd (oSit' (oArr' h))))))])), ((a 5), .inl (cI, 12, .inl (fo_56 3))), ((a 6), .inr (2, [.ref (a 7), .int (nI (nW (oTick (oRnd (oSit' (oArr' h))))))])), ((a 7), .inl (cI, 24, .inl (fo_56 4)))] := by rw [tk_K, tk_T, tk_W, tk_4, tk_c _ (by decide), tk_c _ (by decide)]; exact hD
                refine lv_iinc (v := nI (i + 1)) (lv' := [(3, .int (nI (i + 1))), (2, .int (gc g 7)), (0, .ref (a 0)), (1, .int (nI j))]) hx hb dX3_letPass_69 hl (k := 0) rfl (kb_inc1 i) (by decide) rfl (fun ls hl => ?_)
                refine lv_goto (tgt := 35) hx hb dX3_letPass_72 (by decide) ?_
                exact ih_35 (i + 1) (oTick (oRnd (oSit' (oArr' h)))) fo_56 (by omega) (by rw [oPass_s, ← hh]; exact (oMin_t c52).symm) (oTick_ok (oRnd_ok h2)) (rS_tick hw_56) (by omega) _ _ hP hD hS _ (lv_sub hl [0, 1, 2, 3] rfl)
        exact L_35 ((j - 0) + 1) 0 g f (by omega) rfl ho hrs (Nat.lt_succ_self _) _ _ hP hD hS _ (lv_sub hl [0, 1, 2, 3] rfl)
      · refine lv_bipush (v := (-3)) hx hb dX3_letPass_25 (by decide) ?_
        exact kb_iret (D := D) hQ hx hb hr hlocks hK hP hD hS dX3_letPass_27 f (by rw [opP_2 hin (Int32.not_le.mp c22)] <;> rfl) (Nat.le_refl _) (Nat.le_refl _) (show (-3) = (opP g (nI j)).1 ∧ rS f (opP g (nI j)).2 from (by rw [opP_2 hin (Int32.not_le.mp c22)]; exact ⟨rfl, hrs⟩))
    · refine lv_bipush (v := (-2)) hx hb dX3_letPass_11 (by decide) ?_
      exact kb_iret (D := D) hQ hx hb hr hlocks hK hP hD hS dX3_letPass_13 f (by rw [opP_1 (isIn_o (by first | exact Or.inl c2 | exact Or.inr (Int32.not_le.mp c8)))] <;> rfl) (Nat.le_refl _) (Nat.le_refl _) (show (-2) = (opP g x).1 ∧ rS f (opP g x).2 from (by rw [opP_1 (isIn_o (by first | exact Or.inl c2 | exact Or.inr (Int32.not_le.mp c8)))]; exact ⟨rfl, hrs⟩))
