abbrev rmX3_invite : Room := { frames := 2, cells := 0, slots := 0, locals := 45 }
theorem hdX3_invite : yX3_invite.cls = RX3 ∧ yX3_invite.cls ≠ "java/lang/invoke/MethodHandle" ∧ yX3_invite.cls ≠ "java/lang/invoke/VarHandle" ∧ (parseMethodDescriptor yX3_invite.desc).map (fun d => d.parameters.length) = some 3 := by decide +kernel
theorem inwX3_invite_X3 : ∀ w ∈ wsX30, w ∈ wsX3_invite := fun w h => List.mem_cons_of_mem _ (List.mem_append_right _ h)
set_option maxHeartbeats 4000000 in
set_option maxRecDepth 100000 in
theorem c_X3_invite (l : Launch) (D : va_G) (cI : ClassId) (a : Nat → Nat) (f : Nat → Nat → Int32) (g : Sg) (x : Int32) (y : Int32) (m : Int32) (hrs : rS f g) (ho : Ok g) : kb_I (S := (Nat → Nat → Int32)) D [(cI, .int)] l yX3_invite wsX3_invite rmX3_invite [.ref (a 0), .int (x), .int (y), .int (m)] [((a 0), .inr (3, [.ref (a 1), .ref (a 2), .ref (a 3), .ref (a 4), .ref (a 6), .int (nI (nK g)), .int (gc g 4), .int (gc g 7), .int (gc g 10)])), ((a 1), .inl (cI, 216, .inl (f 0))), ((a 2), .inl (cI, 24, .inl (f 1))), ((a 3), .inl (cI, 4, .inl (f 2))), ((a 4), .inr (2, [.ref (a 5), .int (nI (nT g))])), ((a 5), .inl (cI, 12, .inl (f 3))), ((a 6), .inr (2, [.ref (a 7), .int (nI (nW g))])), ((a 7), .inl (cI, 24, .inl (f 4)))] (fun (r : Int32) (u : (Nat → Nat → Int32)) => r = (opA g x y m).1 ∧ rS u (opA g x y m).2) (fun (u : (Nat → Nat → Int32)) => [((a 0), .inr (3, [.ref (a 1), .ref (a 2), .ref (a 3), .ref (a 4), .ref (a 6), .int (nI (nK (opA g x y m).2)), .int (gc (opA g x y m).2 4), .int (gc (opA g x y m).2 7), .int (gc (opA g x y m).2 10)])), ((a 1), .inl (cI, 216, .inl (u 0))), ((a 2), .inl (cI, 24, .inl (u 1))), ((a 3), .inl (cI, 4, .inl (u 2))), ((a 4), .inr (2, [.ref (a 5), .int (nI (nT (opA g x y m).2))])), ((a 5), .inl (cI, 12, .inl (u 3))), ((a 6), .inr (2, [.ref (a 7), .int (nI (nW (opA g x y m).2))])), ((a 7), .inl (cI, 24, .inl (u 4)))]) 0 0 := by
  refine kb_I_of (cc := cX3_invite) (maxL := 5) (ret := (some .int)) (by decide) rfl (Nat.le_of_ble_eq_true rfl) ?_
  intro p e s mm args below meth c A hx hb hml hr hts hown hlocks hnm hA hN hK hP hD hS ls hl Q hQ
  have hl : lv_has ls 5 [(0, .ref (a 0)), (1, .int (x)), (2, .int (y)), (3, .int (m))] := hl
  have hP : va_P D vwCl [((a 0), .inr (3, [.ref (a 1), .ref (a 2), .ref (a 3), .ref (a 4), .ref (a 6), .int (nI (nK g)), .int (gc g 4), .int (gc g 7), .int (gc g 10)])), ((a 1), .inl (cI, 216, .inl (f 0))), ((a 2), .inl (cI, 24, .inl (f 1))), ((a 3), .inl (cI, 4, .inl (f 2))), ((a 4), .inr (2, [.ref (a 5), .int (nI (nT g))])), ((a 5), .inl (cI, 12, .inl (f 3))), ((a 6), .inr (2, [.ref (a 7), .int (nI (nW g))])), ((a 7), .inl (cI, 24, .inl (f 4)))] s.heap := hP
  have hD : va_D A [((a 0), .inr (3, [.ref (a 1), .ref (a 2), .ref (a 3), .ref (a 4), .ref (a 6), .int (nI (nK g)), .int (gc g 4), .int (gc g 7), .int (gc g 10)])), ((a 1), .inl (cI, 216, .inl (f 0))), ((a 2), .inl (cI, 24, .inl (f 1))), ((a 3), .inl (cI, 4, .inl (f 2))), ((a 4), .inr (2, [.ref (a 5), .int (nI (nT g))])), ((a 5), .inl (cI, 12, .inl (f 3))), ((a 6), .inr (2, [.ref (a 7), .int (nI (nW g))])), ((a 7), .inl (cI, 24, .inl (f 4)))] := hD
  have fl37 := hts (.fieldLink RX3 37 "KingsBanquet$State" "minute" "I") (by decide +kernel)
  have fl33 := hts (.fieldLink RX3 33 "KingsBanquet$State" "kings" "I") (by decide +kernel)
  have fl15 := hts (.fieldLink RX3 15 "KingsBanquet$State" "worths" "[I") (by decide +kernel)
  obtain ⟨hF, hW, hC, hT, hM⟩ := id hrs
  have hn := ho.n
  refine lv_iload_n hx hb dX3_invite_0 rfl (lv_at hl 1 rfl) ?_
  refine kb_nR (As := [.int (x)]) (rest := []) hx hb hml hts hown hN hK hP hD hS hA (c_X4_isCrown l D x) gX3_invite_X4_isCrown_n54 rfl ⟨rfl, rfl⟩ hN.2.2.1 (hts (.initialized RX4) (by decide +kernel)) (hts (.static yX4_isCrown) (by decide +kernel)) hdX4_isCrown.2 ⟨Nat.le_of_ble_eq_true rfl, Nat.le_of_ble_eq_true rfl⟩ [] [] rfl rfl rfl rfl rfl hl.1 (Nat.le_of_ble_eq_true rfl) dX3_invite_1 ⟨Nat.zero_le _, Nat.zero_le _⟩ (fun H locs hP hS => ?_)
  refine kb_bif_eq (tgt := 25) hx hb dX3_invite_4 (by decide) (fun c4 => ?_) (fun c4 => ?_)
  · refine lv_bipush (v := (-2)) hx hb dX3_invite_25 (by decide) ?_
    exact kb_iret (D := D) hQ hx hb hr hlocks hK hP hD hS dX3_invite_27 f (by rw [opA_1 (by first | exact Or.inl c4 | exact Or.inr (Or.inl c11) | exact Or.inr (Or.inr (isIn_o (Or.inl c15))) | exact Or.inr (Or.inr (isIn_o (Or.inr (Int32.not_le.mp c22)))))] <;> rfl) (Nat.le_refl _) (Nat.le_refl _) (show (-2) = (opA g x y m).1 ∧ rS f (opA g x y m).2 from (by rw [opA_1 (by first | exact Or.inl c4 | exact Or.inr (Or.inl c11) | exact Or.inr (Or.inr (isIn_o (Or.inl c15))) | exact Or.inr (Or.inr (isIn_o (Or.inr (Int32.not_le.mp c22)))))]; exact ⟨rfl, hrs⟩))
  · refine lv_iload_n hx hb dX3_invite_7 rfl (lv_at hl 2 rfl) ?_
    refine kb_nR (As := [.int (y)]) (rest := []) hx hb hml hts hown hN hK hP hD hS hA (c_X4_isAge l D y) gX3_invite_X4_isAge_n58 rfl ⟨rfl, rfl⟩ hN.2.2.2.1 (hts (.initialized RX4) (by decide +kernel)) (hts (.static yX4_isAge) (by decide +kernel)) hdX4_isAge.2 ⟨Nat.le_of_ble_eq_true rfl, Nat.le_of_ble_eq_true rfl⟩ [] [] rfl rfl rfl rfl rfl hl.1 (Nat.le_of_ble_eq_true rfl) dX3_invite_8 ⟨Nat.zero_le _, Nat.zero_le _⟩ (fun H locs hP hS => ?_)
    refine kb_bif_eq (tgt := 25) hx hb dX3_invite_11 (by decide) (fun c11 => ?_) (fun c11 => ?_)
    · refine lv_bipush (v := (-2)) hx hb dX3_invite_25 (by decide) ?_
      exact kb_iret (D := D) hQ hx hb hr hlocks hK hP hD hS dX3_invite_27 f (by rw [opA_1 (by first | exact Or.inl c4 | exact Or.inr (Or.inl c11) | exact Or.inr (Or.inr (isIn_o (Or.inl c15))) | exact Or.inr (Or.inr (isIn_o (Or.inr (Int32.not_le.mp c22)))))] <;> rfl) (Nat.le_refl _) (Nat.le_refl _) (show (-2) = (opA g x y m).1 ∧ rS f (opA g x y m).2 from (by rw [opA_1 (by first | exact Or.inl c4 | exact Or.inr (Or.inl c11) | exact Or.inr (Or.inr (isIn_o (Or.inl c15))) | exact Or.inr (Or.inr (isIn_o (Or.inr (Int32.not_le.mp c22)))))]; exact ⟨rfl, hrs⟩))
    · refine lv_iload_n hx hb dX3_invite_14 rfl (lv_at hl 3 rfl) ?_
      refine lv_if_lt (tgt := 25) hx hb dX3_invite_15 (by decide) (fun c15 => ?_) (fun c15 => ?_)
      · refine lv_bipush (v := (-2)) hx hb dX3_invite_25 (by decide) ?_
        exact kb_iret (D := D) hQ hx hb hr hlocks hK hP hD hS dX3_invite_27 f (by rw [opA_1 (by first | exact Or.inl c4 | exact Or.inr (Or.inl c11) | exact Or.inr (Or.inr (isIn_o (Or.inl c15))) | exact Or.inr (Or.inr (isIn_o (Or.inr (Int32.not_le.mp c22)))))] <;> rfl) (Nat.le_refl _) (Nat.le_refl _) (show (-2) = (opA g x y m).1 ∧ rS f (opA g x y m).2 from (by rw [opA_1 (by first | exact Or.inl c4 | exact Or.inr (Or.inl c11) | exact Or.inr (Or.inr (isIn_o (Or.inl c15))) | exact Or.inr (Or.inr (isIn_o (Or.inr (Int32.not_le.mp c22)))))]; exact ⟨rfl, hrs⟩))
      · refine lv_iload_n hx hb dX3_invite_18 rfl (lv_at hl 3 rfl) ?_
        refine lv_sipush (v := nI 9999) hx hb dX3_invite_19 (by decide) ?_
        refine lv_icmp_le (tgt := 28) hx hb dX3_invite_22 (by decide) (fun c22 => ?_) (fun c22 => ?_)
        · have hm3 : isIn m 0 9999 = true := isIn_i c15 (Int32.not_lt.mpr c22)
          refine lv_iload_n hx hb dX3_invite_28 rfl (lv_at hl 3 rfl) ?_
          refine lv_aload_n hx hb dX3_invite_29 rfl (lv_at hl 0 rfl) ?_
          refine va_get (D := D) (ci := 3) (v := .int (gc g 4)) (C := RX3) (T := TX3) (N := 9) hx hb hts inwX3_invite_X3 hown hK hP 0 rfl rfl 6 (by decide) fl37 (fun _ h9 => h9) rfl dX3_invite_30 ?_
          refine lv_icmp_ge (tgt := 39) hx hb dX3_invite_33 (by decide) (fun c33 => ?_) (fun c33 => ?_)
          · refine lv_aload_n hx hb dX3_invite_39 rfl (lv_at hl 0 rfl) ?_
            refine va_get (D := D) (ci := 3) (v := .int (nI (nK g))) (C := RX3) (T := TX3) (N := 9) hx hb hts inwX3_invite_X3 hown hK hP 0 rfl rfl 5 (by decide) fl33 (fun _ h9 => h9) rfl dX3_invite_40 ?_
            refine lv_istore (lv' := [(4, .int (nI (nK g))), (0, .ref (a 0)), (1, .int (x)), (2, .int (y)), (3, .int (m))]) hx hb dX3_invite_43 hl (by decide) rfl (fun ls hl => ?_)
            refine lv_iload hx hb dX3_invite_45 (lv_at hl 0 rfl) ?_
            refine kb_nif_lt (tgt := 60) hx hb dX3_invite_47 (by decide) (by omega) ?_
            refine lv_iload hx hb dX3_invite_50 (lv_at hl 0 rfl) ?_
            refine lv_aload_n hx hb dX3_invite_52 rfl (lv_at hl 1 rfl) ?_
            refine va_get (D := D) (ci := 3) (v := .ref (a 2)) (C := RX3) (T := TX3) (N := 9) hx hb hts inwX3_invite_X3 hown hK hP 0 rfl rfl 1 (by decide) fl15 (fun _ h9 => h9) rfl dX3_invite_53 ?_
            refine va_alen hx hb hK hP 2 0 rfl (ty := .int) rfl (v := nI 24) rfl dX3_invite_56 ?_
            refine kb_icmp_lt (tgt := 63) hx hb dX3_invite_57 (by decide) (by omega) (by omega) (fun c57 => ?_) (fun c57 => ?_)
            · obtain ⟨x', hx1, hx9, rfl⟩ := isIn_ex (by decide) (by decide) c4
              obtain ⟨y', hy1, hy9, rfl⟩ := isIn_ex (by decide) (by decide) c11
              refine lv_aload_n hx hb dX3_invite_63 rfl (lv_at hl 1 rfl) ?_
              refine lv_dup hx hb dX3_invite_64 rfl ?_
              refine va_get (D := D) (ci := 3) (v := .int (nI (nK g))) (C := RX3) (T := TX3) (N := 9) hx hb hts inwX3_invite_X3 hown hK hP 0 rfl rfl 5 (by decide) fl33 (fun _ h9 => h9) rfl dX3_invite_65 ?_
              refine lv_iconst (v := nI 1) hx hb dX3_invite_68 (by decide) ?_
              refine lv_iadd hx hb dX3_invite_69 ?_
              refine kb_top (nI (nK g + 1)) (nI_add (nK g) 1) ?_
              refine va_put (D := D) (ci := 3) (v := .int (nI (nK g + 1))) (ty := .int) (C := RX3) (T := TX3) (N := 9) hx hb hts inwX3_invite_X3 tyX3 tyX3_ok nmX3 hown hK hP hD hS 0 rfl rfl 5 (by decide) fl33 (fun _ h9 => h9) rfl (by decide +kernel) rfl rfl (Nat.le_of_ble_eq_true rfl) dX3_invite_70 (fun H locs hP hD hS => ?_)
              have hP : va_P D vwCl [((a 0), .inr (3, [.ref (a 1), .ref (a 2), .ref (a 3), .ref (a 4), .ref (a 6), .int (nI (nK g + 1)), .int (gc g 4), .int (gc g 7), .int (gc g 10)])), ((a 1), .inl (cI, 216, .inl (f 0))), ((a 2), .inl (cI, 24, .inl (f 1))), ((a 3), .inl (cI, 4, .inl (f 2))), ((a 4), .inr (2, [.ref (a 5), .int (nI (nT g))])), ((a 5), .inl (cI, 12, .inl (f 3))), ((a 6), .inr (2, [.ref (a 7), .int (nI (nW g))])), ((a 7), .inl (cI, 24, .inl (f 4)))] H := hP
              have hD : va_D A [((a 0), .inr (3, [.ref (a 1), .ref (a 2), .ref (a 3), .ref (a 4), .ref (a 6), .int (nI (nK g + 1)), .int (gc g 4), .int (gc g 7), .int (gc g 10)])), ((a 1), .inl (cI, 216, .inl (f 0))), ((a 2), .inl (cI, 24, .inl (f 1))), ((a 3), .inl (cI, 4, .inl (f 2))), ((a 4), .inr (2, [.ref (a 5), .int (nI (nT g))])), ((a 5), .inl (cI, 12, .inl (f 3))), ((a 6), .inr (2, [.ref (a 7), .int (nI (nW g))])), ((a 7), .inl (cI, 24, .inl (f 4)))] := hD
              refine lv_aload_n hx hb dX3_invite_73 rfl (lv_at hl 1 rfl) ?_
              refine va_get (D := D) (ci := 3) (v := .ref (a 2)) (C := RX3) (T := TX3) (N := 9) hx hb hts inwX3_invite_X3 hown hK hP 0 rfl rfl 1 (by decide) fl15 (fun _ h9 => h9) rfl dX3_invite_74 ?_
              refine lv_iload hx hb dX3_invite_77 (lv_at hl 0 rfl) ?_
              refine lv_iload_n hx hb dX3_invite_79 rfl (lv_at hl 2 rfl) ?_
              refine lv_iload_n hx hb dX3_invite_80 rfl (lv_at hl 3 rfl) ?_
              refine lv_iload hx hb dX3_invite_81 (lv_at hl 0 rfl) ?_
              refine kb_nR (As := [.int (nI x'), .int (nI y'), .int (nI (nK g))]) (rest := [.int (nI (nK g)), .ref (a 2)]) hx hb hml hts hown hN hK hP hD hS hA (c_X4_worthOf l D x' y' (nK g) hx9 hy9 (by omega)) gX3_invite_X4_worthOf_n61 rfl ⟨rfl, rfl⟩ hN.2.2.2.2.1 (hts (.initialized RX4) (by decide +kernel)) (hts (.static yX4_worthOf) (by decide +kernel)) hdX4_worthOf.2 ⟨Nat.le_of_ble_eq_true rfl, Nat.le_of_ble_eq_true rfl⟩ [] [] rfl rfl rfl rfl rfl hl.1 (Nat.le_of_ble_eq_true rfl) dX3_invite_83 ⟨Nat.zero_le _, Nat.zero_le _⟩ (fun H locs hP hS => ?_)
              refine kb_iast hx hb hK hP hD hS 2 0 rfl rfl (by decide) (by omega) dX3_invite_86 (fun H locs hP hD hS => ?_)
              have hP : va_P D vwCl [((a 0), .inr (3, [.ref (a 1), .ref (a 2), .ref (a 3), .ref (a 4), .ref (a 6), .int (nI (nK g + 1)), .int (gc g 4), .int (gc g 7), .int (gc g 10)])), ((a 1), .inl (cI, 216, .inl (f 0))), ((a 2), .inl (cI, 24, .inl (upd (f 1) (nK g) (nI ((x' * 121 + y') * 25 + 24 - (nK g)))))), ((a 3), .inl (cI, 4, .inl (f 2))), ((a 4), .inr (2, [.ref (a 5), .int (nI (nT g))])), ((a 5), .inl (cI, 12, .inl (f 3))), ((a 6), .inr (2, [.ref (a 7), .int (nI (nW g))])), ((a 7), .inl (cI, 24, .inl (f 4)))] H := hP
              have hD : va_D A [((a 0), .inr (3, [.ref (a 1), .ref (a 2), .ref (a 3), .ref (a 4), .ref (a 6), .int (nI (nK g + 1)), .int (gc g 4), .int (gc g 7), .int (gc g 10)])), ((a 1), .inl (cI, 216, .inl (f 0))), ((a 2), .inl (cI, 24, .inl (upd (f 1) (nK g) (nI ((x' * 121 + y') * 25 + 24 - (nK g)))))), ((a 3), .inl (cI, 4, .inl (f 2))), ((a 4), .inr (2, [.ref (a 5), .int (nI (nT g))])), ((a 5), .inl (cI, 12, .inl (f 3))), ((a 6), .inr (2, [.ref (a 7), .int (nI (nW g))])), ((a 7), .inl (cI, 24, .inl (f 4)))] := hD
              refine lv_aload_n hx hb dX3_invite_87 rfl (lv_at hl 1 rfl) ?_
              refine lv_iload hx hb dX3_invite_88 (lv_at hl 0 rfl) ?_
              refine lv_iconst (v := nI 0) hx hb dX3_invite_90 (by decide) ?_
              refine lv_iload_n hx hb dX3_invite_91 rfl (lv_at hl 2 rfl) ?_
              refine kb_vV (As := [.int (nI (nK g)), .int (nI 0), .int (nI x')]) (rest := []) hx hb hml hts hown hN hK hP hD hS hA (c_X3_setFact l D cI a (nK g + 1) (gc g 4) (gc g 7) (gc g 10) (f 0) (nK g) 0 (nI x') (by omega) (by omega) (by omega)) gX3_invite_X3_setFact rfl ⟨rfl, rfl⟩ hdX3_setFact ⟨Nat.le_of_ble_eq_true rfl, Nat.le_of_ble_eq_true rfl⟩ [0, 1] [0] rfl rfl rfl (ci := 3) rfl rfl rfl (fun _ => rfl) rfl rfl hl.1 (Nat.le_of_ble_eq_true rfl) dX3_invite_92 ⟨Nat.zero_le _, Nat.zero_le _⟩ (fun u H locs hw_92 hP hD hS => ?_)
              have hw_92 : True := hw_92
              have hP : va_P D vwCl [((a 0), .inr (3, [.ref (a 1), .ref (a 2), .ref (a 3), .ref (a 4), .ref (a 6), .int (nI (nK g + 1)), .int ((gc g 4)), .int ((gc g 7)), .int ((gc g 10))])), ((a 1), .inl (cI, 216, .inl (upd (f 0) ((nK g) * 9 + 0) (nI x')))), ((a 2), .inl (cI, 24, .inl (upd (f 1) (nK g) (nI ((x' * 121 + y') * 25 + 24 - (nK g)))))), ((a 3), .inl (cI, 4, .inl (f 2))), ((a 4), .inr (2, [.ref (a 5), .int (nI (nT g))])), ((a 5), .inl (cI, 12, .inl (f 3))), ((a 6), .inr (2, [.ref (a 7), .int (nI (nW g))])), ((a 7), .inl (cI, 24, .inl (f 4)))] H := hP
              have hD : va_D A [((a 0), .inr (3, [.ref (a 1), .ref (a 2), .ref (a 3), .ref (a 4), .ref (a 6), .int (nI (nK g + 1)), .int ((gc g 4)), .int ((gc g 7)), .int ((gc g 10))])), ((a 1), .inl (cI, 216, .inl (upd (f 0) ((nK g) * 9 + 0) (nI x')))), ((a 2), .inl (cI, 24, .inl (upd (f 1) (nK g) (nI ((x' * 121 + y') * 25 + 24 - (nK g)))))), ((a 3), .inl (cI, 4, .inl (f 2))), ((a 4), .inr (2, [.ref (a 5), .int (nI (nT g))])), ((a 5), .inl (cI, 12, .inl (f 3))), ((a 6), .inr (2, [.ref (a 7), .int (nI (nW g))])), ((a 7), .inl (cI, 24, .inl (f 4)))] := hD
              refine lv_aload_n hx hb dX3_invite_95 rfl (lv_at hl 1 rfl) ?_
              refine lv_iload hx hb dX3_invite_96 (lv_at hl 0 rfl) ?_
              refine lv_iconst (v := nI 1) hx hb dX3_invite_98 (by decide) ?_
              refine lv_iload_n hx hb dX3_invite_99 rfl (lv_at hl 3 rfl) ?_
              refine kb_vV (As := [.int (nI (nK g)), .int (nI 1), .int (nI y')]) (rest := []) hx hb hml hts hown hN hK hP hD hS hA (c_X3_setFact l D cI a (nK g + 1) (gc g 4) (gc g 7) (gc g 10) (upd (f 0) ((nK g) * 9 + 0) (nI x')) (nK g) 1 (nI y') (by omega) (by omega) (by omega)) gX3_invite_X3_setFact rfl ⟨rfl, rfl⟩ hdX3_setFact ⟨Nat.le_of_ble_eq_true rfl, Nat.le_of_ble_eq_true rfl⟩ [0, 1] [0] rfl rfl rfl (ci := 3) rfl rfl rfl (fun _ => rfl) rfl rfl hl.1 (Nat.le_of_ble_eq_true rfl) dX3_invite_100 ⟨Nat.zero_le _, Nat.zero_le _⟩ (fun u H locs hw_100 hP hD hS => ?_)
              have hw_100 : True := hw_100
              have hP : va_P D vwCl [((a 0), .inr (3, [.ref (a 1), .ref (a 2), .ref (a 3), .ref (a 4), .ref (a 6), .int (nI (nK g + 1)), .int ((gc g 4)), .int ((gc g 7)), .int ((gc g 10))])), ((a 1), .inl (cI, 216, .inl (upd (upd (f 0) ((nK g) * 9 + 0) (nI x')) ((nK g) * 9 + 1) (nI y')))), ((a 2), .inl (cI, 24, .inl (upd (f 1) (nK g) (nI ((x' * 121 + y') * 25 + 24 - (nK g)))))), ((a 3), .inl (cI, 4, .inl (f 2))), ((a 4), .inr (2, [.ref (a 5), .int (nI (nT g))])), ((a 5), .inl (cI, 12, .inl (f 3))), ((a 6), .inr (2, [.ref (a 7), .int (nI (nW g))])), ((a 7), .inl (cI, 24, .inl (f 4)))] H := hP
              have hD : va_D A [((a 0), .inr (3, [.ref (a 1), .ref (a 2), .ref (a 3), .ref (a 4), .ref (a 6), .int (nI (nK g + 1)), .int ((gc g 4)), .int ((gc g 7)), .int ((gc g 10))])), ((a 1), .inl (cI, 216, .inl (upd (upd (f 0) ((nK g) * 9 + 0) (nI x')) ((nK g) * 9 + 1) (nI y')))), ((a 2), .inl (cI, 24, .inl (upd (f 1) (nK g) (nI ((x' * 121 + y') * 25 + 24 - (nK g)))))), ((a 3), .inl (cI, 4, .inl (f 2))), ((a 4), .inr (2, [.ref (a 5), .int (nI (nT g))])), ((a 5), .inl (cI, 12, .inl (f 3))), ((a 6), .inr (2, [.ref (a 7), .int (nI (nW g))])), ((a 7), .inl (cI, 24, .inl (f 4)))] := hD
              refine lv_aload_n hx hb dX3_invite_103 rfl (lv_at hl 1 rfl) ?_
              refine lv_iload hx hb dX3_invite_104 (lv_at hl 0 rfl) ?_
              refine lv_iconst (v := nI 2) hx hb dX3_invite_106 (by decide) ?_
              refine lv_iload_n hx hb dX3_invite_107 rfl (lv_at hl 4 rfl) ?_
              refine kb_vV (As := [.int (nI (nK g)), .int (nI 2), .int (m)]) (rest := []) hx hb hml hts hown hN hK hP hD hS hA (c_X3_setFact l D cI a (nK g + 1) (gc g 4) (gc g 7) (gc g 10) (upd (upd (f 0) ((nK g) * 9 + 0) (nI x')) ((nK g) * 9 + 1) (nI y')) (nK g) 2 m (by omega) (by omega) (by omega)) gX3_invite_X3_setFact rfl ⟨rfl, rfl⟩ hdX3_setFact ⟨Nat.le_of_ble_eq_true rfl, Nat.le_of_ble_eq_true rfl⟩ [0, 1] [0] rfl rfl rfl (ci := 3) rfl rfl rfl (fun _ => rfl) rfl rfl hl.1 (Nat.le_of_ble_eq_true rfl) dX3_invite_108 ⟨Nat.zero_le _, Nat.zero_le _⟩ (fun u H locs hw_108 hP hD hS => ?_)
              have hw_108 : True := hw_108
              have hP : va_P D vwCl [((a 0), .inr (3, [.ref (a 1), .ref (a 2), .ref (a 3), .ref (a 4), .ref (a 6), .int (nI (nK g + 1)), .int ((gc g 4)), .int ((gc g 7)), .int ((gc g 10))])), ((a 1), .inl (cI, 216, .inl (upd (upd (upd (f 0) ((nK g) * 9 + 0) (nI x')) ((nK g) * 9 + 1) (nI y')) ((nK g) * 9 + 2) m))), ((a 2), .inl (cI, 24, .inl (upd (f 1) (nK g) (nI ((x' * 121 + y') * 25 + 24 - (nK g)))))), ((a 3), .inl (cI, 4, .inl (f 2))), ((a 4), .inr (2, [.ref (a 5), .int (nI (nT g))])), ((a 5), .inl (cI, 12, .inl (f 3))), ((a 6), .inr (2, [.ref (a 7), .int (nI (nW g))])), ((a 7), .inl (cI, 24, .inl (f 4)))] H := hP
              have hD : va_D A [((a 0), .inr (3, [.ref (a 1), .ref (a 2), .ref (a 3), .ref (a 4), .ref (a 6), .int (nI (nK g + 1)), .int ((gc g 4)), .int ((gc g 7)), .int ((gc g 10))])), ((a 1), .inl (cI, 216, .inl (upd (upd (upd (f 0) ((nK g) * 9 + 0) (nI x')) ((nK g) * 9 + 1) (nI y')) ((nK g) * 9 + 2) m))), ((a 2), .inl (cI, 24, .inl (upd (f 1) (nK g) (nI ((x' * 121 + y') * 25 + 24 - (nK g)))))), ((a 3), .inl (cI, 4, .inl (f 2))), ((a 4), .inr (2, [.ref (a 5), .int (nI (nT g))])), ((a 5), .inl (cI, 12, .inl (f 3))), ((a 6), .inr (2, [.ref (a 7), .int (nI (nW g))])), ((a 7), .inl (cI, 24, .inl (f 4)))] := hD
              refine lv_iload hx hb dX3_invite_111 (lv_at hl 0 rfl) ?_
              exact kb_iret (D := D) hQ hx hb hr hlocks hK hP hD hS dX3_invite_113 (kf5 (upd (upd (upd (f 0) ((nK g) * 9 + 0) (nI x')) ((nK g) * 9 + 1) (nI y')) ((nK g) * 9 + 2) m) (upd (f 1) (nK g) (nI ((x' * 121 + y') * 25 + 24 - (nK g)))) (f 2) (f 3) (f 4)) (by rw [opA_4 c4 c11 hm3 (Int32.not_lt.mpr c33) (by omega) (by omega) (by omega)] <;> rfl) (Nat.le_refl _) (Nat.le_refl _) (show (nI (nK g)) = (opA g (nI x') (nI y') m).1 ∧ rS (kf5 (upd (upd (upd (f 0) ((nK g) * 9 + 0) (nI x')) ((nK g) * 9 + 1) (nI y')) ((nK g) * 9 + 2) m) (upd (f 1) (nK g) (nI ((x' * 121 + y') * 25 + 24 - (nK g)))) (f 2) (f 3) (f 4)) (opA g (nI x') (nI y') m).2 from (by rw [opA_4 c4 c11 hm3 (Int32.not_lt.mpr c33) (by omega) (by omega) (by omega)]; exact ⟨rfl, rF_ann hF, rW_ann hW, rC_of (fun _ _ => rfl) hC, rT_of rfl rfl hT, rM_of rfl rfl hM⟩))
            · refine lv_bipush (v := (-3)) hx hb dX3_invite_60 (by decide) ?_
              exact kb_iret (D := D) hQ hx hb hr hlocks hK hP hD hS dX3_invite_62 f (by rw [opA_3 c4 c11 hm3 (Int32.not_lt.mpr c33) (by omega)] <;> rfl) (Nat.le_refl _) (Nat.le_refl _) (show (-3) = (opA g x y m).1 ∧ rS f (opA g x y m).2 from (by rw [opA_3 c4 c11 hm3 (Int32.not_lt.mpr c33) (by omega)]; exact ⟨rfl, hrs⟩))
          · refine lv_bipush (v := (-4)) hx hb dX3_invite_36 (by decide) ?_
            exact kb_iret (D := D) hQ hx hb hr hlocks hK hP hD hS dX3_invite_38 f (by rw [opA_2 c4 c11 hm3 (Int32.not_le.mp c33)] <;> rfl) (Nat.le_refl _) (Nat.le_refl _) (show (-4) = (opA g x y m).1 ∧ rS f (opA g x y m).2 from (by rw [opA_2 c4 c11 hm3 (Int32.not_le.mp c33)]; exact ⟨rfl, hrs⟩))
        · refine lv_bipush (v := (-2)) hx hb dX3_invite_25 (by decide) ?_
          exact kb_iret (D := D) hQ hx hb hr hlocks hK hP hD hS dX3_invite_27 f (by rw [opA_1 (by first | exact Or.inl c4 | exact Or.inr (Or.inl c11) | exact Or.inr (Or.inr (isIn_o (Or.inl c15))) | exact Or.inr (Or.inr (isIn_o (Or.inr (Int32.not_le.mp c22)))))] <;> rfl) (Nat.le_refl _) (Nat.le_refl _) (show (-2) = (opA g x y m).1 ∧ rS f (opA g x y m).2 from (by rw [opA_1 (by first | exact Or.inl c4 | exact Or.inr (Or.inl c11) | exact Or.inr (Or.inr (isIn_o (Or.inl c15))) | exact Or.inr (Or.inr (isIn_o (Or.inr (Int32.not_le.mp c22)))))]; exact ⟨rfl, hrs⟩))
abbrev rmX3_dismiss : Room := { frames := 2, cells := 0, slots := 0, locals := 45 }
theorem hdX3_dismiss : yX3_dismiss.cls = RX3 ∧ yX3_dismiss.cls ≠ "java/lang/invoke/MethodHandle" ∧ yX3_dismiss.cls ≠ "java/lang/invoke/VarHandle" ∧ (parseMethodDescriptor yX3_dismiss.desc).map (fun d => d.parameters.length) = some 1 := by decide +kernel
theorem inwX3_dismiss_X3 : ∀ w ∈ wsX30, w ∈ wsX3_dismiss := fun w h => List.mem_cons_of_mem _ (List.mem_append_left _ (List.mem_append_right _ h))
theorem inwX3_dismiss_X2 : ∀ w ∈ wsX20, w ∈ wsX3_dismiss := fun w h => List.mem_cons_of_mem _ (List.mem_append_right _ h)
set_option maxHeartbeats 4000000 in
set_option maxRecDepth 100000 in
theorem c_X3_dismiss (l : Launch) (D : va_G) (cI : ClassId) (a : Nat → Nat) (f : Nat → Nat → Int32) (g : Sg) (x : Int32) (hrs : rS f g) (ho : Ok g) : kb_I (S := (Nat → Nat → Int32)) D [(cI, .int)] l yX3_dismiss wsX3_dismiss rmX3_dismiss [.ref (a 0), .int (x)] [((a 0), .inr (3, [.ref (a 1), .ref (a 2), .ref (a 3), .ref (a 4), .ref (a 6), .int (nI (nK g)), .int (gc g 4), .int (gc g 7), .int (gc g 10)])), ((a 1), .inl (cI, 216, .inl (f 0))), ((a 2), .inl (cI, 24, .inl (f 1))), ((a 3), .inl (cI, 4, .inl (f 2))), ((a 4), .inr (2, [.ref (a 5), .int (nI (nT g))])), ((a 5), .inl (cI, 12, .inl (f 3))), ((a 6), .inr (2, [.ref (a 7), .int (nI (nW g))])), ((a 7), .inl (cI, 24, .inl (f 4)))] (fun (r : Int32) (u : (Nat → Nat → Int32)) => r = (opL g x).1 ∧ rS u (opL g x).2) (fun (u : (Nat → Nat → Int32)) => [((a 0), .inr (3, [.ref (a 1), .ref (a 2), .ref (a 3), .ref (a 4), .ref (a 6), .int (nI (nK (opL g x).2)), .int (gc (opL g x).2 4), .int (gc (opL g x).2 7), .int (gc (opL g x).2 10)])), ((a 1), .inl (cI, 216, .inl (u 0))), ((a 2), .inl (cI, 24, .inl (u 1))), ((a 3), .inl (cI, 4, .inl (u 2))), ((a 4), .inr (2, [.ref (a 5), .int (nI (nT (opL g x).2))])), ((a 5), .inl (cI, 12, .inl (u 3))), ((a 6), .inr (2, [.ref (a 7), .int (nI (nW (opL g x).2))])), ((a 7), .inl (cI, 24, .inl (u 4)))]) 0 0 := by
  refine kb_I_of (cc := cX3_dismiss) (maxL := 3) (ret := (some .int)) (by decide) rfl (Nat.le_of_ble_eq_true rfl) ?_
  intro p e s mm args below meth c A hx hb hml hr hts hown hlocks hnm hA hN hK hP hD hS ls hl Q hQ
  have hl : lv_has ls 3 [(0, .ref (a 0)), (1, .int (x))] := hl
  have hP : va_P D vwCl [((a 0), .inr (3, [.ref (a 1), .ref (a 2), .ref (a 3), .ref (a 4), .ref (a 6), .int (nI (nK g)), .int (gc g 4), .int (gc g 7), .int (gc g 10)])), ((a 1), .inl (cI, 216, .inl (f 0))), ((a 2), .inl (cI, 24, .inl (f 1))), ((a 3), .inl (cI, 4, .inl (f 2))), ((a 4), .inr (2, [.ref (a 5), .int (nI (nT g))])), ((a 5), .inl (cI, 12, .inl (f 3))), ((a 6), .inr (2, [.ref (a 7), .int (nI (nW g))])), ((a 7), .inl (cI, 24, .inl (f 4)))] s.heap := hP
  have hD : va_D A [((a 0), .inr (3, [.ref (a 1), .ref (a 2), .ref (a 3), .ref (a 4), .ref (a 6), .int (nI (nK g)), .int (gc g 4), .int (gc g 7), .int (gc g 10)])), ((a 1), .inl (cI, 216, .inl (f 0))), ((a 2), .inl (cI, 24, .inl (f 1))), ((a 3), .inl (cI, 4, .inl (f 2))), ((a 4), .inr (2, [.ref (a 5), .int (nI (nT g))])), ((a 5), .inl (cI, 12, .inl (f 3))), ((a 6), .inr (2, [.ref (a 7), .int (nI (nW g))])), ((a 7), .inl (cI, 24, .inl (f 4)))] := hD
  have fl26 := hts (.fieldLink RX3 26 "KingsBanquet$State" "table" "LKingsBanquet$Row;") (by decide +kernel)
  have fl30 := hts (.fieldLink RX3 30 "KingsBanquet$State" "hall" "LKingsBanquet$Row;") (by decide +kernel)
  obtain ⟨hF, hW, hC, hT, hM⟩ := id hrs
  have hn := ho.n
  refine lv_aload_n hx hb dX3_dismiss_0 rfl (lv_at hl 0 rfl) ?_
  refine lv_iload_n hx hb dX3_dismiss_1 rfl (lv_at hl 1 rfl) ?_
  refine kb_vR (As := [.int (x)]) (rest := []) hx hb hml hts hown hN hK hP hD hS hA (c_X3_isKing l D (by first | assumption | omega) a (nK g) (gc g 4) (gc g 7) (gc g 10) x (by first | assumption | omega)) gX3_dismiss_X3_isKing rfl ⟨rfl, rfl⟩ hdX3_isKing ⟨Nat.le_of_ble_eq_true rfl, Nat.le_of_ble_eq_true rfl⟩ [0] [] rfl rfl rfl (ci := 3) rfl rfl rfl rfl rfl hl.1 (Nat.le_of_ble_eq_true rfl) dX3_dismiss_2 ⟨Nat.zero_le _, Nat.zero_le _⟩ (fun H locs hP hS => ?_)
  refine kb_bif_ne (tgt := 10) hx hb dX3_dismiss_5 (by decide) (fun c5 => ?_) (fun c5 => ?_)
  · obtain ⟨k, hk, rfl⟩ := kIs_ex c5 (by omega)
    have hkk := ho.k k hk
    refine lv_aload_n hx hb dX3_dismiss_10 rfl (lv_at hl 0 rfl) ?_
    refine lv_iload_n hx hb dX3_dismiss_11 rfl (lv_at hl 1 rfl) ?_
    refine lv_iconst (v := nI 3) hx hb dX3_dismiss_12 (by decide) ?_
    refine kb_vR (As := [.int (nI k), .int (nI 3)]) (rest := []) hx hb hml hts hown hN hK hP hD hS hA (c_X3_fact l D cI a (nK g) (gc g 4) (gc g 7) (gc g 10) (f 0) k 3 hk (by omega) hn.1) gX3_dismiss_X3_fact rfl ⟨rfl, rfl⟩ hdX3_fact ⟨Nat.le_of_ble_eq_true rfl, Nat.le_of_ble_eq_true rfl⟩ [0, 1] [0] rfl rfl rfl (ci := 3) rfl rfl rfl rfl rfl hl.1 (Nat.le_of_ble_eq_true rfl) dX3_dismiss_13 ⟨Nat.zero_le _, Nat.zero_le _⟩ (fun H locs hP hS => ?_)
    refine kb_top (nI (gD g k)) (hF k (by omega)).2.2.2.1 ?_
    refine lv_istore_n (lv' := [(2, .int (nI (gD g k))), (0, .ref (a 0)), (1, .int (nI k))]) hx hb dX3_dismiss_16 rfl hl (by decide) rfl (fun ls hl => ?_)
    refine lv_iload_n hx hb dX3_dismiss_17 rfl (lv_at hl 0 rfl) ?_
    refine lv_iconst (v := nI 3) hx hb dX3_dismiss_18 (by decide) ?_
    refine kb_icmp_ne (tgt := 25) hx hb dX3_dismiss_19 (by decide) (by omega) (by omega) (fun c19 => ?_) (fun c19 => ?_)
    · by_cases h2 : gD g k = 2
      · refine lv_aload_n hx hb dX3_dismiss_25 rfl (lv_at hl 1 rfl) ?_
        refine va_get (D := D) (ci := 3) (v := .ref (a 4)) (C := RX3) (T := TX3) (N := 9) hx hb hts inwX3_dismiss_X3 hown hK hP 0 rfl rfl 3 (by decide) fl26 (fun _ h9 => h9) rfl dX3_dismiss_26 ?_
        refine lv_iload_n hx hb dX3_dismiss_29 rfl (lv_at hl 2 rfl) ?_
        refine kb_vV (As := [.int (nI k)]) (rest := []) hx hb hml hts hown hN hK hP hD hS hA (c_X2_remove l D cI (fun i => a (4 + i)) 12 (f 3) (nT g) (nI k) (plT g k) ((plT_lt ho hk).mpr h2) ((hT _ ((plT_lt ho hk).mpr h2)).trans (by rw [plT_in ((plT_lt ho hk).mpr h2)])) (by have q := rT_fst ho hT ((plT_lt ho hk).mpr h2); rwa [plT_in ((plT_lt ho hk).mpr h2)] at q) hn.2.1 (by decide)) gX3_dismiss_X2_remove rfl ⟨rfl, rfl⟩ hdX2_remove ⟨Nat.le_of_ble_eq_true rfl, Nat.le_of_ble_eq_true rfl⟩ [4, 5] [0] rfl rfl rfl (ci := 2) rfl rfl rfl (fun _ => rfl) rfl rfl hl.1 (Nat.le_of_ble_eq_true rfl) dX3_dismiss_30 ⟨Nat.zero_le _, Nat.zero_le _⟩ (fun u H locs hw_30 hP hD hS => ?_)
        have hw_30 : True := hw_30
        have hP : va_P D vwCl [((a 0), .inr (3, [.ref (a 1), .ref (a 2), .ref (a 3), .ref (a 4), .ref (a 6), .int (nI (nK g)), .int (gc g 4), .int (gc g 7), .int (gc g 10)])), ((a 1), .inl (cI, 216, .inl (f 0))), ((a 2), .inl (cI, 24, .inl (f 1))), ((a 3), .inl (cI, 4, .inl (f 2))), ((a 4), .inr (2, [.ref (a 5), .int (nI ((nT g) - 1))])), ((a 5), .inl (cI, 12, .inl (rDel (f 3) (plT g k) ((nT g) - 1)))), ((a 6), .inr (2, [.ref (a 7), .int (nI (nW g))])), ((a 7), .inl (cI, 24, .inl (f 4)))] H := hP
        have hD : va_D A [((a 0), .inr (3, [.ref (a 1), .ref (a 2), .ref (a 3), .ref (a 4), .ref (a 6), .int (nI (nK g)), .int (gc g 4), .int (gc g 7), .int (gc g 10)])), ((a 1), .inl (cI, 216, .inl (f 0))), ((a 2), .inl (cI, 24, .inl (f 1))), ((a 3), .inl (cI, 4, .inl (f 2))), ((a 4), .inr (2, [.ref (a 5), .int (nI ((nT g) - 1))])), ((a 5), .inl (cI, 12, .inl (rDel (f 3) (plT g k) ((nT g) - 1)))), ((a 6), .inr (2, [.ref (a 7), .int (nI (nW g))])), ((a 7), .inl (cI, 24, .inl (f 4)))] := hD
        refine lv_aload_n hx hb dX3_dismiss_33 rfl (lv_at hl 1 rfl) ?_
        refine va_get (D := D) (ci := 3) (v := .ref (a 6)) (C := RX3) (T := TX3) (N := 9) hx hb hts inwX3_dismiss_X3 hown hK hP 0 rfl rfl 4 (by decide) fl30 (fun _ h9 => h9) rfl dX3_dismiss_34 ?_
        refine lv_iload_n hx hb dX3_dismiss_37 rfl (lv_at hl 2 rfl) ?_
        refine kb_vV (As := [.int (nI k)]) (rest := []) hx hb hml hts hown hN hK hP hD hS hA (c_X2_remove0 l D cI (fun i => a (6 + i)) 24 (f 4) (nW g) (nI k) (rM_no ho hM hk (by omega)) hn.2.2 (by decide)) gX3_dismiss_X2_remove rfl ⟨rfl, rfl⟩ hdX2_remove ⟨Nat.le_of_ble_eq_true rfl, Nat.le_of_ble_eq_true rfl⟩ [6, 7] [0] rfl rfl rfl (ci := 2) rfl rfl rfl (fun _ => rfl) rfl rfl hl.1 (Nat.le_of_ble_eq_true rfl) dX3_dismiss_38 ⟨Nat.zero_le _, Nat.zero_le _⟩ (fun u H locs hw_38 hP hD hS => ?_)
        have hw_38 : True := hw_38
        have hP : va_P D vwCl [((a 0), .inr (3, [.ref (a 1), .ref (a 2), .ref (a 3), .ref (a 4), .ref (a 6), .int (nI (nK g)), .int (gc g 4), .int (gc g 7), .int (gc g 10)])), ((a 1), .inl (cI, 216, .inl (f 0))), ((a 2), .inl (cI, 24, .inl (f 1))), ((a 3), .inl (cI, 4, .inl (f 2))), ((a 4), .inr (2, [.ref (a 5), .int (nI ((nT g) - 1))])), ((a 5), .inl (cI, 12, .inl (rDel (f 3) (plT g k) ((nT g) - 1)))), ((a 6), .inr (2, [.ref (a 7), .int (nI (nW g))])), ((a 7), .inl (cI, 24, .inl (f 4)))] H := hP
        have hD : va_D A [((a 0), .inr (3, [.ref (a 1), .ref (a 2), .ref (a 3), .ref (a 4), .ref (a 6), .int (nI (nK g)), .int (gc g 4), .int (gc g 7), .int (gc g 10)])), ((a 1), .inl (cI, 216, .inl (f 0))), ((a 2), .inl (cI, 24, .inl (f 1))), ((a 3), .inl (cI, 4, .inl (f 2))), ((a 4), .inr (2, [.ref (a 5), .int (nI ((nT g) - 1))])), ((a 5), .inl (cI, 12, .inl (rDel (f 3) (plT g k) ((nT g) - 1)))), ((a 6), .inr (2, [.ref (a 7), .int (nI (nW g))])), ((a 7), .inl (cI, 24, .inl (f 4)))] := hD
        refine lv_aload_n hx hb dX3_dismiss_41 rfl (lv_at hl 1 rfl) ?_
        refine lv_iload_n hx hb dX3_dismiss_42 rfl (lv_at hl 2 rfl) ?_
        refine lv_iconst (v := nI 3) hx hb dX3_dismiss_43 (by decide) ?_
        refine lv_iconst (v := nI 3) hx hb dX3_dismiss_44 (by decide) ?_
        refine kb_vV (As := [.int (nI k), .int (nI 3), .int (nI 3)]) (rest := []) hx hb hml hts hown hN hK hP hD hS hA (c_X3_setFact l D cI a (nK g) (gc g 4) (gc g 7) (gc g 10) (f 0) k 3 (nI 3) hk (by omega) hn.1) gX3_dismiss_X3_setFact rfl ⟨rfl, rfl⟩ hdX3_setFact ⟨Nat.le_of_ble_eq_true rfl, Nat.le_of_ble_eq_true rfl⟩ [0, 1] [0] rfl rfl rfl (ci := 3) rfl rfl rfl (fun _ => rfl) rfl rfl hl.1 (Nat.le_of_ble_eq_true rfl) dX3_dismiss_45 ⟨Nat.zero_le _, Nat.zero_le _⟩ (fun u H locs hw_45 hP hD hS => ?_)
        have hw_45 : True := hw_45
        have hP : va_P D vwCl [((a 0), .inr (3, [.ref (a 1), .ref (a 2), .ref (a 3), .ref (a 4), .ref (a 6), .int (nI (nK g)), .int ((gc g 4)), .int ((gc g 7)), .int ((gc g 10))])), ((a 1), .inl (cI, 216, .inl (upd (f 0) (k * 9 + 3) (nI 3)))), ((a 2), .inl (cI, 24, .inl (f 1))), ((a 3), .inl (cI, 4, .inl (f 2))), ((a 4), .inr (2, [.ref (a 5), .int (nI ((nT g) - 1))])), ((a 5), .inl (cI, 12, .inl (rDel (f 3) (plT g k) ((nT g) - 1)))), ((a 6), .inr (2, [.ref (a 7), .int (nI (nW g))])), ((a 7), .inl (cI, 24, .inl (f 4)))] H := hP
        have hD : va_D A [((a 0), .inr (3, [.ref (a 1), .ref (a 2), .ref (a 3), .ref (a 4), .ref (a 6), .int (nI (nK g)), .int ((gc g 4)), .int ((gc g 7)), .int ((gc g 10))])), ((a 1), .inl (cI, 216, .inl (upd (f 0) (k * 9 + 3) (nI 3)))), ((a 2), .inl (cI, 24, .inl (f 1))), ((a 3), .inl (cI, 4, .inl (f 2))), ((a 4), .inr (2, [.ref (a 5), .int (nI ((nT g) - 1))])), ((a 5), .inl (cI, 12, .inl (rDel (f 3) (plT g k) ((nT g) - 1)))), ((a 6), .inr (2, [.ref (a 7), .int (nI (nW g))])), ((a 7), .inl (cI, 24, .inl (f 4)))] := hD
        refine lv_iload_n hx hb dX3_dismiss_48 rfl (lv_at hl 0 rfl) ?_
        exact kb_iret (D := D) hQ hx hb hr hlocks hK hP hD hS dX3_dismiss_49 (kf5 (upd (f 0) (k * 9 + 3) (nI 3)) (f 1) (f 2) (rDel (f 3) (plT g k) ((nT g) - 1)) (f 4)) (by rw [opL_3 c5 (by omega) (by omega), oLv_2 h2] <;> rfl) (Nat.le_refl _) (Nat.le_refl _) (show (nI (gD g k)) = (opL g (nI k)).1 ∧ rS (kf5 (upd (f 0) (k * 9 + 3) (nI 3)) (f 1) (f 2) (rDel (f 3) (plT g k) ((nT g) - 1)) (f 4)) (opL g (nI k)).2 from (by rw [opL_3 c5 (by omega) (by omega), oLv_2 h2]; exact ⟨rfl, rF_lv hF rfl rfl rfl rfl, rW_of rfl (fun _ => rfl) hW, rC_of (fun _ _ => rfl) hC, rT_del hT rfl rfl, rM_of rfl rfl hM⟩))
      by_cases h1 : gD g k = 1
      · refine lv_aload_n hx hb dX3_dismiss_25 rfl (lv_at hl 1 rfl) ?_
        refine va_get (D := D) (ci := 3) (v := .ref (a 4)) (C := RX3) (T := TX3) (N := 9) hx hb hts inwX3_dismiss_X3 hown hK hP 0 rfl rfl 3 (by decide) fl26 (fun _ h9 => h9) rfl dX3_dismiss_26 ?_
        refine lv_iload_n hx hb dX3_dismiss_29 rfl (lv_at hl 2 rfl) ?_
        refine kb_vV (As := [.int (nI k)]) (rest := []) hx hb hml hts hown hN hK hP hD hS hA (c_X2_remove0 l D cI (fun i => a (4 + i)) 12 (f 3) (nT g) (nI k) (rT_no ho hT hk h2) hn.2.1 (by decide)) gX3_dismiss_X2_remove rfl ⟨rfl, rfl⟩ hdX2_remove ⟨Nat.le_of_ble_eq_true rfl, Nat.le_of_ble_eq_true rfl⟩ [4, 5] [0] rfl rfl rfl (ci := 2) rfl rfl rfl (fun _ => rfl) rfl rfl hl.1 (Nat.le_of_ble_eq_true rfl) dX3_dismiss_30 ⟨Nat.zero_le _, Nat.zero_le _⟩ (fun u H locs hw_30 hP hD hS => ?_)
        have hw_30 : True := hw_30
        have hP : va_P D vwCl [((a 0), .inr (3, [.ref (a 1), .ref (a 2), .ref (a 3), .ref (a 4), .ref (a 6), .int (nI (nK g)), .int (gc g 4), .int (gc g 7), .int (gc g 10)])), ((a 1), .inl (cI, 216, .inl (f 0))), ((a 2), .inl (cI, 24, .inl (f 1))), ((a 3), .inl (cI, 4, .inl (f 2))), ((a 4), .inr (2, [.ref (a 5), .int (nI (nT g))])), ((a 5), .inl (cI, 12, .inl (f 3))), ((a 6), .inr (2, [.ref (a 7), .int (nI (nW g))])), ((a 7), .inl (cI, 24, .inl (f 4)))] H := hP
        have hD : va_D A [((a 0), .inr (3, [.ref (a 1), .ref (a 2), .ref (a 3), .ref (a 4), .ref (a 6), .int (nI (nK g)), .int (gc g 4), .int (gc g 7), .int (gc g 10)])), ((a 1), .inl (cI, 216, .inl (f 0))), ((a 2), .inl (cI, 24, .inl (f 1))), ((a 3), .inl (cI, 4, .inl (f 2))), ((a 4), .inr (2, [.ref (a 5), .int (nI (nT g))])), ((a 5), .inl (cI, 12, .inl (f 3))), ((a 6), .inr (2, [.ref (a 7), .int (nI (nW g))])), ((a 7), .inl (cI, 24, .inl (f 4)))] := hD
        refine lv_aload_n hx hb dX3_dismiss_33 rfl (lv_at hl 1 rfl) ?_
        refine va_get (D := D) (ci := 3) (v := .ref (a 6)) (C := RX3) (T := TX3) (N := 9) hx hb hts inwX3_dismiss_X3 hown hK hP 0 rfl rfl 4 (by decide) fl30 (fun _ h9 => h9) rfl dX3_dismiss_34 ?_
        refine lv_iload_n hx hb dX3_dismiss_37 rfl (lv_at hl 2 rfl) ?_
        refine kb_vV (As := [.int (nI k)]) (rest := []) hx hb hml hts hown hN hK hP hD hS hA (c_X2_remove l D cI (fun i => a (6 + i)) 24 (f 4) (nW g) (nI k) (plW g k) ((plW_lt ho hk).mpr h1) ((hM _ ((plW_lt ho hk).mpr h1)).trans (by rw [plW_in ((plW_lt ho hk).mpr h1)])) (by have q := rM_fst ho hM ((plW_lt ho hk).mpr h1); rwa [plW_in ((plW_lt ho hk).mpr h1)] at q) hn.2.2 (by decide)) gX3_dismiss_X2_remove rfl ⟨rfl, rfl⟩ hdX2_remove ⟨Nat.le_of_ble_eq_true rfl, Nat.le_of_ble_eq_true rfl⟩ [6, 7] [0] rfl rfl rfl (ci := 2) rfl rfl rfl (fun _ => rfl) rfl rfl hl.1 (Nat.le_of_ble_eq_true rfl) dX3_dismiss_38 ⟨Nat.zero_le _, Nat.zero_le _⟩ (fun u H locs hw_38 hP hD hS => ?_)
        have hw_38 : True := hw_38
        have hP : va_P D vwCl [((a 0), .inr (3, [.ref (a 1), .ref (a 2), .ref (a 3), .ref (a 4), .ref (a 6), .int (nI (nK g)), .int (gc g 4), .int (gc g 7), .int (gc g 10)])), ((a 1), .inl (cI, 216, .inl (f 0))), ((a 2), .inl (cI, 24, .inl (f 1))), ((a 3), .inl (cI, 4, .inl (f 2))), ((a 4), .inr (2, [.ref (a 5), .int (nI (nT g))])), ((a 5), .inl (cI, 12, .inl (f 3))), ((a 6), .inr (2, [.ref (a 7), .int (nI ((nW g) - 1))])), ((a 7), .inl (cI, 24, .inl (rDel (f 4) (plW g k) ((nW g) - 1))))] H := hP
        have hD : va_D A [((a 0), .inr (3, [.ref (a 1), .ref (a 2), .ref (a 3), .ref (a 4), .ref (a 6), .int (nI (nK g)), .int (gc g 4), .int (gc g 7), .int (gc g 10)])), ((a 1), .inl (cI, 216, .inl (f 0))), ((a 2), .inl (cI, 24, .inl (f 1))), ((a 3), .inl (cI, 4, .inl (f 2))), ((a 4), .inr (2, [.ref (a 5), .int (nI (nT g))])), ((a 5), .inl (cI, 12, .inl (f 3))), ((a 6), .inr (2, [.ref (a 7), .int (nI ((nW g) - 1))])), ((a 7), .inl (cI, 24, .inl (rDel (f 4) (plW g k) ((nW g) - 1))))] := hD
        refine lv_aload_n hx hb dX3_dismiss_41 rfl (lv_at hl 1 rfl) ?_
        refine lv_iload_n hx hb dX3_dismiss_42 rfl (lv_at hl 2 rfl) ?_
        refine lv_iconst (v := nI 3) hx hb dX3_dismiss_43 (by decide) ?_
        refine lv_iconst (v := nI 3) hx hb dX3_dismiss_44 (by decide) ?_
        refine kb_vV (As := [.int (nI k), .int (nI 3), .int (nI 3)]) (rest := []) hx hb hml hts hown hN hK hP hD hS hA (c_X3_setFact l D cI a (nK g) (gc g 4) (gc g 7) (gc g 10) (f 0) k 3 (nI 3) hk (by omega) hn.1) gX3_dismiss_X3_setFact rfl ⟨rfl, rfl⟩ hdX3_setFact ⟨Nat.le_of_ble_eq_true rfl, Nat.le_of_ble_eq_true rfl⟩ [0, 1] [0] rfl rfl rfl (ci := 3) rfl rfl rfl (fun _ => rfl) rfl rfl hl.1 (Nat.le_of_ble_eq_true rfl) dX3_dismiss_45 ⟨Nat.zero_le _, Nat.zero_le _⟩ (fun u H locs hw_45 hP hD hS => ?_)
        have hw_45 : True := hw_45
        have hP : va_P D vwCl [((a 0), .inr (3, [.ref (a 1), .ref (a 2), .ref (a 3), .ref (a 4), .ref (a 6), .int (nI (nK g)), .int ((gc g 4)), .int ((gc g 7)), .int ((gc g 10))])), ((a 1), .inl (cI, 216, .inl (upd (f 0) (k * 9 + 3) (nI 3)))), ((a 2), .inl (cI, 24, .inl (f 1))), ((a 3), .inl (cI, 4, .inl (f 2))), ((a 4), .inr (2, [.ref (a 5), .int (nI (nT g))])), ((a 5), .inl (cI, 12, .inl (f 3))), ((a 6), .inr (2, [.ref (a 7), .int (nI ((nW g) - 1))])), ((a 7), .inl (cI, 24, .inl (rDel (f 4) (plW g k) ((nW g) - 1))))] H := hP
        have hD : va_D A [((a 0), .inr (3, [.ref (a 1), .ref (a 2), .ref (a 3), .ref (a 4), .ref (a 6), .int (nI (nK g)), .int ((gc g 4)), .int ((gc g 7)), .int ((gc g 10))])), ((a 1), .inl (cI, 216, .inl (upd (f 0) (k * 9 + 3) (nI 3)))), ((a 2), .inl (cI, 24, .inl (f 1))), ((a 3), .inl (cI, 4, .inl (f 2))), ((a 4), .inr (2, [.ref (a 5), .int (nI (nT g))])), ((a 5), .inl (cI, 12, .inl (f 3))), ((a 6), .inr (2, [.ref (a 7), .int (nI ((nW g) - 1))])), ((a 7), .inl (cI, 24, .inl (rDel (f 4) (plW g k) ((nW g) - 1))))] := hD
        refine lv_iload_n hx hb dX3_dismiss_48 rfl (lv_at hl 0 rfl) ?_
        exact kb_iret (D := D) hQ hx hb hr hlocks hK hP hD hS dX3_dismiss_49 (kf5 (upd (f 0) (k * 9 + 3) (nI 3)) (f 1) (f 2) (f 3) (rDel (f 4) (plW g k) ((nW g) - 1))) (by rw [opL_3 c5 (by omega) (by omega), oLv_1 h1] <;> rfl) (Nat.le_refl _) (Nat.le_refl _) (show (nI (gD g k)) = (opL g (nI k)).1 ∧ rS (kf5 (upd (f 0) (k * 9 + 3) (nI 3)) (f 1) (f 2) (f 3) (rDel (f 4) (plW g k) ((nW g) - 1))) (opL g (nI k)).2 from (by rw [opL_3 c5 (by omega) (by omega), oLv_1 h1]; exact ⟨rfl, rF_lv hF rfl rfl rfl rfl, rW_of rfl (fun _ => rfl) hW, rC_of (fun _ _ => rfl) hC, rT_of rfl rfl hT, rM_del hM rfl rfl⟩))
      · refine lv_aload_n hx hb dX3_dismiss_25 rfl (lv_at hl 1 rfl) ?_
        refine va_get (D := D) (ci := 3) (v := .ref (a 4)) (C := RX3) (T := TX3) (N := 9) hx hb hts inwX3_dismiss_X3 hown hK hP 0 rfl rfl 3 (by decide) fl26 (fun _ h9 => h9) rfl dX3_dismiss_26 ?_
        refine lv_iload_n hx hb dX3_dismiss_29 rfl (lv_at hl 2 rfl) ?_
        refine kb_vV (As := [.int (nI k)]) (rest := []) hx hb hml hts hown hN hK hP hD hS hA (c_X2_remove0 l D cI (fun i => a (4 + i)) 12 (f 3) (nT g) (nI k) (rT_no ho hT hk h2) hn.2.1 (by decide)) gX3_dismiss_X2_remove rfl ⟨rfl, rfl⟩ hdX2_remove ⟨Nat.le_of_ble_eq_true rfl, Nat.le_of_ble_eq_true rfl⟩ [4, 5] [0] rfl rfl rfl (ci := 2) rfl rfl rfl (fun _ => rfl) rfl rfl hl.1 (Nat.le_of_ble_eq_true rfl) dX3_dismiss_30 ⟨Nat.zero_le _, Nat.zero_le _⟩ (fun u H locs hw_30 hP hD hS => ?_)
        have hw_30 : True := hw_30
        have hP : va_P D vwCl [((a 0), .inr (3, [.ref (a 1), .ref (a 2), .ref (a 3), .ref (a 4), .ref (a 6), .int (nI (nK g)), .int (gc g 4), .int (gc g 7), .int (gc g 10)])), ((a 1), .inl (cI, 216, .inl (f 0))), ((a 2), .inl (cI, 24, .inl (f 1))), ((a 3), .inl (cI, 4, .inl (f 2))), ((a 4), .inr (2, [.ref (a 5), .int (nI (nT g))])), ((a 5), .inl (cI, 12, .inl (f 3))), ((a 6), .inr (2, [.ref (a 7), .int (nI (nW g))])), ((a 7), .inl (cI, 24, .inl (f 4)))] H := hP
        have hD : va_D A [((a 0), .inr (3, [.ref (a 1), .ref (a 2), .ref (a 3), .ref (a 4), .ref (a 6), .int (nI (nK g)), .int (gc g 4), .int (gc g 7), .int (gc g 10)])), ((a 1), .inl (cI, 216, .inl (f 0))), ((a 2), .inl (cI, 24, .inl (f 1))), ((a 3), .inl (cI, 4, .inl (f 2))), ((a 4), .inr (2, [.ref (a 5), .int (nI (nT g))])), ((a 5), .inl (cI, 12, .inl (f 3))), ((a 6), .inr (2, [.ref (a 7), .int (nI (nW g))])), ((a 7), .inl (cI, 24, .inl (f 4)))] := hD
        refine lv_aload_n hx hb dX3_dismiss_33 rfl (lv_at hl 1 rfl) ?_
        refine va_get (D := D) (ci := 3) (v := .ref (a 6)) (C := RX3) (T := TX3) (N := 9) hx hb hts inwX3_dismiss_X3 hown hK hP 0 rfl rfl 4 (by decide) fl30 (fun _ h9 => h9) rfl dX3_dismiss_34 ?_
        refine lv_iload_n hx hb dX3_dismiss_37 rfl (lv_at hl 2 rfl) ?_
        refine kb_vV (As := [.int (nI k)]) (rest := []) hx hb hml hts hown hN hK hP hD hS hA (c_X2_remove0 l D cI (fun i => a (6 + i)) 24 (f 4) (nW g) (nI k) (rM_no ho hM hk h1) hn.2.2 (by decide)) gX3_dismiss_X2_remove rfl ⟨rfl, rfl⟩ hdX2_remove ⟨Nat.le_of_ble_eq_true rfl, Nat.le_of_ble_eq_true rfl⟩ [6, 7] [0] rfl rfl rfl (ci := 2) rfl rfl rfl (fun _ => rfl) rfl rfl hl.1 (Nat.le_of_ble_eq_true rfl) dX3_dismiss_38 ⟨Nat.zero_le _, Nat.zero_le _⟩ (fun u H locs hw_38 hP hD hS => ?_)
        have hw_38 : True := hw_38
        have hP : va_P D vwCl [((a 0), .inr (3, [.ref (a 1), .ref (a 2), .ref (a 3), .ref (a 4), .ref (a 6), .int (nI (nK g)), .int (gc g 4), .int (gc g 7), .int (gc g 10)])), ((a 1), .inl (cI, 216, .inl (f 0))), ((a 2), .inl (cI, 24, .inl (f 1))), ((a 3), .inl (cI, 4, .inl (f 2))), ((a 4), .inr (2, [.ref (a 5), .int (nI (nT g))])), ((a 5), .inl (cI, 12, .inl (f 3))), ((a 6), .inr (2, [.ref (a 7), .int (nI (nW g))])), ((a 7), .inl (cI, 24, .inl (f 4)))] H := hP
        have hD : va_D A [((a 0), .inr (3, [.ref (a 1), .ref (a 2), .ref (a 3), .ref (a 4), .ref (a 6), .int (nI (nK g)), .int (gc g 4), .int (gc g 7), .int (gc g 10)])), ((a 1), .inl (cI, 216, .inl (f 0))), ((a 2), .inl (cI, 24, .inl (f 1))), ((a 3), .inl (cI, 4, .inl (f 2))), ((a 4), .inr (2, [.ref (a 5), .int (nI (nT g))])), ((a 5), .inl (cI, 12, .inl (f 3))), ((a 6), .inr (2, [.ref (a 7), .int (nI (nW g))])), ((a 7), .inl (cI, 24, .inl (f 4)))] := hD
        refine lv_aload_n hx hb dX3_dismiss_41 rfl (lv_at hl 1 rfl) ?_
        refine lv_iload_n hx hb dX3_dismiss_42 rfl (lv_at hl 2 rfl) ?_
        refine lv_iconst (v := nI 3) hx hb dX3_dismiss_43 (by decide) ?_
        refine lv_iconst (v := nI 3) hx hb dX3_dismiss_44 (by decide) ?_
        refine kb_vV (As := [.int (nI k), .int (nI 3), .int (nI 3)]) (rest := []) hx hb hml hts hown hN hK hP hD hS hA (c_X3_setFact l D cI a (nK g) (gc g 4) (gc g 7) (gc g 10) (f 0) k 3 (nI 3) hk (by omega) hn.1) gX3_dismiss_X3_setFact rfl ⟨rfl, rfl⟩ hdX3_setFact ⟨Nat.le_of_ble_eq_true rfl, Nat.le_of_ble_eq_true rfl⟩ [0, 1] [0] rfl rfl rfl (ci := 3) rfl rfl rfl (fun _ => rfl) rfl rfl hl.1 (Nat.le_of_ble_eq_true rfl) dX3_dismiss_45 ⟨Nat.zero_le _, Nat.zero_le _⟩ (fun u H locs hw_45 hP hD hS => ?_)
        have hw_45 : True := hw_45
        have hP : va_P D vwCl [((a 0), .inr (3, [.ref (a 1), .ref (a 2), .ref (a 3), .ref (a 4), .ref (a 6), .int (nI (nK g)), .int ((gc g 4)), .int ((gc g 7)), .int ((gc g 10))])), ((a 1), .inl (cI, 216, .inl (upd (f 0) (k * 9 + 3) (nI 3)))), ((a 2), .inl (cI, 24, .inl (f 1))), ((a 3), .inl (cI, 4, .inl (f 2))), ((a 4), .inr (2, [.ref (a 5), .int (nI (nT g))])), ((a 5), .inl (cI, 12, .inl (f 3))), ((a 6), .inr (2, [.ref (a 7), .int (nI (nW g))])), ((a 7), .inl (cI, 24, .inl (f 4)))] H := hP
        have hD : va_D A [((a 0), .inr (3, [.ref (a 1), .ref (a 2), .ref (a 3), .ref (a 4), .ref (a 6), .int (nI (nK g)), .int ((gc g 4)), .int ((gc g 7)), .int ((gc g 10))])), ((a 1), .inl (cI, 216, .inl (upd (f 0) (k * 9 + 3) (nI 3)))), ((a 2), .inl (cI, 24, .inl (f 1))), ((a 3), .inl (cI, 4, .inl (f 2))), ((a 4), .inr (2, [.ref (a 5), .int (nI (nT g))])), ((a 5), .inl (cI, 12, .inl (f 3))), ((a 6), .inr (2, [.ref (a 7), .int (nI (nW g))])), ((a 7), .inl (cI, 24, .inl (f 4)))] := hD
        refine lv_iload_n hx hb dX3_dismiss_48 rfl (lv_at hl 0 rfl) ?_
        exact kb_iret (D := D) hQ hx hb hr hlocks hK hP hD hS dX3_dismiss_49 (kf5 (upd (f 0) (k * 9 + 3) (nI 3)) (f 1) (f 2) (f 3) (f 4)) (by rw [opL_3 c5 (by omega) (by omega), oLv_0 h2 h1] <;> rfl) (Nat.le_refl _) (Nat.le_refl _) (show (nI (gD g k)) = (opL g (nI k)).1 ∧ rS (kf5 (upd (f 0) (k * 9 + 3) (nI 3)) (f 1) (f 2) (f 3) (f 4)) (opL g (nI k)).2 from (by rw [opL_3 c5 (by omega) (by omega), oLv_0 h2 h1]; exact ⟨rfl, rF_lv hF rfl rfl rfl rfl, rW_of rfl (fun _ => rfl) hW, rC_of (fun _ _ => rfl) hC, rT_of rfl rfl hT, rM_of rfl rfl hM⟩))
    · refine lv_bipush (v := (-4)) hx hb dX3_dismiss_22 (by decide) ?_
      exact kb_iret (D := D) hQ hx hb hr hlocks hK hP hD hS dX3_dismiss_24 f (by rw [opL_2 c5 (by omega) c19] <;> rfl) (Nat.le_refl _) (Nat.le_refl _) (show (-4) = (opL g (nI k)).1 ∧ rS f (opL g (nI k)).2 from (by rw [opL_2 c5 (by omega) c19]; exact ⟨rfl, hrs⟩))
  · refine lv_iconst (v := (-1)) hx hb dX3_dismiss_8 (by decide) ?_
    exact kb_iret (D := D) hQ hx hb hr hlocks hK hP hD hS dX3_dismiss_9 f (by rw [opL_1 c5] <;> rfl) (Nat.le_refl _) (Nat.le_refl _) (show (-1) = (opL g x).1 ∧ rS f (opL g x).2 from (by rw [opL_1 c5]; exact ⟨rfl, hrs⟩))
abbrev rmX3_sendEnvoyTo : Room := { frames := 2, cells := 0, slots := 0, locals := 43 }
theorem hdX3_sendEnvoyTo : yX3_sendEnvoyTo.cls = RX3 ∧ yX3_sendEnvoyTo.cls ≠ "java/lang/invoke/MethodHandle" ∧ yX3_sendEnvoyTo.cls ≠ "java/lang/invoke/VarHandle" ∧ (parseMethodDescriptor yX3_sendEnvoyTo.desc).map (fun d => d.parameters.length) = some 1 := by decide +kernel
theorem inwX3_sendEnvoyTo_X3 : ∀ w ∈ wsX30, w ∈ wsX3_sendEnvoyTo := fun w h => List.mem_cons_of_mem _ (List.mem_append_left _ (List.mem_append_right _ h))
theorem inwX3_sendEnvoyTo_X2 : ∀ w ∈ wsX20, w ∈ wsX3_sendEnvoyTo := fun w h => List.mem_cons_of_mem _ (List.mem_append_right _ h)
set_option maxHeartbeats 4000000 in
set_option maxRecDepth 100000 in
theorem c_X3_sendEnvoyTo (l : Launch) (D : va_G) (cI : ClassId) (a : Nat → Nat) (f : Nat → Nat → Int32) (g : Sg) (x : Int32) (hrs : rS f g) (ho : Ok g) : kb_I (S := (Nat → Nat → Int32)) D [(cI, .int)] l yX3_sendEnvoyTo wsX3_sendEnvoyTo rmX3_sendEnvoyTo [.ref (a 0), .int (x)] [((a 0), .inr (3, [.ref (a 1), .ref (a 2), .ref (a 3), .ref (a 4), .ref (a 6), .int (nI (nK g)), .int (gc g 4), .int (gc g 7), .int (gc g 10)])), ((a 1), .inl (cI, 216, .inl (f 0))), ((a 2), .inl (cI, 24, .inl (f 1))), ((a 3), .inl (cI, 4, .inl (f 2))), ((a 4), .inr (2, [.ref (a 5), .int (nI (nT g))])), ((a 5), .inl (cI, 12, .inl (f 3))), ((a 6), .inr (2, [.ref (a 7), .int (nI (nW g))])), ((a 7), .inl (cI, 24, .inl (f 4)))] (fun (r : Int32) (u : (Nat → Nat → Int32)) => r = (opE g x).1 ∧ rS u (opE g x).2) (fun (u : (Nat → Nat → Int32)) => [((a 0), .inr (3, [.ref (a 1), .ref (a 2), .ref (a 3), .ref (a 4), .ref (a 6), .int (nI (nK (opE g x).2)), .int (gc (opE g x).2 4), .int (gc (opE g x).2 7), .int (gc (opE g x).2 10)])), ((a 1), .inl (cI, 216, .inl (u 0))), ((a 2), .inl (cI, 24, .inl (u 1))), ((a 3), .inl (cI, 4, .inl (u 2))), ((a 4), .inr (2, [.ref (a 5), .int (nI (nT (opE g x).2))])), ((a 5), .inl (cI, 12, .inl (u 3))), ((a 6), .inr (2, [.ref (a 7), .int (nI (nW (opE g x).2))])), ((a 7), .inl (cI, 24, .inl (u 4)))]) 0 0 := by
  refine kb_I_of (cc := cX3_sendEnvoyTo) (maxL := 2) (ret := (some .int)) (by decide) rfl (Nat.le_of_ble_eq_true rfl) ?_
  intro p e s mm args below meth c A hx hb hml hr hts hown hlocks hnm hA hN hK hP hD hS ls hl Q hQ
  have hl : lv_has ls 2 [(0, .ref (a 0)), (1, .int (x))] := hl
  have hP : va_P D vwCl [((a 0), .inr (3, [.ref (a 1), .ref (a 2), .ref (a 3), .ref (a 4), .ref (a 6), .int (nI (nK g)), .int (gc g 4), .int (gc g 7), .int (gc g 10)])), ((a 1), .inl (cI, 216, .inl (f 0))), ((a 2), .inl (cI, 24, .inl (f 1))), ((a 3), .inl (cI, 4, .inl (f 2))), ((a 4), .inr (2, [.ref (a 5), .int (nI (nT g))])), ((a 5), .inl (cI, 12, .inl (f 3))), ((a 6), .inr (2, [.ref (a 7), .int (nI (nW g))])), ((a 7), .inl (cI, 24, .inl (f 4)))] s.heap := hP
  have hD : va_D A [((a 0), .inr (3, [.ref (a 1), .ref (a 2), .ref (a 3), .ref (a 4), .ref (a 6), .int (nI (nK g)), .int (gc g 4), .int (gc g 7), .int (gc g 10)])), ((a 1), .inl (cI, 216, .inl (f 0))), ((a 2), .inl (cI, 24, .inl (f 1))), ((a 3), .inl (cI, 4, .inl (f 2))), ((a 4), .inr (2, [.ref (a 5), .int (nI (nT g))])), ((a 5), .inl (cI, 12, .inl (f 3))), ((a 6), .inr (2, [.ref (a 7), .int (nI (nW g))])), ((a 7), .inl (cI, 24, .inl (f 4)))] := hD
  have fl26 := hts (.fieldLink RX3 26 "KingsBanquet$State" "table" "LKingsBanquet$Row;") (by decide +kernel)
  obtain ⟨hF, hW, hC, hT, hM⟩ := id hrs
  have hn := ho.n
  rcases kb_sgn x with hneg_x | ⟨x', h_x, rfl⟩
  · refine lv_iload_n hx hb dX3_sendEnvoyTo_0 rfl (lv_at hl 1 rfl) ?_
    refine lv_if_lt (tgt := 17) hx hb dX3_sendEnvoyTo_1 (by decide) (fun _ => ?_) (fun c => absurd hneg_x c)
    refine lv_iconst (v := (-1)) hx hb dX3_sendEnvoyTo_17 (by decide) ?_
    exact kb_iret (D := D) hQ hx hb hr hlocks hK hP hD hS dX3_sendEnvoyTo_18 f (by rw [opE_1 (kIs_neg hneg_x)] <;> rfl) (Nat.le_refl _) (Nat.le_refl _) (show (-1) = (opE g x).1 ∧ rS f (opE g x).2 from (by rw [opE_1 (kIs_neg hneg_x)]; exact ⟨rfl, hrs⟩))
  · refine lv_iload_n hx hb dX3_sendEnvoyTo_0 rfl (lv_at hl 1 rfl) ?_
    refine kb_nif_lt (tgt := 17) hx hb dX3_sendEnvoyTo_1 (by decide) (by omega) ?_
    refine lv_iload_n hx hb dX3_sendEnvoyTo_4 rfl (lv_at hl 1 rfl) ?_
    refine lv_aload_n hx hb dX3_sendEnvoyTo_5 rfl (lv_at hl 0 rfl) ?_
    refine va_get (D := D) (ci := 3) (v := .ref (a 4)) (C := RX3) (T := TX3) (N := 9) hx hb hts inwX3_sendEnvoyTo_X3 hown hK hP 0 rfl rfl 3 (by decide) fl26 (fun _ h9 => h9) rfl dX3_sendEnvoyTo_6 ?_
    refine kb_vR (As := []) (rest := [.int (nI x')]) hx hb hml hts hown hN hK hP hD hS hA (c_X2_size l D cI (fun i => a (4 + i)) 12 (f 3) (nT g)) gX3_sendEnvoyTo_X2_size rfl ⟨rfl, rfl⟩ hdX2_size ⟨Nat.le_of_ble_eq_true rfl, Nat.le_of_ble_eq_true rfl⟩ [4, 5] [0] rfl rfl rfl (ci := 2) rfl rfl rfl rfl rfl hl.1 (Nat.le_of_ble_eq_true rfl) dX3_sendEnvoyTo_9 ⟨Nat.zero_le _, Nat.zero_le _⟩ (fun H locs hP hS => ?_)
    refine lv_iconst (v := nI 1) hx hb dX3_sendEnvoyTo_12 (by decide) ?_
    refine lv_isub hx hb dX3_sendEnvoyTo_13 ?_
    refine kb_pcmp_lt (tgt := 19) hx hb dX3_sendEnvoyTo_14 (by decide) (by omega) (by omega) (fun c14 => ?_) (fun c14 => ?_)
    · refine lv_aload_n hx hb dX3_sendEnvoyTo_19 rfl (lv_at hl 0 rfl) ?_
      refine lv_aload_n hx hb dX3_sendEnvoyTo_20 rfl (lv_at hl 0 rfl) ?_
      refine va_get (D := D) (ci := 3) (v := .ref (a 4)) (C := RX3) (T := TX3) (N := 9) hx hb hts inwX3_sendEnvoyTo_X3 hown hK hP 0 rfl rfl 3 (by decide) fl26 (fun _ h9 => h9) rfl dX3_sendEnvoyTo_21 ?_
      refine lv_iload_n hx hb dX3_sendEnvoyTo_24 rfl (lv_at hl 1 rfl) ?_
      refine lv_iconst (v := nI 1) hx hb dX3_sendEnvoyTo_25 (by decide) ?_
      refine lv_iadd hx hb dX3_sendEnvoyTo_26 ?_
      refine kb_top (nI (x' + 1)) (nI_add x' 1) ?_
      refine kb_vR (As := [.int (nI (x' + 1))]) (rest := [.ref (a 0)]) hx hb hml hts hown hN hK hP hD hS hA (c_X2_at l D cI (fun i => a (4 + i)) 12 (f 3) (nT g) (nI (x' + 1)) hn.2.1 (by decide)) gX3_sendEnvoyTo_X2_at rfl ⟨rfl, rfl⟩ hdX2_at ⟨Nat.le_of_ble_eq_true rfl, Nat.le_of_ble_eq_true rfl⟩ [4, 5] [0] rfl rfl rfl (ci := 2) rfl rfl rfl rfl rfl hl.1 (Nat.le_of_ble_eq_true rfl) dX3_sendEnvoyTo_27 ⟨Nat.zero_le _, Nat.zero_le _⟩ (fun H locs hP hS => ?_)
      refine kb_top (nI (gT g (x' + 1))) ((rAt_in (by omega) (by omega)).trans (hT _ (by omega))) ?_
      refine lv_aload_n hx hb dX3_sendEnvoyTo_30 rfl (lv_at hl 0 rfl) ?_
      refine va_get (D := D) (ci := 3) (v := .ref (a 4)) (C := RX3) (T := TX3) (N := 9) hx hb hts inwX3_sendEnvoyTo_X3 hown hK hP 0 rfl rfl 3 (by decide) fl26 (fun _ h9 => h9) rfl dX3_sendEnvoyTo_31 ?_
      refine lv_iload_n hx hb dX3_sendEnvoyTo_34 rfl (lv_at hl 1 rfl) ?_
      refine kb_vR (As := [.int (nI x')]) (rest := [.int (nI (gT g (x' + 1))), .ref (a 0)]) hx hb hml hts hown hN hK hP hD hS hA (c_X2_at l D cI (fun i => a (4 + i)) 12 (f 3) (nT g) (nI x') hn.2.1 (by decide)) gX3_sendEnvoyTo_X2_at rfl ⟨rfl, rfl⟩ hdX2_at ⟨Nat.le_of_ble_eq_true rfl, Nat.le_of_ble_eq_true rfl⟩ [4, 5] [0] rfl rfl rfl (ci := 2) rfl rfl rfl rfl rfl hl.1 (Nat.le_of_ble_eq_true rfl) dX3_sendEnvoyTo_35 ⟨Nat.zero_le _, Nat.zero_le _⟩ (fun H locs hP hS => ?_)
      refine kb_top (nI (gT g x')) ((rAt_in (by omega) (by omega)).trans (hT _ (by omega))) ?_
      refine kb_vR (As := [.int (nI (gT g (x' + 1))), .int (nI (gT g x'))]) (rest := []) hx hb hml hts hown hN hK hP hD hS hA (c_X3_isGreater l D cI a (nK g) (gc g 4) (gc g 7) (gc g 10) (f 1) (gT g (x' + 1)) (gT g x') (key g (gT g (x' + 1))) (key g (gT g x')) (ok_t ho (by omega)) (ok_t ho (by omega)) (hW _ (ho.t _ (by omega)).1) (hW _ (ho.t _ (by omega)).1) (key_lt ho (ho.t _ (by omega)).1) (key_lt ho (ho.t _ (by omega)).1)) gX3_sendEnvoyTo_X3_isGreater rfl ⟨rfl, rfl⟩ hdX3_isGreater ⟨Nat.le_of_ble_eq_true rfl, Nat.le_of_ble_eq_true rfl⟩ [0, 2] [0] rfl rfl rfl (ci := 3) rfl rfl rfl rfl rfl hl.1 (Nat.le_of_ble_eq_true rfl) dX3_sendEnvoyTo_38 ⟨Nat.zero_le _, Nat.zero_le _⟩ (fun H locs hP hS => ?_)
      refine kb_bif_ne (tgt := 47) hx hb dX3_sendEnvoyTo_41 (by decide) (fun c41 => ?_) (fun c41 => ?_)
      · refine lv_aload_n hx hb dX3_sendEnvoyTo_47 rfl (lv_at hl 0 rfl) ?_
        refine lv_iload_n hx hb dX3_sendEnvoyTo_48 rfl (lv_at hl 1 rfl) ?_
        refine kb_vV (As := [.int (nI x')]) (rest := []) hx hb hml hts hown hN hK hP hD hS hA (c_X3_changeSeats l D cI a (nK g) (gc g 4) (gc g 7) (gc g 10) (f 3) (nT g) x' (by omega) (by omega)) gX3_sendEnvoyTo_X3_changeSeats rfl ⟨rfl, rfl⟩ hdX3_changeSeats ⟨Nat.le_of_ble_eq_true rfl, Nat.le_of_ble_eq_true rfl⟩ [0, 4, 5] [0] rfl rfl rfl (ci := 3) rfl rfl rfl (fun _ => rfl) rfl rfl hl.1 (Nat.le_of_ble_eq_true rfl) dX3_sendEnvoyTo_49 ⟨Nat.zero_le _, Nat.zero_le _⟩ (fun u H locs hw_49 hP hD hS => ?_)
        have hw_49 : True := hw_49
        have hP : va_P D vwCl [((a 0), .inr (3, [.ref (a 1), .ref (a 2), .ref (a 3), .ref (a 4), .ref (a 6), .int (nI (nK g)), .int ((gc g 4)), .int ((gc g 7)), .int ((gc g 10) + nI 1)])), ((a 1), .inl (cI, 216, .inl (f 0))), ((a 2), .inl (cI, 24, .inl (f 1))), ((a 3), .inl (cI, 4, .inl (f 2))), ((a 4), .inr (2, [.ref (a 5), .int (nI (nT g))])), ((a 5), .inl (cI, 12, .inl (rSw (f 3) x'))), ((a 6), .inr (2, [.ref (a 7), .int (nI (nW g))])), ((a 7), .inl (cI, 24, .inl (f 4)))] H := hP
        have hD : va_D A [((a 0), .inr (3, [.ref (a 1), .ref (a 2), .ref (a 3), .ref (a 4), .ref (a 6), .int (nI (nK g)), .int ((gc g 4)), .int ((gc g 7)), .int ((gc g 10) + nI 1)])), ((a 1), .inl (cI, 216, .inl (f 0))), ((a 2), .inl (cI, 24, .inl (f 1))), ((a 3), .inl (cI, 4, .inl (f 2))), ((a 4), .inr (2, [.ref (a 5), .int (nI (nT g))])), ((a 5), .inl (cI, 12, .inl (rSw (f 3) x'))), ((a 6), .inr (2, [.ref (a 7), .int (nI (nW g))])), ((a 7), .inl (cI, 24, .inl (f 4)))] := hD
        refine lv_aload_n hx hb dX3_sendEnvoyTo_52 rfl (lv_at hl 0 rfl) ?_
        refine va_get (D := D) (ci := 3) (v := .ref (a 4)) (C := RX3) (T := TX3) (N := 9) hx hb hts inwX3_sendEnvoyTo_X3 hown hK hP 0 rfl rfl 3 (by decide) fl26 (fun _ h9 => h9) rfl dX3_sendEnvoyTo_53 ?_
        refine lv_iload_n hx hb dX3_sendEnvoyTo_56 rfl (lv_at hl 1 rfl) ?_
        refine kb_vR (As := [.int (nI x')]) (rest := []) hx hb hml hts hown hN hK hP hD hS hA (c_X2_at l D cI (fun i => a (4 + i)) 12 (rSw (f 3) x') (nT g) (nI x') hn.2.1 (by decide)) gX3_sendEnvoyTo_X2_at rfl ⟨rfl, rfl⟩ hdX2_at ⟨Nat.le_of_ble_eq_true rfl, Nat.le_of_ble_eq_true rfl⟩ [4, 5] [0] rfl rfl rfl (ci := 2) rfl rfl rfl rfl rfl hl.1 (Nat.le_of_ble_eq_true rfl) dX3_sendEnvoyTo_57 ⟨Nat.zero_le _, Nat.zero_le _⟩ (fun H locs hP hS => ?_)
        refine kb_top (nI (gT (oSw g x') x')) ((rAt_in (n := nT g) (by omega) (by omega)).trans (rSw_T hT (i := x') (by omega) _ (show x' < nT g by omega))) ?_
        exact kb_iret (D := D) hQ hx hb hr hlocks hK hP hD hS dX3_sendEnvoyTo_60 (kf5 (f 0) (f 1) (f 2) (rSw (f 3) x') (f 4)) (by rw [opE_3 (by omega) (by omega) c41] <;> rfl) (Nat.le_refl _) (Nat.le_refl _) (show (nI (gT (oSw g x') x')) = (opE g (nI x')).1 ∧ rS (kf5 (f 0) (f 1) (f 2) (rSw (f 3) x') (f 4)) (opE g (nI x')).2 from (by rw [opE_3 (by omega) (by omega) c41]; exact ⟨by rw [show gT (oSw g x') x' = un (un (gT g) x' (gT g (x' + 1))) (x' + 1) (gT g x') x' from rfl, un_n (by omega), un_s], hF, rW_of rfl (fun _ => rfl) hW, rC_of (fun i hi => up_n (by omega)) hC, rSw_T hT (by omega), rM_of rfl rfl hM⟩))
      · refine lv_bipush (v := (-4)) hx hb dX3_sendEnvoyTo_44 (by decide) ?_
        exact kb_iret (D := D) hQ hx hb hr hlocks hK hP hD hS dX3_sendEnvoyTo_46 f (by rw [opE_2 (by omega) (by omega) c41] <;> rfl) (Nat.le_refl _) (Nat.le_refl _) (show (-4) = (opE g (nI x')).1 ∧ rS f (opE g (nI x')).2 from (by rw [opE_2 (by omega) (by omega) c41]; exact ⟨rfl, hrs⟩))
    · refine lv_iconst (v := (-1)) hx hb dX3_sendEnvoyTo_17 (by decide) ?_
      exact kb_iret (D := D) hQ hx hb hr hlocks hK hP hD hS dX3_sendEnvoyTo_18 f (by rw [opE_1 (by rw [kIs_n (by omega) (by omega)]; exact decide_eq_false (by omega))] <;> rfl) (Nat.le_refl _) (Nat.le_refl _) (show (-1) = (opE g (nI x')).1 ∧ rS f (opE g (nI x')).2 from (by rw [opE_1 (by rw [kIs_n (by omega) (by omega)]; exact decide_eq_false (by omega))]; exact ⟨rfl, hrs⟩))
abbrev rmX3_isSetting : Room := { frames := 0, cells := 0, slots := 0, locals := 0 }
theorem hdX3_isSetting : yX3_isSetting.cls = RX3 ∧ yX3_isSetting.cls ≠ "java/lang/invoke/MethodHandle" ∧ yX3_isSetting.cls ≠ "java/lang/invoke/VarHandle" ∧ (parseMethodDescriptor yX3_isSetting.desc).map (fun d => d.parameters.length) = some 2 := by decide +kernel
set_option maxHeartbeats 4000000 in
set_option maxRecDepth 100000 in
theorem c_X3_isSetting (l : Launch) (D : va_G) (w : Nat) (v : Int32) (hw : w < 4) : kb_R D [] l yX3_isSetting wsX3_isSetting rmX3_isSetting [.int (nI w), .int (v)] [] (kb_b (isR w v)) := by
  refine kb_I_of (cc := cX3_isSetting) (maxL := 2) (ret := (some .boolean)) (by decide) rfl (Nat.le_of_ble_eq_true rfl) ?_
  intro p e s mm args below meth c A hx hb hml hr hts hown hlocks hnm hA hN hK hP hD hS ls hl Q hQ
  have hl : lv_has ls 2 [(0, .int (nI w)), (1, .int (v))] := hl
  have hP : va_P D vwCl [] s.heap := hP
  have hD : va_D A [] := hD
  rcases (by omega : w = 0 ∨ w = 1 ∨ w = 2 ∨ w = 3) with rfl | rfl | rfl | rfl
  · refine lv_iload_n hx hb dX3_isSetting_0 rfl (lv_at hl 0 rfl) ?_
    refine lv_tableIn (off := 27) (tgt := 28) hx hb dX3_isSetting_1 (by decide) (by decide) (by decide) (by decide) ?_
    refine lv_iload_n hx hb dX3_isSetting_28 rfl (lv_at hl 1 rfl) ?_
    refine lv_iconst (v := nI 1) hx hb dX3_isSetting_29 (by decide) ?_
    refine lv_icmp_lt (tgt := 43) hx hb dX3_isSetting_30 (by decide) (fun c30 => ?_) (fun c30 => ?_)
    · refine lv_iconst (v := nI 0) hx hb dX3_isSetting_43 (by decide) ?_
      exact kb_zret (D := D) hQ hx hb hr hlocks hK hP hD hS dX3_isSetting_44 rfl () rfl (Nat.le_refl _) (Nat.le_refl _) (show nI 0 = kb_b (isR 0 v) from (by first | exact isIn_1 c30 c36 | exact isIn_a c30 | exact isIn_b c36))
    · refine lv_iload_n hx hb dX3_isSetting_33 rfl (lv_at hl 1 rfl) ?_
      refine lv_bipush (v := nI 12) hx hb dX3_isSetting_34 (by decide) ?_
      refine lv_icmp_gt (tgt := 43) hx hb dX3_isSetting_36 (by decide) (fun c36 => ?_) (fun c36 => ?_)
      · refine lv_iconst (v := nI 0) hx hb dX3_isSetting_43 (by decide) ?_
        exact kb_zret (D := D) hQ hx hb hr hlocks hK hP hD hS dX3_isSetting_44 rfl () rfl (Nat.le_refl _) (Nat.le_refl _) (show nI 0 = kb_b (isR 0 v) from (by first | exact isIn_1 c30 c36 | exact isIn_a c30 | exact isIn_b c36))
      · refine lv_iconst (v := nI 1) hx hb dX3_isSetting_39 (by decide) ?_
        refine lv_goto (tgt := 44) hx hb dX3_isSetting_40 (by decide) ?_
        exact kb_zret (D := D) hQ hx hb hr hlocks hK hP hD hS dX3_isSetting_44 rfl () rfl (Nat.le_refl _) (Nat.le_refl _) (show nI 1 = kb_b (isR 0 v) from (by first | exact isIn_1 c30 c36 | exact isIn_a c30 | exact isIn_b c36))
  · refine lv_iload_n hx hb dX3_isSetting_0 rfl (lv_at hl 0 rfl) ?_
    refine lv_tableIn (off := 44) (tgt := 45) hx hb dX3_isSetting_1 (by decide) (by decide) (by decide) (by decide) ?_
    refine lv_iload_n hx hb dX3_isSetting_45 rfl (lv_at hl 1 rfl) ?_
    refine lv_iconst (v := nI 1) hx hb dX3_isSetting_46 (by decide) ?_
    refine lv_icmp_lt (tgt := 60) hx hb dX3_isSetting_47 (by decide) (fun c47 => ?_) (fun c47 => ?_)
    · refine lv_iconst (v := nI 0) hx hb dX3_isSetting_60 (by decide) ?_
      exact kb_zret (D := D) hQ hx hb hr hlocks hK hP hD hS dX3_isSetting_61 rfl () rfl (Nat.le_refl _) (Nat.le_refl _) (show nI 0 = kb_b (isR 1 v) from (by first | exact isIn_1 c47 c53 | exact isIn_a c47 | exact isIn_b c53))
    · refine lv_iload_n hx hb dX3_isSetting_50 rfl (lv_at hl 1 rfl) ?_
      refine lv_bipush (v := nI 60) hx hb dX3_isSetting_51 (by decide) ?_
      refine lv_icmp_gt (tgt := 60) hx hb dX3_isSetting_53 (by decide) (fun c53 => ?_) (fun c53 => ?_)
      · refine lv_iconst (v := nI 0) hx hb dX3_isSetting_60 (by decide) ?_
        exact kb_zret (D := D) hQ hx hb hr hlocks hK hP hD hS dX3_isSetting_61 rfl () rfl (Nat.le_refl _) (Nat.le_refl _) (show nI 0 = kb_b (isR 1 v) from (by first | exact isIn_1 c47 c53 | exact isIn_a c47 | exact isIn_b c53))
      · refine lv_iconst (v := nI 1) hx hb dX3_isSetting_56 (by decide) ?_
        refine lv_goto (tgt := 61) hx hb dX3_isSetting_57 (by decide) ?_
        exact kb_zret (D := D) hQ hx hb hr hlocks hK hP hD hS dX3_isSetting_61 rfl () rfl (Nat.le_refl _) (Nat.le_refl _) (show nI 1 = kb_b (isR 1 v) from (by first | exact isIn_1 c47 c53 | exact isIn_a c47 | exact isIn_b c53))
  · refine lv_iload_n hx hb dX3_isSetting_0 rfl (lv_at hl 0 rfl) ?_
    refine lv_tableIn (off := 61) (tgt := 62) hx hb dX3_isSetting_1 (by decide) (by decide) (by decide) (by decide) ?_
    refine lv_iload_n hx hb dX3_isSetting_62 rfl (lv_at hl 1 rfl) ?_
    refine lv_if_lt (tgt := 76) hx hb dX3_isSetting_63 (by decide) (fun c63 => ?_) (fun c63 => ?_)
    · refine lv_iconst (v := nI 0) hx hb dX3_isSetting_76 (by decide) ?_
      exact kb_zret (D := D) hQ hx hb hr hlocks hK hP hD hS dX3_isSetting_77 rfl () rfl (Nat.le_refl _) (Nat.le_refl _) (show nI 0 = kb_b (isR 2 v) from (by first | exact isIn_1 c63 c69 | exact isIn_a c63 | exact isIn_b c69))
    · refine lv_iload_n hx hb dX3_isSetting_66 rfl (lv_at hl 1 rfl) ?_
      refine lv_bipush (v := nI 9) hx hb dX3_isSetting_67 (by decide) ?_
      refine lv_icmp_gt (tgt := 76) hx hb dX3_isSetting_69 (by decide) (fun c69 => ?_) (fun c69 => ?_)
      · refine lv_iconst (v := nI 0) hx hb dX3_isSetting_76 (by decide) ?_
        exact kb_zret (D := D) hQ hx hb hr hlocks hK hP hD hS dX3_isSetting_77 rfl () rfl (Nat.le_refl _) (Nat.le_refl _) (show nI 0 = kb_b (isR 2 v) from (by first | exact isIn_1 c63 c69 | exact isIn_a c63 | exact isIn_b c69))
      · refine lv_iconst (v := nI 1) hx hb dX3_isSetting_72 (by decide) ?_
        refine lv_goto (tgt := 77) hx hb dX3_isSetting_73 (by decide) ?_
        exact kb_zret (D := D) hQ hx hb hr hlocks hK hP hD hS dX3_isSetting_77 rfl () rfl (Nat.le_refl _) (Nat.le_refl _) (show nI 1 = kb_b (isR 2 v) from (by first | exact isIn_1 c63 c69 | exact isIn_a c63 | exact isIn_b c69))
  · refine lv_iload_n hx hb dX3_isSetting_0 rfl (lv_at hl 0 rfl) ?_
    refine lv_tableOut (tgt := 78) hx hb dX3_isSetting_1 (by decide) (by decide) ?_
    refine lv_iload_n hx hb dX3_isSetting_78 rfl (lv_at hl 1 rfl) ?_
    refine lv_iconst (v := nI 1) hx hb dX3_isSetting_79 (by decide) ?_
    refine lv_icmp_lt (tgt := 93) hx hb dX3_isSetting_80 (by decide) (fun c80 => ?_) (fun c80 => ?_)
    · refine lv_iconst (v := nI 0) hx hb dX3_isSetting_93 (by decide) ?_
      exact kb_zret (D := D) hQ hx hb hr hlocks hK hP hD hS dX3_isSetting_94 rfl () rfl (Nat.le_refl _) (Nat.le_refl _) (show nI 0 = kb_b (isR 3 v) from (by first | exact isIn_1 c80 c86 | exact isIn_a c80 | exact isIn_b c86))
    · refine lv_iload_n hx hb dX3_isSetting_83 rfl (lv_at hl 1 rfl) ?_
      refine lv_bipush (v := nI 9) hx hb dX3_isSetting_84 (by decide) ?_
      refine lv_icmp_gt (tgt := 93) hx hb dX3_isSetting_86 (by decide) (fun c86 => ?_) (fun c86 => ?_)
      · refine lv_iconst (v := nI 0) hx hb dX3_isSetting_93 (by decide) ?_
        exact kb_zret (D := D) hQ hx hb hr hlocks hK hP hD hS dX3_isSetting_94 rfl () rfl (Nat.le_refl _) (Nat.le_refl _) (show nI 0 = kb_b (isR 3 v) from (by first | exact isIn_1 c80 c86 | exact isIn_a c80 | exact isIn_b c86))
      · refine lv_iconst (v := nI 1) hx hb dX3_isSetting_89 (by decide) ?_
        refine lv_goto (tgt := 94) hx hb dX3_isSetting_90 (by decide) ?_
        exact kb_zret (D := D) hQ hx hb hr hlocks hK hP hD hS dX3_isSetting_94 rfl () rfl (Nat.le_refl _) (Nat.le_refl _) (show nI 1 = kb_b (isR 3 v) from (by first | exact isIn_1 c80 c86 | exact isIn_a c80 | exact isIn_b c86))
abbrev rmX3_changeSetting : Room := { frames := 1, cells := 0, slots := 0, locals := 21 }
theorem hdX3_changeSetting : yX3_changeSetting.cls = RX3 ∧ yX3_changeSetting.cls ≠ "java/lang/invoke/MethodHandle" ∧ yX3_changeSetting.cls ≠ "java/lang/invoke/VarHandle" ∧ (parseMethodDescriptor yX3_changeSetting.desc).map (fun d => d.parameters.length) = some 2 := by decide +kernel
theorem inwX3_changeSetting_X3 : ∀ w ∈ wsX30, w ∈ wsX3_changeSetting := fun w h => List.mem_cons_of_mem _ (List.mem_append_left _ (List.mem_append_right _ h))
theorem inwX3_changeSetting_X2 : ∀ w ∈ wsX20, w ∈ wsX3_changeSetting := fun w h => List.mem_cons_of_mem _ (List.mem_append_right _ h)
set_option maxHeartbeats 4000000 in
set_option maxRecDepth 100000 in
theorem c_X3_changeSetting (l : Launch) (D : va_G) (cI : ClassId) (a : Nat → Nat) (f : Nat → Nat → Int32) (g : Sg) (x : Int32) (v : Int32) (hrs : rS f g) (ho : Ok g) : kb_I (S := (Nat → Nat → Int32)) D [(cI, .int)] l yX3_changeSetting wsX3_changeSetting rmX3_changeSetting [.ref (a 0), .int (x), .int (v)] [((a 0), .inr (3, [.ref (a 1), .ref (a 2), .ref (a 3), .ref (a 4), .ref (a 6), .int (nI (nK g)), .int (gc g 4), .int (gc g 7), .int (gc g 10)])), ((a 1), .inl (cI, 216, .inl (f 0))), ((a 2), .inl (cI, 24, .inl (f 1))), ((a 3), .inl (cI, 4, .inl (f 2))), ((a 4), .inr (2, [.ref (a 5), .int (nI (nT g))])), ((a 5), .inl (cI, 12, .inl (f 3))), ((a 6), .inr (2, [.ref (a 7), .int (nI (nW g))])), ((a 7), .inl (cI, 24, .inl (f 4)))] (fun (r : Int32) (u : (Nat → Nat → Int32)) => r = (opS g x v).1 ∧ rS u (opS g x v).2) (fun (u : (Nat → Nat → Int32)) => [((a 0), .inr (3, [.ref (a 1), .ref (a 2), .ref (a 3), .ref (a 4), .ref (a 6), .int (nI (nK (opS g x v).2)), .int (gc (opS g x v).2 4), .int (gc (opS g x v).2 7), .int (gc (opS g x v).2 10)])), ((a 1), .inl (cI, 216, .inl (u 0))), ((a 2), .inl (cI, 24, .inl (u 1))), ((a 3), .inl (cI, 4, .inl (u 2))), ((a 4), .inr (2, [.ref (a 5), .int (nI (nT (opS g x v).2))])), ((a 5), .inl (cI, 12, .inl (u 3))), ((a 6), .inr (2, [.ref (a 7), .int (nI (nW (opS g x v).2))])), ((a 7), .inl (cI, 24, .inl (u 4)))]) 0 0 := by
  refine kb_I_of (cc := cX3_changeSetting) (maxL := 4) (ret := (some .int)) (by decide) rfl (Nat.le_of_ble_eq_true rfl) ?_
  intro p e s mm args below meth c A hx hb hml hr hts hown hlocks hnm hA hN hK hP hD hS ls hl Q hQ
  have hl : lv_has ls 4 [(0, .ref (a 0)), (1, .int (x)), (2, .int (v))] := hl
  have hP : va_P D vwCl [((a 0), .inr (3, [.ref (a 1), .ref (a 2), .ref (a 3), .ref (a 4), .ref (a 6), .int (nI (nK g)), .int (gc g 4), .int (gc g 7), .int (gc g 10)])), ((a 1), .inl (cI, 216, .inl (f 0))), ((a 2), .inl (cI, 24, .inl (f 1))), ((a 3), .inl (cI, 4, .inl (f 2))), ((a 4), .inr (2, [.ref (a 5), .int (nI (nT g))])), ((a 5), .inl (cI, 12, .inl (f 3))), ((a 6), .inr (2, [.ref (a 7), .int (nI (nW g))])), ((a 7), .inl (cI, 24, .inl (f 4)))] s.heap := hP
  have hD : va_D A [((a 0), .inr (3, [.ref (a 1), .ref (a 2), .ref (a 3), .ref (a 4), .ref (a 6), .int (nI (nK g)), .int (gc g 4), .int (gc g 7), .int (gc g 10)])), ((a 1), .inl (cI, 216, .inl (f 0))), ((a 2), .inl (cI, 24, .inl (f 1))), ((a 3), .inl (cI, 4, .inl (f 2))), ((a 4), .inr (2, [.ref (a 5), .int (nI (nT g))])), ((a 5), .inl (cI, 12, .inl (f 3))), ((a 6), .inr (2, [.ref (a 7), .int (nI (nW g))])), ((a 7), .inl (cI, 24, .inl (f 4)))] := hD
  have fl18 := hts (.fieldLink RX3 18 "KingsBanquet$State" "settings" "[I") (by decide +kernel)
  have fl26 := hts (.fieldLink RX3 26 "KingsBanquet$State" "table" "LKingsBanquet$Row;") (by decide +kernel)
  obtain ⟨hF, hW, hC, hT, hM⟩ := id hrs
  have hn := ho.n
  rcases kb_sgn x with hneg_x | ⟨x', h_x, rfl⟩
  · refine lv_iload_n hx hb dX3_changeSetting_0 rfl (lv_at hl 1 rfl) ?_
    refine lv_if_lt (tgt := 13) hx hb dX3_changeSetting_1 (by decide) (fun _ => ?_) (fun c => absurd hneg_x c)
    refine lv_iconst (v := (-1)) hx hb dX3_changeSetting_13 (by decide) ?_
    exact kb_iret (D := D) hQ hx hb hr hlocks hK hP hD hS dX3_changeSetting_14 f (by rw [opS_1 (kIs_neg hneg_x)] <;> rfl) (Nat.le_refl _) (Nat.le_refl _) (show (-1) = (opS g x v).1 ∧ rS f (opS g x v).2 from (by rw [opS_1 (kIs_neg hneg_x)]; exact ⟨rfl, hrs⟩))
  · refine lv_iload_n hx hb dX3_changeSetting_0 rfl (lv_at hl 1 rfl) ?_
    refine kb_nif_lt (tgt := 13) hx hb dX3_changeSetting_1 (by decide) (by omega) ?_
    refine lv_iload_n hx hb dX3_changeSetting_4 rfl (lv_at hl 1 rfl) ?_
    refine lv_aload_n hx hb dX3_changeSetting_5 rfl (lv_at hl 0 rfl) ?_
    refine va_get (D := D) (ci := 3) (v := .ref (a 3)) (C := RX3) (T := TX3) (N := 9) hx hb hts inwX3_changeSetting_X3 hown hK hP 0 rfl rfl 2 (by decide) fl18 (fun _ h9 => h9) rfl dX3_changeSetting_6 ?_
    refine va_alen hx hb hK hP 3 0 rfl (ty := .int) rfl (v := nI 4) rfl dX3_changeSetting_9 ?_
    refine kb_icmp_lt (tgt := 15) hx hb dX3_changeSetting_10 (by decide) (by omega) (by omega) (fun c10 => ?_) (fun c10 => ?_)
    · refine lv_iload_n hx hb dX3_changeSetting_15 rfl (lv_at hl 1 rfl) ?_
      refine lv_iload_n hx hb dX3_changeSetting_16 rfl (lv_at hl 2 rfl) ?_
      refine kb_sR (As := [.int (nI x'), .int (v)]) (rest := []) hx hb hml hts hown hN hK hP hD hS hA (c_X3_isSetting l D x' v (by omega)) gX3_changeSetting_X3_isSetting rfl ⟨rfl, rfl⟩ hdX3_isSetting.2 ⟨Nat.le_of_ble_eq_true rfl, Nat.le_of_ble_eq_true rfl⟩ [] [] rfl rfl rfl rfl rfl hl.1 (Nat.le_of_ble_eq_true rfl) dX3_changeSetting_17 ⟨Nat.zero_le _, Nat.zero_le _⟩ (fun H locs hP hS => ?_)
      refine kb_bif_ne (tgt := 26) hx hb dX3_changeSetting_20 (by decide) (fun c20 => ?_) (fun c20 => ?_)
      · refine lv_iload_n hx hb dX3_changeSetting_26 rfl (lv_at hl 1 rfl) ?_
        refine kb_nif_ne (tgt := 44) hx hb dX3_changeSetting_27 (by decide) (by omega) (fun c27 => ?_) (fun c27 => ?_)
        · refine lv_aload_n hx hb dX3_changeSetting_44 rfl (lv_at hl 0 rfl) ?_
          refine va_get (D := D) (ci := 3) (v := .ref (a 3)) (C := RX3) (T := TX3) (N := 9) hx hb hts inwX3_changeSetting_X3 hown hK hP 0 rfl rfl 2 (by decide) fl18 (fun _ h9 => h9) rfl dX3_changeSetting_45 ?_
          refine lv_iload_n hx hb dX3_changeSetting_48 rfl (lv_at hl 1 rfl) ?_
          refine kb_iald hx hb hK hP 3 0 rfl rfl (by decide) (by omega) dX3_changeSetting_49 ?_
          refine kb_top (gc g x') (hC x' (by omega)) ?_
          refine lv_istore_n (lv' := [(3, .int (gc g x')), (0, .ref (a 0)), (1, .int (nI x')), (2, .int (v))]) hx hb dX3_changeSetting_50 rfl hl (by decide) rfl (fun ls hl => ?_)
          refine lv_iload_n hx hb dX3_changeSetting_51 rfl (lv_at hl 0 rfl) ?_
          refine lv_iload_n hx hb dX3_changeSetting_52 rfl (lv_at hl 3 rfl) ?_
          refine lv_icmp_ne (tgt := 59) hx hb dX3_changeSetting_53 (by decide) (fun c53 => ?_) (fun c53 => ?_)
          · refine lv_aload_n hx hb dX3_changeSetting_59 rfl (lv_at hl 1 rfl) ?_
            refine va_get (D := D) (ci := 3) (v := .ref (a 3)) (C := RX3) (T := TX3) (N := 9) hx hb hts inwX3_changeSetting_X3 hown hK hP 0 rfl rfl 2 (by decide) fl18 (fun _ h9 => h9) rfl dX3_changeSetting_60 ?_
            refine lv_iload_n hx hb dX3_changeSetting_63 rfl (lv_at hl 2 rfl) ?_
            refine lv_iload_n hx hb dX3_changeSetting_64 rfl (lv_at hl 3 rfl) ?_
            refine kb_iast hx hb hK hP hD hS 3 0 rfl rfl (by decide) (by omega) dX3_changeSetting_65 (fun H locs hP hD hS => ?_)
            have hP : va_P D vwCl [((a 0), .inr (3, [.ref (a 1), .ref (a 2), .ref (a 3), .ref (a 4), .ref (a 6), .int (nI (nK g)), .int (gc g 4), .int (gc g 7), .int (gc g 10)])), ((a 1), .inl (cI, 216, .inl (f 0))), ((a 2), .inl (cI, 24, .inl (f 1))), ((a 3), .inl (cI, 4, .inl (upd (f 2) x' v))), ((a 4), .inr (2, [.ref (a 5), .int (nI (nT g))])), ((a 5), .inl (cI, 12, .inl (f 3))), ((a 6), .inr (2, [.ref (a 7), .int (nI (nW g))])), ((a 7), .inl (cI, 24, .inl (f 4)))] H := hP
            have hD : va_D A [((a 0), .inr (3, [.ref (a 1), .ref (a 2), .ref (a 3), .ref (a 4), .ref (a 6), .int (nI (nK g)), .int (gc g 4), .int (gc g 7), .int (gc g 10)])), ((a 1), .inl (cI, 216, .inl (f 0))), ((a 2), .inl (cI, 24, .inl (f 1))), ((a 3), .inl (cI, 4, .inl (upd (f 2) x' v))), ((a 4), .inr (2, [.ref (a 5), .int (nI (nT g))])), ((a 5), .inl (cI, 12, .inl (f 3))), ((a 6), .inr (2, [.ref (a 7), .int (nI (nW g))])), ((a 7), .inl (cI, 24, .inl (f 4)))] := hD
            refine lv_iload_n hx hb dX3_changeSetting_66 rfl (lv_at hl 0 rfl) ?_
            exact kb_iret (D := D) hQ hx hb hr hlocks hK hP hD hS dX3_changeSetting_67 (kf5 (f 0) (f 1) (upd (f 2) x' v) (f 3) (f 4)) (by rw [opS_5 (by omega) c20 (by first | exact fun q => c27 q.1 | exact fun q => Int32.not_lt.mpr c38 q.2) c53]; dsimp only; rw [set_c (by omega), set_c (by omega), set_c (by omega)] <;> rfl) (Nat.le_refl _) (Nat.le_refl _) (show (gc g x') = (opS g (nI x') v).1 ∧ rS (kf5 (f 0) (f 1) (upd (f 2) x' v) (f 3) (f 4)) (opS g (nI x') v).2 from (by rw [opS_5 (by omega) c20 (by first | exact fun q => c27 q.1 | exact fun q => Int32.not_lt.mpr c38 q.2) c53]; exact ⟨rfl, hF, rW_of rfl (fun _ => rfl) hW, rC_set hC, rT_of rfl rfl hT, rM_of rfl rfl hM⟩))
          · refine lv_bipush (v := (-5)) hx hb dX3_changeSetting_56 (by decide) ?_
            exact kb_iret (D := D) hQ hx hb hr hlocks hK hP hD hS dX3_changeSetting_58 f (by rw [opS_4 (by omega) c20 (by first | exact fun q => c27 q.1 | exact fun q => Int32.not_lt.mpr c38 q.2) c53] <;> rfl) (Nat.le_refl _) (Nat.le_refl _) (show (-5) = (opS g (nI x') v).1 ∧ rS f (opS g (nI x') v).2 from (by rw [opS_4 (by omega) c20 (by first | exact fun q => c27 q.1 | exact fun q => Int32.not_lt.mpr c38 q.2) c53]; exact ⟨rfl, hrs⟩))
        · refine lv_iload_n hx hb dX3_changeSetting_30 rfl (lv_at hl 2 rfl) ?_
          refine lv_aload_n hx hb dX3_changeSetting_31 rfl (lv_at hl 0 rfl) ?_
          refine va_get (D := D) (ci := 3) (v := .ref (a 4)) (C := RX3) (T := TX3) (N := 9) hx hb hts inwX3_changeSetting_X3 hown hK hP 0 rfl rfl 3 (by decide) fl26 (fun _ h9 => h9) rfl dX3_changeSetting_32 ?_
          refine kb_vR (As := []) (rest := [.int (v)]) hx hb hml hts hown hN hK hP hD hS hA (c_X2_size l D cI (fun i => a (4 + i)) 12 (f 3) (nT g)) gX3_changeSetting_X2_size rfl ⟨rfl, rfl⟩ hdX2_size ⟨Nat.le_of_ble_eq_true rfl, Nat.le_of_ble_eq_true rfl⟩ [4, 5] [0] rfl rfl rfl (ci := 2) rfl rfl rfl rfl rfl hl.1 (Nat.le_of_ble_eq_true rfl) dX3_changeSetting_35 ⟨Nat.zero_le _, Nat.zero_le _⟩ (fun H locs hP hS => ?_)
          refine lv_icmp_ge (tgt := 44) hx hb dX3_changeSetting_38 (by decide) (fun c38 => ?_) (fun c38 => ?_)
          · refine lv_aload_n hx hb dX3_changeSetting_44 rfl (lv_at hl 0 rfl) ?_
            refine va_get (D := D) (ci := 3) (v := .ref (a 3)) (C := RX3) (T := TX3) (N := 9) hx hb hts inwX3_changeSetting_X3 hown hK hP 0 rfl rfl 2 (by decide) fl18 (fun _ h9 => h9) rfl dX3_changeSetting_45 ?_
            refine lv_iload_n hx hb dX3_changeSetting_48 rfl (lv_at hl 1 rfl) ?_
            refine kb_iald hx hb hK hP 3 0 rfl rfl (by decide) (by omega) dX3_changeSetting_49 ?_
            refine kb_top (gc g x') (hC x' (by omega)) ?_
            refine lv_istore_n (lv' := [(3, .int (gc g x')), (0, .ref (a 0)), (1, .int (nI x')), (2, .int (v))]) hx hb dX3_changeSetting_50 rfl hl (by decide) rfl (fun ls hl => ?_)
            refine lv_iload_n hx hb dX3_changeSetting_51 rfl (lv_at hl 0 rfl) ?_
            refine lv_iload_n hx hb dX3_changeSetting_52 rfl (lv_at hl 3 rfl) ?_
            refine lv_icmp_ne (tgt := 59) hx hb dX3_changeSetting_53 (by decide) (fun c53 => ?_) (fun c53 => ?_)
            · refine lv_aload_n hx hb dX3_changeSetting_59 rfl (lv_at hl 1 rfl) ?_
              refine va_get (D := D) (ci := 3) (v := .ref (a 3)) (C := RX3) (T := TX3) (N := 9) hx hb hts inwX3_changeSetting_X3 hown hK hP 0 rfl rfl 2 (by decide) fl18 (fun _ h9 => h9) rfl dX3_changeSetting_60 ?_
              refine lv_iload_n hx hb dX3_changeSetting_63 rfl (lv_at hl 2 rfl) ?_
              refine lv_iload_n hx hb dX3_changeSetting_64 rfl (lv_at hl 3 rfl) ?_
              refine kb_iast hx hb hK hP hD hS 3 0 rfl rfl (by decide) (by omega) dX3_changeSetting_65 (fun H locs hP hD hS => ?_)
              have hP : va_P D vwCl [((a 0), .inr (3, [.ref (a 1), .ref (a 2), .ref (a 3), .ref (a 4), .ref (a 6), .int (nI (nK g)), .int (gc g 4), .int (gc g 7), .int (gc g 10)])), ((a 1), .inl (cI, 216, .inl (f 0))), ((a 2), .inl (cI, 24, .inl (f 1))), ((a 3), .inl (cI, 4, .inl (upd (f 2) x' v))), ((a 4), .inr (2, [.ref (a 5), .int (nI (nT g))])), ((a 5), .inl (cI, 12, .inl (f 3))), ((a 6), .inr (2, [.ref (a 7), .int (nI (nW g))])), ((a 7), .inl (cI, 24, .inl (f 4)))] H := hP
              have hD : va_D A [((a 0), .inr (3, [.ref (a 1), .ref (a 2), .ref (a 3), .ref (a 4), .ref (a 6), .int (nI (nK g)), .int (gc g 4), .int (gc g 7), .int (gc g 10)])), ((a 1), .inl (cI, 216, .inl (f 0))), ((a 2), .inl (cI, 24, .inl (f 1))), ((a 3), .inl (cI, 4, .inl (upd (f 2) x' v))), ((a 4), .inr (2, [.ref (a 5), .int (nI (nT g))])), ((a 5), .inl (cI, 12, .inl (f 3))), ((a 6), .inr (2, [.ref (a 7), .int (nI (nW g))])), ((a 7), .inl (cI, 24, .inl (f 4)))] := hD
              refine lv_iload_n hx hb dX3_changeSetting_66 rfl (lv_at hl 0 rfl) ?_
              exact kb_iret (D := D) hQ hx hb hr hlocks hK hP hD hS dX3_changeSetting_67 (kf5 (f 0) (f 1) (upd (f 2) x' v) (f 3) (f 4)) (by rw [opS_5 (by omega) c20 (by first | exact fun q => c27 q.1 | exact fun q => Int32.not_lt.mpr c38 q.2) c53]; dsimp only; rw [set_c (by omega), set_c (by omega), set_c (by omega)] <;> rfl) (Nat.le_refl _) (Nat.le_refl _) (show (gc g x') = (opS g (nI x') v).1 ∧ rS (kf5 (f 0) (f 1) (upd (f 2) x' v) (f 3) (f 4)) (opS g (nI x') v).2 from (by rw [opS_5 (by omega) c20 (by first | exact fun q => c27 q.1 | exact fun q => Int32.not_lt.mpr c38 q.2) c53]; exact ⟨rfl, hF, rW_of rfl (fun _ => rfl) hW, rC_set hC, rT_of rfl rfl hT, rM_of rfl rfl hM⟩))
            · refine lv_bipush (v := (-5)) hx hb dX3_changeSetting_56 (by decide) ?_
              exact kb_iret (D := D) hQ hx hb hr hlocks hK hP hD hS dX3_changeSetting_58 f (by rw [opS_4 (by omega) c20 (by first | exact fun q => c27 q.1 | exact fun q => Int32.not_lt.mpr c38 q.2) c53] <;> rfl) (Nat.le_refl _) (Nat.le_refl _) (show (-5) = (opS g (nI x') v).1 ∧ rS f (opS g (nI x') v).2 from (by rw [opS_4 (by omega) c20 (by first | exact fun q => c27 q.1 | exact fun q => Int32.not_lt.mpr c38 q.2) c53]; exact ⟨rfl, hrs⟩))
          · refine lv_bipush (v := (-4)) hx hb dX3_changeSetting_41 (by decide) ?_
            exact kb_iret (D := D) hQ hx hb hr hlocks hK hP hD hS dX3_changeSetting_43 f (by rw [opS_3 (by omega) c20 c27 (Int32.not_le.mp c38)] <;> rfl) (Nat.le_refl _) (Nat.le_refl _) (show (-4) = (opS g (nI x') v).1 ∧ rS f (opS g (nI x') v).2 from (by rw [opS_3 (by omega) c20 c27 (Int32.not_le.mp c38)]; exact ⟨rfl, hrs⟩))
      · refine lv_bipush (v := (-2)) hx hb dX3_changeSetting_23 (by decide) ?_
        exact kb_iret (D := D) hQ hx hb hr hlocks hK hP hD hS dX3_changeSetting_25 f (by rw [opS_2 (by omega) c20] <;> rfl) (Nat.le_refl _) (Nat.le_refl _) (show (-2) = (opS g (nI x') v).1 ∧ rS f (opS g (nI x') v).2 from (by rw [opS_2 (by omega) c20]; exact ⟨rfl, hrs⟩))
    · refine lv_iconst (v := (-1)) hx hb dX3_changeSetting_13 (by decide) ?_
      exact kb_iret (D := D) hQ hx hb hr hlocks hK hP hD hS dX3_changeSetting_14 f (by rw [opS_1 (by rw [kIs_n (by decide) (by omega)]; exact decide_eq_false (by omega))] <;> rfl) (Nat.le_refl _) (Nat.le_refl _) (show (-1) = (opS g (nI x') v).1 ∧ rS f (opS g (nI x') v).2 from (by rw [opS_1 (by rw [kIs_n (by decide) (by omega)]; exact decide_eq_false (by omega))]; exact ⟨rfl, hrs⟩))
abbrev rmX3_tell : Room := { frames := 2, cells := 0, slots := 0, locals := 44 }
theorem hdX3_tell : yX3_tell.cls = RX3 ∧ yX3_tell.cls ≠ "java/lang/invoke/MethodHandle" ∧ yX3_tell.cls ≠ "java/lang/invoke/VarHandle" ∧ (parseMethodDescriptor yX3_tell.desc).map (fun d => d.parameters.length) = some 2 := by decide +kernel
theorem inwX3_tell_X3 : ∀ w ∈ wsX30, w ∈ wsX3_tell := fun w h => List.mem_cons_of_mem _ (List.mem_append_left _ (List.mem_append_right _ h))
theorem inwX3_tell_X2 : ∀ w ∈ wsX20, w ∈ wsX3_tell := fun w h => List.mem_cons_of_mem _ (List.mem_append_right _ h)
set_option maxHeartbeats 4000000 in
set_option maxRecDepth 100000 in
theorem c_X3_tell (l : Launch) (D : va_G) (cI : ClassId) (a : Nat → Nat) (f : Nat → Nat → Int32) (g : Sg) (k : Nat) (w : Nat) (hk : k < nK g) (hw : w < 9) (hrs : rS f g) (ho : Ok g) : kb_R D [(cI, .int)] l yX3_tell wsX3_tell rmX3_tell [.ref (a 0), .int (nI k), .int (nI w)] [((a 0), .inr (3, [.ref (a 1), .ref (a 2), .ref (a 3), .ref (a 4), .ref (a 6), .int (nI (nK g)), .int (gc g 4), .int (gc g 7), .int (gc g 10)])), ((a 1), .inl (cI, 216, .inl (f 0))), ((a 2), .inl (cI, 24, .inl (f 1))), ((a 3), .inl (cI, 4, .inl (f 2))), ((a 4), .inr (2, [.ref (a 5), .int (nI (nT g))])), ((a 5), .inl (cI, 12, .inl (f 3))), ((a 6), .inr (2, [.ref (a 7), .int (nI (nW g))])), ((a 7), .inl (cI, 24, .inl (f 4)))] (tellV g k w) := by
  refine kb_I_of (cc := cX3_tell) (maxL := 3) (ret := (some .int)) (by decide) rfl (Nat.le_of_ble_eq_true rfl) ?_
  intro p e s mm args below meth c A hx hb hml hr hts hown hlocks hnm hA hN hK hP hD hS ls hl Q hQ
  have hl : lv_has ls 3 [(0, .ref (a 0)), (1, .int (nI k)), (2, .int (nI w))] := hl
  have hP : va_P D vwCl [((a 0), .inr (3, [.ref (a 1), .ref (a 2), .ref (a 3), .ref (a 4), .ref (a 6), .int (nI (nK g)), .int (gc g 4), .int (gc g 7), .int (gc g 10)])), ((a 1), .inl (cI, 216, .inl (f 0))), ((a 2), .inl (cI, 24, .inl (f 1))), ((a 3), .inl (cI, 4, .inl (f 2))), ((a 4), .inr (2, [.ref (a 5), .int (nI (nT g))])), ((a 5), .inl (cI, 12, .inl (f 3))), ((a 6), .inr (2, [.ref (a 7), .int (nI (nW g))])), ((a 7), .inl (cI, 24, .inl (f 4)))] s.heap := hP
  have hD : va_D A [((a 0), .inr (3, [.ref (a 1), .ref (a 2), .ref (a 3), .ref (a 4), .ref (a 6), .int (nI (nK g)), .int (gc g 4), .int (gc g 7), .int (gc g 10)])), ((a 1), .inl (cI, 216, .inl (f 0))), ((a 2), .inl (cI, 24, .inl (f 1))), ((a 3), .inl (cI, 4, .inl (f 2))), ((a 4), .inr (2, [.ref (a 5), .int (nI (nT g))])), ((a 5), .inl (cI, 12, .inl (f 3))), ((a 6), .inr (2, [.ref (a 7), .int (nI (nW g))])), ((a 7), .inl (cI, 24, .inl (f 4)))] := hD
  have fl26 := hts (.fieldLink RX3 26 "KingsBanquet$State" "table" "LKingsBanquet$Row;") (by decide +kernel)
  have fl30 := hts (.fieldLink RX3 30 "KingsBanquet$State" "hall" "LKingsBanquet$Row;") (by decide +kernel)
  obtain ⟨hF, hW, hC, hT, hM⟩ := id hrs
  have hn := ho.n
  rcases (by omega : w = 0 ∨ w = 1 ∨ w = 2 ∨ w = 3 ∨ w = 4 ∨ w = 5 ∨ w = 6 ∨ w = 7 ∨ w = 8) with rfl | rfl | rfl | rfl | rfl | rfl | rfl | rfl | rfl
  · refine lv_iload_n hx hb dX3_tell_0 rfl (lv_at hl 2 rfl) ?_
    refine lv_lookup (off := 45) (tgt := 46) hx hb dX3_tell_1 (by decide) (by decide) (by decide) ?_
    refine lv_aload_n hx hb dX3_tell_46 rfl (lv_at hl 0 rfl) ?_
    refine lv_iload_n hx hb dX3_tell_47 rfl (lv_at hl 1 rfl) ?_
    refine lv_iload_n hx hb dX3_tell_48 rfl (lv_at hl 2 rfl) ?_
    refine kb_vR (As := [.int (nI k), .int (nI 0)]) (rest := []) hx hb hml hts hown hN hK hP hD hS hA (c_X3_fact l D cI a (nK g) (gc g 4) (gc g 7) (gc g 10) (f 0) k 0 hk (by omega) hn.1) gX3_tell_X3_fact rfl ⟨rfl, rfl⟩ hdX3_fact ⟨Nat.le_of_ble_eq_true rfl, Nat.le_of_ble_eq_true rfl⟩ [0, 1] [0] rfl rfl rfl (ci := 3) rfl rfl rfl rfl rfl hl.1 (Nat.le_of_ble_eq_true rfl) dX3_tell_49 ⟨Nat.zero_le _, Nat.zero_le _⟩ (fun H locs hP hS => ?_)
    exact kb_iret (D := D) hQ hx hb hr hlocks hK hP hD hS dX3_tell_52 () rfl (Nat.le_refl _) (Nat.le_refl _) (show (f 0) (k * 9 + 0) = tellV g k 0 from (hF k (by omega)).1)
  · refine lv_iload_n hx hb dX3_tell_0 rfl (lv_at hl 2 rfl) ?_
    refine lv_lookup (off := 45) (tgt := 46) hx hb dX3_tell_1 (by decide) (by decide) (by decide) ?_
    refine lv_aload_n hx hb dX3_tell_46 rfl (lv_at hl 0 rfl) ?_
    refine lv_iload_n hx hb dX3_tell_47 rfl (lv_at hl 1 rfl) ?_
    refine lv_iload_n hx hb dX3_tell_48 rfl (lv_at hl 2 rfl) ?_
    refine kb_vR (As := [.int (nI k), .int (nI 1)]) (rest := []) hx hb hml hts hown hN hK hP hD hS hA (c_X3_fact l D cI a (nK g) (gc g 4) (gc g 7) (gc g 10) (f 0) k 1 hk (by omega) hn.1) gX3_tell_X3_fact rfl ⟨rfl, rfl⟩ hdX3_fact ⟨Nat.le_of_ble_eq_true rfl, Nat.le_of_ble_eq_true rfl⟩ [0, 1] [0] rfl rfl rfl (ci := 3) rfl rfl rfl rfl rfl hl.1 (Nat.le_of_ble_eq_true rfl) dX3_tell_49 ⟨Nat.zero_le _, Nat.zero_le _⟩ (fun H locs hP hS => ?_)
    exact kb_iret (D := D) hQ hx hb hr hlocks hK hP hD hS dX3_tell_52 () rfl (Nat.le_refl _) (Nat.le_refl _) (show (f 0) (k * 9 + 1) = tellV g k 1 from (hF k (by omega)).2.1)
  · refine lv_iload_n hx hb dX3_tell_0 rfl (lv_at hl 2 rfl) ?_
    refine lv_lookup (off := 45) (tgt := 46) hx hb dX3_tell_1 (by decide) (by decide) (by decide) ?_
    refine lv_aload_n hx hb dX3_tell_46 rfl (lv_at hl 0 rfl) ?_
    refine lv_iload_n hx hb dX3_tell_47 rfl (lv_at hl 1 rfl) ?_
    refine lv_iload_n hx hb dX3_tell_48 rfl (lv_at hl 2 rfl) ?_
    refine kb_vR (As := [.int (nI k), .int (nI 2)]) (rest := []) hx hb hml hts hown hN hK hP hD hS hA (c_X3_fact l D cI a (nK g) (gc g 4) (gc g 7) (gc g 10) (f 0) k 2 hk (by omega) hn.1) gX3_tell_X3_fact rfl ⟨rfl, rfl⟩ hdX3_fact ⟨Nat.le_of_ble_eq_true rfl, Nat.le_of_ble_eq_true rfl⟩ [0, 1] [0] rfl rfl rfl (ci := 3) rfl rfl rfl rfl rfl hl.1 (Nat.le_of_ble_eq_true rfl) dX3_tell_49 ⟨Nat.zero_le _, Nat.zero_le _⟩ (fun H locs hP hS => ?_)
    exact kb_iret (D := D) hQ hx hb hr hlocks hK hP hD hS dX3_tell_52 () rfl (Nat.le_refl _) (Nat.le_refl _) (show (f 0) (k * 9 + 2) = tellV g k 2 from (hF k (by omega)).2.2.1)
  · refine lv_iload_n hx hb dX3_tell_0 rfl (lv_at hl 2 rfl) ?_
    refine lv_lookup (off := 45) (tgt := 46) hx hb dX3_tell_1 (by decide) (by decide) (by decide) ?_
    refine lv_aload_n hx hb dX3_tell_46 rfl (lv_at hl 0 rfl) ?_
    refine lv_iload_n hx hb dX3_tell_47 rfl (lv_at hl 1 rfl) ?_
    refine lv_iload_n hx hb dX3_tell_48 rfl (lv_at hl 2 rfl) ?_
    refine kb_vR (As := [.int (nI k), .int (nI 3)]) (rest := []) hx hb hml hts hown hN hK hP hD hS hA (c_X3_fact l D cI a (nK g) (gc g 4) (gc g 7) (gc g 10) (f 0) k 3 hk (by omega) hn.1) gX3_tell_X3_fact rfl ⟨rfl, rfl⟩ hdX3_fact ⟨Nat.le_of_ble_eq_true rfl, Nat.le_of_ble_eq_true rfl⟩ [0, 1] [0] rfl rfl rfl (ci := 3) rfl rfl rfl rfl rfl hl.1 (Nat.le_of_ble_eq_true rfl) dX3_tell_49 ⟨Nat.zero_le _, Nat.zero_le _⟩ (fun H locs hP hS => ?_)
    exact kb_iret (D := D) hQ hx hb hr hlocks hK hP hD hS dX3_tell_52 () rfl (Nat.le_refl _) (Nat.le_refl _) (show (f 0) (k * 9 + 3) = tellV g k 3 from (hF k (by omega)).2.2.2.1)
  · refine lv_iload_n hx hb dX3_tell_0 rfl (lv_at hl 2 rfl) ?_
    refine lv_lookup (off := 27) (tgt := 28) hx hb dX3_tell_1 (by decide) (by decide) (by decide) ?_
    refine lv_aload_n hx hb dX3_tell_28 rfl (lv_at hl 0 rfl) ?_
    refine va_get (D := D) (ci := 3) (v := .ref (a 4)) (C := RX3) (T := TX3) (N := 9) hx hb hts inwX3_tell_X3 hown hK hP 0 rfl rfl 3 (by decide) fl26 (fun _ h9 => h9) rfl dX3_tell_29 ?_
    refine lv_iload_n hx hb dX3_tell_32 rfl (lv_at hl 1 rfl) ?_
    refine kb_vR (As := [.int (nI k)]) (rest := []) hx hb hml hts hown hN hK hP hD hS hA (c_X2_placeOf l D cI (fun i => a (4 + i)) 12 (f 3) (nT g) (nI k) hn.2.1 (by decide)) gX3_tell_X2_placeOf rfl ⟨rfl, rfl⟩ hdX2_placeOf ⟨Nat.le_of_ble_eq_true rfl, Nat.le_of_ble_eq_true rfl⟩ [4, 5] [0] rfl rfl rfl (ci := 2) rfl rfl rfl rfl rfl hl.1 (Nat.le_of_ble_eq_true rfl) dX3_tell_33 ⟨Nat.zero_le _, Nat.zero_le _⟩ (fun H locs hP hS => ?_)
    exact kb_iret (D := D) hQ hx hb hr hlocks hK hP hD hS dX3_tell_36 () rfl (Nat.le_refl _) (Nat.le_refl _) (show rFind (f 3) (nT g) (nI k) = tellV g k 4 from (rT_find ho hT (by omega)))
  · refine lv_iload_n hx hb dX3_tell_0 rfl (lv_at hl 2 rfl) ?_
    refine lv_lookup (off := 36) (tgt := 37) hx hb dX3_tell_1 (by decide) (by decide) (by decide) ?_
    refine lv_aload_n hx hb dX3_tell_37 rfl (lv_at hl 0 rfl) ?_
    refine va_get (D := D) (ci := 3) (v := .ref (a 6)) (C := RX3) (T := TX3) (N := 9) hx hb hts inwX3_tell_X3 hown hK hP 0 rfl rfl 4 (by decide) fl30 (fun _ h9 => h9) rfl dX3_tell_38 ?_
    refine lv_iload_n hx hb dX3_tell_41 rfl (lv_at hl 1 rfl) ?_
    refine kb_vR (As := [.int (nI k)]) (rest := []) hx hb hml hts hown hN hK hP hD hS hA (c_X2_placeOf l D cI (fun i => a (6 + i)) 24 (f 4) (nW g) (nI k) hn.2.2 (by decide)) gX3_tell_X2_placeOf rfl ⟨rfl, rfl⟩ hdX2_placeOf ⟨Nat.le_of_ble_eq_true rfl, Nat.le_of_ble_eq_true rfl⟩ [6, 7] [0] rfl rfl rfl (ci := 2) rfl rfl rfl rfl rfl hl.1 (Nat.le_of_ble_eq_true rfl) dX3_tell_42 ⟨Nat.zero_le _, Nat.zero_le _⟩ (fun H locs hP hS => ?_)
    exact kb_iret (D := D) hQ hx hb hr hlocks hK hP hD hS dX3_tell_45 () rfl (Nat.le_refl _) (Nat.le_refl _) (show rFind (f 4) (nW g) (nI k) = tellV g k 5 from (rM_find ho hM (by omega)))
  · refine lv_iload_n hx hb dX3_tell_0 rfl (lv_at hl 2 rfl) ?_
    refine lv_lookup (off := 45) (tgt := 46) hx hb dX3_tell_1 (by decide) (by decide) (by decide) ?_
    refine lv_aload_n hx hb dX3_tell_46 rfl (lv_at hl 0 rfl) ?_
    refine lv_iload_n hx hb dX3_tell_47 rfl (lv_at hl 1 rfl) ?_
    refine lv_iload_n hx hb dX3_tell_48 rfl (lv_at hl 2 rfl) ?_
    refine kb_vR (As := [.int (nI k), .int (nI 6)]) (rest := []) hx hb hml hts hown hN hK hP hD hS hA (c_X3_fact l D cI a (nK g) (gc g 4) (gc g 7) (gc g 10) (f 0) k 6 hk (by omega) hn.1) gX3_tell_X3_fact rfl ⟨rfl, rfl⟩ hdX3_fact ⟨Nat.le_of_ble_eq_true rfl, Nat.le_of_ble_eq_true rfl⟩ [0, 1] [0] rfl rfl rfl (ci := 3) rfl rfl rfl rfl rfl hl.1 (Nat.le_of_ble_eq_true rfl) dX3_tell_49 ⟨Nat.zero_le _, Nat.zero_le _⟩ (fun H locs hP hS => ?_)
    exact kb_iret (D := D) hQ hx hb hr hlocks hK hP hD hS dX3_tell_52 () rfl (Nat.le_refl _) (Nat.le_refl _) (show (f 0) (k * 9 + 6) = tellV g k 6 from (hF k (by omega)).2.2.2.2.1)
  · refine lv_iload_n hx hb dX3_tell_0 rfl (lv_at hl 2 rfl) ?_
    refine lv_lookup (off := 45) (tgt := 46) hx hb dX3_tell_1 (by decide) (by decide) (by decide) ?_
    refine lv_aload_n hx hb dX3_tell_46 rfl (lv_at hl 0 rfl) ?_
    refine lv_iload_n hx hb dX3_tell_47 rfl (lv_at hl 1 rfl) ?_
    refine lv_iload_n hx hb dX3_tell_48 rfl (lv_at hl 2 rfl) ?_
    refine kb_vR (As := [.int (nI k), .int (nI 7)]) (rest := []) hx hb hml hts hown hN hK hP hD hS hA (c_X3_fact l D cI a (nK g) (gc g 4) (gc g 7) (gc g 10) (f 0) k 7 hk (by omega) hn.1) gX3_tell_X3_fact rfl ⟨rfl, rfl⟩ hdX3_fact ⟨Nat.le_of_ble_eq_true rfl, Nat.le_of_ble_eq_true rfl⟩ [0, 1] [0] rfl rfl rfl (ci := 3) rfl rfl rfl rfl rfl hl.1 (Nat.le_of_ble_eq_true rfl) dX3_tell_49 ⟨Nat.zero_le _, Nat.zero_le _⟩ (fun H locs hP hS => ?_)
    exact kb_iret (D := D) hQ hx hb hr hlocks hK hP hD hS dX3_tell_52 () rfl (Nat.le_refl _) (Nat.le_refl _) (show (f 0) (k * 9 + 7) = tellV g k 7 from (hF k (by omega)).2.2.2.2.2.1)
  · refine lv_iload_n hx hb dX3_tell_0 rfl (lv_at hl 2 rfl) ?_
    refine lv_lookup (off := 45) (tgt := 46) hx hb dX3_tell_1 (by decide) (by decide) (by decide) ?_
    refine lv_aload_n hx hb dX3_tell_46 rfl (lv_at hl 0 rfl) ?_
    refine lv_iload_n hx hb dX3_tell_47 rfl (lv_at hl 1 rfl) ?_
    refine lv_iload_n hx hb dX3_tell_48 rfl (lv_at hl 2 rfl) ?_
    refine kb_vR (As := [.int (nI k), .int (nI 8)]) (rest := []) hx hb hml hts hown hN hK hP hD hS hA (c_X3_fact l D cI a (nK g) (gc g 4) (gc g 7) (gc g 10) (f 0) k 8 hk (by omega) hn.1) gX3_tell_X3_fact rfl ⟨rfl, rfl⟩ hdX3_fact ⟨Nat.le_of_ble_eq_true rfl, Nat.le_of_ble_eq_true rfl⟩ [0, 1] [0] rfl rfl rfl (ci := 3) rfl rfl rfl rfl rfl hl.1 (Nat.le_of_ble_eq_true rfl) dX3_tell_49 ⟨Nat.zero_le _, Nat.zero_le _⟩ (fun H locs hP hS => ?_)
    exact kb_iret (D := D) hQ hx hb hr hlocks hK hP hD hS dX3_tell_52 () rfl (Nat.le_refl _) (Nat.le_refl _) (show (f 0) (k * 9 + 8) = tellV g k 8 from (hF k (by omega)).2.2.2.2.2.2)
abbrev rmX3_sitting : Room := { frames := 1, cells := 0, slots := 0, locals := 20 }
theorem hdX3_sitting : yX3_sitting.cls = RX3 ∧ yX3_sitting.cls ≠ "java/lang/invoke/MethodHandle" ∧ yX3_sitting.cls ≠ "java/lang/invoke/VarHandle" ∧ (parseMethodDescriptor yX3_sitting.desc).map (fun d => d.parameters.length) = some 0 := by decide +kernel
theorem inwX3_sitting_X3 : ∀ w ∈ wsX30, w ∈ wsX3_sitting := fun w h => List.mem_cons_of_mem _ (List.mem_append_left _ (List.mem_append_right _ h))
theorem inwX3_sitting_X2 : ∀ w ∈ wsX20, w ∈ wsX3_sitting := fun w h => List.mem_cons_of_mem _ (List.mem_append_right _ h)
set_option maxHeartbeats 4000000 in
set_option maxRecDepth 100000 in
theorem c_X3_sitting (l : Launch) (D : va_G) (cI : ClassId) (a : Nat → Nat) (f : Nat → Nat → Int32) (g : Sg) (hrs : rS f g) (ho : Ok g) : kb_R D [(cI, .int)] l yX3_sitting wsX3_sitting rmX3_sitting [.ref (a 0)] [((a 0), .inr (3, [.ref (a 1), .ref (a 2), .ref (a 3), .ref (a 4), .ref (a 6), .int (nI (nK g)), .int (gc g 4), .int (gc g 7), .int (gc g 10)])), ((a 1), .inl (cI, 216, .inl (f 0))), ((a 2), .inl (cI, 24, .inl (f 1))), ((a 3), .inl (cI, 4, .inl (f 2))), ((a 4), .inr (2, [.ref (a 5), .int (nI (nT g))])), ((a 5), .inl (cI, 12, .inl (f 3))), ((a 6), .inr (2, [.ref (a 7), .int (nI (nW g))])), ((a 7), .inl (cI, 24, .inl (f 4)))] (nI (nT g)) := by
  refine kb_I_of (cc := cX3_sitting) (maxL := 1) (ret := (some .int)) (by decide) rfl (Nat.le_of_ble_eq_true rfl) ?_
  intro p e s mm args below meth c A hx hb hml hr hts hown hlocks hnm hA hN hK hP hD hS ls hl Q hQ
  have hl : lv_has ls 1 [(0, .ref (a 0))] := hl
  have hP : va_P D vwCl [((a 0), .inr (3, [.ref (a 1), .ref (a 2), .ref (a 3), .ref (a 4), .ref (a 6), .int (nI (nK g)), .int (gc g 4), .int (gc g 7), .int (gc g 10)])), ((a 1), .inl (cI, 216, .inl (f 0))), ((a 2), .inl (cI, 24, .inl (f 1))), ((a 3), .inl (cI, 4, .inl (f 2))), ((a 4), .inr (2, [.ref (a 5), .int (nI (nT g))])), ((a 5), .inl (cI, 12, .inl (f 3))), ((a 6), .inr (2, [.ref (a 7), .int (nI (nW g))])), ((a 7), .inl (cI, 24, .inl (f 4)))] s.heap := hP
  have hD : va_D A [((a 0), .inr (3, [.ref (a 1), .ref (a 2), .ref (a 3), .ref (a 4), .ref (a 6), .int (nI (nK g)), .int (gc g 4), .int (gc g 7), .int (gc g 10)])), ((a 1), .inl (cI, 216, .inl (f 0))), ((a 2), .inl (cI, 24, .inl (f 1))), ((a 3), .inl (cI, 4, .inl (f 2))), ((a 4), .inr (2, [.ref (a 5), .int (nI (nT g))])), ((a 5), .inl (cI, 12, .inl (f 3))), ((a 6), .inr (2, [.ref (a 7), .int (nI (nW g))])), ((a 7), .inl (cI, 24, .inl (f 4)))] := hD
  have fl26 := hts (.fieldLink RX3 26 "KingsBanquet$State" "table" "LKingsBanquet$Row;") (by decide +kernel)
  obtain ⟨hF, hW, hC, hT, hM⟩ := id hrs
  have hn := ho.n
  refine lv_aload_n hx hb dX3_sitting_0 rfl (lv_at hl 0 rfl) ?_
  refine va_get (D := D) (ci := 3) (v := .ref (a 4)) (C := RX3) (T := TX3) (N := 9) hx hb hts inwX3_sitting_X3 hown hK hP 0 rfl rfl 3 (by decide) fl26 (fun _ h9 => h9) rfl dX3_sitting_1 ?_
  refine kb_vR (As := []) (rest := []) hx hb hml hts hown hN hK hP hD hS hA (c_X2_size l D cI (fun i => a (4 + i)) 12 (f 3) (nT g)) gX3_sitting_X2_size rfl ⟨rfl, rfl⟩ hdX2_size ⟨Nat.le_of_ble_eq_true rfl, Nat.le_of_ble_eq_true rfl⟩ [4, 5] [0] rfl rfl rfl (ci := 2) rfl rfl rfl rfl rfl hl.1 (Nat.le_of_ble_eq_true rfl) dX3_sitting_4 ⟨Nat.zero_le _, Nat.zero_le _⟩ (fun H locs hP hS => ?_)
  exact kb_iret (D := D) hQ hx hb hr hlocks hK hP hD hS dX3_sitting_7 () rfl (Nat.le_refl _) (Nat.le_refl _) (show nI (nT g) = nI (nT g) from rfl)
abbrev rmX3_sitterAt : Room := { frames := 1, cells := 0, slots := 0, locals := 21 }
theorem hdX3_sitterAt : yX3_sitterAt.cls = RX3 ∧ yX3_sitterAt.cls ≠ "java/lang/invoke/MethodHandle" ∧ yX3_sitterAt.cls ≠ "java/lang/invoke/VarHandle" ∧ (parseMethodDescriptor yX3_sitterAt.desc).map (fun d => d.parameters.length) = some 1 := by decide +kernel
theorem inwX3_sitterAt_X3 : ∀ w ∈ wsX30, w ∈ wsX3_sitterAt := fun w h => List.mem_cons_of_mem _ (List.mem_append_left _ (List.mem_append_right _ h))
theorem inwX3_sitterAt_X2 : ∀ w ∈ wsX20, w ∈ wsX3_sitterAt := fun w h => List.mem_cons_of_mem _ (List.mem_append_right _ h)
set_option maxHeartbeats 4000000 in
set_option maxRecDepth 100000 in
theorem c_X3_sitterAt (l : Launch) (D : va_G) (cI : ClassId) (a : Nat → Nat) (f : Nat → Nat → Int32) (g : Sg) (x : Int32) (hrs : rS f g) (ho : Ok g) : kb_R D [(cI, .int)] l yX3_sitterAt wsX3_sitterAt rmX3_sitterAt [.ref (a 0), .int (x)] [((a 0), .inr (3, [.ref (a 1), .ref (a 2), .ref (a 3), .ref (a 4), .ref (a 6), .int (nI (nK g)), .int (gc g 4), .int (gc g 7), .int (gc g 10)])), ((a 1), .inl (cI, 216, .inl (f 0))), ((a 2), .inl (cI, 24, .inl (f 1))), ((a 3), .inl (cI, 4, .inl (f 2))), ((a 4), .inr (2, [.ref (a 5), .int (nI (nT g))])), ((a 5), .inl (cI, 12, .inl (f 3))), ((a 6), .inr (2, [.ref (a 7), .int (nI (nW g))])), ((a 7), .inl (cI, 24, .inl (f 4)))] (sAt g x) := by
  refine kb_I_of (cc := cX3_sitterAt) (maxL := 2) (ret := (some .int)) (by decide) rfl (Nat.le_of_ble_eq_true rfl) ?_
  intro p e s mm args below meth c A hx hb hml hr hts hown hlocks hnm hA hN hK hP hD hS ls hl Q hQ
  have hl : lv_has ls 2 [(0, .ref (a 0)), (1, .int (x))] := hl
  have hP : va_P D vwCl [((a 0), .inr (3, [.ref (a 1), .ref (a 2), .ref (a 3), .ref (a 4), .ref (a 6), .int (nI (nK g)), .int (gc g 4), .int (gc g 7), .int (gc g 10)])), ((a 1), .inl (cI, 216, .inl (f 0))), ((a 2), .inl (cI, 24, .inl (f 1))), ((a 3), .inl (cI, 4, .inl (f 2))), ((a 4), .inr (2, [.ref (a 5), .int (nI (nT g))])), ((a 5), .inl (cI, 12, .inl (f 3))), ((a 6), .inr (2, [.ref (a 7), .int (nI (nW g))])), ((a 7), .inl (cI, 24, .inl (f 4)))] s.heap := hP
  have hD : va_D A [((a 0), .inr (3, [.ref (a 1), .ref (a 2), .ref (a 3), .ref (a 4), .ref (a 6), .int (nI (nK g)), .int (gc g 4), .int (gc g 7), .int (gc g 10)])), ((a 1), .inl (cI, 216, .inl (f 0))), ((a 2), .inl (cI, 24, .inl (f 1))), ((a 3), .inl (cI, 4, .inl (f 2))), ((a 4), .inr (2, [.ref (a 5), .int (nI (nT g))])), ((a 5), .inl (cI, 12, .inl (f 3))), ((a 6), .inr (2, [.ref (a 7), .int (nI (nW g))])), ((a 7), .inl (cI, 24, .inl (f 4)))] := hD
  have fl26 := hts (.fieldLink RX3 26 "KingsBanquet$State" "table" "LKingsBanquet$Row;") (by decide +kernel)
  obtain ⟨hF, hW, hC, hT, hM⟩ := id hrs
  have hn := ho.n
  refine lv_aload_n hx hb dX3_sitterAt_0 rfl (lv_at hl 0 rfl) ?_
  refine va_get (D := D) (ci := 3) (v := .ref (a 4)) (C := RX3) (T := TX3) (N := 9) hx hb hts inwX3_sitterAt_X3 hown hK hP 0 rfl rfl 3 (by decide) fl26 (fun _ h9 => h9) rfl dX3_sitterAt_1 ?_
  refine lv_iload_n hx hb dX3_sitterAt_4 rfl (lv_at hl 1 rfl) ?_
  refine kb_vR (As := [.int (x)]) (rest := []) hx hb hml hts hown hN hK hP hD hS hA (c_X2_at l D cI (fun i => a (4 + i)) 12 (f 3) (nT g) x hn.2.1 (by decide)) gX3_sitterAt_X2_at rfl ⟨rfl, rfl⟩ hdX2_at ⟨Nat.le_of_ble_eq_true rfl, Nat.le_of_ble_eq_true rfl⟩ [4, 5] [0] rfl rfl rfl (ci := 2) rfl rfl rfl rfl rfl hl.1 (Nat.le_of_ble_eq_true rfl) dX3_sitterAt_5 ⟨Nat.zero_le _, Nat.zero_le _⟩ (fun H locs hP hS => ?_)
  exact kb_iret (D := D) hQ hx hb hr hlocks hK hP hD hS dX3_sitterAt_8 () rfl (Nat.le_refl _) (Nat.le_refl _) (show rAt (f 3) (nT g) x = sAt g x from (rAt_T ho hT x))
abbrev rmX3_waiterAt : Room := { frames := 1, cells := 0, slots := 0, locals := 21 }
theorem hdX3_waiterAt : yX3_waiterAt.cls = RX3 ∧ yX3_waiterAt.cls ≠ "java/lang/invoke/MethodHandle" ∧ yX3_waiterAt.cls ≠ "java/lang/invoke/VarHandle" ∧ (parseMethodDescriptor yX3_waiterAt.desc).map (fun d => d.parameters.length) = some 1 := by decide +kernel
theorem inwX3_waiterAt_X3 : ∀ w ∈ wsX30, w ∈ wsX3_waiterAt := fun w h => List.mem_cons_of_mem _ (List.mem_append_left _ (List.mem_append_right _ h))
theorem inwX3_waiterAt_X2 : ∀ w ∈ wsX20, w ∈ wsX3_waiterAt := fun w h => List.mem_cons_of_mem _ (List.mem_append_right _ h)
set_option maxHeartbeats 4000000 in
set_option maxRecDepth 100000 in
theorem c_X3_waiterAt (l : Launch) (D : va_G) (cI : ClassId) (a : Nat → Nat) (f : Nat → Nat → Int32) (g : Sg) (x : Int32) (hrs : rS f g) (ho : Ok g) : kb_R D [(cI, .int)] l yX3_waiterAt wsX3_waiterAt rmX3_waiterAt [.ref (a 0), .int (x)] [((a 0), .inr (3, [.ref (a 1), .ref (a 2), .ref (a 3), .ref (a 4), .ref (a 6), .int (nI (nK g)), .int (gc g 4), .int (gc g 7), .int (gc g 10)])), ((a 1), .inl (cI, 216, .inl (f 0))), ((a 2), .inl (cI, 24, .inl (f 1))), ((a 3), .inl (cI, 4, .inl (f 2))), ((a 4), .inr (2, [.ref (a 5), .int (nI (nT g))])), ((a 5), .inl (cI, 12, .inl (f 3))), ((a 6), .inr (2, [.ref (a 7), .int (nI (nW g))])), ((a 7), .inl (cI, 24, .inl (f 4)))] (wAt g x) := by
  refine kb_I_of (cc := cX3_waiterAt) (maxL := 2) (ret := (some .int)) (by decide) rfl (Nat.le_of_ble_eq_true rfl) ?_
  intro p e s mm args below meth c A hx hb hml hr hts hown hlocks hnm hA hN hK hP hD hS ls hl Q hQ
  have hl : lv_has ls 2 [(0, .ref (a 0)), (1, .int (x))] := hl
  have hP : va_P D vwCl [((a 0), .inr (3, [.ref (a 1), .ref (a 2), .ref (a 3), .ref (a 4), .ref (a 6), .int (nI (nK g)), .int (gc g 4), .int (gc g 7), .int (gc g 10)])), ((a 1), .inl (cI, 216, .inl (f 0))), ((a 2), .inl (cI, 24, .inl (f 1))), ((a 3), .inl (cI, 4, .inl (f 2))), ((a 4), .inr (2, [.ref (a 5), .int (nI (nT g))])), ((a 5), .inl (cI, 12, .inl (f 3))), ((a 6), .inr (2, [.ref (a 7), .int (nI (nW g))])), ((a 7), .inl (cI, 24, .inl (f 4)))] s.heap := hP
  have hD : va_D A [((a 0), .inr (3, [.ref (a 1), .ref (a 2), .ref (a 3), .ref (a 4), .ref (a 6), .int (nI (nK g)), .int (gc g 4), .int (gc g 7), .int (gc g 10)])), ((a 1), .inl (cI, 216, .inl (f 0))), ((a 2), .inl (cI, 24, .inl (f 1))), ((a 3), .inl (cI, 4, .inl (f 2))), ((a 4), .inr (2, [.ref (a 5), .int (nI (nT g))])), ((a 5), .inl (cI, 12, .inl (f 3))), ((a 6), .inr (2, [.ref (a 7), .int (nI (nW g))])), ((a 7), .inl (cI, 24, .inl (f 4)))] := hD
  have fl30 := hts (.fieldLink RX3 30 "KingsBanquet$State" "hall" "LKingsBanquet$Row;") (by decide +kernel)
  obtain ⟨hF, hW, hC, hT, hM⟩ := id hrs
  have hn := ho.n
  refine lv_aload_n hx hb dX3_waiterAt_0 rfl (lv_at hl 0 rfl) ?_
  refine va_get (D := D) (ci := 3) (v := .ref (a 6)) (C := RX3) (T := TX3) (N := 9) hx hb hts inwX3_waiterAt_X3 hown hK hP 0 rfl rfl 4 (by decide) fl30 (fun _ h9 => h9) rfl dX3_waiterAt_1 ?_
  refine lv_iload_n hx hb dX3_waiterAt_4 rfl (lv_at hl 1 rfl) ?_
  refine kb_vR (As := [.int (x)]) (rest := []) hx hb hml hts hown hN hK hP hD hS hA (c_X2_at l D cI (fun i => a (6 + i)) 24 (f 4) (nW g) x hn.2.2 (by decide)) gX3_waiterAt_X2_at rfl ⟨rfl, rfl⟩ hdX2_at ⟨Nat.le_of_ble_eq_true rfl, Nat.le_of_ble_eq_true rfl⟩ [6, 7] [0] rfl rfl rfl (ci := 2) rfl rfl rfl rfl rfl hl.1 (Nat.le_of_ble_eq_true rfl) dX3_waiterAt_5 ⟨Nat.zero_le _, Nat.zero_le _⟩ (fun H locs hP hS => ?_)
  exact kb_iret (D := D) hQ hx hb hr hlocks hK hP hD hS dX3_waiterAt_8 () rfl (Nat.le_refl _) (Nat.le_refl _) (show rAt (f 4) (nW g) x = wAt g x from (rAt_M ho hM x))
abbrev rmX3_whyAbove : Room := { frames := 2, cells := 0, slots := 0, locals := 44 }
theorem hdX3_whyAbove : yX3_whyAbove.cls = RX3 ∧ yX3_whyAbove.cls ≠ "java/lang/invoke/MethodHandle" ∧ yX3_whyAbove.cls ≠ "java/lang/invoke/VarHandle" ∧ (parseMethodDescriptor yX3_whyAbove.desc).map (fun d => d.parameters.length) = some 2 := by decide +kernel
theorem inwX3_whyAbove_X3 : ∀ w ∈ wsX30, w ∈ wsX3_whyAbove := fun w h => List.mem_cons_of_mem _ (List.mem_append_left _ (List.mem_append_right _ h))
theorem inwX3_whyAbove_X2 : ∀ w ∈ wsX20, w ∈ wsX3_whyAbove := fun w h => List.mem_cons_of_mem _ (List.mem_append_right _ h)
set_option maxHeartbeats 4000000 in
set_option maxRecDepth 100000 in
theorem c_X3_whyAbove (l : Launch) (D : va_G) (cI : ClassId) (a : Nat → Nat) (f : Nat → Nat → Int32) (g : Sg) (k : Nat) (o : Nat) (hk : k < nK g) (hok : o < nK g) (hrs : rS f g) (ho : Ok g) : kb_R D [(cI, .int)] l yX3_whyAbove wsX3_whyAbove rmX3_whyAbove [.ref (a 0), .int (nI k), .int (nI o)] [((a 0), .inr (3, [.ref (a 1), .ref (a 2), .ref (a 3), .ref (a 4), .ref (a 6), .int (nI (nK g)), .int (gc g 4), .int (gc g 7), .int (gc g 10)])), ((a 1), .inl (cI, 216, .inl (f 0))), ((a 2), .inl (cI, 24, .inl (f 1))), ((a 3), .inl (cI, 4, .inl (f 2))), ((a 4), .inr (2, [.ref (a 5), .int (nI (nT g))])), ((a 5), .inl (cI, 12, .inl (f 3))), ((a 6), .inr (2, [.ref (a 7), .int (nI (nW g))])), ((a 7), .inl (cI, 24, .inl (f 4)))] (why g k o) := by
  refine kb_I_of (cc := cX3_whyAbove) (maxL := 5) (ret := (some .int)) (by decide) rfl (Nat.le_of_ble_eq_true rfl) ?_
  intro p e s mm args below meth c A hx hb hml hr hts hown hlocks hnm hA hN hK hP hD hS ls hl Q hQ
  have hl : lv_has ls 5 [(0, .ref (a 0)), (1, .int (nI k)), (2, .int (nI o))] := hl
  have hP : va_P D vwCl [((a 0), .inr (3, [.ref (a 1), .ref (a 2), .ref (a 3), .ref (a 4), .ref (a 6), .int (nI (nK g)), .int (gc g 4), .int (gc g 7), .int (gc g 10)])), ((a 1), .inl (cI, 216, .inl (f 0))), ((a 2), .inl (cI, 24, .inl (f 1))), ((a 3), .inl (cI, 4, .inl (f 2))), ((a 4), .inr (2, [.ref (a 5), .int (nI (nT g))])), ((a 5), .inl (cI, 12, .inl (f 3))), ((a 6), .inr (2, [.ref (a 7), .int (nI (nW g))])), ((a 7), .inl (cI, 24, .inl (f 4)))] s.heap := hP
  have hD : va_D A [((a 0), .inr (3, [.ref (a 1), .ref (a 2), .ref (a 3), .ref (a 4), .ref (a 6), .int (nI (nK g)), .int (gc g 4), .int (gc g 7), .int (gc g 10)])), ((a 1), .inl (cI, 216, .inl (f 0))), ((a 2), .inl (cI, 24, .inl (f 1))), ((a 3), .inl (cI, 4, .inl (f 2))), ((a 4), .inr (2, [.ref (a 5), .int (nI (nT g))])), ((a 5), .inl (cI, 12, .inl (f 3))), ((a 6), .inr (2, [.ref (a 7), .int (nI (nW g))])), ((a 7), .inl (cI, 24, .inl (f 4)))] := hD
  have fl26 := hts (.fieldLink RX3 26 "KingsBanquet$State" "table" "LKingsBanquet$Row;") (by decide +kernel)
  obtain ⟨hF, hW, hC, hT, hM⟩ := id hrs
  have hn := ho.n
  have hkk := ho.k k hk
  have hoo := ho.k o hok
  have hpk := plT_le g k
  have hpo := plT_le g o
  refine lv_aload_n hx hb dX3_whyAbove_0 rfl (lv_at hl 0 rfl) ?_
  refine va_get (D := D) (ci := 3) (v := .ref (a 4)) (C := RX3) (T := TX3) (N := 9) hx hb hts inwX3_whyAbove_X3 hown hK hP 0 rfl rfl 3 (by decide) fl26 (fun _ h9 => h9) rfl dX3_whyAbove_1 ?_
  refine lv_iload_n hx hb dX3_whyAbove_4 rfl (lv_at hl 1 rfl) ?_
  refine kb_vR (As := [.int (nI k)]) (rest := []) hx hb hml hts hown hN hK hP hD hS hA (c_X2_placeOf l D cI (fun i => a (4 + i)) 12 (f 3) (nT g) (nI k) hn.2.1 (by decide)) gX3_whyAbove_X2_placeOf rfl ⟨rfl, rfl⟩ hdX2_placeOf ⟨Nat.le_of_ble_eq_true rfl, Nat.le_of_ble_eq_true rfl⟩ [4, 5] [0] rfl rfl rfl (ci := 2) rfl rfl rfl rfl rfl hl.1 (Nat.le_of_ble_eq_true rfl) dX3_whyAbove_5 ⟨Nat.zero_le _, Nat.zero_le _⟩ (fun H locs hP hS => ?_)
  refine kb_top (oI (decide (plT g k < nT g)) (plT g k)) (rT_find ho hT (by omega)) ?_
  refine lv_istore_n (lv' := [(3, .int (oI (decide (plT g k < nT g)) (plT g k))), (0, .ref (a 0)), (1, .int (nI k)), (2, .int (nI o))]) hx hb dX3_whyAbove_8 rfl hl (by decide) rfl (fun ls hl => ?_)
  refine lv_aload_n hx hb dX3_whyAbove_9 rfl (lv_at hl 1 rfl) ?_
  refine va_get (D := D) (ci := 3) (v := .ref (a 4)) (C := RX3) (T := TX3) (N := 9) hx hb hts inwX3_whyAbove_X3 hown hK hP 0 rfl rfl 3 (by decide) fl26 (fun _ h9 => h9) rfl dX3_whyAbove_10 ?_
  refine lv_iload_n hx hb dX3_whyAbove_13 rfl (lv_at hl 3 rfl) ?_
  refine kb_vR (As := [.int (nI o)]) (rest := []) hx hb hml hts hown hN hK hP hD hS hA (c_X2_placeOf l D cI (fun i => a (4 + i)) 12 (f 3) (nT g) (nI o) hn.2.1 (by decide)) gX3_whyAbove_X2_placeOf rfl ⟨rfl, rfl⟩ hdX2_placeOf ⟨Nat.le_of_ble_eq_true rfl, Nat.le_of_ble_eq_true rfl⟩ [4, 5] [0] rfl rfl rfl (ci := 2) rfl rfl rfl rfl rfl hl.1 (Nat.le_of_ble_eq_true rfl) dX3_whyAbove_14 ⟨Nat.zero_le _, Nat.zero_le _⟩ (fun H locs hP hS => ?_)
  refine kb_top (oI (decide (plT g o < nT g)) (plT g o)) (rT_find ho hT (by omega)) ?_
  refine lv_istore (lv' := [(4, .int (oI (decide (plT g o < nT g)) (plT g o))), (3, .int (oI (decide (plT g k < nT g)) (plT g k))), (0, .ref (a 0)), (1, .int (nI k)), (2, .int (nI o))]) hx hb dX3_whyAbove_17 hl (by decide) rfl (fun ls hl => ?_)
  refine lv_iload_n hx hb dX3_whyAbove_19 rfl (lv_at hl 1 rfl) ?_
  refine lv_bipush (v := (-5)) hx hb dX3_whyAbove_20 (by decide) ?_
  refine lv_icmp_eq (tgt := 38) hx hb dX3_whyAbove_22 (by decide) (fun c22 => ?_) (fun c22 => ?_)
  · refine lv_iconst (v := nI 1) hx hb dX3_whyAbove_38 (by decide) ?_
    exact kb_iret (D := D) hQ hx hb hr hlocks hK hP hD hS dX3_whyAbove_39 () rfl (Nat.le_refl _) (Nat.le_refl _) (show nI 1 = why g k o from (by first | exact (why_1 (fun q => oI_y5 (by omega) c22 q.1)).symm | exact (why_1 (fun q => oI_y5 (by omega) c29 q.2.1)).symm | exact (why_1 (fun q => q.2.2 (by omega))).symm))
  · refine lv_iload hx hb dX3_whyAbove_25 (lv_at hl 0 rfl) ?_
    refine lv_bipush (v := (-5)) hx hb dX3_whyAbove_27 (by decide) ?_
    refine lv_icmp_eq (tgt := 38) hx hb dX3_whyAbove_29 (by decide) (fun c29 => ?_) (fun c29 => ?_)
    · refine lv_iconst (v := nI 1) hx hb dX3_whyAbove_38 (by decide) ?_
      exact kb_iret (D := D) hQ hx hb hr hlocks hK hP hD hS dX3_whyAbove_39 () rfl (Nat.le_refl _) (Nat.le_refl _) (show nI 1 = why g k o from (by first | exact (why_1 (fun q => oI_y5 (by omega) c22 q.1)).symm | exact (why_1 (fun q => oI_y5 (by omega) c29 q.2.1)).symm | exact (why_1 (fun q => q.2.2 (by omega))).symm))
    · rw [oI_t (oI_n5 c22), oI_t (oI_n5 c29)] at hl
      refine lv_iload_n hx hb dX3_whyAbove_32 rfl (lv_at hl 1 rfl) ?_
      refine lv_iload hx hb dX3_whyAbove_33 (lv_at hl 0 rfl) ?_
      refine kb_icmp_le (tgt := 40) hx hb dX3_whyAbove_35 (by decide) (by omega) (by omega) (fun c35 => ?_) (fun c35 => ?_)
      · refine lv_aload_n hx hb dX3_whyAbove_40 rfl (lv_at hl 2 rfl) ?_
        refine lv_iload_n hx hb dX3_whyAbove_41 rfl (lv_at hl 4 rfl) ?_
        refine lv_iload_n hx hb dX3_whyAbove_42 rfl (lv_at hl 3 rfl) ?_
        refine kb_vR (As := [.int (nI o), .int (nI k)]) (rest := []) hx hb hml hts hown hN hK hP hD hS hA (c_X3_isGreater l D cI a (nK g) (gc g 4) (gc g 7) (gc g 10) (f 1) o k (key g o) (key g k) (by omega) (by omega) (hW _ hok) (hW _ hk) (key_lt ho hok) (key_lt ho hk)) gX3_whyAbove_X3_isGreater rfl ⟨rfl, rfl⟩ hdX3_isGreater ⟨Nat.le_of_ble_eq_true rfl, Nat.le_of_ble_eq_true rfl⟩ [0, 2] [0] rfl rfl rfl (ci := 3) rfl rfl rfl rfl rfl hl.1 (Nat.le_of_ble_eq_true rfl) dX3_whyAbove_43 ⟨Nat.zero_le _, Nat.zero_le _⟩ (fun H locs hP hS => ?_)
        refine kb_bif_eq (tgt := 51) hx hb dX3_whyAbove_46 (by decide) (fun c46 => ?_) (fun c46 => ?_)
        · refine lv_aload_n hx hb dX3_whyAbove_51 rfl (lv_at hl 2 rfl) ?_
          refine lv_iload_n hx hb dX3_whyAbove_52 rfl (lv_at hl 3 rfl) ?_
          refine lv_iconst (v := nI 0) hx hb dX3_whyAbove_53 (by decide) ?_
          refine kb_vR (As := [.int (nI k), .int (nI 0)]) (rest := []) hx hb hml hts hown hN hK hP hD hS hA (c_X3_fact l D cI a (nK g) (gc g 4) (gc g 7) (gc g 10) (f 0) k 0 hk (by omega) hn.1) gX3_whyAbove_X3_fact rfl ⟨rfl, rfl⟩ hdX3_fact ⟨Nat.le_of_ble_eq_true rfl, Nat.le_of_ble_eq_true rfl⟩ [0, 1] [0] rfl rfl rfl (ci := 3) rfl rfl rfl rfl rfl hl.1 (Nat.le_of_ble_eq_true rfl) dX3_whyAbove_54 ⟨Nat.zero_le _, Nat.zero_le _⟩ (fun H locs hP hS => ?_)
          refine kb_top (nI (gC g k)) (hF k (by omega)).1 ?_
          refine lv_aload_n hx hb dX3_whyAbove_57 rfl (lv_at hl 2 rfl) ?_
          refine lv_iload_n hx hb dX3_whyAbove_58 rfl (lv_at hl 4 rfl) ?_
          refine lv_iconst (v := nI 0) hx hb dX3_whyAbove_59 (by decide) ?_
          refine kb_vR (As := [.int (nI o), .int (nI 0)]) (rest := [.int (nI (gC g k))]) hx hb hml hts hown hN hK hP hD hS hA (c_X3_fact l D cI a (nK g) (gc g 4) (gc g 7) (gc g 10) (f 0) o 0 hok (by omega) hn.1) gX3_whyAbove_X3_fact rfl ⟨rfl, rfl⟩ hdX3_fact ⟨Nat.le_of_ble_eq_true rfl, Nat.le_of_ble_eq_true rfl⟩ [0, 1] [0] rfl rfl rfl (ci := 3) rfl rfl rfl rfl rfl hl.1 (Nat.le_of_ble_eq_true rfl) dX3_whyAbove_60 ⟨Nat.zero_le _, Nat.zero_le _⟩ (fun H locs hP hS => ?_)
          refine kb_top (nI (gC g o)) (hF o (by omega)).1 ?_
          refine kb_icmp_le (tgt := 68) hx hb dX3_whyAbove_63 (by decide) (by omega) (by omega) (fun c63 => ?_) (fun c63 => ?_)
          · refine lv_aload_n hx hb dX3_whyAbove_68 rfl (lv_at hl 2 rfl) ?_
            refine lv_iload_n hx hb dX3_whyAbove_69 rfl (lv_at hl 3 rfl) ?_
            refine lv_iconst (v := nI 1) hx hb dX3_whyAbove_70 (by decide) ?_
            refine kb_vR (As := [.int (nI k), .int (nI 1)]) (rest := []) hx hb hml hts hown hN hK hP hD hS hA (c_X3_fact l D cI a (nK g) (gc g 4) (gc g 7) (gc g 10) (f 0) k 1 hk (by omega) hn.1) gX3_whyAbove_X3_fact rfl ⟨rfl, rfl⟩ hdX3_fact ⟨Nat.le_of_ble_eq_true rfl, Nat.le_of_ble_eq_true rfl⟩ [0, 1] [0] rfl rfl rfl (ci := 3) rfl rfl rfl rfl rfl hl.1 (Nat.le_of_ble_eq_true rfl) dX3_whyAbove_71 ⟨Nat.zero_le _, Nat.zero_le _⟩ (fun H locs hP hS => ?_)
            refine kb_top (nI (gA g k)) (hF k (by omega)).2.1 ?_
            refine lv_aload_n hx hb dX3_whyAbove_74 rfl (lv_at hl 2 rfl) ?_
            refine lv_iload_n hx hb dX3_whyAbove_75 rfl (lv_at hl 4 rfl) ?_
            refine lv_iconst (v := nI 1) hx hb dX3_whyAbove_76 (by decide) ?_
            refine kb_vR (As := [.int (nI o), .int (nI 1)]) (rest := [.int (nI (gA g k))]) hx hb hml hts hown hN hK hP hD hS hA (c_X3_fact l D cI a (nK g) (gc g 4) (gc g 7) (gc g 10) (f 0) o 1 hok (by omega) hn.1) gX3_whyAbove_X3_fact rfl ⟨rfl, rfl⟩ hdX3_fact ⟨Nat.le_of_ble_eq_true rfl, Nat.le_of_ble_eq_true rfl⟩ [0, 1] [0] rfl rfl rfl (ci := 3) rfl rfl rfl rfl rfl hl.1 (Nat.le_of_ble_eq_true rfl) dX3_whyAbove_77 ⟨Nat.zero_le _, Nat.zero_le _⟩ (fun H locs hP hS => ?_)
            refine kb_top (nI (gA g o)) (hF o (by omega)).2.1 ?_
            refine kb_icmp_le (tgt := 87) hx hb dX3_whyAbove_80 (by decide) (by omega) (by omega) (fun c80 => ?_) (fun c80 => ?_)
            · refine lv_iconst (v := nI 4) hx hb dX3_whyAbove_87 (by decide) ?_
              exact kb_iret (D := D) hQ hx hb hr hlocks hK hP hD hS dX3_whyAbove_88 () rfl (Nat.le_refl _) (Nat.le_refl _) (show nI 4 = why g k o from (by first | rw [(why_2 ⟨oI_n5 c22, oI_n5 c29, by omega⟩), if_neg (of_decide_eq_false c46), if_neg (by omega), if_pos (by omega)] | rw [(why_2 ⟨oI_n5 c22, oI_n5 c29, by omega⟩), if_neg (of_decide_eq_false c46), if_neg (by omega), if_neg (by omega)]))
            · refine lv_iconst (v := nI 3) hx hb dX3_whyAbove_83 (by decide) ?_
              refine lv_goto (tgt := 88) hx hb dX3_whyAbove_84 (by decide) ?_
              exact kb_iret (D := D) hQ hx hb hr hlocks hK hP hD hS dX3_whyAbove_88 () rfl (Nat.le_refl _) (Nat.le_refl _) (show nI 3 = why g k o from (by first | rw [(why_2 ⟨oI_n5 c22, oI_n5 c29, by omega⟩), if_neg (of_decide_eq_false c46), if_neg (by omega), if_pos (by omega)] | rw [(why_2 ⟨oI_n5 c22, oI_n5 c29, by omega⟩), if_neg (of_decide_eq_false c46), if_neg (by omega), if_neg (by omega)]))
          · refine lv_iconst (v := nI 0) hx hb dX3_whyAbove_66 (by decide) ?_
            exact kb_iret (D := D) hQ hx hb hr hlocks hK hP hD hS dX3_whyAbove_67 () rfl (Nat.le_refl _) (Nat.le_refl _) (show nI 0 = why g k o from (by rw [(why_2 ⟨oI_n5 c22, oI_n5 c29, by omega⟩), if_neg (of_decide_eq_false c46), if_pos (by omega)]))
        · refine lv_iconst (v := nI 2) hx hb dX3_whyAbove_49 (by decide) ?_
          exact kb_iret (D := D) hQ hx hb hr hlocks hK hP hD hS dX3_whyAbove_50 () rfl (Nat.le_refl _) (Nat.le_refl _) (show nI 2 = why g k o from (by rw [(why_2 ⟨oI_n5 c22, oI_n5 c29, by omega⟩), if_pos (of_decide_eq_true c46)]))
      · refine lv_iconst (v := nI 1) hx hb dX3_whyAbove_38 (by decide) ?_
        exact kb_iret (D := D) hQ hx hb hr hlocks hK hP hD hS dX3_whyAbove_39 () rfl (Nat.le_refl _) (Nat.le_refl _) (show nI 1 = why g k o from (by first | exact (why_1 (fun q => oI_y5 (by omega) c22 q.1)).symm | exact (why_1 (fun q => oI_y5 (by omega) c29 q.2.1)).symm | exact (why_1 (fun q => q.2.2 (by omega))).symm))
abbrev rmX3_sittingAbove : Room := { frames := 2, cells := 0, slots := 0, locals := 44 }
theorem hdX3_sittingAbove : yX3_sittingAbove.cls = RX3 ∧ yX3_sittingAbove.cls ≠ "java/lang/invoke/MethodHandle" ∧ yX3_sittingAbove.cls ≠ "java/lang/invoke/VarHandle" ∧ (parseMethodDescriptor yX3_sittingAbove.desc).map (fun d => d.parameters.length) = some 1 := by decide +kernel
theorem inwX3_sittingAbove_X3 : ∀ w ∈ wsX30, w ∈ wsX3_sittingAbove := fun w h => List.mem_cons_of_mem _ (List.mem_append_right _ h)
set_option maxHeartbeats 4000000 in
set_option maxRecDepth 100000 in
theorem c_X3_sittingAbove (l : Launch) (D : va_G) (cI : ClassId) (a : Nat → Nat) (f : Nat → Nat → Int32) (g : Sg) (x : Nat) (hx1 : x < 2 ^ 30) (hrs : rS f g) (ho : Ok g) : kb_R D [(cI, .int)] l yX3_sittingAbove wsX3_sittingAbove rmX3_sittingAbove [.ref (a 0), .int (nI x)] [((a 0), .inr (3, [.ref (a 1), .ref (a 2), .ref (a 3), .ref (a 4), .ref (a 6), .int (nI (nK g)), .int (gc g 4), .int (gc g 7), .int (gc g 10)])), ((a 1), .inl (cI, 216, .inl (f 0))), ((a 2), .inl (cI, 24, .inl (f 1))), ((a 3), .inl (cI, 4, .inl (f 2))), ((a 4), .inr (2, [.ref (a 5), .int (nI (nT g))])), ((a 5), .inl (cI, 12, .inl (f 3))), ((a 6), .inr (2, [.ref (a 7), .int (nI (nW g))])), ((a 7), .inl (cI, 24, .inl (f 4)))] (nI (cnt (saP g x) (nK g))) := by
  refine kb_I_of (cc := cX3_sittingAbove) (maxL := 4) (ret := (some .int)) (by decide) rfl (Nat.le_of_ble_eq_true rfl) ?_
  intro p e s mm args below meth c A hx hb hml hr hts hown hlocks hnm hA hN hK hP hD hS ls hl Q hQ
  have hl : lv_has ls 4 [(0, .ref (a 0)), (1, .int (nI x))] := hl
  have hP : va_P D vwCl [((a 0), .inr (3, [.ref (a 1), .ref (a 2), .ref (a 3), .ref (a 4), .ref (a 6), .int (nI (nK g)), .int (gc g 4), .int (gc g 7), .int (gc g 10)])), ((a 1), .inl (cI, 216, .inl (f 0))), ((a 2), .inl (cI, 24, .inl (f 1))), ((a 3), .inl (cI, 4, .inl (f 2))), ((a 4), .inr (2, [.ref (a 5), .int (nI (nT g))])), ((a 5), .inl (cI, 12, .inl (f 3))), ((a 6), .inr (2, [.ref (a 7), .int (nI (nW g))])), ((a 7), .inl (cI, 24, .inl (f 4)))] s.heap := hP
  have hD : va_D A [((a 0), .inr (3, [.ref (a 1), .ref (a 2), .ref (a 3), .ref (a 4), .ref (a 6), .int (nI (nK g)), .int (gc g 4), .int (gc g 7), .int (gc g 10)])), ((a 1), .inl (cI, 216, .inl (f 0))), ((a 2), .inl (cI, 24, .inl (f 1))), ((a 3), .inl (cI, 4, .inl (f 2))), ((a 4), .inr (2, [.ref (a 5), .int (nI (nT g))])), ((a 5), .inl (cI, 12, .inl (f 3))), ((a 6), .inr (2, [.ref (a 7), .int (nI (nW g))])), ((a 7), .inl (cI, 24, .inl (f 4)))] := hD
  have fl33 := hts (.fieldLink RX3 33 "KingsBanquet$State" "kings" "I") (by decide +kernel)
  have fl15 := hts (.fieldLink RX3 15 "KingsBanquet$State" "worths" "[I") (by decide +kernel)
  obtain ⟨hF, hW, hC, hT, hM⟩ := id hrs
  have hn := ho.n
  refine lv_iconst (v := nI 0) hx hb dX3_sittingAbove_0 (by decide) ?_
  refine lv_istore_n (lv' := [(2, .int (nI 0)), (0, .ref (a 0)), (1, .int (nI x))]) hx hb dX3_sittingAbove_1 rfl hl (by decide) rfl (fun ls hl => ?_)
  refine lv_iconst (v := nI 0) hx hb dX3_sittingAbove_2 (by decide) ?_
  refine lv_istore_n (lv' := [(3, .int (nI 0)), (2, .int (nI 0)), (0, .ref (a 0)), (1, .int (nI x))]) hx hb dX3_sittingAbove_3 rfl hl (by decide) rfl (fun ls hl => ?_)
  have L_4 : ∀ (z : Nat) (i : Nat) (n : Nat), (i ≤ nK g) → (n = cnt (saP g x) i) → (nK g - i) < z → ∀ (H : Heap) (locs : List Loc), va_P D vwCl [((a 0), .inr (3, [.ref (a 1), .ref (a 2), .ref (a 3), .ref (a 4), .ref (a 6), .int (nI (nK g)), .int (gc g 4), .int (gc g 7), .int (gc g 10)])), ((a 1), .inl (cI, 216, .inl (f 0))), ((a 2), .inl (cI, 24, .inl (f 1))), ((a 3), .inl (cI, 4, .inl (f 2))), ((a 4), .inr (2, [.ref (a 5), .int (nI (nT g))])), ((a 5), .inl (cI, 12, .inl (f 3))), ((a 6), .inr (2, [.ref (a 7), .int (nI (nW g))])), ((a 7), .inl (cI, 24, .inl (f 4)))] H → va_D A [((a 0), .inr (3, [.ref (a 1), .ref (a 2), .ref (a 3), .ref (a 4), .ref (a 6), .int (nI (nK g)), .int (gc g 4), .int (gc g 7), .int (gc g 10)])), ((a 1), .inl (cI, 216, .inl (f 0))), ((a 2), .inl (cI, 24, .inl (f 1))), ((a 3), .inl (cI, 4, .inl (f 2))), ((a 4), .inr (2, [.ref (a 5), .int (nI (nT g))])), ((a 5), .inl (cI, 12, .inl (f 3))), ((a 6), .inr (2, [.ref (a 7), .int (nI (nW g))])), ((a 7), .inl (cI, 24, .inl (f 4)))] → va_S A s.heap H locs → ∀ ls : Array Slot, lv_has ls 4 [(3, .int (nI i)), (2, .int (nI n)), (0, .ref (a 0)), (1, .int (nI x))] → W p l e rmX3_sittingAbove s mm args below meth c H locs 0 0 Q (F0 mm 4 ls []) := by
    intro z
    induction z with
    | zero =>
      intro i n _ _ hz
      exact absurd hz (Nat.not_lt_zero _)
    | succ z ih_4 =>
      intro i n hi hn1 hz H locs hP hD hS ls hl
      refine lv_iload_n hx hb dX3_sittingAbove_4 rfl (lv_at hl 0 rfl) ?_
      refine lv_aload_n hx hb dX3_sittingAbove_5 rfl (lv_at hl 2 rfl) ?_
      refine va_get (D := D) (ci := 3) (v := .int (nI (nK g))) (C := RX3) (T := TX3) (N := 9) hx hb hts inwX3_sittingAbove_X3 hown hK hP 0 rfl rfl 5 (by decide) fl33 (fun _ h9 => h9) rfl dX3_sittingAbove_6 ?_
      refine kb_icmp_ge (tgt := 50) hx hb dX3_sittingAbove_9 (by decide) (by omega) (by omega) (fun c9 => ?_) (fun c9 => ?_)
      · refine lv_iload_n hx hb dX3_sittingAbove_50 rfl (lv_at hl 1 rfl) ?_
        exact kb_iret (D := D) hQ hx hb hr hlocks hK hP hD hS dX3_sittingAbove_51 () rfl (Nat.le_refl _) (Nat.le_refl _) (show nI n = nI (cnt (saP g x) (nK g)) from (by rw [hn1, show i = nK g by omega]))
      · refine lv_iload_n hx hb dX3_sittingAbove_12 rfl (lv_at hl 0 rfl) ?_
        refine lv_aload_n hx hb dX3_sittingAbove_13 rfl (lv_at hl 2 rfl) ?_
        refine va_get (D := D) (ci := 3) (v := .ref (a 2)) (C := RX3) (T := TX3) (N := 9) hx hb hts inwX3_sittingAbove_X3 hown hK hP 0 rfl rfl 1 (by decide) fl15 (fun _ h9 => h9) rfl dX3_sittingAbove_14 ?_
        refine va_alen hx hb hK hP 2 0 rfl (ty := .int) rfl (v := nI 24) rfl dX3_sittingAbove_17 ?_
        refine kb_icmp_ge (tgt := 50) hx hb dX3_sittingAbove_18 (by decide) (by omega) (by omega) (fun c18 => ?_) (fun c18 => ?_)
        · exfalso; omega
        · refine lv_aload_n hx hb dX3_sittingAbove_21 rfl (lv_at hl 2 rfl) ?_
          refine va_get (D := D) (ci := 3) (v := .ref (a 2)) (C := RX3) (T := TX3) (N := 9) hx hb hts inwX3_sittingAbove_X3 hown hK hP 0 rfl rfl 1 (by decide) fl15 (fun _ h9 => h9) rfl dX3_sittingAbove_22 ?_
          refine lv_iload_n hx hb dX3_sittingAbove_25 rfl (lv_at hl 0 rfl) ?_
          refine kb_iald hx hb hK hP 2 0 rfl rfl (by decide) (by omega) dX3_sittingAbove_26 ?_
          refine kb_top (nI (key g i)) (hW i (by omega)) ?_
          refine lv_iload_n hx hb dX3_sittingAbove_27 rfl (lv_at hl 3 rfl) ?_
          refine kb_icmp_le (tgt := 44) hx hb dX3_sittingAbove_28 (by decide) (by have := key_lt ho (k := i) (by omega); omega) (by have := key_lt ho (k := i) (by omega); omega) (fun c28 => ?_) (fun c28 => ?_)
          · refine lv_iinc (v := nI (i + 1)) (lv' := [(3, .int (nI (i + 1))), (2, .int (nI n)), (0, .ref (a 0)), (1, .int (nI x))]) hx hb dX3_sittingAbove_44 hl (k := 0) rfl (kb_inc1 i) (by decide) rfl (fun ls hl => ?_)
            refine lv_goto (tgt := 4) hx hb dX3_sittingAbove_47 (by decide) ?_
            exact ih_4 (i + 1) n (by omega) (by rw [cnt_s, hn1]; unfold saP; first | rw [decide_eq_false (by omega : ¬ x < key g i)]; rfl | rw [decide_eq_false c38, Bool.and_false]; rfl | rw [decide_eq_true (by omega : x < key g i), decide_eq_true c38]; rfl) (by omega) _ _ hP hD hS _ (lv_sub hl [0, 1, 2, 3] rfl)
          · refine lv_aload_n hx hb dX3_sittingAbove_31 rfl (lv_at hl 2 rfl) ?_
            refine lv_iload_n hx hb dX3_sittingAbove_32 rfl (lv_at hl 0 rfl) ?_
            refine lv_iconst (v := nI 3) hx hb dX3_sittingAbove_33 (by decide) ?_
            refine kb_vR (As := [.int (nI i), .int (nI 3)]) (rest := []) hx hb hml hts hown hN hK hP hD hS hA (c_X3_fact l D cI a (nK g) (gc g 4) (gc g 7) (gc g 10) (f 0) i 3 (by omega) (by omega) hn.1) gX3_sittingAbove_X3_fact rfl ⟨rfl, rfl⟩ hdX3_fact ⟨Nat.le_of_ble_eq_true rfl, Nat.le_of_ble_eq_true rfl⟩ [0, 1] [0] rfl rfl rfl (ci := 3) rfl rfl rfl rfl rfl hl.1 (Nat.le_of_ble_eq_true rfl) dX3_sittingAbove_34 ⟨Nat.zero_le _, Nat.zero_le _⟩ (fun H locs hP hS => ?_)
            refine kb_top (nI (gD g i)) (hF i (by omega)).2.2.2.1 ?_
            refine lv_iconst (v := nI 2) hx hb dX3_sittingAbove_37 (by decide) ?_
            refine kb_icmp_ne (tgt := 44) hx hb dX3_sittingAbove_38 (by decide) (by have := ho.k i (by omega); omega) (by have := ho.k i (by omega); omega) (fun c38 => ?_) (fun c38 => ?_)
            · refine lv_iinc (v := nI (i + 1)) (lv' := [(3, .int (nI (i + 1))), (2, .int (nI n)), (0, .ref (a 0)), (1, .int (nI x))]) hx hb dX3_sittingAbove_44 hl (k := 0) rfl (kb_inc1 i) (by decide) rfl (fun ls hl => ?_)
              refine lv_goto (tgt := 4) hx hb dX3_sittingAbove_47 (by decide) ?_
              exact ih_4 (i + 1) n (by omega) (by rw [cnt_s, hn1]; unfold saP; first | rw [decide_eq_false (by omega : ¬ x < key g i)]; rfl | rw [decide_eq_false c38, Bool.and_false]; rfl | rw [decide_eq_true (by omega : x < key g i), decide_eq_true c38]; rfl) (by omega) _ _ hP hD hS _ (lv_sub hl [0, 1, 2, 3] rfl)
            · refine lv_iinc (v := nI (n + 1)) (lv' := [(2, .int (nI (n + 1))), (3, .int (nI i)), (0, .ref (a 0)), (1, .int (nI x))]) hx hb dX3_sittingAbove_41 hl (k := 1) rfl (kb_inc1 n) (by decide) rfl (fun ls hl => ?_)
              refine lv_iinc (v := nI (i + 1)) (lv' := [(3, .int (nI (i + 1))), (2, .int (nI (n + 1))), (0, .ref (a 0)), (1, .int (nI x))]) hx hb dX3_sittingAbove_44 hl (k := 1) rfl (kb_inc1 i) (by decide) rfl (fun ls hl => ?_)
              refine lv_goto (tgt := 4) hx hb dX3_sittingAbove_47 (by decide) ?_
              exact ih_4 (i + 1) (n + 1) (by omega) (by rw [cnt_s, hn1]; unfold saP; first | rw [decide_eq_false (by omega : ¬ x < key g i)]; rfl | rw [decide_eq_false c38, Bool.and_false]; rfl | rw [decide_eq_true (by omega : x < key g i), decide_eq_true c38]; rfl) (by omega) _ _ hP hD hS _ (lv_sub hl [0, 1, 2, 3] rfl)
  exact L_4 ((nK g - 0) + 1) 0 0 (by omega) rfl (Nat.lt_succ_self _) _ _ hP hD hS _ (lv_sub hl [0, 1, 2, 3] rfl)
abbrev rmX3_wrongPairsOfTable : Room := { frames := 1, cells := 0, slots := 0, locals := 22 }
theorem hdX3_wrongPairsOfTable : yX3_wrongPairsOfTable.cls = RX3 ∧ yX3_wrongPairsOfTable.cls ≠ "java/lang/invoke/MethodHandle" ∧ yX3_wrongPairsOfTable.cls ≠ "java/lang/invoke/VarHandle" ∧ (parseMethodDescriptor yX3_wrongPairsOfTable.desc).map (fun d => d.parameters.length) = some 0 := by decide +kernel
theorem inwX3_wrongPairsOfTable_X3 : ∀ w ∈ wsX30, w ∈ wsX3_wrongPairsOfTable := fun w h => List.mem_cons_of_mem _ (List.mem_append_left _ (List.mem_append_right _ h))
theorem inwX3_wrongPairsOfTable_X2 : ∀ w ∈ wsX20, w ∈ wsX3_wrongPairsOfTable := fun w h => List.mem_cons_of_mem _ (List.mem_append_right _ h)
set_option maxHeartbeats 4000000 in
set_option maxRecDepth 100000 in
theorem c_X3_wrongPairsOfTable (l : Launch) (D : va_G) (cI : ClassId) (a : Nat → Nat) (f : Nat → Nat → Int32) (g : Sg) (hrs : rS f g) (ho : Ok g) : kb_R D [(cI, .int)] l yX3_wrongPairsOfTable wsX3_wrongPairsOfTable rmX3_wrongPairsOfTable [.ref (a 0)] [((a 0), .inr (3, [.ref (a 1), .ref (a 2), .ref (a 3), .ref (a 4), .ref (a 6), .int (nI (nK g)), .int (gc g 4), .int (gc g 7), .int (gc g 10)])), ((a 1), .inl (cI, 216, .inl (f 0))), ((a 2), .inl (cI, 24, .inl (f 1))), ((a 3), .inl (cI, 4, .inl (f 2))), ((a 4), .inr (2, [.ref (a 5), .int (nI (nT g))])), ((a 5), .inl (cI, 12, .inl (f 3))), ((a 6), .inr (2, [.ref (a 7), .int (nI (nW g))])), ((a 7), .inl (cI, 24, .inl (f 4)))] (nI (wp g)) := by
  refine kb_I_of (cc := cX3_wrongPairsOfTable) (maxL := 4) (ret := (some .int)) (by decide) rfl (Nat.le_of_ble_eq_true rfl) ?_
  intro p e s mm args below meth c A hx hb hml hr hts hown hlocks hnm hA hN hK hP hD hS ls hl Q hQ
  have hl : lv_has ls 4 [(0, .ref (a 0))] := hl
  have hP : va_P D vwCl [((a 0), .inr (3, [.ref (a 1), .ref (a 2), .ref (a 3), .ref (a 4), .ref (a 6), .int (nI (nK g)), .int (gc g 4), .int (gc g 7), .int (gc g 10)])), ((a 1), .inl (cI, 216, .inl (f 0))), ((a 2), .inl (cI, 24, .inl (f 1))), ((a 3), .inl (cI, 4, .inl (f 2))), ((a 4), .inr (2, [.ref (a 5), .int (nI (nT g))])), ((a 5), .inl (cI, 12, .inl (f 3))), ((a 6), .inr (2, [.ref (a 7), .int (nI (nW g))])), ((a 7), .inl (cI, 24, .inl (f 4)))] s.heap := hP
  have hD : va_D A [((a 0), .inr (3, [.ref (a 1), .ref (a 2), .ref (a 3), .ref (a 4), .ref (a 6), .int (nI (nK g)), .int (gc g 4), .int (gc g 7), .int (gc g 10)])), ((a 1), .inl (cI, 216, .inl (f 0))), ((a 2), .inl (cI, 24, .inl (f 1))), ((a 3), .inl (cI, 4, .inl (f 2))), ((a 4), .inr (2, [.ref (a 5), .int (nI (nT g))])), ((a 5), .inl (cI, 12, .inl (f 3))), ((a 6), .inr (2, [.ref (a 7), .int (nI (nW g))])), ((a 7), .inl (cI, 24, .inl (f 4)))] := hD
  have fl26 := hts (.fieldLink RX3 26 "KingsBanquet$State" "table" "LKingsBanquet$Row;") (by decide +kernel)
  obtain ⟨hF, hW, hC, hT, hM⟩ := id hrs
  have hn := ho.n
  refine lv_iconst (v := nI 0) hx hb dX3_wrongPairsOfTable_0 (by decide) ?_
  refine lv_istore_n (lv' := [(1, .int (nI 0)), (0, .ref (a 0))]) hx hb dX3_wrongPairsOfTable_1 rfl hl (by decide) rfl (fun ls hl => ?_)
  refine lv_iconst (v := nI 1) hx hb dX3_wrongPairsOfTable_2 (by decide) ?_
  refine lv_istore_n (lv' := [(2, .int (nI 1)), (1, .int (nI 0)), (0, .ref (a 0))]) hx hb dX3_wrongPairsOfTable_3 rfl hl (by decide) rfl (fun ls hl => ?_)
  have L_4 : ∀ (z : Nat) (y : Nat) (n : Nat), (1 ≤ y ∧ (y ≤ nT g ∨ y = 1)) → (n = ip (fun j => key g (gT g j)) y) → (n ≤ y * 24) → (nT g + 1 - y) < z → ∀ (H : Heap) (locs : List Loc), va_P D vwCl [((a 0), .inr (3, [.ref (a 1), .ref (a 2), .ref (a 3), .ref (a 4), .ref (a 6), .int (nI (nK g)), .int (gc g 4), .int (gc g 7), .int (gc g 10)])), ((a 1), .inl (cI, 216, .inl (f 0))), ((a 2), .inl (cI, 24, .inl (f 1))), ((a 3), .inl (cI, 4, .inl (f 2))), ((a 4), .inr (2, [.ref (a 5), .int (nI (nT g))])), ((a 5), .inl (cI, 12, .inl (f 3))), ((a 6), .inr (2, [.ref (a 7), .int (nI (nW g))])), ((a 7), .inl (cI, 24, .inl (f 4)))] H → va_D A [((a 0), .inr (3, [.ref (a 1), .ref (a 2), .ref (a 3), .ref (a 4), .ref (a 6), .int (nI (nK g)), .int (gc g 4), .int (gc g 7), .int (gc g 10)])), ((a 1), .inl (cI, 216, .inl (f 0))), ((a 2), .inl (cI, 24, .inl (f 1))), ((a 3), .inl (cI, 4, .inl (f 2))), ((a 4), .inr (2, [.ref (a 5), .int (nI (nT g))])), ((a 5), .inl (cI, 12, .inl (f 3))), ((a 6), .inr (2, [.ref (a 7), .int (nI (nW g))])), ((a 7), .inl (cI, 24, .inl (f 4)))] → va_S A s.heap H locs → ∀ ls : Array Slot, lv_has ls 4 [(2, .int (nI y)), (1, .int (nI n)), (0, .ref (a 0))] → W p l e rmX3_wrongPairsOfTable s mm args below meth c H locs 0 0 Q (F0 mm 4 ls []) := by
    intro z
    induction z with
    | zero =>
      intro y n _ _ _ hz
      exact absurd hz (Nat.not_lt_zero _)
    | succ z ih_4 =>
      intro y n hy hn1 hb1 hz H locs hP hD hS ls hl
      refine lv_iload_n hx hb dX3_wrongPairsOfTable_4 rfl (lv_at hl 0 rfl) ?_
      refine lv_aload_n hx hb dX3_wrongPairsOfTable_5 rfl (lv_at hl 2 rfl) ?_
      refine va_get (D := D) (ci := 3) (v := .ref (a 4)) (C := RX3) (T := TX3) (N := 9) hx hb hts inwX3_wrongPairsOfTable_X3 hown hK hP 0 rfl rfl 3 (by decide) fl26 (fun _ h9 => h9) rfl dX3_wrongPairsOfTable_6 ?_
      refine kb_vR (As := []) (rest := [.int (nI y)]) hx hb hml hts hown hN hK hP hD hS hA (c_X2_size l D cI (fun i => a (4 + i)) 12 (f 3) (nT g)) gX3_wrongPairsOfTable_X2_size rfl ⟨rfl, rfl⟩ hdX2_size ⟨Nat.le_of_ble_eq_true rfl, Nat.le_of_ble_eq_true rfl⟩ [4, 5] [0] rfl rfl rfl (ci := 2) rfl rfl rfl rfl rfl hl.1 (Nat.le_of_ble_eq_true rfl) dX3_wrongPairsOfTable_9 ⟨Nat.zero_le _, Nat.zero_le _⟩ (fun H locs hP hS => ?_)
      refine kb_icmp_ge (tgt := 60) hx hb dX3_wrongPairsOfTable_12 (by decide) (by omega) (by omega) (fun c12 => ?_) (fun c12 => ?_)
      · refine lv_iload_n hx hb dX3_wrongPairsOfTable_60 rfl (lv_at hl 1 rfl) ?_
        exact kb_iret (D := D) hQ hx hb hr hlocks hK hP hD hS dX3_wrongPairsOfTable_61 () rfl (Nat.le_refl _) (Nat.le_refl _) (show nI n = nI (wp g) from (wp_end hn1 c12 hy))
      · refine lv_iconst (v := nI 0) hx hb dX3_wrongPairsOfTable_15 (by decide) ?_
        refine lv_istore_n (lv' := [(3, .int (nI 0)), (2, .int (nI y)), (1, .int (nI n)), (0, .ref (a 0))]) hx hb dX3_wrongPairsOfTable_16 rfl hl (by decide) rfl (fun ls hl => ?_)
        have L_17 : ∀ (z : Nat) (t : Nat) (n : Nat), (t ≤ y) → (n = ip (fun j => key g (gT g j)) y + cnt (fun q => decide (key g (gT g q) < key g (gT g y))) t) → (n ≤ y * 24 + t) → (y - t) < z → ∀ (H : Heap) (locs : List Loc), va_P D vwCl [((a 0), .inr (3, [.ref (a 1), .ref (a 2), .ref (a 3), .ref (a 4), .ref (a 6), .int (nI (nK g)), .int (gc g 4), .int (gc g 7), .int (gc g 10)])), ((a 1), .inl (cI, 216, .inl (f 0))), ((a 2), .inl (cI, 24, .inl (f 1))), ((a 3), .inl (cI, 4, .inl (f 2))), ((a 4), .inr (2, [.ref (a 5), .int (nI (nT g))])), ((a 5), .inl (cI, 12, .inl (f 3))), ((a 6), .inr (2, [.ref (a 7), .int (nI (nW g))])), ((a 7), .inl (cI, 24, .inl (f 4)))] H → va_D A [((a 0), .inr (3, [.ref (a 1), .ref (a 2), .ref (a 3), .ref (a 4), .ref (a 6), .int (nI (nK g)), .int (gc g 4), .int (gc g 7), .int (gc g 10)])), ((a 1), .inl (cI, 216, .inl (f 0))), ((a 2), .inl (cI, 24, .inl (f 1))), ((a 3), .inl (cI, 4, .inl (f 2))), ((a 4), .inr (2, [.ref (a 5), .int (nI (nT g))])), ((a 5), .inl (cI, 12, .inl (f 3))), ((a 6), .inr (2, [.ref (a 7), .int (nI (nW g))])), ((a 7), .inl (cI, 24, .inl (f 4)))] → va_S A s.heap H locs → ∀ ls : Array Slot, lv_has ls 4 [(3, .int (nI t)), (2, .int (nI y)), (1, .int (nI n)), (0, .ref (a 0))] → W p l e rmX3_wrongPairsOfTable s mm args below meth c H locs 0 0 Q (F0 mm 17 ls []) := by
          intro z
          induction z with
          | zero =>
            intro t n _ _ _ hz
            exact absurd hz (Nat.not_lt_zero _)
          | succ z ih_17 =>
            intro t n ht hn2 hb2 hz H locs hP hD hS ls hl
            refine lv_iload_n hx hb dX3_wrongPairsOfTable_17 rfl (lv_at hl 0 rfl) ?_
            refine lv_iload_n hx hb dX3_wrongPairsOfTable_18 rfl (lv_at hl 1 rfl) ?_
            refine kb_icmp_ge (tgt := 54) hx hb dX3_wrongPairsOfTable_19 (by decide) (by omega) (by omega) (fun c19 => ?_) (fun c19 => ?_)
            · refine lv_iinc (v := nI (y + 1)) (lv' := [(2, .int (nI (y + 1))), (3, .int (nI t)), (1, .int (nI n)), (0, .ref (a 0))]) hx hb dX3_wrongPairsOfTable_54 hl (k := 1) rfl (kb_inc1 y) (by decide) rfl (fun ls hl => ?_)
              refine lv_goto (tgt := 4) hx hb dX3_wrongPairsOfTable_57 (by decide) ?_
              exact ih_4 (y + 1) n (by omega) (by rw [hn2, show t = y by omega]; rfl) (by omega) (by omega) _ _ hP hD hS _ (lv_sub hl [0, 2, 3] rfl)
            · refine lv_aload_n hx hb dX3_wrongPairsOfTable_22 rfl (lv_at hl 3 rfl) ?_
              refine lv_aload_n hx hb dX3_wrongPairsOfTable_23 rfl (lv_at hl 3 rfl) ?_
              refine va_get (D := D) (ci := 3) (v := .ref (a 4)) (C := RX3) (T := TX3) (N := 9) hx hb hts inwX3_wrongPairsOfTable_X3 hown hK hP 0 rfl rfl 3 (by decide) fl26 (fun _ h9 => h9) rfl dX3_wrongPairsOfTable_24 ?_
              refine lv_iload_n hx hb dX3_wrongPairsOfTable_27 rfl (lv_at hl 1 rfl) ?_
              refine kb_vR (As := [.int (nI y)]) (rest := [.ref (a 0)]) hx hb hml hts hown hN hK hP hD hS hA (c_X2_at l D cI (fun i => a (4 + i)) 12 (f 3) (nT g) (nI y) hn.2.1 (by decide)) gX3_wrongPairsOfTable_X2_at rfl ⟨rfl, rfl⟩ hdX2_at ⟨Nat.le_of_ble_eq_true rfl, Nat.le_of_ble_eq_true rfl⟩ [4, 5] [0] rfl rfl rfl (ci := 2) rfl rfl rfl rfl rfl hl.1 (Nat.le_of_ble_eq_true rfl) dX3_wrongPairsOfTable_28 ⟨Nat.zero_le _, Nat.zero_le _⟩ (fun H locs hP hS => ?_)
              refine kb_top (nI (gT g y)) ((rAt_in (by omega) (by omega)).trans (hT _ (by omega))) ?_
              refine lv_aload_n hx hb dX3_wrongPairsOfTable_31 rfl (lv_at hl 3 rfl) ?_
              refine va_get (D := D) (ci := 3) (v := .ref (a 4)) (C := RX3) (T := TX3) (N := 9) hx hb hts inwX3_wrongPairsOfTable_X3 hown hK hP 0 rfl rfl 3 (by decide) fl26 (fun _ h9 => h9) rfl dX3_wrongPairsOfTable_32 ?_
              refine lv_iload_n hx hb dX3_wrongPairsOfTable_35 rfl (lv_at hl 0 rfl) ?_
              refine kb_vR (As := [.int (nI t)]) (rest := [.int (nI (gT g y)), .ref (a 0)]) hx hb hml hts hown hN hK hP hD hS hA (c_X2_at l D cI (fun i => a (4 + i)) 12 (f 3) (nT g) (nI t) hn.2.1 (by decide)) gX3_wrongPairsOfTable_X2_at rfl ⟨rfl, rfl⟩ hdX2_at ⟨Nat.le_of_ble_eq_true rfl, Nat.le_of_ble_eq_true rfl⟩ [4, 5] [0] rfl rfl rfl (ci := 2) rfl rfl rfl rfl rfl hl.1 (Nat.le_of_ble_eq_true rfl) dX3_wrongPairsOfTable_36 ⟨Nat.zero_le _, Nat.zero_le _⟩ (fun H locs hP hS => ?_)
              refine kb_top (nI (gT g t)) ((rAt_in (by omega) (by omega)).trans (hT _ (by omega))) ?_
              refine kb_vR (As := [.int (nI (gT g y)), .int (nI (gT g t))]) (rest := []) hx hb hml hts hown hN hK hP hD hS hA (c_X3_isGreater l D cI a (nK g) (gc g 4) (gc g 7) (gc g 10) (f 1) (gT g y) (gT g t) (key g (gT g y)) (key g (gT g t)) (ok_t ho (by omega)) (ok_t ho (by omega)) (hW _ (ho.t _ (by omega)).1) (hW _ (ho.t _ (by omega)).1) (key_lt ho (ho.t _ (by omega)).1) (key_lt ho (ho.t _ (by omega)).1)) gX3_wrongPairsOfTable_X3_isGreater rfl ⟨rfl, rfl⟩ hdX3_isGreater ⟨Nat.le_of_ble_eq_true rfl, Nat.le_of_ble_eq_true rfl⟩ [0, 2] [0] rfl rfl rfl (ci := 3) rfl rfl rfl rfl rfl hl.1 (Nat.le_of_ble_eq_true rfl) dX3_wrongPairsOfTable_39 ⟨Nat.zero_le _, Nat.zero_le _⟩ (fun H locs hP hS => ?_)
              refine kb_bif_eq (tgt := 48) hx hb dX3_wrongPairsOfTable_42 (by decide) (fun c42 => ?_) (fun c42 => ?_)
              · refine lv_iinc (v := nI (t + 1)) (lv' := [(3, .int (nI (t + 1))), (2, .int (nI y)), (1, .int (nI n)), (0, .ref (a 0))]) hx hb dX3_wrongPairsOfTable_48 hl (k := 0) rfl (kb_inc1 t) (by decide) rfl (fun ls hl => ?_)
                refine lv_goto (tgt := 17) hx hb dX3_wrongPairsOfTable_51 (by decide) ?_
                exact ih_17 (t + 1) n (by omega) (by rw [cnt_s, ← Nat.add_assoc, ← hn2, c42]; rfl) (by omega) (by omega) _ _ hP hD hS _ (lv_sub hl [0, 1, 2, 3] rfl)
              · refine lv_iinc (v := nI (n + 1)) (lv' := [(1, .int (nI (n + 1))), (3, .int (nI t)), (2, .int (nI y)), (0, .ref (a 0))]) hx hb dX3_wrongPairsOfTable_45 hl (k := 2) rfl (kb_inc1 n) (by decide) rfl (fun ls hl => ?_)
                refine lv_iinc (v := nI (t + 1)) (lv' := [(3, .int (nI (t + 1))), (1, .int (nI (n + 1))), (2, .int (nI y)), (0, .ref (a 0))]) hx hb dX3_wrongPairsOfTable_48 hl (k := 1) rfl (kb_inc1 t) (by decide) rfl (fun ls hl => ?_)
                refine lv_goto (tgt := 17) hx hb dX3_wrongPairsOfTable_51 (by decide) ?_
                exact ih_17 (t + 1) (n + 1) (by omega) (by rw [cnt_s, ← Nat.add_assoc, ← hn2, c42]; rfl) (by omega) (by omega) _ _ hP hD hS _ (lv_sub hl [0, 2, 1, 3] rfl)
        exact L_17 ((y - 0) + 1) 0 n (by omega) hn1 (by omega) (Nat.lt_succ_self _) _ _ hP hD hS _ (lv_sub hl [0, 1, 2, 3] rfl)
  exact L_4 ((nT g + 1 - 1) + 1) 1 0 (by omega) rfl (by omega) (Nat.lt_succ_self _) _ _ hP hD hS _ (lv_sub hl [0, 1, 2] rfl)
abbrev rmX3_mostSlightedSitter : Room := { frames := 2, cells := 0, slots := 0, locals := 44 }
theorem hdX3_mostSlightedSitter : yX3_mostSlightedSitter.cls = RX3 ∧ yX3_mostSlightedSitter.cls ≠ "java/lang/invoke/MethodHandle" ∧ yX3_mostSlightedSitter.cls ≠ "java/lang/invoke/VarHandle" ∧ (parseMethodDescriptor yX3_mostSlightedSitter.desc).map (fun d => d.parameters.length) = some 0 := by decide +kernel
theorem inwX3_mostSlightedSitter_X3 : ∀ w ∈ wsX30, w ∈ wsX3_mostSlightedSitter := fun w h => List.mem_cons_of_mem _ (List.mem_append_left _ (List.mem_append_right _ h))
theorem inwX3_mostSlightedSitter_X2 : ∀ w ∈ wsX20, w ∈ wsX3_mostSlightedSitter := fun w h => List.mem_cons_of_mem _ (List.mem_append_right _ h)
set_option maxHeartbeats 4000000 in
set_option maxRecDepth 100000 in
theorem c_X3_mostSlightedSitter (l : Launch) (D : va_G) (cI : ClassId) (a : Nat → Nat) (f : Nat → Nat → Int32) (g : Sg) (hrs : rS f g) (ho : Ok g) : kb_R D [(cI, .int)] l yX3_mostSlightedSitter wsX3_mostSlightedSitter rmX3_mostSlightedSitter [.ref (a 0)] [((a 0), .inr (3, [.ref (a 1), .ref (a 2), .ref (a 3), .ref (a 4), .ref (a 6), .int (nI (nK g)), .int (gc g 4), .int (gc g 7), .int (gc g 10)])), ((a 1), .inl (cI, 216, .inl (f 0))), ((a 2), .inl (cI, 24, .inl (f 1))), ((a 3), .inl (cI, 4, .inl (f 2))), ((a 4), .inr (2, [.ref (a 5), .int (nI (nT g))])), ((a 5), .inl (cI, 12, .inl (f 3))), ((a 6), .inr (2, [.ref (a 7), .int (nI (nW g))])), ((a 7), .inl (cI, 24, .inl (f 4)))] ((msI g (nT g)).2) := by
  refine kb_I_of (cc := cX3_mostSlightedSitter) (maxL := 5) (ret := (some .int)) (by decide) rfl (Nat.le_of_ble_eq_true rfl) ?_
  intro p e s mm args below meth c A hx hb hml hr hts hown hlocks hnm hA hN hK hP hD hS ls hl Q hQ
  have hl : lv_has ls 5 [(0, .ref (a 0))] := hl
  have hP : va_P D vwCl [((a 0), .inr (3, [.ref (a 1), .ref (a 2), .ref (a 3), .ref (a 4), .ref (a 6), .int (nI (nK g)), .int (gc g 4), .int (gc g 7), .int (gc g 10)])), ((a 1), .inl (cI, 216, .inl (f 0))), ((a 2), .inl (cI, 24, .inl (f 1))), ((a 3), .inl (cI, 4, .inl (f 2))), ((a 4), .inr (2, [.ref (a 5), .int (nI (nT g))])), ((a 5), .inl (cI, 12, .inl (f 3))), ((a 6), .inr (2, [.ref (a 7), .int (nI (nW g))])), ((a 7), .inl (cI, 24, .inl (f 4)))] s.heap := hP
  have hD : va_D A [((a 0), .inr (3, [.ref (a 1), .ref (a 2), .ref (a 3), .ref (a 4), .ref (a 6), .int (nI (nK g)), .int (gc g 4), .int (gc g 7), .int (gc g 10)])), ((a 1), .inl (cI, 216, .inl (f 0))), ((a 2), .inl (cI, 24, .inl (f 1))), ((a 3), .inl (cI, 4, .inl (f 2))), ((a 4), .inr (2, [.ref (a 5), .int (nI (nT g))])), ((a 5), .inl (cI, 12, .inl (f 3))), ((a 6), .inr (2, [.ref (a 7), .int (nI (nW g))])), ((a 7), .inl (cI, 24, .inl (f 4)))] := hD
  have fl26 := hts (.fieldLink RX3 26 "KingsBanquet$State" "table" "LKingsBanquet$Row;") (by decide +kernel)
  obtain ⟨hF, hW, hC, hT, hM⟩ := id hrs
  have hn := ho.n
  refine lv_iconst (v := nI 0) hx hb dX3_mostSlightedSitter_0 (by decide) ?_
  refine lv_istore_n (lv' := [(1, .int (nI 0)), (0, .ref (a 0))]) hx hb dX3_mostSlightedSitter_1 rfl hl (by decide) rfl (fun ls hl => ?_)
  refine lv_bipush (v := (-5)) hx hb dX3_mostSlightedSitter_2 (by decide) ?_
  refine lv_istore_n (lv' := [(2, .int ((-5))), (1, .int (nI 0)), (0, .ref (a 0))]) hx hb dX3_mostSlightedSitter_4 rfl hl (by decide) rfl (fun ls hl => ?_)
  refine lv_iconst (v := nI 0) hx hb dX3_mostSlightedSitter_5 (by decide) ?_
  refine lv_istore_n (lv' := [(3, .int (nI 0)), (2, .int ((-5))), (1, .int (nI 0)), (0, .ref (a 0))]) hx hb dX3_mostSlightedSitter_6 rfl hl (by decide) rfl (fun ls hl => ?_)
  have L_7 : ∀ (z : Nat) (i : Nat) (mo : Int32) (fd : Int32), (i ≤ nT g) → (mo = (msI g i).1) → (fd = (msI g i).2) → (nT g - i) < z → ∀ (H : Heap) (locs : List Loc), va_P D vwCl [((a 0), .inr (3, [.ref (a 1), .ref (a 2), .ref (a 3), .ref (a 4), .ref (a 6), .int (nI (nK g)), .int (gc g 4), .int (gc g 7), .int (gc g 10)])), ((a 1), .inl (cI, 216, .inl (f 0))), ((a 2), .inl (cI, 24, .inl (f 1))), ((a 3), .inl (cI, 4, .inl (f 2))), ((a 4), .inr (2, [.ref (a 5), .int (nI (nT g))])), ((a 5), .inl (cI, 12, .inl (f 3))), ((a 6), .inr (2, [.ref (a 7), .int (nI (nW g))])), ((a 7), .inl (cI, 24, .inl (f 4)))] H → va_D A [((a 0), .inr (3, [.ref (a 1), .ref (a 2), .ref (a 3), .ref (a 4), .ref (a 6), .int (nI (nK g)), .int (gc g 4), .int (gc g 7), .int (gc g 10)])), ((a 1), .inl (cI, 216, .inl (f 0))), ((a 2), .inl (cI, 24, .inl (f 1))), ((a 3), .inl (cI, 4, .inl (f 2))), ((a 4), .inr (2, [.ref (a 5), .int (nI (nT g))])), ((a 5), .inl (cI, 12, .inl (f 3))), ((a 6), .inr (2, [.ref (a 7), .int (nI (nW g))])), ((a 7), .inl (cI, 24, .inl (f 4)))] → va_S A s.heap H locs → ∀ ls : Array Slot, lv_has ls 5 [(3, .int (nI i)), (2, .int (fd)), (1, .int (mo)), (0, .ref (a 0))] → W p l e rmX3_mostSlightedSitter s mm args below meth c H locs 0 0 Q (F0 mm 7 ls []) := by
    intro z
    induction z with
    | zero =>
      intro i mo fd _ _ _ hz
      exact absurd hz (Nat.not_lt_zero _)
    | succ z ih_7 =>
      intro i mo fd hi hmo hfd hz H locs hP hD hS ls hl
      refine lv_iload_n hx hb dX3_mostSlightedSitter_7 rfl (lv_at hl 0 rfl) ?_
      refine lv_aload_n hx hb dX3_mostSlightedSitter_8 rfl (lv_at hl 3 rfl) ?_
      refine va_get (D := D) (ci := 3) (v := .ref (a 4)) (C := RX3) (T := TX3) (N := 9) hx hb hts inwX3_mostSlightedSitter_X3 hown hK hP 0 rfl rfl 3 (by decide) fl26 (fun _ h9 => h9) rfl dX3_mostSlightedSitter_9 ?_
      refine kb_vR (As := []) (rest := [.int (nI i)]) hx hb hml hts hown hN hK hP hD hS hA (c_X2_size l D cI (fun i => a (4 + i)) 12 (f 3) (nT g)) gX3_mostSlightedSitter_X2_size rfl ⟨rfl, rfl⟩ hdX2_size ⟨Nat.le_of_ble_eq_true rfl, Nat.le_of_ble_eq_true rfl⟩ [4, 5] [0] rfl rfl rfl (ci := 2) rfl rfl rfl rfl rfl hl.1 (Nat.le_of_ble_eq_true rfl) dX3_mostSlightedSitter_12 ⟨Nat.zero_le _, Nat.zero_le _⟩ (fun H locs hP hS => ?_)
      refine kb_icmp_ge (tgt := 58) hx hb dX3_mostSlightedSitter_15 (by decide) (by omega) (by omega) (fun c15 => ?_) (fun c15 => ?_)
      · refine lv_iload_n hx hb dX3_mostSlightedSitter_58 rfl (lv_at hl 1 rfl) ?_
        exact kb_iret (D := D) hQ hx hb hr hlocks hK hP hD hS dX3_mostSlightedSitter_59 () rfl (Nat.le_refl _) (Nat.le_refl _) (show fd = (msI g (nT g)).2 from (by rw [hfd, show i = nT g by omega]))
      · refine lv_aload_n hx hb dX3_mostSlightedSitter_18 rfl (lv_at hl 3 rfl) ?_
        refine va_get (D := D) (ci := 3) (v := .ref (a 4)) (C := RX3) (T := TX3) (N := 9) hx hb hts inwX3_mostSlightedSitter_X3 hown hK hP 0 rfl rfl 3 (by decide) fl26 (fun _ h9 => h9) rfl dX3_mostSlightedSitter_19 ?_
        refine lv_iload_n hx hb dX3_mostSlightedSitter_22 rfl (lv_at hl 0 rfl) ?_
        refine kb_vR (As := [.int (nI i)]) (rest := []) hx hb hml hts hown hN hK hP hD hS hA (c_X2_at l D cI (fun i => a (4 + i)) 12 (f 3) (nT g) (nI i) hn.2.1 (by decide)) gX3_mostSlightedSitter_X2_at rfl ⟨rfl, rfl⟩ hdX2_at ⟨Nat.le_of_ble_eq_true rfl, Nat.le_of_ble_eq_true rfl⟩ [4, 5] [0] rfl rfl rfl (ci := 2) rfl rfl rfl rfl rfl hl.1 (Nat.le_of_ble_eq_true rfl) dX3_mostSlightedSitter_23 ⟨Nat.zero_le _, Nat.zero_le _⟩ (fun H locs hP hS => ?_)
        refine kb_top (nI (gT g i)) ((rAt_in (by omega) (by omega)).trans (hT _ (by omega))) ?_
        refine lv_istore (lv' := [(4, .int (nI (gT g i))), (3, .int (nI i)), (2, .int (fd)), (1, .int (mo)), (0, .ref (a 0))]) hx hb dX3_mostSlightedSitter_26 hl (by decide) rfl (fun ls hl => ?_)
        refine lv_aload_n hx hb dX3_mostSlightedSitter_28 rfl (lv_at hl 4 rfl) ?_
        refine lv_iload hx hb dX3_mostSlightedSitter_29 (lv_at hl 0 rfl) ?_
        refine lv_bipush (v := nI 7) hx hb dX3_mostSlightedSitter_31 (by decide) ?_
        refine kb_vR (As := [.int (nI (gT g i)), .int (nI 7)]) (rest := []) hx hb hml hts hown hN hK hP hD hS hA (c_X3_fact l D cI a (nK g) (gc g 4) (gc g 7) (gc g 10) (f 0) (gT g i) 7 ((ho.t _ c15).1) (by omega) hn.1) gX3_mostSlightedSitter_X3_fact rfl ⟨rfl, rfl⟩ hdX3_fact ⟨Nat.le_of_ble_eq_true rfl, Nat.le_of_ble_eq_true rfl⟩ [0, 1] [0] rfl rfl rfl (ci := 3) rfl rfl rfl rfl rfl hl.1 (Nat.le_of_ble_eq_true rfl) dX3_mostSlightedSitter_33 ⟨Nat.zero_le _, Nat.zero_le _⟩ (fun H locs hP hS => ?_)
        refine kb_top (gX g 2 (gT g i)) (hF _ (ok_t ho c15)).2.2.2.2.2.1 ?_
        refine lv_iload_n hx hb dX3_mostSlightedSitter_36 rfl (lv_at hl 3 rfl) ?_
        refine lv_icmp_le (tgt := 52) hx hb dX3_mostSlightedSitter_37 (by decide) (fun c37 => ?_) (fun c37 => ?_)
        · refine lv_iinc (v := nI (i + 1)) (lv' := [(3, .int (nI (i + 1))), (4, .int (nI (gT g i))), (2, .int (fd)), (1, .int (mo)), (0, .ref (a 0))]) hx hb dX3_mostSlightedSitter_52 hl (k := 1) rfl (kb_inc1 i) (by decide) rfl (fun ls hl => ?_)
          refine lv_goto (tgt := 7) hx hb dX3_mostSlightedSitter_55 (by decide) ?_
          exact ih_7 (i + 1) mo fd (by omega) (by rw [msI_s, ← hmo]; first | rw [if_pos (Int32.not_le.mp c37)] | rw [if_neg (Int32.not_lt.mpr c37), hmo]) (by rw [msI_s, ← hmo]; first | rw [if_pos (Int32.not_le.mp c37)] | rw [if_neg (Int32.not_lt.mpr c37), hfd]) (by omega) _ _ hP hD hS _ (lv_sub hl [0, 2, 3, 4] rfl)
        · refine lv_aload_n hx hb dX3_mostSlightedSitter_40 rfl (lv_at hl 4 rfl) ?_
          refine lv_iload hx hb dX3_mostSlightedSitter_41 (lv_at hl 0 rfl) ?_
          refine lv_bipush (v := nI 7) hx hb dX3_mostSlightedSitter_43 (by decide) ?_
          refine kb_vR (As := [.int (nI (gT g i)), .int (nI 7)]) (rest := []) hx hb hml hts hown hN hK hP hD hS hA (c_X3_fact l D cI a (nK g) (gc g 4) (gc g 7) (gc g 10) (f 0) (gT g i) 7 ((ho.t _ c15).1) (by omega) hn.1) gX3_mostSlightedSitter_X3_fact rfl ⟨rfl, rfl⟩ hdX3_fact ⟨Nat.le_of_ble_eq_true rfl, Nat.le_of_ble_eq_true rfl⟩ [0, 1] [0] rfl rfl rfl (ci := 3) rfl rfl rfl rfl rfl hl.1 (Nat.le_of_ble_eq_true rfl) dX3_mostSlightedSitter_45 ⟨Nat.zero_le _, Nat.zero_le _⟩ (fun H locs hP hS => ?_)
          refine kb_top (gX g 2 (gT g i)) (hF _ (ok_t ho c15)).2.2.2.2.2.1 ?_
          refine lv_istore_n (lv' := [(1, .int (gX g 2 (gT g i))), (4, .int (nI (gT g i))), (3, .int (nI i)), (2, .int (fd)), (0, .ref (a 0))]) hx hb dX3_mostSlightedSitter_48 rfl hl (by decide) rfl (fun ls hl => ?_)
          refine lv_iload hx hb dX3_mostSlightedSitter_49 (lv_at hl 1 rfl) ?_
          refine lv_istore_n (lv' := [(2, .int (nI (gT g i))), (1, .int (gX g 2 (gT g i))), (4, .int (nI (gT g i))), (3, .int (nI i)), (0, .ref (a 0))]) hx hb dX3_mostSlightedSitter_51 rfl hl (by decide) rfl (fun ls hl => ?_)
          refine lv_iinc (v := nI (i + 1)) (lv' := [(3, .int (nI (i + 1))), (2, .int (nI (gT g i))), (1, .int (gX g 2 (gT g i))), (4, .int (nI (gT g i))), (0, .ref (a 0))]) hx hb dX3_mostSlightedSitter_52 hl (k := 3) rfl (kb_inc1 i) (by decide) rfl (fun ls hl => ?_)
          refine lv_goto (tgt := 7) hx hb dX3_mostSlightedSitter_55 (by decide) ?_
          exact ih_7 (i + 1) (gX g 2 (gT g i)) (nI (gT g i)) (by omega) (by rw [msI_s, ← hmo]; first | rw [if_pos (Int32.not_le.mp c37)] | rw [if_neg (Int32.not_lt.mpr c37), hmo]) (by rw [msI_s, ← hmo]; first | rw [if_pos (Int32.not_le.mp c37)] | rw [if_neg (Int32.not_lt.mpr c37), hfd]) (by omega) _ _ hP hD hS _ (lv_sub hl [0, 1, 2, 4] rfl)
  exact L_7 ((nT g - 0) + 1) 0 (nI 0) (-5) (by omega) rfl rfl (Nat.lt_succ_self _) _ _ hP hD hS _ (lv_sub hl [0, 1, 2, 3] rfl)
abbrev rmX3_firstArrival : Room := { frames := 2, cells := 0, slots := 0, locals := 44 }
theorem hdX3_firstArrival : yX3_firstArrival.cls = RX3 ∧ yX3_firstArrival.cls ≠ "java/lang/invoke/MethodHandle" ∧ yX3_firstArrival.cls ≠ "java/lang/invoke/VarHandle" ∧ (parseMethodDescriptor yX3_firstArrival.desc).map (fun d => d.parameters.length) = some 0 := by decide +kernel
theorem inwX3_firstArrival_X3 : ∀ w ∈ wsX30, w ∈ wsX3_firstArrival := fun w h => List.mem_cons_of_mem _ (List.mem_append_right _ h)
set_option maxHeartbeats 4000000 in
set_option maxRecDepth 100000 in
theorem c_X3_firstArrival (l : Launch) (D : va_G) (cI : ClassId) (a : Nat → Nat) (f : Nat → Nat → Int32) (g : Sg) (hrs : rS f g) (ho : Ok g) : kb_R D [(cI, .int)] l yX3_firstArrival wsX3_firstArrival rmX3_firstArrival [.ref (a 0)] [((a 0), .inr (3, [.ref (a 1), .ref (a 2), .ref (a 3), .ref (a 4), .ref (a 6), .int (nI (nK g)), .int (gc g 4), .int (gc g 7), .int (gc g 10)])), ((a 1), .inl (cI, 216, .inl (f 0))), ((a 2), .inl (cI, 24, .inl (f 1))), ((a 3), .inl (cI, 4, .inl (f 2))), ((a 4), .inr (2, [.ref (a 5), .int (nI (nT g))])), ((a 5), .inl (cI, 12, .inl (f 3))), ((a 6), .inr (2, [.ref (a 7), .int (nI (nW g))])), ((a 7), .inl (cI, 24, .inl (f 4)))] (faI g (nK g)) := by
  refine kb_I_of (cc := cX3_firstArrival) (maxL := 4) (ret := (some .int)) (by decide) rfl (Nat.le_of_ble_eq_true rfl) ?_
  intro p e s mm args below meth c A hx hb hml hr hts hown hlocks hnm hA hN hK hP hD hS ls hl Q hQ
  have hl : lv_has ls 4 [(0, .ref (a 0))] := hl
  have hP : va_P D vwCl [((a 0), .inr (3, [.ref (a 1), .ref (a 2), .ref (a 3), .ref (a 4), .ref (a 6), .int (nI (nK g)), .int (gc g 4), .int (gc g 7), .int (gc g 10)])), ((a 1), .inl (cI, 216, .inl (f 0))), ((a 2), .inl (cI, 24, .inl (f 1))), ((a 3), .inl (cI, 4, .inl (f 2))), ((a 4), .inr (2, [.ref (a 5), .int (nI (nT g))])), ((a 5), .inl (cI, 12, .inl (f 3))), ((a 6), .inr (2, [.ref (a 7), .int (nI (nW g))])), ((a 7), .inl (cI, 24, .inl (f 4)))] s.heap := hP
  have hD : va_D A [((a 0), .inr (3, [.ref (a 1), .ref (a 2), .ref (a 3), .ref (a 4), .ref (a 6), .int (nI (nK g)), .int (gc g 4), .int (gc g 7), .int (gc g 10)])), ((a 1), .inl (cI, 216, .inl (f 0))), ((a 2), .inl (cI, 24, .inl (f 1))), ((a 3), .inl (cI, 4, .inl (f 2))), ((a 4), .inr (2, [.ref (a 5), .int (nI (nT g))])), ((a 5), .inl (cI, 12, .inl (f 3))), ((a 6), .inr (2, [.ref (a 7), .int (nI (nW g))])), ((a 7), .inl (cI, 24, .inl (f 4)))] := hD
  have fl33 := hts (.fieldLink RX3 33 "KingsBanquet$State" "kings" "I") (by decide +kernel)
  obtain ⟨hF, hW, hC, hT, hM⟩ := id hrs
  have hn := ho.n
  refine lv_bipush (v := (-5)) hx hb dX3_firstArrival_0 (by decide) ?_
  refine lv_istore_n (lv' := [(1, .int ((-5))), (0, .ref (a 0))]) hx hb dX3_firstArrival_2 rfl hl (by decide) rfl (fun ls hl => ?_)
  refine lv_iconst (v := nI 0) hx hb dX3_firstArrival_3 (by decide) ?_
  refine lv_istore_n (lv' := [(2, .int (nI 0)), (1, .int ((-5))), (0, .ref (a 0))]) hx hb dX3_firstArrival_4 rfl hl (by decide) rfl (fun ls hl => ?_)
  have L_5 : ∀ (z : Nat) (i : Nat) (fi : Int32), (i ≤ nK g) → (fi = faI g i) → (nK g - i) < z → ∀ (H : Heap) (locs : List Loc), va_P D vwCl [((a 0), .inr (3, [.ref (a 1), .ref (a 2), .ref (a 3), .ref (a 4), .ref (a 6), .int (nI (nK g)), .int (gc g 4), .int (gc g 7), .int (gc g 10)])), ((a 1), .inl (cI, 216, .inl (f 0))), ((a 2), .inl (cI, 24, .inl (f 1))), ((a 3), .inl (cI, 4, .inl (f 2))), ((a 4), .inr (2, [.ref (a 5), .int (nI (nT g))])), ((a 5), .inl (cI, 12, .inl (f 3))), ((a 6), .inr (2, [.ref (a 7), .int (nI (nW g))])), ((a 7), .inl (cI, 24, .inl (f 4)))] H → va_D A [((a 0), .inr (3, [.ref (a 1), .ref (a 2), .ref (a 3), .ref (a 4), .ref (a 6), .int (nI (nK g)), .int (gc g 4), .int (gc g 7), .int (gc g 10)])), ((a 1), .inl (cI, 216, .inl (f 0))), ((a 2), .inl (cI, 24, .inl (f 1))), ((a 3), .inl (cI, 4, .inl (f 2))), ((a 4), .inr (2, [.ref (a 5), .int (nI (nT g))])), ((a 5), .inl (cI, 12, .inl (f 3))), ((a 6), .inr (2, [.ref (a 7), .int (nI (nW g))])), ((a 7), .inl (cI, 24, .inl (f 4)))] → va_S A s.heap H locs → ∀ ls : Array Slot, lv_has ls 4 [(2, .int (nI i)), (1, .int (fi)), (0, .ref (a 0))] → W p l e rmX3_firstArrival s mm args below meth c H locs 0 0 Q (F0 mm 5 ls []) := by
    intro z
    induction z with
    | zero =>
      intro i fi _ _ hz
      exact absurd hz (Nat.not_lt_zero _)
    | succ z ih_5 =>
      intro i fi hi hfi hz H locs hP hD hS ls hl
      refine lv_iload_n hx hb dX3_firstArrival_5 rfl (lv_at hl 0 rfl) ?_
      refine lv_aload_n hx hb dX3_firstArrival_6 rfl (lv_at hl 2 rfl) ?_
      refine va_get (D := D) (ci := 3) (v := .int (nI (nK g))) (C := RX3) (T := TX3) (N := 9) hx hb hts inwX3_firstArrival_X3 hown hK hP 0 rfl rfl 5 (by decide) fl33 (fun _ h9 => h9) rfl dX3_firstArrival_7 ?_
      refine kb_icmp_ge (tgt := 48) hx hb dX3_firstArrival_10 (by decide) (by omega) (by omega) (fun c10 => ?_) (fun c10 => ?_)
      · refine lv_iload_n hx hb dX3_firstArrival_48 rfl (lv_at hl 1 rfl) ?_
        exact kb_iret (D := D) hQ hx hb hr hlocks hK hP hD hS dX3_firstArrival_49 () rfl (Nat.le_refl _) (Nat.le_refl _) (show fi = faI g (nK g) from (by rw [hfi, show i = nK g by omega]))
      · refine lv_aload_n hx hb dX3_firstArrival_13 rfl (lv_at hl 2 rfl) ?_
        refine lv_iload_n hx hb dX3_firstArrival_14 rfl (lv_at hl 0 rfl) ?_
        refine lv_iconst (v := nI 2) hx hb dX3_firstArrival_15 (by decide) ?_
        refine kb_vR (As := [.int (nI i), .int (nI 2)]) (rest := []) hx hb hml hts hown hN hK hP hD hS hA (c_X3_fact l D cI a (nK g) (gc g 4) (gc g 7) (gc g 10) (f 0) i 2 (by omega) (by omega) hn.1) gX3_firstArrival_X3_fact rfl ⟨rfl, rfl⟩ hdX3_fact ⟨Nat.le_of_ble_eq_true rfl, Nat.le_of_ble_eq_true rfl⟩ [0, 1] [0] rfl rfl rfl (ci := 3) rfl rfl rfl rfl rfl hl.1 (Nat.le_of_ble_eq_true rfl) dX3_firstArrival_16 ⟨Nat.zero_le _, Nat.zero_le _⟩ (fun H locs hP hS => ?_)
        refine kb_top (gX g 0 i) (hF i (by omega)).2.2.1 ?_
        refine lv_istore_n (lv' := [(3, .int (gX g 0 i)), (2, .int (nI i)), (1, .int (fi)), (0, .ref (a 0))]) hx hb dX3_firstArrival_19 rfl hl (by decide) rfl (fun ls hl => ?_)
        refine lv_aload_n hx hb dX3_firstArrival_20 rfl (lv_at hl 3 rfl) ?_
        refine lv_iload_n hx hb dX3_firstArrival_21 rfl (lv_at hl 1 rfl) ?_
        refine lv_iconst (v := nI 3) hx hb dX3_firstArrival_22 (by decide) ?_
        refine kb_vR (As := [.int (nI i), .int (nI 3)]) (rest := []) hx hb hml hts hown hN hK hP hD hS hA (c_X3_fact l D cI a (nK g) (gc g 4) (gc g 7) (gc g 10) (f 0) i 3 (by omega) (by omega) hn.1) gX3_firstArrival_X3_fact rfl ⟨rfl, rfl⟩ hdX3_fact ⟨Nat.le_of_ble_eq_true rfl, Nat.le_of_ble_eq_true rfl⟩ [0, 1] [0] rfl rfl rfl (ci := 3) rfl rfl rfl rfl rfl hl.1 (Nat.le_of_ble_eq_true rfl) dX3_firstArrival_23 ⟨Nat.zero_le _, Nat.zero_le _⟩ (fun H locs hP hS => ?_)
        refine kb_top (nI (gD g i)) (hF i (by omega)).2.2.2.1 ?_
        refine kb_nif_ne (tgt := 42) hx hb dX3_firstArrival_26 (by decide) (by have := ho.k i (by omega); omega) (fun c26 => ?_) (fun c26 => ?_)
        · refine lv_iinc (v := nI (i + 1)) (lv' := [(2, .int (nI (i + 1))), (3, .int (gX g 0 i)), (1, .int (fi)), (0, .ref (a 0))]) hx hb dX3_firstArrival_42 hl (k := 1) rfl (kb_inc1 i) (by decide) rfl (fun ls hl => ?_)
          refine lv_goto (tgt := 5) hx hb dX3_firstArrival_45 (by decide) ?_
          exact ih_5 (i + 1) fi (by omega) (by first | exact faI_a hfi c26 | exact faI_b hfi c26 c32 | exact faI_c hfi c26 c37 | exact faI_d hfi c32 c37) (by omega) _ _ hP hD hS _ (lv_sub hl [0, 2, 3] rfl)
        · refine lv_iload_n hx hb dX3_firstArrival_29 rfl (lv_at hl 2 rfl) ?_
          refine lv_bipush (v := (-5)) hx hb dX3_firstArrival_30 (by decide) ?_
          refine lv_icmp_eq (tgt := 40) hx hb dX3_firstArrival_32 (by decide) (fun c32 => ?_) (fun c32 => ?_)
          · refine lv_iload_n hx hb dX3_firstArrival_40 rfl (lv_at hl 0 rfl) ?_
            refine lv_istore_n (lv' := [(1, .int (gX g 0 i)), (3, .int (gX g 0 i)), (2, .int (nI i)), (0, .ref (a 0))]) hx hb dX3_firstArrival_41 rfl hl (by decide) rfl (fun ls hl => ?_)
            refine lv_iinc (v := nI (i + 1)) (lv' := [(2, .int (nI (i + 1))), (1, .int (gX g 0 i)), (3, .int (gX g 0 i)), (0, .ref (a 0))]) hx hb dX3_firstArrival_42 hl (k := 2) rfl (kb_inc1 i) (by decide) rfl (fun ls hl => ?_)
            refine lv_goto (tgt := 5) hx hb dX3_firstArrival_45 (by decide) ?_
            exact ih_5 (i + 1) (gX g 0 i) (by omega) (by first | exact faI_a hfi c26 | exact faI_b hfi c26 c32 | exact faI_c hfi c26 c37 | exact faI_d hfi c32 c37) (by omega) _ _ hP hD hS _ (lv_sub hl [0, 1, 3] rfl)
          · refine lv_iload_n hx hb dX3_firstArrival_35 rfl (lv_at hl 0 rfl) ?_
            refine lv_iload_n hx hb dX3_firstArrival_36 rfl (lv_at hl 2 rfl) ?_
            refine lv_icmp_ge (tgt := 42) hx hb dX3_firstArrival_37 (by decide) (fun c37 => ?_) (fun c37 => ?_)
            · refine lv_iinc (v := nI (i + 1)) (lv' := [(2, .int (nI (i + 1))), (3, .int (gX g 0 i)), (1, .int (fi)), (0, .ref (a 0))]) hx hb dX3_firstArrival_42 hl (k := 1) rfl (kb_inc1 i) (by decide) rfl (fun ls hl => ?_)
              refine lv_goto (tgt := 5) hx hb dX3_firstArrival_45 (by decide) ?_
              exact ih_5 (i + 1) fi (by omega) (by first | exact faI_a hfi c26 | exact faI_b hfi c26 c32 | exact faI_c hfi c26 c37 | exact faI_d hfi c32 c37) (by omega) _ _ hP hD hS _ (lv_sub hl [0, 2, 3] rfl)
            · refine lv_iload_n hx hb dX3_firstArrival_40 rfl (lv_at hl 0 rfl) ?_
              refine lv_istore_n (lv' := [(1, .int (gX g 0 i)), (3, .int (gX g 0 i)), (2, .int (nI i)), (0, .ref (a 0))]) hx hb dX3_firstArrival_41 rfl hl (by decide) rfl (fun ls hl => ?_)
              refine lv_iinc (v := nI (i + 1)) (lv' := [(2, .int (nI (i + 1))), (1, .int (gX g 0 i)), (3, .int (gX g 0 i)), (0, .ref (a 0))]) hx hb dX3_firstArrival_42 hl (k := 2) rfl (kb_inc1 i) (by decide) rfl (fun ls hl => ?_)
              refine lv_goto (tgt := 5) hx hb dX3_firstArrival_45 (by decide) ?_
              exact ih_5 (i + 1) (gX g 0 i) (by omega) (by first | exact faI_a hfi c26 | exact faI_b hfi c26 c32 | exact faI_c hfi c26 c37 | exact faI_d hfi c32 c37) (by omega) _ _ hP hD hS _ (lv_sub hl [0, 1, 3] rfl)
  exact L_5 ((nK g - 0) + 1) 0 (-5) (by omega) rfl (Nat.lt_succ_self _) _ _ hP hD hS _ (lv_sub hl [0, 1, 2] rfl)
abbrev rmX3_kingsDoing : Room := { frames := 2, cells := 0, slots := 0, locals := 44 }
theorem hdX3_kingsDoing : yX3_kingsDoing.cls = RX3 ∧ yX3_kingsDoing.cls ≠ "java/lang/invoke/MethodHandle" ∧ yX3_kingsDoing.cls ≠ "java/lang/invoke/VarHandle" ∧ (parseMethodDescriptor yX3_kingsDoing.desc).map (fun d => d.parameters.length) = some 1 := by decide +kernel
theorem inwX3_kingsDoing_X3 : ∀ w ∈ wsX30, w ∈ wsX3_kingsDoing := fun w h => List.mem_cons_of_mem _ (List.mem_append_right _ h)
set_option maxHeartbeats 4000000 in
set_option maxRecDepth 100000 in
theorem c_X3_kingsDoing (l : Launch) (D : va_G) (cI : ClassId) (a : Nat → Nat) (f : Nat → Nat → Int32) (g : Sg) (w : Nat) (hw : w < 9) (hrs : rS f g) (ho : Ok g) : kb_R D [(cI, .int)] l yX3_kingsDoing wsX3_kingsDoing rmX3_kingsDoing [.ref (a 0), .int (nI w)] [((a 0), .inr (3, [.ref (a 1), .ref (a 2), .ref (a 3), .ref (a 4), .ref (a 6), .int (nI (nK g)), .int (gc g 4), .int (gc g 7), .int (gc g 10)])), ((a 1), .inl (cI, 216, .inl (f 0))), ((a 2), .inl (cI, 24, .inl (f 1))), ((a 3), .inl (cI, 4, .inl (f 2))), ((a 4), .inr (2, [.ref (a 5), .int (nI (nT g))])), ((a 5), .inl (cI, 12, .inl (f 3))), ((a 6), .inr (2, [.ref (a 7), .int (nI (nW g))])), ((a 7), .inl (cI, 24, .inl (f 4)))] (nI (kdN g w)) := by
  refine kb_I_of (cc := cX3_kingsDoing) (maxL := 4) (ret := (some .int)) (by decide) rfl (Nat.le_of_ble_eq_true rfl) ?_
  intro p e s mm args below meth c A hx hb hml hr hts hown hlocks hnm hA hN hK hP hD hS ls hl Q hQ
  have hl : lv_has ls 4 [(0, .ref (a 0)), (1, .int (nI w))] := hl
  have hP : va_P D vwCl [((a 0), .inr (3, [.ref (a 1), .ref (a 2), .ref (a 3), .ref (a 4), .ref (a 6), .int (nI (nK g)), .int (gc g 4), .int (gc g 7), .int (gc g 10)])), ((a 1), .inl (cI, 216, .inl (f 0))), ((a 2), .inl (cI, 24, .inl (f 1))), ((a 3), .inl (cI, 4, .inl (f 2))), ((a 4), .inr (2, [.ref (a 5), .int (nI (nT g))])), ((a 5), .inl (cI, 12, .inl (f 3))), ((a 6), .inr (2, [.ref (a 7), .int (nI (nW g))])), ((a 7), .inl (cI, 24, .inl (f 4)))] s.heap := hP
  have hD : va_D A [((a 0), .inr (3, [.ref (a 1), .ref (a 2), .ref (a 3), .ref (a 4), .ref (a 6), .int (nI (nK g)), .int (gc g 4), .int (gc g 7), .int (gc g 10)])), ((a 1), .inl (cI, 216, .inl (f 0))), ((a 2), .inl (cI, 24, .inl (f 1))), ((a 3), .inl (cI, 4, .inl (f 2))), ((a 4), .inr (2, [.ref (a 5), .int (nI (nT g))])), ((a 5), .inl (cI, 12, .inl (f 3))), ((a 6), .inr (2, [.ref (a 7), .int (nI (nW g))])), ((a 7), .inl (cI, 24, .inl (f 4)))] := hD
  have fl33 := hts (.fieldLink RX3 33 "KingsBanquet$State" "kings" "I") (by decide +kernel)
  obtain ⟨hF, hW, hC, hT, hM⟩ := id hrs
  have hn := ho.n
  refine lv_iconst (v := nI 0) hx hb dX3_kingsDoing_0 (by decide) ?_
  refine lv_istore_n (lv' := [(2, .int (nI 0)), (0, .ref (a 0)), (1, .int (nI w))]) hx hb dX3_kingsDoing_1 rfl hl (by decide) rfl (fun ls hl => ?_)
  refine lv_iconst (v := nI 0) hx hb dX3_kingsDoing_2 (by decide) ?_
  refine lv_istore_n (lv' := [(3, .int (nI 0)), (2, .int (nI 0)), (0, .ref (a 0)), (1, .int (nI w))]) hx hb dX3_kingsDoing_3 rfl hl (by decide) rfl (fun ls hl => ?_)
  have L_4 : ∀ (z : Nat) (i : Nat) (n : Nat), (i ≤ nK g) → (n = cnt (fun k => decide (gD g k = w)) i) → (nK g - i) < z → ∀ (H : Heap) (locs : List Loc), va_P D vwCl [((a 0), .inr (3, [.ref (a 1), .ref (a 2), .ref (a 3), .ref (a 4), .ref (a 6), .int (nI (nK g)), .int (gc g 4), .int (gc g 7), .int (gc g 10)])), ((a 1), .inl (cI, 216, .inl (f 0))), ((a 2), .inl (cI, 24, .inl (f 1))), ((a 3), .inl (cI, 4, .inl (f 2))), ((a 4), .inr (2, [.ref (a 5), .int (nI (nT g))])), ((a 5), .inl (cI, 12, .inl (f 3))), ((a 6), .inr (2, [.ref (a 7), .int (nI (nW g))])), ((a 7), .inl (cI, 24, .inl (f 4)))] H → va_D A [((a 0), .inr (3, [.ref (a 1), .ref (a 2), .ref (a 3), .ref (a 4), .ref (a 6), .int (nI (nK g)), .int (gc g 4), .int (gc g 7), .int (gc g 10)])), ((a 1), .inl (cI, 216, .inl (f 0))), ((a 2), .inl (cI, 24, .inl (f 1))), ((a 3), .inl (cI, 4, .inl (f 2))), ((a 4), .inr (2, [.ref (a 5), .int (nI (nT g))])), ((a 5), .inl (cI, 12, .inl (f 3))), ((a 6), .inr (2, [.ref (a 7), .int (nI (nW g))])), ((a 7), .inl (cI, 24, .inl (f 4)))] → va_S A s.heap H locs → ∀ ls : Array Slot, lv_has ls 4 [(3, .int (nI i)), (2, .int (nI n)), (0, .ref (a 0)), (1, .int (nI w))] → W p l e rmX3_kingsDoing s mm args below meth c H locs 0 0 Q (F0 mm 4 ls []) := by
    intro z
    induction z with
    | zero =>
      intro i n _ _ hz
      exact absurd hz (Nat.not_lt_zero _)
    | succ z ih_4 =>
      intro i n hi hn1 hz H locs hP hD hS ls hl
      refine lv_iload_n hx hb dX3_kingsDoing_4 rfl (lv_at hl 0 rfl) ?_
      refine lv_aload_n hx hb dX3_kingsDoing_5 rfl (lv_at hl 2 rfl) ?_
      refine va_get (D := D) (ci := 3) (v := .int (nI (nK g))) (C := RX3) (T := TX3) (N := 9) hx hb hts inwX3_kingsDoing_X3 hown hK hP 0 rfl rfl 5 (by decide) fl33 (fun _ h9 => h9) rfl dX3_kingsDoing_6 ?_
      refine kb_icmp_ge (tgt := 31) hx hb dX3_kingsDoing_9 (by decide) (by omega) (by omega) (fun c9 => ?_) (fun c9 => ?_)
      · refine lv_iload_n hx hb dX3_kingsDoing_31 rfl (lv_at hl 1 rfl) ?_
        exact kb_iret (D := D) hQ hx hb hr hlocks hK hP hD hS dX3_kingsDoing_32 () rfl (Nat.le_refl _) (Nat.le_refl _) (show nI n = nI (kdN g w) from (by rw [hn1, show i = nK g by omega]; rfl))
      · refine lv_aload_n hx hb dX3_kingsDoing_12 rfl (lv_at hl 2 rfl) ?_
        refine lv_iload_n hx hb dX3_kingsDoing_13 rfl (lv_at hl 0 rfl) ?_
        refine lv_iconst (v := nI 3) hx hb dX3_kingsDoing_14 (by decide) ?_
        refine kb_vR (As := [.int (nI i), .int (nI 3)]) (rest := []) hx hb hml hts hown hN hK hP hD hS hA (c_X3_fact l D cI a (nK g) (gc g 4) (gc g 7) (gc g 10) (f 0) i 3 (by omega) (by omega) hn.1) gX3_kingsDoing_X3_fact rfl ⟨rfl, rfl⟩ hdX3_fact ⟨Nat.le_of_ble_eq_true rfl, Nat.le_of_ble_eq_true rfl⟩ [0, 1] [0] rfl rfl rfl (ci := 3) rfl rfl rfl rfl rfl hl.1 (Nat.le_of_ble_eq_true rfl) dX3_kingsDoing_15 ⟨Nat.zero_le _, Nat.zero_le _⟩ (fun H locs hP hS => ?_)
        refine kb_top (nI (gD g i)) (hF i (by omega)).2.2.2.1 ?_
        refine lv_iload_n hx hb dX3_kingsDoing_18 rfl (lv_at hl 3 rfl) ?_
        refine kb_icmp_ne (tgt := 25) hx hb dX3_kingsDoing_19 (by decide) (by have := ho.k i (by omega); omega) (by have := ho.k i (by omega); omega) (fun c19 => ?_) (fun c19 => ?_)
        · refine lv_iinc (v := nI (i + 1)) (lv' := [(3, .int (nI (i + 1))), (2, .int (nI n)), (0, .ref (a 0)), (1, .int (nI w))]) hx hb dX3_kingsDoing_25 hl (k := 0) rfl (kb_inc1 i) (by decide) rfl (fun ls hl => ?_)
          refine lv_goto (tgt := 4) hx hb dX3_kingsDoing_28 (by decide) ?_
          exact ih_4 (i + 1) n (by omega) (by rw [cnt_s, hn1]; first | rw [decide_eq_false c19]; rfl | rw [decide_eq_true c19]; rfl) (by omega) _ _ hP hD hS _ (lv_sub hl [0, 1, 2, 3] rfl)
        · refine lv_iinc (v := nI (n + 1)) (lv' := [(2, .int (nI (n + 1))), (3, .int (nI i)), (0, .ref (a 0)), (1, .int (nI w))]) hx hb dX3_kingsDoing_22 hl (k := 1) rfl (kb_inc1 n) (by decide) rfl (fun ls hl => ?_)
          refine lv_iinc (v := nI (i + 1)) (lv' := [(3, .int (nI (i + 1))), (2, .int (nI (n + 1))), (0, .ref (a 0)), (1, .int (nI w))]) hx hb dX3_kingsDoing_25 hl (k := 1) rfl (kb_inc1 i) (by decide) rfl (fun ls hl => ?_)
          refine lv_goto (tgt := 4) hx hb dX3_kingsDoing_28 (by decide) ?_
          exact ih_4 (i + 1) (n + 1) (by omega) (by rw [cnt_s, hn1]; first | rw [decide_eq_false c19]; rfl | rw [decide_eq_true c19]; rfl) (by omega) _ _ hP hD hS _ (lv_sub hl [0, 1, 2, 3] rfl)
  exact L_4 ((nK g - 0) + 1) 0 0 (by omega) rfl (Nat.lt_succ_self _) _ _ hP hD hS _ (lv_sub hl [0, 1, 2, 3] rfl)
abbrev rmX3_sum : Room := { frames := 2, cells := 0, slots := 0, locals := 44 }
theorem hdX3_sum : yX3_sum.cls = RX3 ∧ yX3_sum.cls ≠ "java/lang/invoke/MethodHandle" ∧ yX3_sum.cls ≠ "java/lang/invoke/VarHandle" ∧ (parseMethodDescriptor yX3_sum.desc).map (fun d => d.parameters.length) = some 1 := by decide +kernel
theorem inwX3_sum_X3 : ∀ w ∈ wsX30, w ∈ wsX3_sum := fun w h => List.mem_cons_of_mem _ (List.mem_append_right _ h)
set_option maxHeartbeats 4000000 in
set_option maxRecDepth 100000 in
theorem c_X3_sum (l : Launch) (D : va_G) (cI : ClassId) (a : Nat → Nat) (f : Nat → Nat → Int32) (g : Sg) (w : Nat) (hw : w < 9) (hrs : rS f g) (ho : Ok g) : kb_R D [(cI, .int)] l yX3_sum wsX3_sum rmX3_sum [.ref (a 0), .int (nI w)] [((a 0), .inr (3, [.ref (a 1), .ref (a 2), .ref (a 3), .ref (a 4), .ref (a 6), .int (nI (nK g)), .int (gc g 4), .int (gc g 7), .int (gc g 10)])), ((a 1), .inl (cI, 216, .inl (f 0))), ((a 2), .inl (cI, 24, .inl (f 1))), ((a 3), .inl (cI, 4, .inl (f 2))), ((a 4), .inr (2, [.ref (a 5), .int (nI (nT g))])), ((a 5), .inl (cI, 12, .inl (f 3))), ((a 6), .inr (2, [.ref (a 7), .int (nI (nW g))])), ((a 7), .inl (cI, 24, .inl (f 4)))] (smI (fun k => f 0 (k * 9 + w)) (nK g)) := by
  refine kb_I_of (cc := cX3_sum) (maxL := 4) (ret := (some .int)) (by decide) rfl (Nat.le_of_ble_eq_true rfl) ?_
  intro p e s mm args below meth c A hx hb hml hr hts hown hlocks hnm hA hN hK hP hD hS ls hl Q hQ
  have hl : lv_has ls 4 [(0, .ref (a 0)), (1, .int (nI w))] := hl
  have hP : va_P D vwCl [((a 0), .inr (3, [.ref (a 1), .ref (a 2), .ref (a 3), .ref (a 4), .ref (a 6), .int (nI (nK g)), .int (gc g 4), .int (gc g 7), .int (gc g 10)])), ((a 1), .inl (cI, 216, .inl (f 0))), ((a 2), .inl (cI, 24, .inl (f 1))), ((a 3), .inl (cI, 4, .inl (f 2))), ((a 4), .inr (2, [.ref (a 5), .int (nI (nT g))])), ((a 5), .inl (cI, 12, .inl (f 3))), ((a 6), .inr (2, [.ref (a 7), .int (nI (nW g))])), ((a 7), .inl (cI, 24, .inl (f 4)))] s.heap := hP
  have hD : va_D A [((a 0), .inr (3, [.ref (a 1), .ref (a 2), .ref (a 3), .ref (a 4), .ref (a 6), .int (nI (nK g)), .int (gc g 4), .int (gc g 7), .int (gc g 10)])), ((a 1), .inl (cI, 216, .inl (f 0))), ((a 2), .inl (cI, 24, .inl (f 1))), ((a 3), .inl (cI, 4, .inl (f 2))), ((a 4), .inr (2, [.ref (a 5), .int (nI (nT g))])), ((a 5), .inl (cI, 12, .inl (f 3))), ((a 6), .inr (2, [.ref (a 7), .int (nI (nW g))])), ((a 7), .inl (cI, 24, .inl (f 4)))] := hD
  have fl33 := hts (.fieldLink RX3 33 "KingsBanquet$State" "kings" "I") (by decide +kernel)
  obtain ⟨hF, hW, hC, hT, hM⟩ := id hrs
  have hn := ho.n
  refine lv_iconst (v := nI 0) hx hb dX3_sum_0 (by decide) ?_
  refine lv_istore_n (lv' := [(2, .int (nI 0)), (0, .ref (a 0)), (1, .int (nI w))]) hx hb dX3_sum_1 rfl hl (by decide) rfl (fun ls hl => ?_)
  refine lv_iconst (v := nI 0) hx hb dX3_sum_2 (by decide) ?_
  refine lv_istore_n (lv' := [(3, .int (nI 0)), (2, .int (nI 0)), (0, .ref (a 0)), (1, .int (nI w))]) hx hb dX3_sum_3 rfl hl (by decide) rfl (fun ls hl => ?_)
  have L_4 : ∀ (z : Nat) (i : Nat) (n : Int32), (i ≤ nK g) → (n = smI (fun k => f 0 (k * 9 + w)) i) → (nK g - i) < z → ∀ (H : Heap) (locs : List Loc), va_P D vwCl [((a 0), .inr (3, [.ref (a 1), .ref (a 2), .ref (a 3), .ref (a 4), .ref (a 6), .int (nI (nK g)), .int (gc g 4), .int (gc g 7), .int (gc g 10)])), ((a 1), .inl (cI, 216, .inl (f 0))), ((a 2), .inl (cI, 24, .inl (f 1))), ((a 3), .inl (cI, 4, .inl (f 2))), ((a 4), .inr (2, [.ref (a 5), .int (nI (nT g))])), ((a 5), .inl (cI, 12, .inl (f 3))), ((a 6), .inr (2, [.ref (a 7), .int (nI (nW g))])), ((a 7), .inl (cI, 24, .inl (f 4)))] H → va_D A [((a 0), .inr (3, [.ref (a 1), .ref (a 2), .ref (a 3), .ref (a 4), .ref (a 6), .int (nI (nK g)), .int (gc g 4), .int (gc g 7), .int (gc g 10)])), ((a 1), .inl (cI, 216, .inl (f 0))), ((a 2), .inl (cI, 24, .inl (f 1))), ((a 3), .inl (cI, 4, .inl (f 2))), ((a 4), .inr (2, [.ref (a 5), .int (nI (nT g))])), ((a 5), .inl (cI, 12, .inl (f 3))), ((a 6), .inr (2, [.ref (a 7), .int (nI (nW g))])), ((a 7), .inl (cI, 24, .inl (f 4)))] → va_S A s.heap H locs → ∀ ls : Array Slot, lv_has ls 4 [(3, .int (nI i)), (2, .int (n)), (0, .ref (a 0)), (1, .int (nI w))] → W p l e rmX3_sum s mm args below meth c H locs 0 0 Q (F0 mm 4 ls []) := by
    intro z
    induction z with
    | zero =>
      intro i n _ _ hz
      exact absurd hz (Nat.not_lt_zero _)
    | succ z ih_4 =>
      intro i n hi hn1 hz H locs hP hD hS ls hl
      refine lv_iload_n hx hb dX3_sum_4 rfl (lv_at hl 0 rfl) ?_
      refine lv_aload_n hx hb dX3_sum_5 rfl (lv_at hl 2 rfl) ?_
      refine va_get (D := D) (ci := 3) (v := .int (nI (nK g))) (C := RX3) (T := TX3) (N := 9) hx hb hts inwX3_sum_X3 hown hK hP 0 rfl rfl 5 (by decide) fl33 (fun _ h9 => h9) rfl dX3_sum_6 ?_
      refine kb_icmp_ge (tgt := 27) hx hb dX3_sum_9 (by decide) (by omega) (by omega) (fun c9 => ?_) (fun c9 => ?_)
      · refine lv_iload_n hx hb dX3_sum_27 rfl (lv_at hl 1 rfl) ?_
        exact kb_iret (D := D) hQ hx hb hr hlocks hK hP hD hS dX3_sum_28 () rfl (Nat.le_refl _) (Nat.le_refl _) (show n = smI (fun k => f 0 (k * 9 + w)) (nK g) from (by rw [hn1, show i = nK g by omega]))
      · refine lv_iload_n hx hb dX3_sum_12 rfl (lv_at hl 1 rfl) ?_
        refine lv_aload_n hx hb dX3_sum_13 rfl (lv_at hl 2 rfl) ?_
        refine lv_iload_n hx hb dX3_sum_14 rfl (lv_at hl 0 rfl) ?_
        refine lv_iload_n hx hb dX3_sum_15 rfl (lv_at hl 3 rfl) ?_
        refine kb_vR (As := [.int (nI i), .int (nI w)]) (rest := [.int (n)]) hx hb hml hts hown hN hK hP hD hS hA (c_X3_fact l D cI a (nK g) (gc g 4) (gc g 7) (gc g 10) (f 0) i w (by omega) hw hn.1) gX3_sum_X3_fact rfl ⟨rfl, rfl⟩ hdX3_fact ⟨Nat.le_of_ble_eq_true rfl, Nat.le_of_ble_eq_true rfl⟩ [0, 1] [0] rfl rfl rfl (ci := 3) rfl rfl rfl rfl rfl hl.1 (Nat.le_of_ble_eq_true rfl) dX3_sum_16 ⟨Nat.zero_le _, Nat.zero_le _⟩ (fun H locs hP hS => ?_)
        refine lv_iadd hx hb dX3_sum_19 ?_
        refine lv_istore_n (lv' := [(2, .int (n + ((f 0) (i * 9 + w)))), (3, .int (nI i)), (0, .ref (a 0)), (1, .int (nI w))]) hx hb dX3_sum_20 rfl hl (by decide) rfl (fun ls hl => ?_)
        refine lv_iinc (v := nI (i + 1)) (lv' := [(3, .int (nI (i + 1))), (2, .int (n + ((f 0) (i * 9 + w)))), (0, .ref (a 0)), (1, .int (nI w))]) hx hb dX3_sum_21 hl (k := 1) rfl (kb_inc1 i) (by decide) rfl (fun ls hl => ?_)
        refine lv_goto (tgt := 4) hx hb dX3_sum_24 (by decide) ?_
        exact ih_4 (i + 1) (n + ((f 0) (i * 9 + w))) (by omega) (by rw [smI_s, hn1]) (by omega) _ _ hP hD hS _ (lv_sub hl [0, 1, 2, 3] rfl)
  exact L_4 ((nK g - 0) + 1) 0 (nI 0) (by omega) rfl (Nat.lt_succ_self _) _ _ hP hD hS _ (lv_sub hl [0, 1, 2, 3] rfl)
abbrev rmX3_account : Room := { frames := 3, cells := 0, slots := 0, locals := 67 }
theorem hdX3_account : yX3_account.cls = RX3 ∧ yX3_account.cls ≠ "java/lang/invoke/MethodHandle" ∧ yX3_account.cls ≠ "java/lang/invoke/VarHandle" ∧ (parseMethodDescriptor yX3_account.desc).map (fun d => d.parameters.length) = some 1 := by decide +kernel
theorem inwX3_account_X3 : ∀ w ∈ wsX30, w ∈ wsX3_account := fun w h => List.mem_cons_of_mem _ (List.mem_append_right _ h)
set_option maxHeartbeats 4000000 in
set_option maxRecDepth 100000 in
theorem c_X3_account (l : Launch) (D : va_G) (cI : ClassId) (a : Nat → Nat) (f : Nat → Nat → Int32) (g : Sg) (w : Nat) (hw : w < 15) (hrs : rS f g) (ho : Ok g) : kb_R D [(cI, .int)] l yX3_account wsX3_account rmX3_account [.ref (a 0), .int (nI w)] [((a 0), .inr (3, [.ref (a 1), .ref (a 2), .ref (a 3), .ref (a 4), .ref (a 6), .int (nI (nK g)), .int (gc g 4), .int (gc g 7), .int (gc g 10)])), ((a 1), .inl (cI, 216, .inl (f 0))), ((a 2), .inl (cI, 24, .inl (f 1))), ((a 3), .inl (cI, 4, .inl (f 2))), ((a 4), .inr (2, [.ref (a 5), .int (nI (nT g))])), ((a 5), .inl (cI, 12, .inl (f 3))), ((a 6), .inr (2, [.ref (a 7), .int (nI (nW g))])), ((a 7), .inl (cI, 24, .inl (f 4)))] (acc g w) := by
  refine kb_I_of (cc := cX3_account) (maxL := 2) (ret := (some .int)) (by decide) rfl (Nat.le_of_ble_eq_true rfl) ?_
  intro p e s mm args below meth c A hx hb hml hr hts hown hlocks hnm hA hN hK hP hD hS ls hl Q hQ
  have hl : lv_has ls 2 [(0, .ref (a 0)), (1, .int (nI w))] := hl
  have hP : va_P D vwCl [((a 0), .inr (3, [.ref (a 1), .ref (a 2), .ref (a 3), .ref (a 4), .ref (a 6), .int (nI (nK g)), .int (gc g 4), .int (gc g 7), .int (gc g 10)])), ((a 1), .inl (cI, 216, .inl (f 0))), ((a 2), .inl (cI, 24, .inl (f 1))), ((a 3), .inl (cI, 4, .inl (f 2))), ((a 4), .inr (2, [.ref (a 5), .int (nI (nT g))])), ((a 5), .inl (cI, 12, .inl (f 3))), ((a 6), .inr (2, [.ref (a 7), .int (nI (nW g))])), ((a 7), .inl (cI, 24, .inl (f 4)))] s.heap := hP
  have hD : va_D A [((a 0), .inr (3, [.ref (a 1), .ref (a 2), .ref (a 3), .ref (a 4), .ref (a 6), .int (nI (nK g)), .int (gc g 4), .int (gc g 7), .int (gc g 10)])), ((a 1), .inl (cI, 216, .inl (f 0))), ((a 2), .inl (cI, 24, .inl (f 1))), ((a 3), .inl (cI, 4, .inl (f 2))), ((a 4), .inr (2, [.ref (a 5), .int (nI (nT g))])), ((a 5), .inl (cI, 12, .inl (f 3))), ((a 6), .inr (2, [.ref (a 7), .int (nI (nW g))])), ((a 7), .inl (cI, 24, .inl (f 4)))] := hD
  have fl37 := hts (.fieldLink RX3 37 "KingsBanquet$State" "minute" "I") (by decide +kernel)
  have fl33 := hts (.fieldLink RX3 33 "KingsBanquet$State" "kings" "I") (by decide +kernel)
  have fl40 := hts (.fieldLink RX3 40 "KingsBanquet$State" "rounds" "I") (by decide +kernel)
  have fl43 := hts (.fieldLink RX3 43 "KingsBanquet$State" "changes" "I") (by decide +kernel)
  obtain ⟨hF, hW, hC, hT, hM⟩ := id hrs
  have hn := ho.n
  rcases (by omega : w = 0 ∨ w = 1 ∨ w = 2 ∨ w = 3 ∨ w = 4 ∨ w = 5 ∨ w = 6 ∨ w = 7 ∨ w = 8 ∨ w = 9 ∨ w = 10 ∨ w = 11 ∨ w = 12 ∨ w = 13 ∨ w = 14) with rfl | rfl | rfl | rfl | rfl | rfl | rfl | rfl | rfl | rfl | rfl | rfl | rfl | rfl | rfl
  · refine lv_iload_n hx hb dX3_account_0 rfl (lv_at hl 1 rfl) ?_
    refine lv_tableIn (off := 59) (tgt := 60) hx hb dX3_account_1 (by decide) (by decide) (by decide) (by decide) ?_
    refine lv_aload_n hx hb dX3_account_60 rfl (lv_at hl 0 rfl) ?_
    refine va_get (D := D) (ci := 3) (v := .int (gc g 4)) (C := RX3) (T := TX3) (N := 9) hx hb hts inwX3_account_X3 hown hK hP 0 rfl rfl 6 (by decide) fl37 (fun _ h9 => h9) rfl dX3_account_61 ?_
    exact kb_iret (D := D) hQ hx hb hr hlocks hK hP hD hS dX3_account_64 () rfl (Nat.le_refl _) (Nat.le_refl _) (show gc g 4 = acc g 0 from rfl)
  · refine lv_iload_n hx hb dX3_account_0 rfl (lv_at hl 1 rfl) ?_
    refine lv_tableIn (off := 64) (tgt := 65) hx hb dX3_account_1 (by decide) (by decide) (by decide) (by decide) ?_
    refine lv_aload_n hx hb dX3_account_65 rfl (lv_at hl 0 rfl) ?_
    refine va_get (D := D) (ci := 3) (v := .int (nI (nK g))) (C := RX3) (T := TX3) (N := 9) hx hb hts inwX3_account_X3 hown hK hP 0 rfl rfl 5 (by decide) fl33 (fun _ h9 => h9) rfl dX3_account_66 ?_
    exact kb_iret (D := D) hQ hx hb hr hlocks hK hP hD hS dX3_account_69 () rfl (Nat.le_refl _) (Nat.le_refl _) (show nI (nK g) = acc g 1 from rfl)
  · refine lv_iload_n hx hb dX3_account_0 rfl (lv_at hl 1 rfl) ?_
    refine lv_tableIn (off := 69) (tgt := 70) hx hb dX3_account_1 (by decide) (by decide) (by decide) (by decide) ?_
    refine lv_aload_n hx hb dX3_account_70 rfl (lv_at hl 0 rfl) ?_
    refine lv_iload_n hx hb dX3_account_71 rfl (lv_at hl 1 rfl) ?_
    refine lv_iconst (v := nI 2) hx hb dX3_account_72 (by decide) ?_
    refine lv_isub hx hb dX3_account_73 ?_
    refine kb_top (nI 0) (pk_sub (by omega)) ?_
    refine kb_vR (As := [.int (nI 0)]) (rest := []) hx hb hml hts hown hN hK hP hD hS hA (c_X3_kingsDoing l D cI a f g 0 (by omega) hrs ho) gX3_account_X3_kingsDoing rfl ⟨rfl, rfl⟩ hdX3_kingsDoing ⟨Nat.le_of_ble_eq_true rfl, Nat.le_of_ble_eq_true rfl⟩ [0, 1, 2, 3, 4, 5, 6, 7] [0] rfl rfl rfl (ci := 3) rfl rfl rfl rfl rfl hl.1 (Nat.le_of_ble_eq_true rfl) dX3_account_74 ⟨Nat.zero_le _, Nat.zero_le _⟩ (fun H locs hP hS => ?_)
    exact kb_iret (D := D) hQ hx hb hr hlocks hK hP hD hS dX3_account_77 () rfl (Nat.le_refl _) (Nat.le_refl _) (show nI (kdN g 0) = acc g 2 from rfl)
  · refine lv_iload_n hx hb dX3_account_0 rfl (lv_at hl 1 rfl) ?_
    refine lv_tableIn (off := 69) (tgt := 70) hx hb dX3_account_1 (by decide) (by decide) (by decide) (by decide) ?_
    refine lv_aload_n hx hb dX3_account_70 rfl (lv_at hl 0 rfl) ?_
    refine lv_iload_n hx hb dX3_account_71 rfl (lv_at hl 1 rfl) ?_
    refine lv_iconst (v := nI 2) hx hb dX3_account_72 (by decide) ?_
    refine lv_isub hx hb dX3_account_73 ?_
    refine kb_top (nI 1) (pk_sub (by omega)) ?_
    refine kb_vR (As := [.int (nI 1)]) (rest := []) hx hb hml hts hown hN hK hP hD hS hA (c_X3_kingsDoing l D cI a f g 1 (by omega) hrs ho) gX3_account_X3_kingsDoing rfl ⟨rfl, rfl⟩ hdX3_kingsDoing ⟨Nat.le_of_ble_eq_true rfl, Nat.le_of_ble_eq_true rfl⟩ [0, 1, 2, 3, 4, 5, 6, 7] [0] rfl rfl rfl (ci := 3) rfl rfl rfl rfl rfl hl.1 (Nat.le_of_ble_eq_true rfl) dX3_account_74 ⟨Nat.zero_le _, Nat.zero_le _⟩ (fun H locs hP hS => ?_)
    exact kb_iret (D := D) hQ hx hb hr hlocks hK hP hD hS dX3_account_77 () rfl (Nat.le_refl _) (Nat.le_refl _) (show nI (kdN g 1) = acc g 3 from rfl)
  · refine lv_iload_n hx hb dX3_account_0 rfl (lv_at hl 1 rfl) ?_
    refine lv_tableIn (off := 69) (tgt := 70) hx hb dX3_account_1 (by decide) (by decide) (by decide) (by decide) ?_
    refine lv_aload_n hx hb dX3_account_70 rfl (lv_at hl 0 rfl) ?_
    refine lv_iload_n hx hb dX3_account_71 rfl (lv_at hl 1 rfl) ?_
    refine lv_iconst (v := nI 2) hx hb dX3_account_72 (by decide) ?_
    refine lv_isub hx hb dX3_account_73 ?_
    refine kb_top (nI 2) (pk_sub (by omega)) ?_
    refine kb_vR (As := [.int (nI 2)]) (rest := []) hx hb hml hts hown hN hK hP hD hS hA (c_X3_kingsDoing l D cI a f g 2 (by omega) hrs ho) gX3_account_X3_kingsDoing rfl ⟨rfl, rfl⟩ hdX3_kingsDoing ⟨Nat.le_of_ble_eq_true rfl, Nat.le_of_ble_eq_true rfl⟩ [0, 1, 2, 3, 4, 5, 6, 7] [0] rfl rfl rfl (ci := 3) rfl rfl rfl rfl rfl hl.1 (Nat.le_of_ble_eq_true rfl) dX3_account_74 ⟨Nat.zero_le _, Nat.zero_le _⟩ (fun H locs hP hS => ?_)
    exact kb_iret (D := D) hQ hx hb hr hlocks hK hP hD hS dX3_account_77 () rfl (Nat.le_refl _) (Nat.le_refl _) (show nI (kdN g 2) = acc g 4 from rfl)
  · refine lv_iload_n hx hb dX3_account_0 rfl (lv_at hl 1 rfl) ?_
    refine lv_tableIn (off := 69) (tgt := 70) hx hb dX3_account_1 (by decide) (by decide) (by decide) (by decide) ?_
    refine lv_aload_n hx hb dX3_account_70 rfl (lv_at hl 0 rfl) ?_
    refine lv_iload_n hx hb dX3_account_71 rfl (lv_at hl 1 rfl) ?_
    refine lv_iconst (v := nI 2) hx hb dX3_account_72 (by decide) ?_
    refine lv_isub hx hb dX3_account_73 ?_
    refine kb_top (nI 3) (pk_sub (by omega)) ?_
    refine kb_vR (As := [.int (nI 3)]) (rest := []) hx hb hml hts hown hN hK hP hD hS hA (c_X3_kingsDoing l D cI a f g 3 (by omega) hrs ho) gX3_account_X3_kingsDoing rfl ⟨rfl, rfl⟩ hdX3_kingsDoing ⟨Nat.le_of_ble_eq_true rfl, Nat.le_of_ble_eq_true rfl⟩ [0, 1, 2, 3, 4, 5, 6, 7] [0] rfl rfl rfl (ci := 3) rfl rfl rfl rfl rfl hl.1 (Nat.le_of_ble_eq_true rfl) dX3_account_74 ⟨Nat.zero_le _, Nat.zero_le _⟩ (fun H locs hP hS => ?_)
    exact kb_iret (D := D) hQ hx hb hr hlocks hK hP hD hS dX3_account_77 () rfl (Nat.le_refl _) (Nat.le_refl _) (show nI (kdN g 3) = acc g 5 from rfl)
  · refine lv_iload_n hx hb dX3_account_0 rfl (lv_at hl 1 rfl) ?_
    refine lv_tableIn (off := 77) (tgt := 78) hx hb dX3_account_1 (by decide) (by decide) (by decide) (by decide) ?_
    refine lv_aload_n hx hb dX3_account_78 rfl (lv_at hl 0 rfl) ?_
    refine lv_bipush (v := nI 8) hx hb dX3_account_79 (by decide) ?_
    refine kb_vR (As := [.int (nI 8)]) (rest := []) hx hb hml hts hown hN hK hP hD hS hA (c_X3_sum l D cI a f g 8 (by omega) hrs ho) gX3_account_X3_sum rfl ⟨rfl, rfl⟩ hdX3_sum ⟨Nat.le_of_ble_eq_true rfl, Nat.le_of_ble_eq_true rfl⟩ [0, 1, 2, 3, 4, 5, 6, 7] [0] rfl rfl rfl (ci := 3) rfl rfl rfl rfl rfl hl.1 (Nat.le_of_ble_eq_true rfl) dX3_account_81 ⟨Nat.zero_le _, Nat.zero_le _⟩ (fun H locs hP hS => ?_)
    exact kb_iret (D := D) hQ hx hb hr hlocks hK hP hD hS dX3_account_84 () rfl (Nat.le_refl _) (Nat.le_refl _) (show smI (fun k => f 0 (k * 9 + 8)) (nK g) = acc g 6 from ((smI_congr (fun k hk => (hF k (by omega)).2.2.2.2.2.2)).trans ho.s.2.2.symm))
  · refine lv_iload_n hx hb dX3_account_0 rfl (lv_at hl 1 rfl) ?_
    refine lv_tableIn (off := 84) (tgt := 85) hx hb dX3_account_1 (by decide) (by decide) (by decide) (by decide) ?_
    refine lv_aload_n hx hb dX3_account_85 rfl (lv_at hl 0 rfl) ?_
    refine va_get (D := D) (ci := 3) (v := .int (gc g 7)) (C := RX3) (T := TX3) (N := 9) hx hb hts inwX3_account_X3 hown hK hP 0 rfl rfl 7 (by decide) fl40 (fun _ h9 => h9) rfl dX3_account_86 ?_
    exact kb_iret (D := D) hQ hx hb hr hlocks hK hP hD hS dX3_account_89 () rfl (Nat.le_refl _) (Nat.le_refl _) (show gc g 7 = acc g 7 from rfl)
  · refine lv_iload_n hx hb dX3_account_0 rfl (lv_at hl 1 rfl) ?_
    refine lv_tableIn (off := 89) (tgt := 90) hx hb dX3_account_1 (by decide) (by decide) (by decide) (by decide) ?_
    refine lv_aload_n hx hb dX3_account_90 rfl (lv_at hl 0 rfl) ?_
    refine lv_bipush (v := nI 6) hx hb dX3_account_91 (by decide) ?_
    refine kb_vR (As := [.int (nI 6)]) (rest := []) hx hb hml hts hown hN hK hP hD hS hA (c_X3_sum l D cI a f g 6 (by omega) hrs ho) gX3_account_X3_sum rfl ⟨rfl, rfl⟩ hdX3_sum ⟨Nat.le_of_ble_eq_true rfl, Nat.le_of_ble_eq_true rfl⟩ [0, 1, 2, 3, 4, 5, 6, 7] [0] rfl rfl rfl (ci := 3) rfl rfl rfl rfl rfl hl.1 (Nat.le_of_ble_eq_true rfl) dX3_account_93 ⟨Nat.zero_le _, Nat.zero_le _⟩ (fun H locs hP hS => ?_)
    exact kb_iret (D := D) hQ hx hb hr hlocks hK hP hD hS dX3_account_96 () rfl (Nat.le_refl _) (Nat.le_refl _) (show smI (fun k => f 0 (k * 9 + 6)) (nK g) = acc g 8 from ((smI_congr (fun k hk => (hF k (by omega)).2.2.2.2.1)).trans ho.s.1.symm))
  · refine lv_iload_n hx hb dX3_account_0 rfl (lv_at hl 1 rfl) ?_
    refine lv_tableIn (off := 96) (tgt := 97) hx hb dX3_account_1 (by decide) (by decide) (by decide) (by decide) ?_
    refine lv_aload_n hx hb dX3_account_97 rfl (lv_at hl 0 rfl) ?_
    refine lv_bipush (v := nI 7) hx hb dX3_account_98 (by decide) ?_
    refine kb_vR (As := [.int (nI 7)]) (rest := []) hx hb hml hts hown hN hK hP hD hS hA (c_X3_sum l D cI a f g 7 (by omega) hrs ho) gX3_account_X3_sum rfl ⟨rfl, rfl⟩ hdX3_sum ⟨Nat.le_of_ble_eq_true rfl, Nat.le_of_ble_eq_true rfl⟩ [0, 1, 2, 3, 4, 5, 6, 7] [0] rfl rfl rfl (ci := 3) rfl rfl rfl rfl rfl hl.1 (Nat.le_of_ble_eq_true rfl) dX3_account_100 ⟨Nat.zero_le _, Nat.zero_le _⟩ (fun H locs hP hS => ?_)
    exact kb_iret (D := D) hQ hx hb hr hlocks hK hP hD hS dX3_account_103 () rfl (Nat.le_refl _) (Nat.le_refl _) (show smI (fun k => f 0 (k * 9 + 7)) (nK g) = acc g 9 from ((smI_congr (fun k hk => (hF k (by omega)).2.2.2.2.2.1)).trans ho.s.2.1.symm))
  · refine lv_iload_n hx hb dX3_account_0 rfl (lv_at hl 1 rfl) ?_
    refine lv_tableIn (off := 103) (tgt := 104) hx hb dX3_account_1 (by decide) (by decide) (by decide) (by decide) ?_
    refine lv_aload_n hx hb dX3_account_104 rfl (lv_at hl 0 rfl) ?_
    refine va_get (D := D) (ci := 3) (v := .int (gc g 10)) (C := RX3) (T := TX3) (N := 9) hx hb hts inwX3_account_X3 hown hK hP 0 rfl rfl 8 (by decide) fl43 (fun _ h9 => h9) rfl dX3_account_105 ?_
    exact kb_iret (D := D) hQ hx hb hr hlocks hK hP hD hS dX3_account_108 () rfl (Nat.le_refl _) (Nat.le_refl _) (show gc g 10 = acc g 10 from rfl)
  · refine lv_iload_n hx hb dX3_account_0 rfl (lv_at hl 1 rfl) ?_
    refine lv_tableOut (tgt := 109) hx hb dX3_account_1 (by decide) (by decide) ?_
    refine lv_aload_n hx hb dX3_account_109 rfl (lv_at hl 0 rfl) ?_
    refine lv_iload_n hx hb dX3_account_110 rfl (lv_at hl 1 rfl) ?_
    refine lv_bipush (v := nI 11) hx hb dX3_account_111 (by decide) ?_
    refine lv_isub hx hb dX3_account_113 ?_
    refine kb_top (nI 0) (pk_sub (by omega)) ?_
    refine kb_vR (As := [.int (nI 0)]) (rest := []) hx hb hml hts hown hN hK hP hD hS hA (c_X3_setting l D cI a (nK g) (gc g 4) (gc g 7) (gc g 10) (f 2) 0 (by omega)) gX3_account_X3_setting rfl ⟨rfl, rfl⟩ hdX3_setting ⟨Nat.le_of_ble_eq_true rfl, Nat.le_of_ble_eq_true rfl⟩ [0, 3] [0] rfl rfl rfl (ci := 3) rfl rfl rfl rfl rfl hl.1 (Nat.le_of_ble_eq_true rfl) dX3_account_114 ⟨Nat.zero_le _, Nat.zero_le _⟩ (fun H locs hP hS => ?_)
    exact kb_iret (D := D) hQ hx hb hr hlocks hK hP hD hS dX3_account_117 () rfl (Nat.le_refl _) (Nat.le_refl _) (show (f 2) 0 = acc g 11 from (hC 0 (by omega)))
  · refine lv_iload_n hx hb dX3_account_0 rfl (lv_at hl 1 rfl) ?_
    refine lv_tableOut (tgt := 109) hx hb dX3_account_1 (by decide) (by decide) ?_
    refine lv_aload_n hx hb dX3_account_109 rfl (lv_at hl 0 rfl) ?_
    refine lv_iload_n hx hb dX3_account_110 rfl (lv_at hl 1 rfl) ?_
    refine lv_bipush (v := nI 11) hx hb dX3_account_111 (by decide) ?_
    refine lv_isub hx hb dX3_account_113 ?_
    refine kb_top (nI 1) (pk_sub (by omega)) ?_
    refine kb_vR (As := [.int (nI 1)]) (rest := []) hx hb hml hts hown hN hK hP hD hS hA (c_X3_setting l D cI a (nK g) (gc g 4) (gc g 7) (gc g 10) (f 2) 1 (by omega)) gX3_account_X3_setting rfl ⟨rfl, rfl⟩ hdX3_setting ⟨Nat.le_of_ble_eq_true rfl, Nat.le_of_ble_eq_true rfl⟩ [0, 3] [0] rfl rfl rfl (ci := 3) rfl rfl rfl rfl rfl hl.1 (Nat.le_of_ble_eq_true rfl) dX3_account_114 ⟨Nat.zero_le _, Nat.zero_le _⟩ (fun H locs hP hS => ?_)
    exact kb_iret (D := D) hQ hx hb hr hlocks hK hP hD hS dX3_account_117 () rfl (Nat.le_refl _) (Nat.le_refl _) (show (f 2) 1 = acc g 12 from (hC 1 (by omega)))
  · refine lv_iload_n hx hb dX3_account_0 rfl (lv_at hl 1 rfl) ?_
    refine lv_tableOut (tgt := 109) hx hb dX3_account_1 (by decide) (by decide) ?_
    refine lv_aload_n hx hb dX3_account_109 rfl (lv_at hl 0 rfl) ?_
    refine lv_iload_n hx hb dX3_account_110 rfl (lv_at hl 1 rfl) ?_
    refine lv_bipush (v := nI 11) hx hb dX3_account_111 (by decide) ?_
    refine lv_isub hx hb dX3_account_113 ?_
    refine kb_top (nI 2) (pk_sub (by omega)) ?_
    refine kb_vR (As := [.int (nI 2)]) (rest := []) hx hb hml hts hown hN hK hP hD hS hA (c_X3_setting l D cI a (nK g) (gc g 4) (gc g 7) (gc g 10) (f 2) 2 (by omega)) gX3_account_X3_setting rfl ⟨rfl, rfl⟩ hdX3_setting ⟨Nat.le_of_ble_eq_true rfl, Nat.le_of_ble_eq_true rfl⟩ [0, 3] [0] rfl rfl rfl (ci := 3) rfl rfl rfl rfl rfl hl.1 (Nat.le_of_ble_eq_true rfl) dX3_account_114 ⟨Nat.zero_le _, Nat.zero_le _⟩ (fun H locs hP hS => ?_)
    exact kb_iret (D := D) hQ hx hb hr hlocks hK hP hD hS dX3_account_117 () rfl (Nat.le_refl _) (Nat.le_refl _) (show (f 2) 2 = acc g 13 from (hC 2 (by omega)))
  · refine lv_iload_n hx hb dX3_account_0 rfl (lv_at hl 1 rfl) ?_
    refine lv_tableOut (tgt := 109) hx hb dX3_account_1 (by decide) (by decide) ?_
    refine lv_aload_n hx hb dX3_account_109 rfl (lv_at hl 0 rfl) ?_
    refine lv_iload_n hx hb dX3_account_110 rfl (lv_at hl 1 rfl) ?_
    refine lv_bipush (v := nI 11) hx hb dX3_account_111 (by decide) ?_
    refine lv_isub hx hb dX3_account_113 ?_
    refine kb_top (nI 3) (pk_sub (by omega)) ?_
    refine kb_vR (As := [.int (nI 3)]) (rest := []) hx hb hml hts hown hN hK hP hD hS hA (c_X3_setting l D cI a (nK g) (gc g 4) (gc g 7) (gc g 10) (f 2) 3 (by omega)) gX3_account_X3_setting rfl ⟨rfl, rfl⟩ hdX3_setting ⟨Nat.le_of_ble_eq_true rfl, Nat.le_of_ble_eq_true rfl⟩ [0, 3] [0] rfl rfl rfl (ci := 3) rfl rfl rfl rfl rfl hl.1 (Nat.le_of_ble_eq_true rfl) dX3_account_114 ⟨Nat.zero_le _, Nat.zero_le _⟩ (fun H locs hP hS => ?_)
    exact kb_iret (D := D) hQ hx hb hr hlocks hK hP hD hS dX3_account_117 () rfl (Nat.le_refl _) (Nat.le_refl _) (show (f 2) 3 = acc g 14 from (hC 3 (by omega)))
abbrev rmX3_copyFrom : Room := { frames := 3, cells := 0, slots := 0, locals := 82 }
theorem hdX3_copyFrom : yX3_copyFrom.cls = RX3 ∧ yX3_copyFrom.cls ≠ "java/lang/invoke/MethodHandle" ∧ yX3_copyFrom.cls ≠ "java/lang/invoke/VarHandle" ∧ (parseMethodDescriptor yX3_copyFrom.desc).map (fun d => d.parameters.length) = some 1 := by decide +kernel
theorem inwX3_copyFrom_X3 : ∀ w ∈ wsX30, w ∈ wsX3_copyFrom := fun w h => List.mem_cons_of_mem _ (List.mem_append_left _ (List.mem_append_right _ h))
theorem inwX3_copyFrom_X2 : ∀ w ∈ wsX20, w ∈ wsX3_copyFrom := fun w h => List.mem_cons_of_mem _ (List.mem_append_right _ h)
set_option maxHeartbeats 4000000 in
set_option maxRecDepth 100000 in
theorem c_X3_copyFrom (l : Launch) (D : va_G) (cI : ClassId) (a : Nat → Nat) (b : Nat → Nat) (f : Nat → Nat → Int32) (g : Sg) (f2 : Nat → Nat → Int32) (g2 : Sg) (ho2 : Ok g2) : kb_V (S := Unit) D [(cI, .int)] l yX3_copyFrom wsX3_copyFrom rmX3_copyFrom [.ref (a 0), .ref (b 0)] [((a 0), .inr (3, [.ref (a 1), .ref (a 2), .ref (a 3), .ref (a 4), .ref (a 6), .int (nI (nK g)), .int (gc g 4), .int (gc g 7), .int (gc g 10)])), ((a 1), .inl (cI, 216, .inl (f 0))), ((a 2), .inl (cI, 24, .inl (f 1))), ((a 3), .inl (cI, 4, .inl (f 2))), ((a 4), .inr (2, [.ref (a 5), .int (nI (nT g))])), ((a 5), .inl (cI, 12, .inl (f 3))), ((a 6), .inr (2, [.ref (a 7), .int (nI (nW g))])), ((a 7), .inl (cI, 24, .inl (f 4))), ((b 0), .inr (3, [.ref (b 1), .ref (b 2), .ref (b 3), .ref (b 4), .ref (b 6), .int (nI (nK g2)), .int (gc g2 4), .int (gc g2 7), .int (gc g2 10)])), ((b 1), .inl (cI, 216, .inl (f2 0))), ((b 2), .inl (cI, 24, .inl (f2 1))), ((b 3), .inl (cI, 4, .inl (f2 2))), ((b 4), .inr (2, [.ref (b 5), .int (nI (nT g2))])), ((b 5), .inl (cI, 12, .inl (f2 3))), ((b 6), .inr (2, [.ref (b 7), .int (nI (nW g2))])), ((b 7), .inl (cI, 24, .inl (f2 4)))] (fun (u : Unit) => True) (fun (u : Unit) => [((a 0), .inr (3, [.ref (a 1), .ref (a 2), .ref (a 3), .ref (a 4), .ref (a 6), .int (nI (nK g2)), .int (gc g2 4), .int (gc g2 7), .int (gc g2 10)])), ((a 1), .inl (cI, 216, .inl (f2 0))), ((a 2), .inl (cI, 24, .inl (f2 1))), ((a 3), .inl (cI, 4, .inl (f2 2))), ((a 4), .inr (2, [.ref (a 5), .int (nI (nT g2))])), ((a 5), .inl (cI, 12, .inl (f2 3))), ((a 6), .inr (2, [.ref (a 7), .int (nI (nW g2))])), ((a 7), .inl (cI, 24, .inl (f2 4))), ((b 0), .inr (3, [.ref (b 1), .ref (b 2), .ref (b 3), .ref (b 4), .ref (b 6), .int (nI (nK g2)), .int (gc g2 4), .int (gc g2 7), .int (gc g2 10)])), ((b 1), .inl (cI, 216, .inl (f2 0))), ((b 2), .inl (cI, 24, .inl (f2 1))), ((b 3), .inl (cI, 4, .inl (f2 2))), ((b 4), .inr (2, [.ref (b 5), .int (nI (nT g2))])), ((b 5), .inl (cI, 12, .inl (f2 3))), ((b 6), .inr (2, [.ref (b 7), .int (nI (nW g2))])), ((b 7), .inl (cI, 24, .inl (f2 4)))]) 0 0 := by
  refine kb_V_of (cc := cX3_copyFrom) (maxL := 2) (ret := none) (by decide) rfl (Nat.le_of_ble_eq_true rfl) ?_
  intro p e s mm args below meth c A hx hb hml hr hts hown hlocks hnm hA hN hK hP hD hS ls hl Q hQ
  have hl : lv_has ls 2 [(0, .ref (a 0)), (1, .ref (b 0))] := hl
  have hP : va_P D vwCl [((a 0), .inr (3, [.ref (a 1), .ref (a 2), .ref (a 3), .ref (a 4), .ref (a 6), .int (nI (nK g)), .int (gc g 4), .int (gc g 7), .int (gc g 10)])), ((a 1), .inl (cI, 216, .inl (f 0))), ((a 2), .inl (cI, 24, .inl (f 1))), ((a 3), .inl (cI, 4, .inl (f 2))), ((a 4), .inr (2, [.ref (a 5), .int (nI (nT g))])), ((a 5), .inl (cI, 12, .inl (f 3))), ((a 6), .inr (2, [.ref (a 7), .int (nI (nW g))])), ((a 7), .inl (cI, 24, .inl (f 4))), ((b 0), .inr (3, [.ref (b 1), .ref (b 2), .ref (b 3), .ref (b 4), .ref (b 6), .int (nI (nK g2)), .int (gc g2 4), .int (gc g2 7), .int (gc g2 10)])), ((b 1), .inl (cI, 216, .inl (f2 0))), ((b 2), .inl (cI, 24, .inl (f2 1))), ((b 3), .inl (cI, 4, .inl (f2 2))), ((b 4), .inr (2, [.ref (b 5), .int (nI (nT g2))])), ((b 5), .inl (cI, 12, .inl (f2 3))), ((b 6), .inr (2, [.ref (b 7), .int (nI (nW g2))])), ((b 7), .inl (cI, 24, .inl (f2 4)))] s.heap := hP
  have hD : va_D A [((a 0), .inr (3, [.ref (a 1), .ref (a 2), .ref (a 3), .ref (a 4), .ref (a 6), .int (nI (nK g)), .int (gc g 4), .int (gc g 7), .int (gc g 10)])), ((a 1), .inl (cI, 216, .inl (f 0))), ((a 2), .inl (cI, 24, .inl (f 1))), ((a 3), .inl (cI, 4, .inl (f 2))), ((a 4), .inr (2, [.ref (a 5), .int (nI (nT g))])), ((a 5), .inl (cI, 12, .inl (f 3))), ((a 6), .inr (2, [.ref (a 7), .int (nI (nW g))])), ((a 7), .inl (cI, 24, .inl (f 4))), ((b 0), .inr (3, [.ref (b 1), .ref (b 2), .ref (b 3), .ref (b 4), .ref (b 6), .int (nI (nK g2)), .int (gc g2 4), .int (gc g2 7), .int (gc g2 10)])), ((b 1), .inl (cI, 216, .inl (f2 0))), ((b 2), .inl (cI, 24, .inl (f2 1))), ((b 3), .inl (cI, 4, .inl (f2 2))), ((b 4), .inr (2, [.ref (b 5), .int (nI (nT g2))])), ((b 5), .inl (cI, 12, .inl (f2 3))), ((b 6), .inr (2, [.ref (b 7), .int (nI (nW g2))])), ((b 7), .inl (cI, 24, .inl (f2 4)))] := hD
  have fl9 := hts (.fieldLink RX3 9 "KingsBanquet$State" "facts" "[I") (by decide +kernel)
  have fl15 := hts (.fieldLink RX3 15 "KingsBanquet$State" "worths" "[I") (by decide +kernel)
  have fl18 := hts (.fieldLink RX3 18 "KingsBanquet$State" "settings" "[I") (by decide +kernel)
  have fl26 := hts (.fieldLink RX3 26 "KingsBanquet$State" "table" "LKingsBanquet$Row;") (by decide +kernel)
  have fl30 := hts (.fieldLink RX3 30 "KingsBanquet$State" "hall" "LKingsBanquet$Row;") (by decide +kernel)
  have fl33 := hts (.fieldLink RX3 33 "KingsBanquet$State" "kings" "I") (by decide +kernel)
  have fl37 := hts (.fieldLink RX3 37 "KingsBanquet$State" "minute" "I") (by decide +kernel)
  have fl40 := hts (.fieldLink RX3 40 "KingsBanquet$State" "rounds" "I") (by decide +kernel)
  have fl43 := hts (.fieldLink RX3 43 "KingsBanquet$State" "changes" "I") (by decide +kernel)
  have hn := ho2.n
  refine lv_aload_n hx hb dX3_copyFrom_0 rfl (lv_at hl 1 rfl) ?_
  refine va_get (D := D) (ci := 3) (v := .ref (b 1)) (C := RX3) (T := TX3) (N := 9) hx hb hts inwX3_copyFrom_X3 hown hK hP 8 rfl rfl 0 (by decide) fl9 (fun _ h9 => h9) rfl dX3_copyFrom_1 ?_
  refine lv_aload_n hx hb dX3_copyFrom_4 rfl (lv_at hl 0 rfl) ?_
  refine va_get (D := D) (ci := 3) (v := .ref (a 1)) (C := RX3) (T := TX3) (N := 9) hx hb hts inwX3_copyFrom_X3 hown hK hP 0 rfl rfl 0 (by decide) fl9 (fun _ h9 => h9) rfl dX3_copyFrom_5 ?_
  refine kb_nV (As := [.ref (b 1), .ref (a 1)]) (rest := []) hx hb hml hts hown hN hK hP hD hS hA (c_X4_copyNumbers l D cI (b 1) (a 1) 216 (f2 0) (f 0) (by decide)) gX3_copyFrom_X4_copyNumbers_n46 rfl ⟨rfl, rfl⟩ hN.2.1 (hts (.initialized RX4) (by decide +kernel)) (hts (.static yX4_copyNumbers) (by decide +kernel)) hdX4_copyNumbers.2 ⟨Nat.le_of_ble_eq_true rfl, Nat.le_of_ble_eq_true rfl⟩ [9, 1] [0] rfl rfl rfl (fun _ => rfl) rfl rfl hl.1 (Nat.le_of_ble_eq_true rfl) dX3_copyFrom_8 ⟨Nat.zero_le _, Nat.zero_le _⟩ (fun u H locs hw_8 hP hD hS => ?_)
  have hw_8 : True := hw_8
  have hP : va_P D vwCl [((a 0), .inr (3, [.ref (a 1), .ref (a 2), .ref (a 3), .ref (a 4), .ref (a 6), .int (nI (nK g)), .int (gc g 4), .int (gc g 7), .int (gc g 10)])), ((a 1), .inl (cI, 216, .inl (f2 0))), ((a 2), .inl (cI, 24, .inl (f 1))), ((a 3), .inl (cI, 4, .inl (f 2))), ((a 4), .inr (2, [.ref (a 5), .int (nI (nT g))])), ((a 5), .inl (cI, 12, .inl (f 3))), ((a 6), .inr (2, [.ref (a 7), .int (nI (nW g))])), ((a 7), .inl (cI, 24, .inl (f 4))), ((b 0), .inr (3, [.ref (b 1), .ref (b 2), .ref (b 3), .ref (b 4), .ref (b 6), .int (nI (nK g2)), .int (gc g2 4), .int (gc g2 7), .int (gc g2 10)])), ((b 1), .inl (cI, 216, .inl (f2 0))), ((b 2), .inl (cI, 24, .inl (f2 1))), ((b 3), .inl (cI, 4, .inl (f2 2))), ((b 4), .inr (2, [.ref (b 5), .int (nI (nT g2))])), ((b 5), .inl (cI, 12, .inl (f2 3))), ((b 6), .inr (2, [.ref (b 7), .int (nI (nW g2))])), ((b 7), .inl (cI, 24, .inl (f2 4)))] H := hP
  have hD : va_D A [((a 0), .inr (3, [.ref (a 1), .ref (a 2), .ref (a 3), .ref (a 4), .ref (a 6), .int (nI (nK g)), .int (gc g 4), .int (gc g 7), .int (gc g 10)])), ((a 1), .inl (cI, 216, .inl (f2 0))), ((a 2), .inl (cI, 24, .inl (f 1))), ((a 3), .inl (cI, 4, .inl (f 2))), ((a 4), .inr (2, [.ref (a 5), .int (nI (nT g))])), ((a 5), .inl (cI, 12, .inl (f 3))), ((a 6), .inr (2, [.ref (a 7), .int (nI (nW g))])), ((a 7), .inl (cI, 24, .inl (f 4))), ((b 0), .inr (3, [.ref (b 1), .ref (b 2), .ref (b 3), .ref (b 4), .ref (b 6), .int (nI (nK g2)), .int (gc g2 4), .int (gc g2 7), .int (gc g2 10)])), ((b 1), .inl (cI, 216, .inl (f2 0))), ((b 2), .inl (cI, 24, .inl (f2 1))), ((b 3), .inl (cI, 4, .inl (f2 2))), ((b 4), .inr (2, [.ref (b 5), .int (nI (nT g2))])), ((b 5), .inl (cI, 12, .inl (f2 3))), ((b 6), .inr (2, [.ref (b 7), .int (nI (nW g2))])), ((b 7), .inl (cI, 24, .inl (f2 4)))] := hD
  refine lv_aload_n hx hb dX3_copyFrom_11 rfl (lv_at hl 1 rfl) ?_
  refine va_get (D := D) (ci := 3) (v := .ref (b 2)) (C := RX3) (T := TX3) (N := 9) hx hb hts inwX3_copyFrom_X3 hown hK hP 8 rfl rfl 1 (by decide) fl15 (fun _ h9 => h9) rfl dX3_copyFrom_12 ?_
  refine lv_aload_n hx hb dX3_copyFrom_15 rfl (lv_at hl 0 rfl) ?_
  refine va_get (D := D) (ci := 3) (v := .ref (a 2)) (C := RX3) (T := TX3) (N := 9) hx hb hts inwX3_copyFrom_X3 hown hK hP 0 rfl rfl 1 (by decide) fl15 (fun _ h9 => h9) rfl dX3_copyFrom_16 ?_
  refine kb_nV (As := [.ref (b 2), .ref (a 2)]) (rest := []) hx hb hml hts hown hN hK hP hD hS hA (c_X4_copyNumbers l D cI (b 2) (a 2) 24 (f2 1) (f 1) (by decide)) gX3_copyFrom_X4_copyNumbers_n46 rfl ⟨rfl, rfl⟩ hN.2.1 (hts (.initialized RX4) (by decide +kernel)) (hts (.static yX4_copyNumbers) (by decide +kernel)) hdX4_copyNumbers.2 ⟨Nat.le_of_ble_eq_true rfl, Nat.le_of_ble_eq_true rfl⟩ [10, 2] [0] rfl rfl rfl (fun _ => rfl) rfl rfl hl.1 (Nat.le_of_ble_eq_true rfl) dX3_copyFrom_19 ⟨Nat.zero_le _, Nat.zero_le _⟩ (fun u H locs hw_19 hP hD hS => ?_)
  have hw_19 : True := hw_19
  have hP : va_P D vwCl [((a 0), .inr (3, [.ref (a 1), .ref (a 2), .ref (a 3), .ref (a 4), .ref (a 6), .int (nI (nK g)), .int (gc g 4), .int (gc g 7), .int (gc g 10)])), ((a 1), .inl (cI, 216, .inl (f2 0))), ((a 2), .inl (cI, 24, .inl (f2 1))), ((a 3), .inl (cI, 4, .inl (f 2))), ((a 4), .inr (2, [.ref (a 5), .int (nI (nT g))])), ((a 5), .inl (cI, 12, .inl (f 3))), ((a 6), .inr (2, [.ref (a 7), .int (nI (nW g))])), ((a 7), .inl (cI, 24, .inl (f 4))), ((b 0), .inr (3, [.ref (b 1), .ref (b 2), .ref (b 3), .ref (b 4), .ref (b 6), .int (nI (nK g2)), .int (gc g2 4), .int (gc g2 7), .int (gc g2 10)])), ((b 1), .inl (cI, 216, .inl (f2 0))), ((b 2), .inl (cI, 24, .inl (f2 1))), ((b 3), .inl (cI, 4, .inl (f2 2))), ((b 4), .inr (2, [.ref (b 5), .int (nI (nT g2))])), ((b 5), .inl (cI, 12, .inl (f2 3))), ((b 6), .inr (2, [.ref (b 7), .int (nI (nW g2))])), ((b 7), .inl (cI, 24, .inl (f2 4)))] H := hP
  have hD : va_D A [((a 0), .inr (3, [.ref (a 1), .ref (a 2), .ref (a 3), .ref (a 4), .ref (a 6), .int (nI (nK g)), .int (gc g 4), .int (gc g 7), .int (gc g 10)])), ((a 1), .inl (cI, 216, .inl (f2 0))), ((a 2), .inl (cI, 24, .inl (f2 1))), ((a 3), .inl (cI, 4, .inl (f 2))), ((a 4), .inr (2, [.ref (a 5), .int (nI (nT g))])), ((a 5), .inl (cI, 12, .inl (f 3))), ((a 6), .inr (2, [.ref (a 7), .int (nI (nW g))])), ((a 7), .inl (cI, 24, .inl (f 4))), ((b 0), .inr (3, [.ref (b 1), .ref (b 2), .ref (b 3), .ref (b 4), .ref (b 6), .int (nI (nK g2)), .int (gc g2 4), .int (gc g2 7), .int (gc g2 10)])), ((b 1), .inl (cI, 216, .inl (f2 0))), ((b 2), .inl (cI, 24, .inl (f2 1))), ((b 3), .inl (cI, 4, .inl (f2 2))), ((b 4), .inr (2, [.ref (b 5), .int (nI (nT g2))])), ((b 5), .inl (cI, 12, .inl (f2 3))), ((b 6), .inr (2, [.ref (b 7), .int (nI (nW g2))])), ((b 7), .inl (cI, 24, .inl (f2 4)))] := hD
  refine lv_aload_n hx hb dX3_copyFrom_22 rfl (lv_at hl 1 rfl) ?_
  refine va_get (D := D) (ci := 3) (v := .ref (b 3)) (C := RX3) (T := TX3) (N := 9) hx hb hts inwX3_copyFrom_X3 hown hK hP 8 rfl rfl 2 (by decide) fl18 (fun _ h9 => h9) rfl dX3_copyFrom_23 ?_
  refine lv_aload_n hx hb dX3_copyFrom_26 rfl (lv_at hl 0 rfl) ?_
  refine va_get (D := D) (ci := 3) (v := .ref (a 3)) (C := RX3) (T := TX3) (N := 9) hx hb hts inwX3_copyFrom_X3 hown hK hP 0 rfl rfl 2 (by decide) fl18 (fun _ h9 => h9) rfl dX3_copyFrom_27 ?_
  refine kb_nV (As := [.ref (b 3), .ref (a 3)]) (rest := []) hx hb hml hts hown hN hK hP hD hS hA (c_X4_copyNumbers l D cI (b 3) (a 3) 4 (f2 2) (f 2) (by decide)) gX3_copyFrom_X4_copyNumbers_n46 rfl ⟨rfl, rfl⟩ hN.2.1 (hts (.initialized RX4) (by decide +kernel)) (hts (.static yX4_copyNumbers) (by decide +kernel)) hdX4_copyNumbers.2 ⟨Nat.le_of_ble_eq_true rfl, Nat.le_of_ble_eq_true rfl⟩ [11, 3] [0] rfl rfl rfl (fun _ => rfl) rfl rfl hl.1 (Nat.le_of_ble_eq_true rfl) dX3_copyFrom_30 ⟨Nat.zero_le _, Nat.zero_le _⟩ (fun u H locs hw_30 hP hD hS => ?_)
  have hw_30 : True := hw_30
  have hP : va_P D vwCl [((a 0), .inr (3, [.ref (a 1), .ref (a 2), .ref (a 3), .ref (a 4), .ref (a 6), .int (nI (nK g)), .int (gc g 4), .int (gc g 7), .int (gc g 10)])), ((a 1), .inl (cI, 216, .inl (f2 0))), ((a 2), .inl (cI, 24, .inl (f2 1))), ((a 3), .inl (cI, 4, .inl (f2 2))), ((a 4), .inr (2, [.ref (a 5), .int (nI (nT g))])), ((a 5), .inl (cI, 12, .inl (f 3))), ((a 6), .inr (2, [.ref (a 7), .int (nI (nW g))])), ((a 7), .inl (cI, 24, .inl (f 4))), ((b 0), .inr (3, [.ref (b 1), .ref (b 2), .ref (b 3), .ref (b 4), .ref (b 6), .int (nI (nK g2)), .int (gc g2 4), .int (gc g2 7), .int (gc g2 10)])), ((b 1), .inl (cI, 216, .inl (f2 0))), ((b 2), .inl (cI, 24, .inl (f2 1))), ((b 3), .inl (cI, 4, .inl (f2 2))), ((b 4), .inr (2, [.ref (b 5), .int (nI (nT g2))])), ((b 5), .inl (cI, 12, .inl (f2 3))), ((b 6), .inr (2, [.ref (b 7), .int (nI (nW g2))])), ((b 7), .inl (cI, 24, .inl (f2 4)))] H := hP
  have hD : va_D A [((a 0), .inr (3, [.ref (a 1), .ref (a 2), .ref (a 3), .ref (a 4), .ref (a 6), .int (nI (nK g)), .int (gc g 4), .int (gc g 7), .int (gc g 10)])), ((a 1), .inl (cI, 216, .inl (f2 0))), ((a 2), .inl (cI, 24, .inl (f2 1))), ((a 3), .inl (cI, 4, .inl (f2 2))), ((a 4), .inr (2, [.ref (a 5), .int (nI (nT g))])), ((a 5), .inl (cI, 12, .inl (f 3))), ((a 6), .inr (2, [.ref (a 7), .int (nI (nW g))])), ((a 7), .inl (cI, 24, .inl (f 4))), ((b 0), .inr (3, [.ref (b 1), .ref (b 2), .ref (b 3), .ref (b 4), .ref (b 6), .int (nI (nK g2)), .int (gc g2 4), .int (gc g2 7), .int (gc g2 10)])), ((b 1), .inl (cI, 216, .inl (f2 0))), ((b 2), .inl (cI, 24, .inl (f2 1))), ((b 3), .inl (cI, 4, .inl (f2 2))), ((b 4), .inr (2, [.ref (b 5), .int (nI (nT g2))])), ((b 5), .inl (cI, 12, .inl (f2 3))), ((b 6), .inr (2, [.ref (b 7), .int (nI (nW g2))])), ((b 7), .inl (cI, 24, .inl (f2 4)))] := hD
  refine lv_aload_n hx hb dX3_copyFrom_33 rfl (lv_at hl 0 rfl) ?_
  refine va_get (D := D) (ci := 3) (v := .ref (a 4)) (C := RX3) (T := TX3) (N := 9) hx hb hts inwX3_copyFrom_X3 hown hK hP 0 rfl rfl 3 (by decide) fl26 (fun _ h9 => h9) rfl dX3_copyFrom_34 ?_
  refine lv_aload_n hx hb dX3_copyFrom_37 rfl (lv_at hl 1 rfl) ?_
  refine va_get (D := D) (ci := 3) (v := .ref (b 4)) (C := RX3) (T := TX3) (N := 9) hx hb hts inwX3_copyFrom_X3 hown hK hP 8 rfl rfl 3 (by decide) fl26 (fun _ h9 => h9) rfl dX3_copyFrom_38 ?_
  refine kb_vV (As := [.ref (b 4)]) (rest := []) hx hb hml hts hown hN hK hP hD hS hA (c_X2_copyFrom l D cI (fun i => a (4 + i)) 12 (f 3) (nT g) (fun i => b (4 + i)) (f2 3) (nT g2) hn.2.1 (by decide)) gX3_copyFrom_X2_copyFrom rfl ⟨rfl, rfl⟩ hdX2_copyFrom ⟨Nat.le_of_ble_eq_true rfl, Nat.le_of_ble_eq_true rfl⟩ [4, 5, 12, 13] [0] rfl rfl rfl (ci := 2) rfl rfl rfl (fun _ => rfl) rfl rfl hl.1 (Nat.le_of_ble_eq_true rfl) dX3_copyFrom_41 ⟨Nat.zero_le _, Nat.zero_le _⟩ (fun u H locs hw_41 hP hD hS => ?_)
  have hw_41 : True := hw_41
  have hP : va_P D vwCl [((a 0), .inr (3, [.ref (a 1), .ref (a 2), .ref (a 3), .ref (a 4), .ref (a 6), .int (nI (nK g)), .int (gc g 4), .int (gc g 7), .int (gc g 10)])), ((a 1), .inl (cI, 216, .inl (f2 0))), ((a 2), .inl (cI, 24, .inl (f2 1))), ((a 3), .inl (cI, 4, .inl (f2 2))), ((a 4), .inr (2, [.ref (a 5), .int (nI (nT g2))])), ((a 5), .inl (cI, 12, .inl (f2 3))), ((a 6), .inr (2, [.ref (a 7), .int (nI (nW g))])), ((a 7), .inl (cI, 24, .inl (f 4))), ((b 0), .inr (3, [.ref (b 1), .ref (b 2), .ref (b 3), .ref (b 4), .ref (b 6), .int (nI (nK g2)), .int (gc g2 4), .int (gc g2 7), .int (gc g2 10)])), ((b 1), .inl (cI, 216, .inl (f2 0))), ((b 2), .inl (cI, 24, .inl (f2 1))), ((b 3), .inl (cI, 4, .inl (f2 2))), ((b 4), .inr (2, [.ref (b 5), .int (nI (nT g2))])), ((b 5), .inl (cI, 12, .inl (f2 3))), ((b 6), .inr (2, [.ref (b 7), .int (nI (nW g2))])), ((b 7), .inl (cI, 24, .inl (f2 4)))] H := hP
  have hD : va_D A [((a 0), .inr (3, [.ref (a 1), .ref (a 2), .ref (a 3), .ref (a 4), .ref (a 6), .int (nI (nK g)), .int (gc g 4), .int (gc g 7), .int (gc g 10)])), ((a 1), .inl (cI, 216, .inl (f2 0))), ((a 2), .inl (cI, 24, .inl (f2 1))), ((a 3), .inl (cI, 4, .inl (f2 2))), ((a 4), .inr (2, [.ref (a 5), .int (nI (nT g2))])), ((a 5), .inl (cI, 12, .inl (f2 3))), ((a 6), .inr (2, [.ref (a 7), .int (nI (nW g))])), ((a 7), .inl (cI, 24, .inl (f 4))), ((b 0), .inr (3, [.ref (b 1), .ref (b 2), .ref (b 3), .ref (b 4), .ref (b 6), .int (nI (nK g2)), .int (gc g2 4), .int (gc g2 7), .int (gc g2 10)])), ((b 1), .inl (cI, 216, .inl (f2 0))), ((b 2), .inl (cI, 24, .inl (f2 1))), ((b 3), .inl (cI, 4, .inl (f2 2))), ((b 4), .inr (2, [.ref (b 5), .int (nI (nT g2))])), ((b 5), .inl (cI, 12, .inl (f2 3))), ((b 6), .inr (2, [.ref (b 7), .int (nI (nW g2))])), ((b 7), .inl (cI, 24, .inl (f2 4)))] := hD
  refine lv_aload_n hx hb dX3_copyFrom_44 rfl (lv_at hl 0 rfl) ?_
  refine va_get (D := D) (ci := 3) (v := .ref (a 6)) (C := RX3) (T := TX3) (N := 9) hx hb hts inwX3_copyFrom_X3 hown hK hP 0 rfl rfl 4 (by decide) fl30 (fun _ h9 => h9) rfl dX3_copyFrom_45 ?_
  refine lv_aload_n hx hb dX3_copyFrom_48 rfl (lv_at hl 1 rfl) ?_
  refine va_get (D := D) (ci := 3) (v := .ref (b 6)) (C := RX3) (T := TX3) (N := 9) hx hb hts inwX3_copyFrom_X3 hown hK hP 8 rfl rfl 4 (by decide) fl30 (fun _ h9 => h9) rfl dX3_copyFrom_49 ?_
  refine kb_vV (As := [.ref (b 6)]) (rest := []) hx hb hml hts hown hN hK hP hD hS hA (c_X2_copyFrom l D cI (fun i => a (6 + i)) 24 (f 4) (nW g) (fun i => b (6 + i)) (f2 4) (nW g2) hn.2.2 (by decide)) gX3_copyFrom_X2_copyFrom rfl ⟨rfl, rfl⟩ hdX2_copyFrom ⟨Nat.le_of_ble_eq_true rfl, Nat.le_of_ble_eq_true rfl⟩ [6, 7, 14, 15] [0] rfl rfl rfl (ci := 2) rfl rfl rfl (fun _ => rfl) rfl rfl hl.1 (Nat.le_of_ble_eq_true rfl) dX3_copyFrom_52 ⟨Nat.zero_le _, Nat.zero_le _⟩ (fun u H locs hw_52 hP hD hS => ?_)
  have hw_52 : True := hw_52
  have hP : va_P D vwCl [((a 0), .inr (3, [.ref (a 1), .ref (a 2), .ref (a 3), .ref (a 4), .ref (a 6), .int (nI (nK g)), .int (gc g 4), .int (gc g 7), .int (gc g 10)])), ((a 1), .inl (cI, 216, .inl (f2 0))), ((a 2), .inl (cI, 24, .inl (f2 1))), ((a 3), .inl (cI, 4, .inl (f2 2))), ((a 4), .inr (2, [.ref (a 5), .int (nI (nT g2))])), ((a 5), .inl (cI, 12, .inl (f2 3))), ((a 6), .inr (2, [.ref (a 7), .int (nI (nW g2))])), ((a 7), .inl (cI, 24, .inl (f2 4))), ((b 0), .inr (3, [.ref (b 1), .ref (b 2), .ref (b 3), .ref (b 4), .ref (b 6), .int (nI (nK g2)), .int (gc g2 4), .int (gc g2 7), .int (gc g2 10)])), ((b 1), .inl (cI, 216, .inl (f2 0))), ((b 2), .inl (cI, 24, .inl (f2 1))), ((b 3), .inl (cI, 4, .inl (f2 2))), ((b 4), .inr (2, [.ref (b 5), .int (nI (nT g2))])), ((b 5), .inl (cI, 12, .inl (f2 3))), ((b 6), .inr (2, [.ref (b 7), .int (nI (nW g2))])), ((b 7), .inl (cI, 24, .inl (f2 4)))] H := hP
  have hD : va_D A [((a 0), .inr (3, [.ref (a 1), .ref (a 2), .ref (a 3), .ref (a 4), .ref (a 6), .int (nI (nK g)), .int (gc g 4), .int (gc g 7), .int (gc g 10)])), ((a 1), .inl (cI, 216, .inl (f2 0))), ((a 2), .inl (cI, 24, .inl (f2 1))), ((a 3), .inl (cI, 4, .inl (f2 2))), ((a 4), .inr (2, [.ref (a 5), .int (nI (nT g2))])), ((a 5), .inl (cI, 12, .inl (f2 3))), ((a 6), .inr (2, [.ref (a 7), .int (nI (nW g2))])), ((a 7), .inl (cI, 24, .inl (f2 4))), ((b 0), .inr (3, [.ref (b 1), .ref (b 2), .ref (b 3), .ref (b 4), .ref (b 6), .int (nI (nK g2)), .int (gc g2 4), .int (gc g2 7), .int (gc g2 10)])), ((b 1), .inl (cI, 216, .inl (f2 0))), ((b 2), .inl (cI, 24, .inl (f2 1))), ((b 3), .inl (cI, 4, .inl (f2 2))), ((b 4), .inr (2, [.ref (b 5), .int (nI (nT g2))])), ((b 5), .inl (cI, 12, .inl (f2 3))), ((b 6), .inr (2, [.ref (b 7), .int (nI (nW g2))])), ((b 7), .inl (cI, 24, .inl (f2 4)))] := hD
  refine lv_aload_n hx hb dX3_copyFrom_55 rfl (lv_at hl 0 rfl) ?_
  refine lv_aload_n hx hb dX3_copyFrom_56 rfl (lv_at hl 1 rfl) ?_
  refine va_get (D := D) (ci := 3) (v := .int (nI (nK g2))) (C := RX3) (T := TX3) (N := 9) hx hb hts inwX3_copyFrom_X3 hown hK hP 8 rfl rfl 5 (by decide) fl33 (fun _ h9 => h9) rfl dX3_copyFrom_57 ?_
  refine va_put (D := D) (ci := 3) (v := .int (nI (nK g2))) (ty := .int) (C := RX3) (T := TX3) (N := 9) hx hb hts inwX3_copyFrom_X3 tyX3 tyX3_ok nmX3 hown hK hP hD hS 0 rfl rfl 5 (by decide) fl33 (fun _ h9 => h9) rfl (by decide +kernel) rfl rfl (Nat.le_of_ble_eq_true rfl) dX3_copyFrom_60 (fun H locs hP hD hS => ?_)
  have hP : va_P D vwCl [((a 0), .inr (3, [.ref (a 1), .ref (a 2), .ref (a 3), .ref (a 4), .ref (a 6), .int (nI (nK g2)), .int (gc g 4), .int (gc g 7), .int (gc g 10)])), ((a 1), .inl (cI, 216, .inl (f2 0))), ((a 2), .inl (cI, 24, .inl (f2 1))), ((a 3), .inl (cI, 4, .inl (f2 2))), ((a 4), .inr (2, [.ref (a 5), .int (nI (nT g2))])), ((a 5), .inl (cI, 12, .inl (f2 3))), ((a 6), .inr (2, [.ref (a 7), .int (nI (nW g2))])), ((a 7), .inl (cI, 24, .inl (f2 4))), ((b 0), .inr (3, [.ref (b 1), .ref (b 2), .ref (b 3), .ref (b 4), .ref (b 6), .int (nI (nK g2)), .int (gc g2 4), .int (gc g2 7), .int (gc g2 10)])), ((b 1), .inl (cI, 216, .inl (f2 0))), ((b 2), .inl (cI, 24, .inl (f2 1))), ((b 3), .inl (cI, 4, .inl (f2 2))), ((b 4), .inr (2, [.ref (b 5), .int (nI (nT g2))])), ((b 5), .inl (cI, 12, .inl (f2 3))), ((b 6), .inr (2, [.ref (b 7), .int (nI (nW g2))])), ((b 7), .inl (cI, 24, .inl (f2 4)))] H := hP
  have hD : va_D A [((a 0), .inr (3, [.ref (a 1), .ref (a 2), .ref (a 3), .ref (a 4), .ref (a 6), .int (nI (nK g2)), .int (gc g 4), .int (gc g 7), .int (gc g 10)])), ((a 1), .inl (cI, 216, .inl (f2 0))), ((a 2), .inl (cI, 24, .inl (f2 1))), ((a 3), .inl (cI, 4, .inl (f2 2))), ((a 4), .inr (2, [.ref (a 5), .int (nI (nT g2))])), ((a 5), .inl (cI, 12, .inl (f2 3))), ((a 6), .inr (2, [.ref (a 7), .int (nI (nW g2))])), ((a 7), .inl (cI, 24, .inl (f2 4))), ((b 0), .inr (3, [.ref (b 1), .ref (b 2), .ref (b 3), .ref (b 4), .ref (b 6), .int (nI (nK g2)), .int (gc g2 4), .int (gc g2 7), .int (gc g2 10)])), ((b 1), .inl (cI, 216, .inl (f2 0))), ((b 2), .inl (cI, 24, .inl (f2 1))), ((b 3), .inl (cI, 4, .inl (f2 2))), ((b 4), .inr (2, [.ref (b 5), .int (nI (nT g2))])), ((b 5), .inl (cI, 12, .inl (f2 3))), ((b 6), .inr (2, [.ref (b 7), .int (nI (nW g2))])), ((b 7), .inl (cI, 24, .inl (f2 4)))] := hD
  refine lv_aload_n hx hb dX3_copyFrom_63 rfl (lv_at hl 0 rfl) ?_
  refine lv_aload_n hx hb dX3_copyFrom_64 rfl (lv_at hl 1 rfl) ?_
  refine va_get (D := D) (ci := 3) (v := .int (gc g2 4)) (C := RX3) (T := TX3) (N := 9) hx hb hts inwX3_copyFrom_X3 hown hK hP 8 rfl rfl 6 (by decide) fl37 (fun _ h9 => h9) rfl dX3_copyFrom_65 ?_
  refine va_put (D := D) (ci := 3) (v := .int (gc g2 4)) (ty := .int) (C := RX3) (T := TX3) (N := 9) hx hb hts inwX3_copyFrom_X3 tyX3 tyX3_ok nmX3 hown hK hP hD hS 0 rfl rfl 6 (by decide) fl37 (fun _ h9 => h9) rfl (by decide +kernel) rfl rfl (Nat.le_of_ble_eq_true rfl) dX3_copyFrom_68 (fun H locs hP hD hS => ?_)
  have hP : va_P D vwCl [((a 0), .inr (3, [.ref (a 1), .ref (a 2), .ref (a 3), .ref (a 4), .ref (a 6), .int (nI (nK g2)), .int (gc g2 4), .int (gc g 7), .int (gc g 10)])), ((a 1), .inl (cI, 216, .inl (f2 0))), ((a 2), .inl (cI, 24, .inl (f2 1))), ((a 3), .inl (cI, 4, .inl (f2 2))), ((a 4), .inr (2, [.ref (a 5), .int (nI (nT g2))])), ((a 5), .inl (cI, 12, .inl (f2 3))), ((a 6), .inr (2, [.ref (a 7), .int (nI (nW g2))])), ((a 7), .inl (cI, 24, .inl (f2 4))), ((b 0), .inr (3, [.ref (b 1), .ref (b 2), .ref (b 3), .ref (b 4), .ref (b 6), .int (nI (nK g2)), .int (gc g2 4), .int (gc g2 7), .int (gc g2 10)])), ((b 1), .inl (cI, 216, .inl (f2 0))), ((b 2), .inl (cI, 24, .inl (f2 1))), ((b 3), .inl (cI, 4, .inl (f2 2))), ((b 4), .inr (2, [.ref (b 5), .int (nI (nT g2))])), ((b 5), .inl (cI, 12, .inl (f2 3))), ((b 6), .inr (2, [.ref (b 7), .int (nI (nW g2))])), ((b 7), .inl (cI, 24, .inl (f2 4)))] H := hP
  have hD : va_D A [((a 0), .inr (3, [.ref (a 1), .ref (a 2), .ref (a 3), .ref (a 4), .ref (a 6), .int (nI (nK g2)), .int (gc g2 4), .int (gc g 7), .int (gc g 10)])), ((a 1), .inl (cI, 216, .inl (f2 0))), ((a 2), .inl (cI, 24, .inl (f2 1))), ((a 3), .inl (cI, 4, .inl (f2 2))), ((a 4), .inr (2, [.ref (a 5), .int (nI (nT g2))])), ((a 5), .inl (cI, 12, .inl (f2 3))), ((a 6), .inr (2, [.ref (a 7), .int (nI (nW g2))])), ((a 7), .inl (cI, 24, .inl (f2 4))), ((b 0), .inr (3, [.ref (b 1), .ref (b 2), .ref (b 3), .ref (b 4), .ref (b 6), .int (nI (nK g2)), .int (gc g2 4), .int (gc g2 7), .int (gc g2 10)])), ((b 1), .inl (cI, 216, .inl (f2 0))), ((b 2), .inl (cI, 24, .inl (f2 1))), ((b 3), .inl (cI, 4, .inl (f2 2))), ((b 4), .inr (2, [.ref (b 5), .int (nI (nT g2))])), ((b 5), .inl (cI, 12, .inl (f2 3))), ((b 6), .inr (2, [.ref (b 7), .int (nI (nW g2))])), ((b 7), .inl (cI, 24, .inl (f2 4)))] := hD
  refine lv_aload_n hx hb dX3_copyFrom_71 rfl (lv_at hl 0 rfl) ?_
  refine lv_aload_n hx hb dX3_copyFrom_72 rfl (lv_at hl 1 rfl) ?_
  refine va_get (D := D) (ci := 3) (v := .int (gc g2 7)) (C := RX3) (T := TX3) (N := 9) hx hb hts inwX3_copyFrom_X3 hown hK hP 8 rfl rfl 7 (by decide) fl40 (fun _ h9 => h9) rfl dX3_copyFrom_73 ?_
  refine va_put (D := D) (ci := 3) (v := .int (gc g2 7)) (ty := .int) (C := RX3) (T := TX3) (N := 9) hx hb hts inwX3_copyFrom_X3 tyX3 tyX3_ok nmX3 hown hK hP hD hS 0 rfl rfl 7 (by decide) fl40 (fun _ h9 => h9) rfl (by decide +kernel) rfl rfl (Nat.le_of_ble_eq_true rfl) dX3_copyFrom_76 (fun H locs hP hD hS => ?_)
  have hP : va_P D vwCl [((a 0), .inr (3, [.ref (a 1), .ref (a 2), .ref (a 3), .ref (a 4), .ref (a 6), .int (nI (nK g2)), .int (gc g2 4), .int (gc g2 7), .int (gc g 10)])), ((a 1), .inl (cI, 216, .inl (f2 0))), ((a 2), .inl (cI, 24, .inl (f2 1))), ((a 3), .inl (cI, 4, .inl (f2 2))), ((a 4), .inr (2, [.ref (a 5), .int (nI (nT g2))])), ((a 5), .inl (cI, 12, .inl (f2 3))), ((a 6), .inr (2, [.ref (a 7), .int (nI (nW g2))])), ((a 7), .inl (cI, 24, .inl (f2 4))), ((b 0), .inr (3, [.ref (b 1), .ref (b 2), .ref (b 3), .ref (b 4), .ref (b 6), .int (nI (nK g2)), .int (gc g2 4), .int (gc g2 7), .int (gc g2 10)])), ((b 1), .inl (cI, 216, .inl (f2 0))), ((b 2), .inl (cI, 24, .inl (f2 1))), ((b 3), .inl (cI, 4, .inl (f2 2))), ((b 4), .inr (2, [.ref (b 5), .int (nI (nT g2))])), ((b 5), .inl (cI, 12, .inl (f2 3))), ((b 6), .inr (2, [.ref (b 7), .int (nI (nW g2))])), ((b 7), .inl (cI, 24, .inl (f2 4)))] H := hP
  have hD : va_D A [((a 0), .inr (3, [.ref (a 1), .ref (a 2), .ref (a 3), .ref (a 4), .ref (a 6), .int (nI (nK g2)), .int (gc g2 4), .int (gc g2 7), .int (gc g 10)])), ((a 1), .inl (cI, 216, .inl (f2 0))), ((a 2), .inl (cI, 24, .inl (f2 1))), ((a 3), .inl (cI, 4, .inl (f2 2))), ((a 4), .inr (2, [.ref (a 5), .int (nI (nT g2))])), ((a 5), .inl (cI, 12, .inl (f2 3))), ((a 6), .inr (2, [.ref (a 7), .int (nI (nW g2))])), ((a 7), .inl (cI, 24, .inl (f2 4))), ((b 0), .inr (3, [.ref (b 1), .ref (b 2), .ref (b 3), .ref (b 4), .ref (b 6), .int (nI (nK g2)), .int (gc g2 4), .int (gc g2 7), .int (gc g2 10)])), ((b 1), .inl (cI, 216, .inl (f2 0))), ((b 2), .inl (cI, 24, .inl (f2 1))), ((b 3), .inl (cI, 4, .inl (f2 2))), ((b 4), .inr (2, [.ref (b 5), .int (nI (nT g2))])), ((b 5), .inl (cI, 12, .inl (f2 3))), ((b 6), .inr (2, [.ref (b 7), .int (nI (nW g2))])), ((b 7), .inl (cI, 24, .inl (f2 4)))] := hD
  refine lv_aload_n hx hb dX3_copyFrom_79 rfl (lv_at hl 0 rfl) ?_
  refine lv_aload_n hx hb dX3_copyFrom_80 rfl (lv_at hl 1 rfl) ?_
  refine va_get (D := D) (ci := 3) (v := .int (gc g2 10)) (C := RX3) (T := TX3) (N := 9) hx hb hts inwX3_copyFrom_X3 hown hK hP 8 rfl rfl 8 (by decide) fl43 (fun _ h9 => h9) rfl dX3_copyFrom_81 ?_
  refine va_put (D := D) (ci := 3) (v := .int (gc g2 10)) (ty := .int) (C := RX3) (T := TX3) (N := 9) hx hb hts inwX3_copyFrom_X3 tyX3 tyX3_ok nmX3 hown hK hP hD hS 0 rfl rfl 8 (by decide) fl43 (fun _ h9 => h9) rfl (by decide +kernel) rfl rfl (Nat.le_of_ble_eq_true rfl) dX3_copyFrom_84 (fun H locs hP hD hS => ?_)
  have hP : va_P D vwCl [((a 0), .inr (3, [.ref (a 1), .ref (a 2), .ref (a 3), .ref (a 4), .ref (a 6), .int (nI (nK g2)), .int (gc g2 4), .int (gc g2 7), .int (gc g2 10)])), ((a 1), .inl (cI, 216, .inl (f2 0))), ((a 2), .inl (cI, 24, .inl (f2 1))), ((a 3), .inl (cI, 4, .inl (f2 2))), ((a 4), .inr (2, [.ref (a 5), .int (nI (nT g2))])), ((a 5), .inl (cI, 12, .inl (f2 3))), ((a 6), .inr (2, [.ref (a 7), .int (nI (nW g2))])), ((a 7), .inl (cI, 24, .inl (f2 4))), ((b 0), .inr (3, [.ref (b 1), .ref (b 2), .ref (b 3), .ref (b 4), .ref (b 6), .int (nI (nK g2)), .int (gc g2 4), .int (gc g2 7), .int (gc g2 10)])), ((b 1), .inl (cI, 216, .inl (f2 0))), ((b 2), .inl (cI, 24, .inl (f2 1))), ((b 3), .inl (cI, 4, .inl (f2 2))), ((b 4), .inr (2, [.ref (b 5), .int (nI (nT g2))])), ((b 5), .inl (cI, 12, .inl (f2 3))), ((b 6), .inr (2, [.ref (b 7), .int (nI (nW g2))])), ((b 7), .inl (cI, 24, .inl (f2 4)))] H := hP
  have hD : va_D A [((a 0), .inr (3, [.ref (a 1), .ref (a 2), .ref (a 3), .ref (a 4), .ref (a 6), .int (nI (nK g2)), .int (gc g2 4), .int (gc g2 7), .int (gc g2 10)])), ((a 1), .inl (cI, 216, .inl (f2 0))), ((a 2), .inl (cI, 24, .inl (f2 1))), ((a 3), .inl (cI, 4, .inl (f2 2))), ((a 4), .inr (2, [.ref (a 5), .int (nI (nT g2))])), ((a 5), .inl (cI, 12, .inl (f2 3))), ((a 6), .inr (2, [.ref (a 7), .int (nI (nW g2))])), ((a 7), .inl (cI, 24, .inl (f2 4))), ((b 0), .inr (3, [.ref (b 1), .ref (b 2), .ref (b 3), .ref (b 4), .ref (b 6), .int (nI (nK g2)), .int (gc g2 4), .int (gc g2 7), .int (gc g2 10)])), ((b 1), .inl (cI, 216, .inl (f2 0))), ((b 2), .inl (cI, 24, .inl (f2 1))), ((b 3), .inl (cI, 4, .inl (f2 2))), ((b 4), .inr (2, [.ref (b 5), .int (nI (nT g2))])), ((b 5), .inl (cI, 12, .inl (f2 3))), ((b 6), .inr (2, [.ref (b 7), .int (nI (nW g2))])), ((b 7), .inl (cI, 24, .inl (f2 4)))] := hD
  exact kb_vret (D := D) hQ hx hb hr hlocks hK hP hD hS dX3_copyFrom_87 () rfl (Nat.le_refl _) (Nat.le_refl _) (show True from trivial)
