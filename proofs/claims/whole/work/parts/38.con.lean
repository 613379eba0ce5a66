abbrev rmX2_init : Room := { frames := 1, cells := 1, slots := 24, locals := 40 }
theorem hdX2_init : yX2_init.cls = RX2 ∧ yX2_init.cls ≠ "java/lang/invoke/MethodHandle" ∧ yX2_init.cls ≠ "java/lang/invoke/VarHandle" ∧ (parseMethodDescriptor yX2_init.desc).map (fun d => d.parameters.length) = some 1 := by decide +kernel
theorem inwX2_init_X2 : ∀ w ∈ wsX20, w ∈ wsX2_init := fun w h => List.mem_cons_of_mem _ (List.mem_append_right _ h)
set_option maxHeartbeats 4000000 in
set_option maxRecDepth 100000 in
theorem c_X2_init (l : Launch) (D : va_G) (cI : ClassId) (q : Nat) (cap : Nat) (hc : cap ≤ 24) : kb_VT (S := (Nat → Nat)) D [(cI, .int)] l yX2_init wsX2_init rmX2_init [.ref q, .int (nI cap)] [(q, .inr (2, [.null, .int (nI 0)]))] (fun u => u 0 = q) (fun u => [((u 0), .inr (2, [.ref (u 1), .int (nI 0)])), ((u 1), .inl (cI, cap, .inl (fun _ => nI 0)))]) (fun u => []) 1 24 := by
  refine kb_VT_of (cc := cX2_init) (maxL := 2) (ret := none) (by decide) rfl (Nat.le_of_ble_eq_true rfl) ?_
  intro p e s mm args below meth c A hx hb hml hr hts hown hlocks hnm hA hN hK hP hD hS ls hl Q hQ
  have hl : lv_has ls 2 [(0, .ref q), (1, .int (nI cap))] := hl
  have hP : va_P D vwCl [(q, .inr (2, [.null, .int (nI 0)]))] s.heap := hP
  have hD : va_D A [(q, .inr (2, [.null, .int (nI 0)]))] := hD
  have fl15 := hts (.fieldLink RX2 15 "KingsBanquet$Row" "members" "[I") (by decide +kernel)
  have fl21 := hts (.fieldLink RX2 21 "KingsBanquet$Row" "size" "I") (by decide +kernel)
  refine lv_aload_n hx hb dX2_init_0 rfl (lv_at hl 0 rfl) ?_
  refine W.objInit hx hb hown (hts (.methodLink RX2 3 objectInit) (by decide +kernel)) (hts (.instanceMethod objectInit) (by decide +kernel)) (hts (.code objectInit ⟨#[0xb1]⟩ 1 none) (by decide +kernel)) rfl (hl.1.trans hml.symm) rfl dX2_init_1 (Nat.le_of_ble_eq_true rfl) (Nat.le_of_ble_eq_true rfl) ?_
  refine lv_aload_n hx hb dX2_init_4 rfl (lv_at hl 0 rfl) ?_
  refine lv_iload_n hx hb dX2_init_5 rfl (lv_at hl 1 rfl) ?_
  refine lv_iconst (v := nI 0) hx hb dX2_init_6 (by decide) ?_
  refine va_mmax hx hb (hml.trans hl.1.symm) hown (hts (.methodLink RX2 9 Lib.Math.max.name) (by decide +kernel)) (hts (.static Lib.Math.max.name) (by decide +kernel)) (hts (.initialized "java/lang/Math") (by decide +kernel)) (hts (.code Lib.Math.max.name Lib.Math.max.code 2 (some .int)) (by decide +kernel)) (Nat.le_of_ble_eq_true rfl) (Nat.le_of_ble_eq_true rfl) (Nat.zero_le _) (Nat.zero_le _) dX2_init_7 ?_
  refine kb_top (nI cap) (kb_max0 (by omega)) ?_
  refine kb_newi hx hb (hts (.arrayClass .int) (by decide +kernel)) hK hP hD hS hA 0 rfl (N := cap) (by omega) (Nat.le_of_ble_eq_true rfl) (by show _ ≤ 24; omega) dX2_init_10 (fun q_10 H hP hD hS => ?_)
  have hP : va_P D vwCl [(q, .inr (2, [.null, .int (nI 0)])), (q_10, .inl (cI, cap, .inl (fun _ => nI 0)))] H := hP
  have hD : va_D A [(q, .inr (2, [.null, .int (nI 0)])), (q_10, .inl (cI, cap, .inl (fun _ => nI 0)))] := hD
  refine va_putF (D := D) (ci := 2) (v := .ref q_10) (ty := (tyX2 0)) (C := RX2) (T := TX2) (N := 2) hx hb hts inwX2_init_X2 tyX2 tyX2_ok nmX2 hown hK hP hD hS 0 rfl rfl 0 (by decide) fl15 (fun _ h9 => h9) rfl hnm rfl (by decide +kernel) rfl rfl (Nat.le_of_ble_eq_true rfl) dX2_init_12 (fun H locs hP hD hS => ?_)
  have hP : va_P D vwCl [(q, .inr (2, [.ref q_10, .int (nI 0)])), (q_10, .inl (cI, cap, .inl (fun _ => nI 0)))] H := hP
  have hD : va_D A [(q, .inr (2, [.ref q_10, .int (nI 0)])), (q_10, .inl (cI, cap, .inl (fun _ => nI 0)))] := hD
  refine lv_aload_n hx hb dX2_init_15 rfl (lv_at hl 0 rfl) ?_
  refine lv_iconst (v := nI 0) hx hb dX2_init_16 (by decide) ?_
  refine va_put (D := D) (ci := 2) (v := .int (nI 0)) (ty := .int) (C := RX2) (T := TX2) (N := 2) hx hb hts inwX2_init_X2 tyX2 tyX2_ok nmX2 hown hK hP hD hS 0 rfl rfl 1 (by decide) fl21 (fun _ h9 => h9) rfl (by decide +kernel) rfl rfl (Nat.le_of_ble_eq_true rfl) dX2_init_17 (fun H locs hP hD hS => ?_)
  have hP : va_P D vwCl [(q, .inr (2, [.ref q_10, .int (nI 0)])), (q_10, .inl (cI, cap, .inl (fun _ => nI 0)))] H := hP
  have hD : va_D A [(q, .inr (2, [.ref q_10, .int (nI 0)])), (q_10, .inl (cI, cap, .inl (fun _ => nI 0)))] := hD
  exact kb_vretT (D := D) hQ hx hb hr hlocks hK hP hD hS dX2_init_20 (kaL [q, q_10]) rfl [] rfl (Nat.le_of_ble_eq_true rfl) (by show _ ≤ 24; omega) (show (kaL [q, q_10]) 0 = q from rfl)
abbrev rmX3_init : Room := { frames := 2, cells := 7, slots := 296, locals := 61 }
theorem hdX3_init : yX3_init.cls = RX3 ∧ yX3_init.cls ≠ "java/lang/invoke/MethodHandle" ∧ yX3_init.cls ≠ "java/lang/invoke/VarHandle" ∧ (parseMethodDescriptor yX3_init.desc).map (fun d => d.parameters.length) = some 0 := by decide +kernel
theorem inwX3_init_X3 : ∀ w ∈ wsX30, w ∈ wsX3_init := fun w h => List.mem_cons_of_mem _ (List.mem_append_left _ (List.mem_append_right _ h))
theorem inwX3_init_X2 : ∀ w ∈ wsX20, w ∈ wsX3_init := fun w h => List.mem_cons_of_mem _ (List.mem_append_right _ h)
set_option maxHeartbeats 4000000 in
set_option maxRecDepth 100000 in
theorem c_X3_init (l : Launch) (D : va_G) (cI : ClassId) (q : Nat) : kb_VT (S := (Nat → Nat) × (Nat → Nat → Int32)) D [(cI, .int)] l yX3_init wsX3_init rmX3_init [.ref q] [(q, .inr (3, [.null, .null, .null, .null, .null, .int (nI 0), .int (nI 0), .int (nI 0), .int (nI 0)]))] (fun u => u.1 0 = q ∧ sO u.2 gI) (fun u => [((u.1 0), .inr (3, [.ref (u.1 1), .ref (u.1 2), .ref (u.1 3), .ref (u.1 4), .ref (u.1 6), .int (nI (nK gI)), .int (gc gI 4), .int (gc gI 7), .int (gc gI 10)])), ((u.1 1), .inl (cI, 216, .inl (u.2 0))), ((u.1 2), .inl (cI, 24, .inl (u.2 1))), ((u.1 3), .inl (cI, 4, .inl (u.2 2))), ((u.1 4), .inr (2, [.ref (u.1 5), .int (nI (nT gI))])), ((u.1 5), .inl (cI, 12, .inl (u.2 3))), ((u.1 6), .inr (2, [.ref (u.1 7), .int (nI (nW gI))])), ((u.1 7), .inl (cI, 24, .inl (u.2 4)))]) (fun u => []) 7 296 := by
  refine kb_VT_of (cc := cX3_init) (maxL := 1) (ret := none) (by decide) rfl (Nat.le_of_ble_eq_true rfl) ?_
  intro p e s mm args below meth c A hx hb hml hr hts hown hlocks hnm hA hN hK hP hD hS ls hl Q hQ
  have hl : lv_has ls 1 [(0, .ref q)] := hl
  have hP : va_P D vwCl [(q, .inr (3, [.null, .null, .null, .null, .null, .int (nI 0), .int (nI 0), .int (nI 0), .int (nI 0)]))] s.heap := hP
  have hD : va_D A [(q, .inr (3, [.null, .null, .null, .null, .null, .int (nI 0), .int (nI 0), .int (nI 0), .int (nI 0)]))] := hD
  have fl9 := hts (.fieldLink RX3 9 "KingsBanquet$State" "facts" "[I") (by decide +kernel)
  have fl15 := hts (.fieldLink RX3 15 "KingsBanquet$State" "worths" "[I") (by decide +kernel)
  have fl18 := hts (.fieldLink RX3 18 "KingsBanquet$State" "settings" "[I") (by decide +kernel)
  have fl26 := hts (.fieldLink RX3 26 "KingsBanquet$State" "table" "LKingsBanquet$Row;") (by decide +kernel)
  have fl30 := hts (.fieldLink RX3 30 "KingsBanquet$State" "hall" "LKingsBanquet$Row;") (by decide +kernel)
  have fl33 := hts (.fieldLink RX3 33 "KingsBanquet$State" "kings" "I") (by decide +kernel)
  have fl37 := hts (.fieldLink RX3 37 "KingsBanquet$State" "minute" "I") (by decide +kernel)
  have fl40 := hts (.fieldLink RX3 40 "KingsBanquet$State" "rounds" "I") (by decide +kernel)
  have fl43 := hts (.fieldLink RX3 43 "KingsBanquet$State" "changes" "I") (by decide +kernel)
  refine lv_aload_n hx hb dX3_init_0 rfl (lv_at hl 0 rfl) ?_
  refine W.objInit hx hb hown (hts (.methodLink RX3 3 objectInit) (by decide +kernel)) (hts (.instanceMethod objectInit) (by decide +kernel)) (hts (.code objectInit ⟨#[0xb1]⟩ 1 none) (by decide +kernel)) rfl (hl.1.trans hml.symm) rfl dX3_init_1 (Nat.le_of_ble_eq_true rfl) (Nat.le_of_ble_eq_true rfl) ?_
  refine lv_aload_n hx hb dX3_init_4 rfl (lv_at hl 0 rfl) ?_
  refine lv_sipush (v := nI 216) hx hb dX3_init_5 (by decide) ?_
  refine kb_newi hx hb (hts (.arrayClass .int) (by decide +kernel)) hK hP hD hS hA 0 rfl (N := 216) (by decide) (Nat.le_of_ble_eq_true rfl) (Nat.le_of_ble_eq_true rfl) dX3_init_8 (fun q_8 H hP hD hS => ?_)
  have hP : va_P D vwCl [(q, .inr (3, [.null, .null, .null, .null, .null, .int (nI 0), .int (nI 0), .int (nI 0), .int (nI 0)])), (q_8, .inl (cI, 216, .inl (fun _ => nI 0)))] H := hP
  have hD : va_D A [(q, .inr (3, [.null, .null, .null, .null, .null, .int (nI 0), .int (nI 0), .int (nI 0), .int (nI 0)])), (q_8, .inl (cI, 216, .inl (fun _ => nI 0)))] := hD
  refine va_putF (D := D) (ci := 3) (v := .ref q_8) (ty := (tyX3 0)) (C := RX3) (T := TX3) (N := 9) hx hb hts inwX3_init_X3 tyX3 tyX3_ok nmX3 hown hK hP hD hS 0 rfl rfl 0 (by decide) fl9 (fun _ h9 => h9) rfl hnm rfl (by decide +kernel) rfl rfl (Nat.le_of_ble_eq_true rfl) dX3_init_10 (fun H locs hP hD hS => ?_)
  have hP : va_P D vwCl [(q, .inr (3, [.ref q_8, .null, .null, .null, .null, .int (nI 0), .int (nI 0), .int (nI 0), .int (nI 0)])), (q_8, .inl (cI, 216, .inl (fun _ => nI 0)))] H := hP
  have hD : va_D A [(q, .inr (3, [.ref q_8, .null, .null, .null, .null, .int (nI 0), .int (nI 0), .int (nI 0), .int (nI 0)])), (q_8, .inl (cI, 216, .inl (fun _ => nI 0)))] := hD
  refine lv_aload_n hx hb dX3_init_13 rfl (lv_at hl 0 rfl) ?_
  refine lv_bipush (v := nI 24) hx hb dX3_init_14 (by decide) ?_
  refine kb_newi hx hb (hts (.arrayClass .int) (by decide +kernel)) hK hP hD hS hA 0 rfl (N := 24) (by decide) (Nat.le_of_ble_eq_true rfl) (Nat.le_of_ble_eq_true rfl) dX3_init_16 (fun q_16 H hP hD hS => ?_)
  have hP : va_P D vwCl [(q, .inr (3, [.ref q_8, .null, .null, .null, .null, .int (nI 0), .int (nI 0), .int (nI 0), .int (nI 0)])), (q_8, .inl (cI, 216, .inl (fun _ => nI 0))), (q_16, .inl (cI, 24, .inl (fun _ => nI 0)))] H := hP
  have hD : va_D A [(q, .inr (3, [.ref q_8, .null, .null, .null, .null, .int (nI 0), .int (nI 0), .int (nI 0), .int (nI 0)])), (q_8, .inl (cI, 216, .inl (fun _ => nI 0))), (q_16, .inl (cI, 24, .inl (fun _ => nI 0)))] := hD
  refine va_putF (D := D) (ci := 3) (v := .ref q_16) (ty := (tyX3 1)) (C := RX3) (T := TX3) (N := 9) hx hb hts inwX3_init_X3 tyX3 tyX3_ok nmX3 hown hK hP hD hS 0 rfl rfl 1 (by decide) fl15 (fun _ h9 => h9) rfl hnm rfl (by decide +kernel) rfl rfl (Nat.le_of_ble_eq_true rfl) dX3_init_18 (fun H locs hP hD hS => ?_)
  have hP : va_P D vwCl [(q, .inr (3, [.ref q_8, .ref q_16, .null, .null, .null, .int (nI 0), .int (nI 0), .int (nI 0), .int (nI 0)])), (q_8, .inl (cI, 216, .inl (fun _ => nI 0))), (q_16, .inl (cI, 24, .inl (fun _ => nI 0)))] H := hP
  have hD : va_D A [(q, .inr (3, [.ref q_8, .ref q_16, .null, .null, .null, .int (nI 0), .int (nI 0), .int (nI 0), .int (nI 0)])), (q_8, .inl (cI, 216, .inl (fun _ => nI 0))), (q_16, .inl (cI, 24, .inl (fun _ => nI 0)))] := hD
  refine lv_aload_n hx hb dX3_init_21 rfl (lv_at hl 0 rfl) ?_
  refine lv_iconst (v := nI 4) hx hb dX3_init_22 (by decide) ?_
  refine kb_newi hx hb (hts (.arrayClass .int) (by decide +kernel)) hK hP hD hS hA 0 rfl (N := 4) (by decide) (Nat.le_of_ble_eq_true rfl) (Nat.le_of_ble_eq_true rfl) dX3_init_23 (fun q_23 H hP hD hS => ?_)
  have hP : va_P D vwCl [(q, .inr (3, [.ref q_8, .ref q_16, .null, .null, .null, .int (nI 0), .int (nI 0), .int (nI 0), .int (nI 0)])), (q_8, .inl (cI, 216, .inl (fun _ => nI 0))), (q_16, .inl (cI, 24, .inl (fun _ => nI 0))), (q_23, .inl (cI, 4, .inl (fun _ => nI 0)))] H := hP
  have hD : va_D A [(q, .inr (3, [.ref q_8, .ref q_16, .null, .null, .null, .int (nI 0), .int (nI 0), .int (nI 0), .int (nI 0)])), (q_8, .inl (cI, 216, .inl (fun _ => nI 0))), (q_16, .inl (cI, 24, .inl (fun _ => nI 0))), (q_23, .inl (cI, 4, .inl (fun _ => nI 0)))] := hD
  refine lv_dup hx hb dX3_init_25 rfl ?_
  refine lv_iconst (v := nI 0) hx hb dX3_init_26 (by decide) ?_
  refine lv_bipush (v := nI 8) hx hb dX3_init_27 (by decide) ?_
  refine kb_iast hx hb hK hP hD hS 3 0 rfl rfl (by decide) (by omega) dX3_init_29 (fun H locs hP hD hS => ?_)
  have hP : va_P D vwCl [(q, .inr (3, [.ref q_8, .ref q_16, .null, .null, .null, .int (nI 0), .int (nI 0), .int (nI 0), .int (nI 0)])), (q_8, .inl (cI, 216, .inl (fun _ => nI 0))), (q_16, .inl (cI, 24, .inl (fun _ => nI 0))), (q_23, .inl (cI, 4, .inl (upd (fun _ => nI 0) 0 (nI 8))))] H := hP
  have hD : va_D A [(q, .inr (3, [.ref q_8, .ref q_16, .null, .null, .null, .int (nI 0), .int (nI 0), .int (nI 0), .int (nI 0)])), (q_8, .inl (cI, 216, .inl (fun _ => nI 0))), (q_16, .inl (cI, 24, .inl (fun _ => nI 0))), (q_23, .inl (cI, 4, .inl (upd (fun _ => nI 0) 0 (nI 8))))] := hD
  refine lv_dup hx hb dX3_init_30 rfl ?_
  refine lv_iconst (v := nI 1) hx hb dX3_init_31 (by decide) ?_
  refine lv_bipush (v := nI 10) hx hb dX3_init_32 (by decide) ?_
  refine kb_iast hx hb hK hP hD hS 3 0 rfl rfl (by decide) (by omega) dX3_init_34 (fun H locs hP hD hS => ?_)
  have hP : va_P D vwCl [(q, .inr (3, [.ref q_8, .ref q_16, .null, .null, .null, .int (nI 0), .int (nI 0), .int (nI 0), .int (nI 0)])), (q_8, .inl (cI, 216, .inl (fun _ => nI 0))), (q_16, .inl (cI, 24, .inl (fun _ => nI 0))), (q_23, .inl (cI, 4, .inl (upd (upd (fun _ => nI 0) 0 (nI 8)) 1 (nI 10))))] H := hP
  have hD : va_D A [(q, .inr (3, [.ref q_8, .ref q_16, .null, .null, .null, .int (nI 0), .int (nI 0), .int (nI 0), .int (nI 0)])), (q_8, .inl (cI, 216, .inl (fun _ => nI 0))), (q_16, .inl (cI, 24, .inl (fun _ => nI 0))), (q_23, .inl (cI, 4, .inl (upd (upd (fun _ => nI 0) 0 (nI 8)) 1 (nI 10))))] := hD
  refine lv_dup hx hb dX3_init_35 rfl ?_
  refine lv_iconst (v := nI 2) hx hb dX3_init_36 (by decide) ?_
  refine lv_iconst (v := nI 3) hx hb dX3_init_37 (by decide) ?_
  refine kb_iast hx hb hK hP hD hS 3 0 rfl rfl (by decide) (by omega) dX3_init_38 (fun H locs hP hD hS => ?_)
  have hP : va_P D vwCl [(q, .inr (3, [.ref q_8, .ref q_16, .null, .null, .null, .int (nI 0), .int (nI 0), .int (nI 0), .int (nI 0)])), (q_8, .inl (cI, 216, .inl (fun _ => nI 0))), (q_16, .inl (cI, 24, .inl (fun _ => nI 0))), (q_23, .inl (cI, 4, .inl (upd (upd (upd (fun _ => nI 0) 0 (nI 8)) 1 (nI 10)) 2 (nI 3))))] H := hP
  have hD : va_D A [(q, .inr (3, [.ref q_8, .ref q_16, .null, .null, .null, .int (nI 0), .int (nI 0), .int (nI 0), .int (nI 0)])), (q_8, .inl (cI, 216, .inl (fun _ => nI 0))), (q_16, .inl (cI, 24, .inl (fun _ => nI 0))), (q_23, .inl (cI, 4, .inl (upd (upd (upd (fun _ => nI 0) 0 (nI 8)) 1 (nI 10)) 2 (nI 3))))] := hD
  refine lv_dup hx hb dX3_init_39 rfl ?_
  refine lv_iconst (v := nI 3) hx hb dX3_init_40 (by decide) ?_
  refine lv_iconst (v := nI 4) hx hb dX3_init_41 (by decide) ?_
  refine kb_iast hx hb hK hP hD hS 3 0 rfl rfl (by decide) (by omega) dX3_init_42 (fun H locs hP hD hS => ?_)
  have hP : va_P D vwCl [(q, .inr (3, [.ref q_8, .ref q_16, .null, .null, .null, .int (nI 0), .int (nI 0), .int (nI 0), .int (nI 0)])), (q_8, .inl (cI, 216, .inl (fun _ => nI 0))), (q_16, .inl (cI, 24, .inl (fun _ => nI 0))), (q_23, .inl (cI, 4, .inl (upd (upd (upd (upd (fun _ => nI 0) 0 (nI 8)) 1 (nI 10)) 2 (nI 3)) 3 (nI 4))))] H := hP
  have hD : va_D A [(q, .inr (3, [.ref q_8, .ref q_16, .null, .null, .null, .int (nI 0), .int (nI 0), .int (nI 0), .int (nI 0)])), (q_8, .inl (cI, 216, .inl (fun _ => nI 0))), (q_16, .inl (cI, 24, .inl (fun _ => nI 0))), (q_23, .inl (cI, 4, .inl (upd (upd (upd (upd (fun _ => nI 0) 0 (nI 8)) 1 (nI 10)) 2 (nI 3)) 3 (nI 4))))] := hD
  refine va_putF (D := D) (ci := 3) (v := .ref q_23) (ty := (tyX3 2)) (C := RX3) (T := TX3) (N := 9) hx hb hts inwX3_init_X3 tyX3 tyX3_ok nmX3 hown hK hP hD hS 0 rfl rfl 2 (by decide) fl18 (fun _ h9 => h9) rfl hnm rfl (by decide +kernel) rfl rfl (Nat.le_of_ble_eq_true rfl) dX3_init_43 (fun H locs hP hD hS => ?_)
  have hP : va_P D vwCl [(q, .inr (3, [.ref q_8, .ref q_16, .ref q_23, .null, .null, .int (nI 0), .int (nI 0), .int (nI 0), .int (nI 0)])), (q_8, .inl (cI, 216, .inl (fun _ => nI 0))), (q_16, .inl (cI, 24, .inl (fun _ => nI 0))), (q_23, .inl (cI, 4, .inl (upd (upd (upd (upd (fun _ => nI 0) 0 (nI 8)) 1 (nI 10)) 2 (nI 3)) 3 (nI 4))))] H := hP
  have hD : va_D A [(q, .inr (3, [.ref q_8, .ref q_16, .ref q_23, .null, .null, .int (nI 0), .int (nI 0), .int (nI 0), .int (nI 0)])), (q_8, .inl (cI, 216, .inl (fun _ => nI 0))), (q_16, .inl (cI, 24, .inl (fun _ => nI 0))), (q_23, .inl (cI, 4, .inl (upd (upd (upd (upd (fun _ => nI 0) 0 (nI 8)) 1 (nI 10)) 2 (nI 3)) 3 (nI 4))))] := hD
  refine lv_aload_n hx hb dX3_init_46 rfl (lv_at hl 0 rfl) ?_
  refine va_new (D := D) (ci := 2) (fs := [.null, .int (nI 0)]) (C := RX2) (T := TX2) (N := 2) hx hb hts inwX3_init_X2 tyX2 tyX2_ok hown (hts (.classLink RX3 21 RX2) (by decide +kernel)) (hts (.instantiable RX2 2) (by decide +kernel)) (hts (.initialized RX2) (by decide +kernel)) hK hP hD hS hA rfl (fun j hj => by rcases (by omega : j = 0 ∨ j = 1) with rfl | rfl <;> rfl) (Nat.le_of_ble_eq_true rfl) (Nat.le_of_ble_eq_true rfl) dX3_init_47 (fun q_47 H hP hD hS => ?_)
  have hP : va_P D vwCl [(q, .inr (3, [.ref q_8, .ref q_16, .ref q_23, .null, .null, .int (nI 0), .int (nI 0), .int (nI 0), .int (nI 0)])), (q_8, .inl (cI, 216, .inl (fun _ => nI 0))), (q_16, .inl (cI, 24, .inl (fun _ => nI 0))), (q_23, .inl (cI, 4, .inl (upd (upd (upd (upd (fun _ => nI 0) 0 (nI 8)) 1 (nI 10)) 2 (nI 3)) 3 (nI 4)))), (q_47, .inr (2, [.null, .int (nI 0)]))] H := hP
  have hD : va_D A [(q, .inr (3, [.ref q_8, .ref q_16, .ref q_23, .null, .null, .int (nI 0), .int (nI 0), .int (nI 0), .int (nI 0)])), (q_8, .inl (cI, 216, .inl (fun _ => nI 0))), (q_16, .inl (cI, 24, .inl (fun _ => nI 0))), (q_23, .inl (cI, 4, .inl (upd (upd (upd (upd (fun _ => nI 0) 0 (nI 8)) 1 (nI 10)) 2 (nI 3)) 3 (nI 4)))), (q_47, .inr (2, [.null, .int (nI 0)]))] := hD
  refine lv_dup hx hb dX3_init_50 rfl ?_
  refine lv_bipush (v := nI 12) hx hb dX3_init_51 (by decide) ?_
  refine kb_iV (As := [.int (nI 12)]) (rest := [.ref q_47, .ref q]) (wr := [(q, .inr (3, [.ref q_8, .ref q_16, .ref q_23, .null, .null, .int (nI 0), .int (nI 0), .int (nI 0), .int (nI 0)])), (q_8, .inl (cI, 216, .inl (fun _ => nI 0))), (q_16, .inl (cI, 24, .inl (fun _ => nI 0))), (q_23, .inl (cI, 4, .inl (upd (upd (upd (upd (fun _ => nI 0) 0 (nI 8)) 1 (nI 10)) 2 (nI 3)) 3 (nI 4))))]) hx hb hml hts hown hN hK hP hD hS hA (c_X2_init l D cI q_47 12 (by decide)) gX3_init_X2_init rfl ⟨rfl, rfl⟩ (hts (.initialized RX2) (by decide +kernel)) (hts (.methodLink RX3 23 yX2_init) (by decide +kernel)) (hts (.instanceMethod yX2_init) (by decide +kernel)) rfl hdX2_init.2 ⟨(Nat.le_of_ble_eq_true rfl), (Nat.le_of_ble_eq_true rfl)⟩ [4] [0] [0, 1, 2, 3] rfl rfl rfl rfl (by decide) (by decide) rfl rfl hl.1 (Nat.le_of_ble_eq_true rfl) dX3_init_53 ⟨(Nat.le_of_ble_eq_true rfl), (Nat.le_of_ble_eq_true rfl)⟩ (fun u H locs hw hK hP2 hD2 hS => ?_)
  obtain ⟨bo_53, rfl⟩ : ∃ z, z = u := ⟨_, rfl⟩
  have hw_bo_53 : bo_53 0 = q_47 := hw
  have ha_hw_bo_53 : bo_53 0 = q_47 := hw_bo_53
  clear hP hD
  subst ha_hw_bo_53
  have hP := hP2
  have hD := hD2
  clear hP2 hD2
  have hK : va_K D vwCl [(cI, .int)] s := hK
  have hl : lv_has ls 1 [(0, .ref q)] := hl
  have hP : va_P D vwCl [(q, .inr (3, [.ref q_8, .ref q_16, .ref q_23, .null, .null, .int (nI 0), .int (nI 0), .int (nI 0), .int (nI 0)])), (q_8, .inl (cI, 216, .inl (fun _ => nI 0))), (q_16, .inl (cI, 24, .inl (fun _ => nI 0))), (q_23, .inl (cI, 4, .inl (upd (upd (upd (upd (fun _ => nI 0) 0 (nI 8)) 1 (nI 10)) 2 (nI 3)) 3 (nI 4)))), ((bo_53 0), .inr (2, [.ref (bo_53 1), .int (nI 0)])), ((bo_53 1), .inl (cI, 12, .inl (fun _ => nI 0)))] H := hP
  have hD : va_D A [(q, .inr (3, [.ref q_8, .ref q_16, .ref q_23, .null, .null, .int (nI 0), .int (nI 0), .int (nI 0), .int (nI 0)])), (q_8, .inl (cI, 216, .inl (fun _ => nI 0))), (q_16, .inl (cI, 24, .inl (fun _ => nI 0))), (q_23, .inl (cI, 4, .inl (upd (upd (upd (upd (fun _ => nI 0) 0 (nI 8)) 1 (nI 10)) 2 (nI 3)) 3 (nI 4)))), ((bo_53 0), .inr (2, [.ref (bo_53 1), .int (nI 0)])), ((bo_53 1), .inl (cI, 12, .inl (fun _ => nI 0)))] := hD
  refine va_putF (D := D) (ci := 3) (v := .ref (bo_53 0)) (ty := (tyX3 3)) (C := RX3) (T := TX3) (N := 9) hx hb hts inwX3_init_X3 tyX3 tyX3_ok nmX3 hown hK hP hD hS 0 rfl rfl 3 (by decide) fl26 (fun _ h9 => h9) rfl hnm rfl (by decide +kernel) rfl rfl (Nat.le_of_ble_eq_true rfl) dX3_init_56 (fun H locs hP hD hS => ?_)
  have hP : va_P D vwCl [(q, .inr (3, [.ref q_8, .ref q_16, .ref q_23, .ref (bo_53 0), .null, .int (nI 0), .int (nI 0), .int (nI 0), .int (nI 0)])), (q_8, .inl (cI, 216, .inl (fun _ => nI 0))), (q_16, .inl (cI, 24, .inl (fun _ => nI 0))), (q_23, .inl (cI, 4, .inl (upd (upd (upd (upd (fun _ => nI 0) 0 (nI 8)) 1 (nI 10)) 2 (nI 3)) 3 (nI 4)))), ((bo_53 0), .inr (2, [.ref (bo_53 1), .int (nI 0)])), ((bo_53 1), .inl (cI, 12, .inl (fun _ => nI 0)))] H := hP
  have hD : va_D A [(q, .inr (3, [.ref q_8, .ref q_16, .ref q_23, .ref (bo_53 0), .null, .int (nI 0), .int (nI 0), .int (nI 0), .int (nI 0)])), (q_8, .inl (cI, 216, .inl (fun _ => nI 0))), (q_16, .inl (cI, 24, .inl (fun _ => nI 0))), (q_23, .inl (cI, 4, .inl (upd (upd (upd (upd (fun _ => nI 0) 0 (nI 8)) 1 (nI 10)) 2 (nI 3)) 3 (nI 4)))), ((bo_53 0), .inr (2, [.ref (bo_53 1), .int (nI 0)])), ((bo_53 1), .inl (cI, 12, .inl (fun _ => nI 0)))] := hD
  refine lv_aload_n hx hb dX3_init_59 rfl (lv_at hl 0 rfl) ?_
  refine va_new (D := D) (ci := 2) (fs := [.null, .int (nI 0)]) (C := RX2) (T := TX2) (N := 2) hx hb hts inwX3_init_X2 tyX2 tyX2_ok hown (hts (.classLink RX3 21 RX2) (by decide +kernel)) (hts (.instantiable RX2 2) (by decide +kernel)) (hts (.initialized RX2) (by decide +kernel)) hK hP hD hS hA rfl (fun j hj => by rcases (by omega : j = 0 ∨ j = 1) with rfl | rfl <;> rfl) (Nat.le_of_ble_eq_true rfl) (Nat.le_of_ble_eq_true rfl) dX3_init_60 (fun q_60 H hP hD hS => ?_)
  have hP : va_P D vwCl [(q, .inr (3, [.ref q_8, .ref q_16, .ref q_23, .ref (bo_53 0), .null, .int (nI 0), .int (nI 0), .int (nI 0), .int (nI 0)])), (q_8, .inl (cI, 216, .inl (fun _ => nI 0))), (q_16, .inl (cI, 24, .inl (fun _ => nI 0))), (q_23, .inl (cI, 4, .inl (upd (upd (upd (upd (fun _ => nI 0) 0 (nI 8)) 1 (nI 10)) 2 (nI 3)) 3 (nI 4)))), ((bo_53 0), .inr (2, [.ref (bo_53 1), .int (nI 0)])), ((bo_53 1), .inl (cI, 12, .inl (fun _ => nI 0))), (q_60, .inr (2, [.null, .int (nI 0)]))] H := hP
  have hD : va_D A [(q, .inr (3, [.ref q_8, .ref q_16, .ref q_23, .ref (bo_53 0), .null, .int (nI 0), .int (nI 0), .int (nI 0), .int (nI 0)])), (q_8, .inl (cI, 216, .inl (fun _ => nI 0))), (q_16, .inl (cI, 24, .inl (fun _ => nI 0))), (q_23, .inl (cI, 4, .inl (upd (upd (upd (upd (fun _ => nI 0) 0 (nI 8)) 1 (nI 10)) 2 (nI 3)) 3 (nI 4)))), ((bo_53 0), .inr (2, [.ref (bo_53 1), .int (nI 0)])), ((bo_53 1), .inl (cI, 12, .inl (fun _ => nI 0))), (q_60, .inr (2, [.null, .int (nI 0)]))] := hD
  refine lv_dup hx hb dX3_init_63 rfl ?_
  refine lv_bipush (v := nI 24) hx hb dX3_init_64 (by decide) ?_
  refine kb_iV (As := [.int (nI 24)]) (rest := [.ref q_60, .ref q]) (wr := [(q, .inr (3, [.ref q_8, .ref q_16, .ref q_23, .ref (bo_53 0), .null, .int (nI 0), .int (nI 0), .int (nI 0), .int (nI 0)])), (q_8, .inl (cI, 216, .inl (fun _ => nI 0))), (q_16, .inl (cI, 24, .inl (fun _ => nI 0))), (q_23, .inl (cI, 4, .inl (upd (upd (upd (upd (fun _ => nI 0) 0 (nI 8)) 1 (nI 10)) 2 (nI 3)) 3 (nI 4)))), ((bo_53 0), .inr (2, [.ref (bo_53 1), .int (nI 0)])), ((bo_53 1), .inl (cI, 12, .inl (fun _ => nI 0)))]) hx hb hml hts hown hN hK hP hD hS hA (c_X2_init l D cI q_60 24 (by decide)) gX3_init_X2_init rfl ⟨rfl, rfl⟩ (hts (.initialized RX2) (by decide +kernel)) (hts (.methodLink RX3 23 yX2_init) (by decide +kernel)) (hts (.instanceMethod yX2_init) (by decide +kernel)) rfl hdX2_init.2 ⟨(Nat.le_of_ble_eq_true rfl), (Nat.le_of_ble_eq_true rfl)⟩ [6] [0] [0, 1, 2, 3, 4, 5] rfl rfl rfl rfl (by decide) (by decide) rfl rfl hl.1 (Nat.le_of_ble_eq_true rfl) dX3_init_66 ⟨(Nat.le_of_ble_eq_true rfl), (Nat.le_of_ble_eq_true rfl)⟩ (fun u H locs hw hK hP2 hD2 hS => ?_)
  obtain ⟨bo_66, rfl⟩ : ∃ z, z = u := ⟨_, rfl⟩
  have hw_bo_66 : bo_66 0 = q_60 := hw
  have ha_hw_bo_66 : bo_66 0 = q_60 := hw_bo_66
  clear hP hD
  subst ha_hw_bo_66
  have hP := hP2
  have hD := hD2
  clear hP2 hD2
  have hK : va_K D vwCl [(cI, .int)] s := hK
  have hl : lv_has ls 1 [(0, .ref q)] := hl
  have hP : va_P D vwCl [(q, .inr (3, [.ref q_8, .ref q_16, .ref q_23, .ref (bo_53 0), .null, .int (nI 0), .int (nI 0), .int (nI 0), .int (nI 0)])), (q_8, .inl (cI, 216, .inl (fun _ => nI 0))), (q_16, .inl (cI, 24, .inl (fun _ => nI 0))), (q_23, .inl (cI, 4, .inl (upd (upd (upd (upd (fun _ => nI 0) 0 (nI 8)) 1 (nI 10)) 2 (nI 3)) 3 (nI 4)))), ((bo_53 0), .inr (2, [.ref (bo_53 1), .int (nI 0)])), ((bo_53 1), .inl (cI, 12, .inl (fun _ => nI 0))), ((bo_66 0), .inr (2, [.ref (bo_66 1), .int (nI 0)])), ((bo_66 1), .inl (cI, 24, .inl (fun _ => nI 0)))] H := hP
  have hD : va_D A [(q, .inr (3, [.ref q_8, .ref q_16, .ref q_23, .ref (bo_53 0), .null, .int (nI 0), .int (nI 0), .int (nI 0), .int (nI 0)])), (q_8, .inl (cI, 216, .inl (fun _ => nI 0))), (q_16, .inl (cI, 24, .inl (fun _ => nI 0))), (q_23, .inl (cI, 4, .inl (upd (upd (upd (upd (fun _ => nI 0) 0 (nI 8)) 1 (nI 10)) 2 (nI 3)) 3 (nI 4)))), ((bo_53 0), .inr (2, [.ref (bo_53 1), .int (nI 0)])), ((bo_53 1), .inl (cI, 12, .inl (fun _ => nI 0))), ((bo_66 0), .inr (2, [.ref (bo_66 1), .int (nI 0)])), ((bo_66 1), .inl (cI, 24, .inl (fun _ => nI 0)))] := hD
  refine va_putF (D := D) (ci := 3) (v := .ref (bo_66 0)) (ty := (tyX3 4)) (C := RX3) (T := TX3) (N := 9) hx hb hts inwX3_init_X3 tyX3 tyX3_ok nmX3 hown hK hP hD hS 0 rfl rfl 4 (by decide) fl30 (fun _ h9 => h9) rfl hnm rfl (by decide +kernel) rfl rfl (Nat.le_of_ble_eq_true rfl) dX3_init_69 (fun H locs hP hD hS => ?_)
  have hP : va_P D vwCl [(q, .inr (3, [.ref q_8, .ref q_16, .ref q_23, .ref (bo_53 0), .ref (bo_66 0), .int (nI 0), .int (nI 0), .int (nI 0), .int (nI 0)])), (q_8, .inl (cI, 216, .inl (fun _ => nI 0))), (q_16, .inl (cI, 24, .inl (fun _ => nI 0))), (q_23, .inl (cI, 4, .inl (upd (upd (upd (upd (fun _ => nI 0) 0 (nI 8)) 1 (nI 10)) 2 (nI 3)) 3 (nI 4)))), ((bo_53 0), .inr (2, [.ref (bo_53 1), .int (nI 0)])), ((bo_53 1), .inl (cI, 12, .inl (fun _ => nI 0))), ((bo_66 0), .inr (2, [.ref (bo_66 1), .int (nI 0)])), ((bo_66 1), .inl (cI, 24, .inl (fun _ => nI 0)))] H := hP
  have hD : va_D A [(q, .inr (3, [.ref q_8, .ref q_16, .ref q_23, .ref (bo_53 0), .ref (bo_66 0), .int (nI 0), .int (nI 0), .int (nI 0), .int (nI 0)])), (q_8, .inl (cI, 216, .inl (fun _ => nI 0))), (q_16, .inl (cI, 24, .inl (fun _ => nI 0))), (q_23, .inl (cI, 4, .inl (upd (upd (upd (upd (fun _ => nI 0) 0 (nI 8)) 1 (nI 10)) 2 (nI 3)) 3 (nI 4)))), ((bo_53 0), .inr (2, [.ref (bo_53 1), .int (nI 0)])), ((bo_53 1), .inl (cI, 12, .inl (fun _ => nI 0))), ((bo_66 0), .inr (2, [.ref (bo_66 1), .int (nI 0)])), ((bo_66 1), .inl (cI, 24, .inl (fun _ => nI 0)))] := hD
  refine lv_aload_n hx hb dX3_init_72 rfl (lv_at hl 0 rfl) ?_
  refine lv_iconst (v := nI 0) hx hb dX3_init_73 (by decide) ?_
  refine va_put (D := D) (ci := 3) (v := .int (nI 0)) (ty := .int) (C := RX3) (T := TX3) (N := 9) hx hb hts inwX3_init_X3 tyX3 tyX3_ok nmX3 hown hK hP hD hS 0 rfl rfl 5 (by decide) fl33 (fun _ h9 => h9) rfl (by decide +kernel) rfl rfl (Nat.le_of_ble_eq_true rfl) dX3_init_74 (fun H locs hP hD hS => ?_)
  have hP : va_P D vwCl [(q, .inr (3, [.ref q_8, .ref q_16, .ref q_23, .ref (bo_53 0), .ref (bo_66 0), .int (nI 0), .int (nI 0), .int (nI 0), .int (nI 0)])), (q_8, .inl (cI, 216, .inl (fun _ => nI 0))), (q_16, .inl (cI, 24, .inl (fun _ => nI 0))), (q_23, .inl (cI, 4, .inl (upd (upd (upd (upd (fun _ => nI 0) 0 (nI 8)) 1 (nI 10)) 2 (nI 3)) 3 (nI 4)))), ((bo_53 0), .inr (2, [.ref (bo_53 1), .int (nI 0)])), ((bo_53 1), .inl (cI, 12, .inl (fun _ => nI 0))), ((bo_66 0), .inr (2, [.ref (bo_66 1), .int (nI 0)])), ((bo_66 1), .inl (cI, 24, .inl (fun _ => nI 0)))] H := hP
  have hD : va_D A [(q, .inr (3, [.ref q_8, .ref q_16, .ref q_23, .ref (bo_53 0), .ref (bo_66 0), .int (nI 0), .int (nI 0), .int (nI 0), .int (nI 0)])), (q_8, .inl (cI, 216, .inl (fun _ => nI 0))), (q_16, .inl (cI, 24, .inl (fun _ => nI 0))), (q_23, .inl (cI, 4, .inl (upd (upd (upd (upd (fun _ => nI 0) 0 (nI 8)) 1 (nI 10)) 2 (nI 3)) 3 (nI 4)))), ((bo_53 0), .inr (2, [.ref (bo_53 1), .int (nI 0)])), ((bo_53 1), .inl (cI, 12, .inl (fun _ => nI 0))), ((bo_66 0), .inr (2, [.ref (bo_66 1), .int (nI 0)])), ((bo_66 1), .inl (cI, 24, .inl (fun _ => nI 0)))] := hD
  refine lv_aload_n hx hb dX3_init_77 rfl (lv_at hl 0 rfl) ?_
  refine lv_iconst (v := nI 0) hx hb dX3_init_78 (by decide) ?_
  refine va_put (D := D) (ci := 3) (v := .int (nI 0)) (ty := .int) (C := RX3) (T := TX3) (N := 9) hx hb hts inwX3_init_X3 tyX3 tyX3_ok nmX3 hown hK hP hD hS 0 rfl rfl 6 (by decide) fl37 (fun _ h9 => h9) rfl (by decide +kernel) rfl rfl (Nat.le_of_ble_eq_true rfl) dX3_init_79 (fun H locs hP hD hS => ?_)
  have hP : va_P D vwCl [(q, .inr (3, [.ref q_8, .ref q_16, .ref q_23, .ref (bo_53 0), .ref (bo_66 0), .int (nI 0), .int (nI 0), .int (nI 0), .int (nI 0)])), (q_8, .inl (cI, 216, .inl (fun _ => nI 0))), (q_16, .inl (cI, 24, .inl (fun _ => nI 0))), (q_23, .inl (cI, 4, .inl (upd (upd (upd (upd (fun _ => nI 0) 0 (nI 8)) 1 (nI 10)) 2 (nI 3)) 3 (nI 4)))), ((bo_53 0), .inr (2, [.ref (bo_53 1), .int (nI 0)])), ((bo_53 1), .inl (cI, 12, .inl (fun _ => nI 0))), ((bo_66 0), .inr (2, [.ref (bo_66 1), .int (nI 0)])), ((bo_66 1), .inl (cI, 24, .inl (fun _ => nI 0)))] H := hP
  have hD : va_D A [(q, .inr (3, [.ref q_8, .ref q_16, .ref q_23, .ref (bo_53 0), .ref (bo_66 0), .int (nI 0), .int (nI 0), .int (nI 0), .int (nI 0)])), (q_8, .inl (cI, 216, .inl (fun _ => nI 0))), (q_16, .inl (cI, 24, .inl (fun _ => nI 0))), (q_23, .inl (cI, 4, .inl (upd (upd (upd (upd (fun _ => nI 0) 0 (nI 8)) 1 (nI 10)) 2 (nI 3)) 3 (nI 4)))), ((bo_53 0), .inr (2, [.ref (bo_53 1), .int (nI 0)])), ((bo_53 1), .inl (cI, 12, .inl (fun _ => nI 0))), ((bo_66 0), .inr (2, [.ref (bo_66 1), .int (nI 0)])), ((bo_66 1), .inl (cI, 24, .inl (fun _ => nI 0)))] := hD
  refine lv_aload_n hx hb dX3_init_82 rfl (lv_at hl 0 rfl) ?_
  refine lv_iconst (v := nI 0) hx hb dX3_init_83 (by decide) ?_
  refine va_put (D := D) (ci := 3) (v := .int (nI 0)) (ty := .int) (C := RX3) (T := TX3) (N := 9) hx hb hts inwX3_init_X3 tyX3 tyX3_ok nmX3 hown hK hP hD hS 0 rfl rfl 7 (by decide) fl40 (fun _ h9 => h9) rfl (by decide +kernel) rfl rfl (Nat.le_of_ble_eq_true rfl) dX3_init_84 (fun H locs hP hD hS => ?_)
  have hP : va_P D vwCl [(q, .inr (3, [.ref q_8, .ref q_16, .ref q_23, .ref (bo_53 0), .ref (bo_66 0), .int (nI 0), .int (nI 0), .int (nI 0), .int (nI 0)])), (q_8, .inl (cI, 216, .inl (fun _ => nI 0))), (q_16, .inl (cI, 24, .inl (fun _ => nI 0))), (q_23, .inl (cI, 4, .inl (upd (upd (upd (upd (fun _ => nI 0) 0 (nI 8)) 1 (nI 10)) 2 (nI 3)) 3 (nI 4)))), ((bo_53 0), .inr (2, [.ref (bo_53 1), .int (nI 0)])), ((bo_53 1), .inl (cI, 12, .inl (fun _ => nI 0))), ((bo_66 0), .inr (2, [.ref (bo_66 1), .int (nI 0)])), ((bo_66 1), .inl (cI, 24, .inl (fun _ => nI 0)))] H := hP
  have hD : va_D A [(q, .inr (3, [.ref q_8, .ref q_16, .ref q_23, .ref (bo_53 0), .ref (bo_66 0), .int (nI 0), .int (nI 0), .int (nI 0), .int (nI 0)])), (q_8, .inl (cI, 216, .inl (fun _ => nI 0))), (q_16, .inl (cI, 24, .inl (fun _ => nI 0))), (q_23, .inl (cI, 4, .inl (upd (upd (upd (upd (fun _ => nI 0) 0 (nI 8)) 1 (nI 10)) 2 (nI 3)) 3 (nI 4)))), ((bo_53 0), .inr (2, [.ref (bo_53 1), .int (nI 0)])), ((bo_53 1), .inl (cI, 12, .inl (fun _ => nI 0))), ((bo_66 0), .inr (2, [.ref (bo_66 1), .int (nI 0)])), ((bo_66 1), .inl (cI, 24, .inl (fun _ => nI 0)))] := hD
  refine lv_aload_n hx hb dX3_init_87 rfl (lv_at hl 0 rfl) ?_
  refine lv_iconst (v := nI 0) hx hb dX3_init_88 (by decide) ?_
  refine va_put (D := D) (ci := 3) (v := .int (nI 0)) (ty := .int) (C := RX3) (T := TX3) (N := 9) hx hb hts inwX3_init_X3 tyX3 tyX3_ok nmX3 hown hK hP hD hS 0 rfl rfl 8 (by decide) fl43 (fun _ h9 => h9) rfl (by decide +kernel) rfl rfl (Nat.le_of_ble_eq_true rfl) dX3_init_89 (fun H locs hP hD hS => ?_)
  have hP : va_P D vwCl [(q, .inr (3, [.ref q_8, .ref q_16, .ref q_23, .ref (bo_53 0), .ref (bo_66 0), .int (nI 0), .int (nI 0), .int (nI 0), .int (nI 0)])), (q_8, .inl (cI, 216, .inl (fun _ => nI 0))), (q_16, .inl (cI, 24, .inl (fun _ => nI 0))), (q_23, .inl (cI, 4, .inl (upd (upd (upd (upd (fun _ => nI 0) 0 (nI 8)) 1 (nI 10)) 2 (nI 3)) 3 (nI 4)))), ((bo_53 0), .inr (2, [.ref (bo_53 1), .int (nI 0)])), ((bo_53 1), .inl (cI, 12, .inl (fun _ => nI 0))), ((bo_66 0), .inr (2, [.ref (bo_66 1), .int (nI 0)])), ((bo_66 1), .inl (cI, 24, .inl (fun _ => nI 0)))] H := hP
  have hD : va_D A [(q, .inr (3, [.ref q_8, .ref q_16, .ref q_23, .ref (bo_53 0), .ref (bo_66 0), .int (nI 0), .int (nI 0), .int (nI 0), .int (nI 0)])), (q_8, .inl (cI, 216, .inl (fun _ => nI 0))), (q_16, .inl (cI, 24, .inl (fun _ => nI 0))), (q_23, .inl (cI, 4, .inl (upd (upd (upd (upd (fun _ => nI 0) 0 (nI 8)) 1 (nI 10)) 2 (nI 3)) 3 (nI 4)))), ((bo_53 0), .inr (2, [.ref (bo_53 1), .int (nI 0)])), ((bo_53 1), .inl (cI, 12, .inl (fun _ => nI 0))), ((bo_66 0), .inr (2, [.ref (bo_66 1), .int (nI 0)])), ((bo_66 1), .inl (cI, 24, .inl (fun _ => nI 0)))] := hD
  exact kb_vretT (D := D) hQ hx hb hr hlocks hK hP hD hS dX3_init_92 ((kaL [q, q_8, q_16, q_23, (bo_53 0), (bo_53 1), (bo_66 0), (bo_66 1)]), (kf5 (fun _ => nI 0) (fun _ => nI 0) (upd (upd (upd (upd (fun _ => nI 0) 0 (nI 8)) 1 (nI 10)) 2 (nI 3)) 3 (nI 4)) (fun _ => nI 0) (fun _ => nI 0))) rfl [] rfl (Nat.le_of_ble_eq_true rfl) (Nat.le_of_ble_eq_true rfl) (show (kaL [q, q_8, q_16, q_23, (bo_53 0), (bo_53 1), (bo_66 0), (bo_66 1)]) 0 = q ∧ sO (kf5 (fun _ => nI 0) (fun _ => nI 0) (upd (upd (upd (upd (fun _ => nI 0) 0 (nI 8)) 1 (nI 10)) 2 (nI 3)) 3 (nI 4)) (fun _ => nI 0) (fun _ => nI 0)) gI from ⟨rfl, sO_I⟩)
