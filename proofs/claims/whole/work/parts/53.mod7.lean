abbrev rmX5_minute : Room := { frames := 6, cells := 0, slots := 0, locals := 131 }
theorem hdX5_minute : yX5_minute.cls = RX5 ∧ yX5_minute.cls ≠ "java/lang/invoke/MethodHandle" ∧ yX5_minute.cls ≠ "java/lang/invoke/VarHandle" ∧ (parseMethodDescriptor yX5_minute.desc).map (fun d => d.parameters.length) = some 0 := by decide +kernel
theorem inwX5_minute_X5 : ∀ w ∈ wsX50, w ∈ wsX5_minute := fun w h => List.mem_cons_of_mem _ (List.mem_append_right _ h)
set_option maxHeartbeats 4000000 in
set_option maxRecDepth 100000 in
theorem c_X5_minute (l : Launch) (D : va_G) (cI : ClassId) (b : Nat → Nat) (hL : Nat) (iK : Int32) (tL : Nat) (sP : Nat) (nU : Int32) (iS : Int32) (sN : Int32) (sR : Int32) (lE : Int32) (fI : Int32) (sC : Int32) (v : Nat → Int32) (g : Sg) (hv : rV v g) (ho : Ok g) (lf : Nat → Int32) : kb_I (S := (Nat → Int32) × (Nat → Int32)) D [(cI, .int)] l yX5_minute wsX5_minute rmX5_minute [.ref (b 0)] [((b 0), .inr (5, [.ref (b 1), .ref (b 2), .ref (b 3), .ref (b 4), .int (nI hL), .ref (b 5), .int (iK), .ref (b 6), .ref (b 7), .int (nI tL), .int (nI sP), .int (nU), .int (iS), .int (sN), .int (sR), .int (lE), .int (fI), .int (sC)])), ((b 1), .inl (cI, 217, .inl v)), ((b 6), .inl (cI, 12, .inl lf))] (fun (r : Int32) (u : (Nat → Int32) × (Nat → Int32)) => r = nI (dueN g) ∧ rV u.1 (oMin g)) (fun (u : (Nat → Int32) × (Nat → Int32)) => [((b 0), .inr (5, [.ref (b 1), .ref (b 2), .ref (b 3), .ref (b 4), .int (nI hL), .ref (b 5), .int (iK), .ref (b 6), .ref (b 7), .int (nI tL), .int (nI sP), .int (nU), .int (iS), .int (sN), .int (sR), .int (lE), .int (fI), .int (sC)])), ((b 1), .inl (cI, 217, .inl u.1)), ((b 6), .inl (cI, 12, .inl u.2))]) 0 0 := by
  refine kb_I_of (cc := cX5_minute) (maxL := 3) (ret := (some .int)) (by decide) rfl (Nat.le_of_ble_eq_true rfl) ?_
  intro p e s mm args below meth c A hx hb hml hr hts hown hlocks hnm hA hN hK hP hD hS ls hl Q hQ
  have hl : lv_has ls 3 [(0, .ref (b 0))] := hl
  have hP : va_P D vwCl [((b 0), .inr (5, [.ref (b 1), .ref (b 2), .ref (b 3), .ref (b 4), .int (nI hL), .ref (b 5), .int (iK), .ref (b 6), .ref (b 7), .int (nI tL), .int (nI sP), .int (nU), .int (iS), .int (sN), .int (sR), .int (lE), .int (fI), .int (sC)])), ((b 1), .inl (cI, 217, .inl v)), ((b 6), .inl (cI, 12, .inl lf))] s.heap := hP
  have hD : va_D A [((b 0), .inr (5, [.ref (b 1), .ref (b 2), .ref (b 3), .ref (b 4), .int (nI hL), .ref (b 5), .int (iK), .ref (b 6), .ref (b 7), .int (nI tL), .int (nI sP), .int (nU), .int (iS), .int (sN), .int (sR), .int (lE), .int (fI), .int (sC)])), ((b 1), .inl (cI, 217, .inl v)), ((b 6), .inl (cI, 12, .inl lf))] := hD
  have fl7 := hts (.fieldLink RX5 7 "KingsBanquetModel" "all" "[I") (by decide +kernel)
  have ho1 : Ok (oArr' g) := oArr_ok _ ho
  have ho2 := oSit'_ok ho1
  obtain ⟨e1, he1, hl1, hl60⟩ := ho2.c1
  refine lv_aload_n hx hb dX5_minute_0 rfl (lv_at hl 0 rfl) ?_
  refine kb_vV (As := []) (rest := []) hx hb hml hts hown hN hK hP hD hS hA (c_X5_arrive l D cI b hL iK tL sP nU iS sN sR lE fI sC v g hv ho) gX5_minute_X5_arrive rfl ⟨rfl, rfl⟩ hdX5_arrive ⟨Nat.le_of_ble_eq_true rfl, Nat.le_of_ble_eq_true rfl⟩ [0, 1] [0] rfl rfl rfl (ci := 5) rfl rfl rfl (fun _ => rfl) rfl rfl hl.1 (Nat.le_of_ble_eq_true rfl) dX5_minute_1 ⟨Nat.zero_le _, Nat.zero_le _⟩ (fun u H locs hw_1 hP hD hS => ?_)
  obtain ⟨vo_1, rfl⟩ : ∃ z, z = u := ⟨_, rfl⟩
  have hw_1 : rV vo_1 (oArr' g) := hw_1
  have hP : va_P D vwCl [((b 0), .inr (5, [.ref (b 1), .ref (b 2), .ref (b 3), .ref (b 4), .int (nI hL), .ref (b 5), .int (iK), .ref (b 6), .ref (b 7), .int (nI tL), .int (nI sP), .int (nU), .int (iS), .int (sN), .int (sR), .int (lE), .int (fI), .int (sC)])), ((b 1), .inl (cI, 217, .inl vo_1)), ((b 6), .inl (cI, 12, .inl lf))] H := hP
  have hD : va_D A [((b 0), .inr (5, [.ref (b 1), .ref (b 2), .ref (b 3), .ref (b 4), .int (nI hL), .ref (b 5), .int (iK), .ref (b 6), .ref (b 7), .int (nI tL), .int (nI sP), .int (nU), .int (iS), .int (sN), .int (sR), .int (lE), .int (fI), .int (sC)])), ((b 1), .inl (cI, 217, .inl vo_1)), ((b 6), .inl (cI, 12, .inl lf))] := hD
  refine lv_aload_n hx hb dX5_minute_4 rfl (lv_at hl 0 rfl) ?_
  refine kb_vV (As := []) (rest := []) hx hb hml hts hown hN hK hP hD hS hA (c_X5_sitDown l D cI b hL iK tL sP nU iS sN sR lE fI sC vo_1 (oArr' g) hw_1 ho1) gX5_minute_X5_sitDown rfl ⟨rfl, rfl⟩ hdX5_sitDown ⟨Nat.le_of_ble_eq_true rfl, Nat.le_of_ble_eq_true rfl⟩ [0, 1] [0] rfl rfl rfl (ci := 5) rfl rfl rfl (fun _ => rfl) rfl rfl hl.1 (Nat.le_of_ble_eq_true rfl) dX5_minute_5 ⟨Nat.zero_le _, Nat.zero_le _⟩ (fun u H locs hw_5 hP hD hS => ?_)
  obtain ⟨vo_5, rfl⟩ : ∃ z, z = u := ⟨_, rfl⟩
  have hw_5 : rV vo_5 (oSit' (oArr' g)) := hw_5
  have hP : va_P D vwCl [((b 0), .inr (5, [.ref (b 1), .ref (b 2), .ref (b 3), .ref (b 4), .int (nI hL), .ref (b 5), .int (iK), .ref (b 6), .ref (b 7), .int (nI tL), .int (nI sP), .int (nU), .int (iS), .int (sN), .int (sR), .int (lE), .int (fI), .int (sC)])), ((b 1), .inl (cI, 217, .inl vo_5)), ((b 6), .inl (cI, 12, .inl lf))] H := hP
  have hD : va_D A [((b 0), .inr (5, [.ref (b 1), .ref (b 2), .ref (b 3), .ref (b 4), .int (nI hL), .ref (b 5), .int (iK), .ref (b 6), .ref (b 7), .int (nI tL), .int (nI sP), .int (nU), .int (iS), .int (sN), .int (sR), .int (lE), .int (fI), .int (sC)])), ((b 1), .inl (cI, 217, .inl vo_5)), ((b 6), .inl (cI, 12, .inl lf))] := hD
  refine lv_aload_n hx hb dX5_minute_8 rfl (lv_at hl 0 rfl) ?_
  refine va_get (D := D) (ci := 5) (v := .ref (b 1)) (C := RX5) (T := TX5) (N := 18) hx hb hts inwX5_minute_X5 hown hK hP 0 rfl rfl 0 (by decide) fl7 (fun _ h9 => h9) rfl dX5_minute_9 ?_
  refine lv_iconst (v := nI 4) hx hb dX5_minute_12 (by decide) ?_
  refine kb_iald hx hb hK hP 1 0 rfl rfl (by decide) (by omega) dX5_minute_13 ?_
  refine kb_top (gc (oSit' (oArr' g)) 4) hw_5.m ?_
  refine lv_iconst (v := nI 1) hx hb dX5_minute_14 (by decide) ?_
  refine lv_iadd hx hb dX5_minute_15 ?_
  refine lv_aload_n hx hb dX5_minute_16 rfl (lv_at hl 0 rfl) ?_
  refine va_get (D := D) (ci := 5) (v := .ref (b 1)) (C := RX5) (T := TX5) (N := 18) hx hb hts inwX5_minute_X5 hown hK hP 0 rfl rfl 0 (by decide) fl7 (fun _ h9 => h9) rfl dX5_minute_17 ?_
  refine lv_iconst (v := nI 1) hx hb dX5_minute_20 (by decide) ?_
  refine kb_iald hx hb hK hP 1 0 rfl rfl (by decide) (by omega) dX5_minute_21 ?_
  refine kb_top (gc (oSit' (oArr' g)) 1) (hw_5.c (by decide)) ?_
  refine lv_irem hx hb dX5_minute_22 (by rw [he1]; exact nI_ne0 (by omega) (by omega)) ?_
  refine lv_if_ne (tgt := 30) hx hb dX5_minute_23 (by decide) (fun c23 => ?_) (fun c23 => ?_)
  · refine lv_iconst (v := nI 0) hx hb dX5_minute_30 (by decide) ?_
    refine lv_istore_n (lv' := [(1, .int (nI 0)), (0, .ref (b 0))]) hx hb dX5_minute_31 rfl hl (by decide) rfl (fun ls hl => ?_)
    refine lv_iload_n hx hb dX5_minute_32 rfl (lv_at hl 0 rfl) ?_
    refine lv_iconst (v := nI 1) hx hb dX5_minute_33 (by decide) ?_
    refine kb_icmp_ne (tgt := 44) hx hb dX5_minute_34 (by decide) (by decide) (by decide) (fun _ => ?_) (fun c => absurd c (by decide))
    refine lv_iconst (v := nI 0) hx hb dX5_minute_44 (by decide) ?_
    refine lv_istore_n (lv' := [(2, .int (nI 0)), (1, .int (nI 0)), (0, .ref (b 0))]) hx hb dX5_minute_45 rfl hl (by decide) rfl (fun ls hl => ?_)
    refine lv_aload_n hx hb dX5_minute_46 rfl (lv_at hl 2 rfl) ?_
    refine va_get (D := D) (ci := 5) (v := .ref (b 1)) (C := RX5) (T := TX5) (N := 18) hx hb hts inwX5_minute_X5 hown hK hP 0 rfl rfl 0 (by decide) fl7 (fun _ h9 => h9) rfl dX5_minute_47 ?_
    refine lv_iconst (v := nI 4) hx hb dX5_minute_50 (by decide) ?_
    refine lv_dup2_11 hx hb dX5_minute_51 rfl rfl ?_
    refine kb_iald hx hb hK hP 1 0 rfl rfl (by decide) (by omega) dX5_minute_52 ?_
    refine lv_iconst (v := nI 1) hx hb dX5_minute_53 (by decide) ?_
    refine lv_iadd hx hb dX5_minute_54 ?_
    refine kb_iast hx hb hK hP hD hS 1 0 rfl rfl (by decide) (by omega) dX5_minute_55 (fun H locs hP hD hS => ?_)
    have hP : va_P D vwCl [((b 0), .inr (5, [.ref (b 1), .ref (b 2), .ref (b 3), .ref (b 4), .int (nI hL), .ref (b 5), .int (iK), .ref (b 6), .ref (b 7), .int (nI tL), .int (nI sP), .int (nU), .int (iS), .int (sN), .int (sR), .int (lE), .int (fI), .int (sC)])), ((b 1), .inl (cI, 217, .inl (upd vo_5 4 (vo_5 4 + nI 1)))), ((b 6), .inl (cI, 12, .inl lf))] H := hP
    have hD : va_D A [((b 0), .inr (5, [.ref (b 1), .ref (b 2), .ref (b 3), .ref (b 4), .int (nI hL), .ref (b 5), .int (iK), .ref (b 6), .ref (b 7), .int (nI tL), .int (nI sP), .int (nU), .int (iS), .int (sN), .int (sR), .int (lE), .int (fI), .int (sC)])), ((b 1), .inl (cI, 217, .inl (upd vo_5 4 (vo_5 4 + nI 1)))), ((b 6), .inl (cI, 12, .inl lf))] := hD
    refine lv_iload_n hx hb dX5_minute_56 rfl (lv_at hl 1 rfl) ?_
    exact kb_iret (D := D) hQ hx hb hr hlocks hK hP hD hS dX5_minute_57 (upd vo_5 4 (vo_5 4 + nI 1), lf) rfl (Nat.le_refl _) (Nat.le_refl _) (show (nI 0) = nI (dueN g) ∧ rV (upd vo_5 4 (vo_5 4 + nI 1)) (oMin g) from (by have hd : due (oSit' (oArr' g)) = false := decide_eq_false c23; refine ⟨by unfold dueN; rw [hd]; rfl, ?_⟩; show rV _ (oTick (if due (oSit' (oArr' g)) = true then oRnd (oSit' (oArr' g)) else (oSit' (oArr' g)))); rw [hd]; exact rV_tick hw_5 ho2.n.2.1 ho2.n.2.2))
  · refine lv_iconst (v := nI 1) hx hb dX5_minute_26 (by decide) ?_
    refine lv_goto (tgt := 31) hx hb dX5_minute_27 (by decide) ?_
    refine lv_istore_n (lv' := [(1, .int (nI 1)), (0, .ref (b 0))]) hx hb dX5_minute_31 rfl hl (by decide) rfl (fun ls hl => ?_)
    refine lv_iload_n hx hb dX5_minute_32 rfl (lv_at hl 0 rfl) ?_
    refine lv_iconst (v := nI 1) hx hb dX5_minute_33 (by decide) ?_
    refine kb_icmp_ne (tgt := 44) hx hb dX5_minute_34 (by decide) (by decide) (by decide) (fun c => absurd c (by decide)) (fun _ => ?_)
    refine lv_aload_n hx hb dX5_minute_37 rfl (lv_at hl 1 rfl) ?_
    refine kb_vI (As := []) (rest := []) hx hb hml hts hown hN hK hP hD hS hA (c_X5_rounds l D cI b hL iK tL sP nU iS sN sR lE fI sC vo_5 (oSit' (oArr' g)) hw_5 ho2 lf) gX5_minute_X5_rounds rfl ⟨rfl, rfl⟩ hdX5_rounds ⟨Nat.le_of_ble_eq_true rfl, Nat.le_of_ble_eq_true rfl⟩ [0, 1, 2] [0] rfl rfl rfl (ci := 5) rfl rfl rfl (fun _ => rfl) rfl rfl hl.1 (Nat.le_of_ble_eq_true rfl) dX5_minute_38 ⟨Nat.zero_le _, Nat.zero_le _⟩ (fun r_38 u H locs hw_38 hP hD hS => ?_)
    obtain ⟨vo_38, lo_38⟩ := u
    have hw_38 : rV vo_38 (oRnd (oSit' (oArr' g))) ∧ gc (oRnd (oSit' (oArr' g))) 6 = gc (oSit' (oArr' g)) 6 + r_38 := hw_38
    have hP : va_P D vwCl [((b 0), .inr (5, [.ref (b 1), .ref (b 2), .ref (b 3), .ref (b 4), .int (nI hL), .ref (b 5), .int (iK), .ref (b 6), .ref (b 7), .int (nI tL), .int (nI sP), .int (nU), .int (iS), .int (sN), .int (sR), .int (lE), .int (fI), .int (sC)])), ((b 1), .inl (cI, 217, .inl vo_38)), ((b 6), .inl (cI, 12, .inl lo_38))] H := hP
    have hD : va_D A [((b 0), .inr (5, [.ref (b 1), .ref (b 2), .ref (b 3), .ref (b 4), .int (nI hL), .ref (b 5), .int (iK), .ref (b 6), .ref (b 7), .int (nI tL), .int (nI sP), .int (nU), .int (iS), .int (sN), .int (sR), .int (lE), .int (fI), .int (sC)])), ((b 1), .inl (cI, 217, .inl vo_38)), ((b 6), .inl (cI, 12, .inl lo_38))] := hD
    refine lv_goto (tgt := 45) hx hb dX5_minute_41 (by decide) ?_
    refine lv_istore_n (lv' := [(2, .int (r_38)), (1, .int (nI 1)), (0, .ref (b 0))]) hx hb dX5_minute_45 rfl hl (by decide) rfl (fun ls hl => ?_)
    refine lv_aload_n hx hb dX5_minute_46 rfl (lv_at hl 2 rfl) ?_
    refine va_get (D := D) (ci := 5) (v := .ref (b 1)) (C := RX5) (T := TX5) (N := 18) hx hb hts inwX5_minute_X5 hown hK hP 0 rfl rfl 0 (by decide) fl7 (fun _ h9 => h9) rfl dX5_minute_47 ?_
    refine lv_iconst (v := nI 4) hx hb dX5_minute_50 (by decide) ?_
    refine lv_dup2_11 hx hb dX5_minute_51 rfl rfl ?_
    refine kb_iald hx hb hK hP 1 0 rfl rfl (by decide) (by omega) dX5_minute_52 ?_
    refine lv_iconst (v := nI 1) hx hb dX5_minute_53 (by decide) ?_
    refine lv_iadd hx hb dX5_minute_54 ?_
    refine kb_iast hx hb hK hP hD hS 1 0 rfl rfl (by decide) (by omega) dX5_minute_55 (fun H locs hP hD hS => ?_)
    have hP : va_P D vwCl [((b 0), .inr (5, [.ref (b 1), .ref (b 2), .ref (b 3), .ref (b 4), .int (nI hL), .ref (b 5), .int (iK), .ref (b 6), .ref (b 7), .int (nI tL), .int (nI sP), .int (nU), .int (iS), .int (sN), .int (sR), .int (lE), .int (fI), .int (sC)])), ((b 1), .inl (cI, 217, .inl (upd vo_38 4 (vo_38 4 + nI 1)))), ((b 6), .inl (cI, 12, .inl lo_38))] H := hP
    have hD : va_D A [((b 0), .inr (5, [.ref (b 1), .ref (b 2), .ref (b 3), .ref (b 4), .int (nI hL), .ref (b 5), .int (iK), .ref (b 6), .ref (b 7), .int (nI tL), .int (nI sP), .int (nU), .int (iS), .int (sN), .int (sR), .int (lE), .int (fI), .int (sC)])), ((b 1), .inl (cI, 217, .inl (upd vo_38 4 (vo_38 4 + nI 1)))), ((b 6), .inl (cI, 12, .inl lo_38))] := hD
    refine lv_iload_n hx hb dX5_minute_56 rfl (lv_at hl 1 rfl) ?_
    exact kb_iret (D := D) hQ hx hb hr hlocks hK hP hD hS dX5_minute_57 (upd vo_38 4 (vo_38 4 + nI 1), lo_38) rfl (Nat.le_refl _) (Nat.le_refl _) (show (nI 1) = nI (dueN g) ∧ rV (upd vo_38 4 (vo_38 4 + nI 1)) (oMin g) from (by have hd : due (oSit' (oArr' g)) = true := decide_eq_true c23; refine ⟨by unfold dueN; rw [if_pos hd], ?_⟩; show rV _ (oTick (if due (oSit' (oArr' g)) = true then oRnd (oSit' (oArr' g)) else (oSit' (oArr' g)))); rw [if_pos hd]; exact rV_tick hw_38.1 (oRnd_ok ho2).n.2.1 (oRnd_ok ho2).n.2.2))
