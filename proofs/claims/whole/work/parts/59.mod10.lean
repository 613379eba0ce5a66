abbrev rmX5_doLeave : Room := { frames := 2, cells := 0, slots := 0, locals := 46 }
theorem hdX5_doLeave : yX5_doLeave.cls = RX5 ∧ yX5_doLeave.cls ≠ "java/lang/invoke/MethodHandle" ∧ yX5_doLeave.cls ≠ "java/lang/invoke/VarHandle" ∧ (parseMethodDescriptor yX5_doLeave.desc).map (fun d => d.parameters.length) = some 1 := by decide +kernel
theorem inwX5_doLeave_X5 : ∀ w ∈ wsX50, w ∈ wsX5_doLeave := fun w h => List.mem_cons_of_mem _ (List.mem_append_right _ h)
set_option maxHeartbeats 4000000 in
set_option maxRecDepth 100000 in
theorem c_X5_doLeave (l : Launch) (D : va_G) (cI : ClassId) (b : Nat → Nat) (hL : Nat) (iK : Int32) (tL : Nat) (sP : Nat) (nU : Int32) (iS : Int32) (sN : Int32) (sR : Int32) (lE : Int32) (fI : Int32) (sC : Int32) (v : Nat → Int32) (g : Sg) (hv : rV v g) (ho : Ok g) (x : Int32) : kb_I (S := (Nat → Int32)) D [(cI, .int)] l yX5_doLeave wsX5_doLeave rmX5_doLeave [.ref (b 0), .int (x)] [((b 0), .inr (5, [.ref (b 1), .ref (b 2), .ref (b 3), .ref (b 4), .int (nI hL), .ref (b 5), .int (iK), .ref (b 6), .ref (b 7), .int (nI tL), .int (nI sP), .int (nU), .int (iS), .int (sN), .int (sR), .int (lE), .int (fI), .int (sC)])), ((b 1), .inl (cI, 217, .inl v))] (fun (r : Int32) (u : (Nat → Int32)) => r = (opL g x).1 ∧ rV u (opL g x).2) (fun (u : (Nat → Int32)) => [((b 0), .inr (5, [.ref (b 1), .ref (b 2), .ref (b 3), .ref (b 4), .int (nI hL), .ref (b 5), .int (iK), .ref (b 6), .ref (b 7), .int (nI tL), .int (nI sP), .int (nU), .int (iS), .int (sN), .int (sR), .int (lE), .int (fI), .int (sC)])), ((b 1), .inl (cI, 217, .inl u))]) 0 0 := by
  refine kb_I_of (cc := cX5_doLeave) (maxL := 3) (ret := (some .int)) (by decide) rfl (Nat.le_of_ble_eq_true rfl) ?_
  intro p e s mm args below meth c A hx hb hml hr hts hown hlocks hnm hA hN hK hP hD hS ls hl Q hQ
  have hl : lv_has ls 3 [(0, .ref (b 0)), (1, .int (x))] := hl
  have hP : va_P D vwCl [((b 0), .inr (5, [.ref (b 1), .ref (b 2), .ref (b 3), .ref (b 4), .int (nI hL), .ref (b 5), .int (iK), .ref (b 6), .ref (b 7), .int (nI tL), .int (nI sP), .int (nU), .int (iS), .int (sN), .int (sR), .int (lE), .int (fI), .int (sC)])), ((b 1), .inl (cI, 217, .inl v))] s.heap := hP
  have hD : va_D A [((b 0), .inr (5, [.ref (b 1), .ref (b 2), .ref (b 3), .ref (b 4), .int (nI hL), .ref (b 5), .int (iK), .ref (b 6), .ref (b 7), .int (nI tL), .int (nI sP), .int (nU), .int (iS), .int (sN), .int (sR), .int (lE), .int (fI), .int (sC)])), ((b 1), .inl (cI, 217, .inl v))] := hD
  have hn := ho.n
  refine lv_aload_n hx hb dX5_doLeave_0 rfl (lv_at hl 0 rfl) ?_
  refine lv_iload_n hx hb dX5_doLeave_1 rfl (lv_at hl 1 rfl) ?_
  refine kb_vR (As := [.int (x)]) (rest := []) hx hb hml hts hown hN hK hP hD hS hA (c_X5_isKing l D cI b hL iK tL sP nU iS sN sR lE fI sC v g hv ho x) gX5_doLeave_X5_isKing rfl ⟨rfl, rfl⟩ hdX5_isKing ⟨Nat.le_of_ble_eq_true rfl, Nat.le_of_ble_eq_true rfl⟩ [0, 1] [0] rfl rfl rfl (ci := 5) rfl rfl rfl rfl rfl hl.1 (Nat.le_of_ble_eq_true rfl) dX5_doLeave_2 ⟨Nat.zero_le _, Nat.zero_le _⟩ (fun H locs hP hS => ?_)
  refine kb_bif_ne (tgt := 10) hx hb dX5_doLeave_5 (by decide) (fun c5 => ?_) (fun c5 => ?_)
  · obtain ⟨k, hk, rfl⟩ := kIs_ex c5 (by omega)
    have hd3 := (ho.k k hk).1
    refine lv_aload_n hx hb dX5_doLeave_10 rfl (lv_at hl 0 rfl) ?_
    refine lv_iload_n hx hb dX5_doLeave_11 rfl (lv_at hl 1 rfl) ?_
    refine lv_iconst (v := nI 3) hx hb dX5_doLeave_12 (by decide) ?_
    refine kb_vR (As := [.int (nI k), .int (nI 3)]) (rest := []) hx hb hml hts hown hN hK hP hD hS hA (c_X5_get l D cI b hL iK tL sP nU iS sN sR lE fI sC v k 3 (by omega) (by decide)) gX5_doLeave_X5_get rfl ⟨rfl, rfl⟩ hdX5_get ⟨Nat.le_of_ble_eq_true rfl, Nat.le_of_ble_eq_true rfl⟩ [0, 1] [0] rfl rfl rfl (ci := 5) rfl rfl rfl rfl rfl hl.1 (Nat.le_of_ble_eq_true rfl) dX5_doLeave_13 ⟨Nat.zero_le _, Nat.zero_le _⟩ (fun H locs hP hS => ?_)
    refine kb_top (nI (gD g k)) (hv.f (by omega)).2.2.2.1 ?_
    refine lv_istore_n (lv' := [(2, .int (nI (gD g k))), (0, .ref (b 0)), (1, .int (nI k))]) hx hb dX5_doLeave_16 rfl hl (by decide) rfl (fun ls hl => ?_)
    refine lv_iload_n hx hb dX5_doLeave_17 rfl (lv_at hl 0 rfl) ?_
    refine lv_iconst (v := nI 3) hx hb dX5_doLeave_18 (by decide) ?_
    refine kb_icmp_ne (tgt := 25) hx hb dX5_doLeave_19 (by decide) (by omega) (by omega) (fun c19 => ?_) (fun c19 => ?_)
    · refine lv_iload_n hx hb dX5_doLeave_25 rfl (lv_at hl 0 rfl) ?_
      refine lv_iconst (v := nI 2) hx hb dX5_doLeave_26 (by decide) ?_
      refine kb_icmp_ne (tgt := 43) hx hb dX5_doLeave_27 (by decide) (by omega) (by omega) (fun c27 => ?_) (fun c27 => ?_)
      · refine lv_iload_n hx hb dX5_doLeave_43 rfl (lv_at hl 0 rfl) ?_
        refine lv_iconst (v := nI 1) hx hb dX5_doLeave_44 (by decide) ?_
        refine kb_icmp_ne (tgt := 61) hx hb dX5_doLeave_45 (by decide) (by omega) (by omega) (fun c45 => ?_) (fun c45 => ?_)
        · refine lv_aload_n hx hb dX5_doLeave_61 rfl (lv_at hl 1 rfl) ?_
          refine lv_iload_n hx hb dX5_doLeave_62 rfl (lv_at hl 2 rfl) ?_
          refine lv_iconst (v := nI 3) hx hb dX5_doLeave_63 (by decide) ?_
          refine lv_iconst (v := nI 3) hx hb dX5_doLeave_64 (by decide) ?_
          refine kb_vV (As := [.int (nI k), .int (nI 3), .int (nI 3)]) (rest := []) hx hb hml hts hown hN hK hP hD hS hA (c_X5_lays l D cI b hL iK tL sP nU iS sN sR lE fI sC v k 3 (by omega) (by decide) (nI 3)) gX5_doLeave_X5_lays rfl ⟨rfl, rfl⟩ hdX5_lays ⟨Nat.le_of_ble_eq_true rfl, Nat.le_of_ble_eq_true rfl⟩ [0, 1] [0] rfl rfl rfl (ci := 5) rfl rfl rfl (fun _ => rfl) rfl rfl hl.1 (Nat.le_of_ble_eq_true rfl) dX5_doLeave_65 ⟨Nat.zero_le _, Nat.zero_le _⟩ (fun u H locs hw_65 hP hD hS => ?_)
          have hw_65 : True := hw_65
          have hP : va_P D vwCl [((b 0), .inr (5, [.ref (b 1), .ref (b 2), .ref (b 3), .ref (b 4), .int (nI hL), .ref (b 5), .int (iK), .ref (b 6), .ref (b 7), .int (nI tL), .int (nI sP), .int (nU), .int (iS), .int (sN), .int (sR), .int (lE), .int (fI), .int (sC)])), ((b 1), .inl (cI, 217, .inl (upd v (49 + 7 * k + 3) (nI 3))))] H := hP
          have hD : va_D A [((b 0), .inr (5, [.ref (b 1), .ref (b 2), .ref (b 3), .ref (b 4), .int (nI hL), .ref (b 5), .int (iK), .ref (b 6), .ref (b 7), .int (nI tL), .int (nI sP), .int (nU), .int (iS), .int (sN), .int (sR), .int (lE), .int (fI), .int (sC)])), ((b 1), .inl (cI, 217, .inl (upd v (49 + 7 * k + 3) (nI 3))))] := hD
          refine lv_iload_n hx hb dX5_doLeave_68 rfl (lv_at hl 0 rfl) ?_
          exact kb_iret (D := D) hQ hx hb hr hlocks hK hP hD hS dX5_doLeave_69 (upd v (49 + 7 * k + 3) (nI 3)) rfl (Nat.le_refl _) (Nat.le_refl _) (show (nI (gD g k)) = (opL g (nI k)).1 ∧ rV (upd v (49 + 7 * k + 3) (nI 3)) (opL g (nI k)).2 from (by rw [opL_3 c5 (by omega) c19, oLv_0 c27 c45]; exact ⟨rfl, rV_lv0 hv (by omega) hn.2.1 hn.2.2⟩))
        · have hp2 := (plW_lt ho hk).mpr c45
          refine lv_aload_n hx hb dX5_doLeave_48 rfl (lv_at hl 1 rfl) ?_
          refine lv_bipush (v := nI 25) hx hb dX5_doLeave_49 (by decide) ?_
          refine lv_bipush (v := nI 24) hx hb dX5_doLeave_51 (by decide) ?_
          refine lv_aload_n hx hb dX5_doLeave_53 rfl (lv_at hl 1 rfl) ?_
          refine lv_iload_n hx hb dX5_doLeave_54 rfl (lv_at hl 2 rfl) ?_
          refine kb_vR (As := [.int (nI k)]) (rest := [.int (nI 24), .int (nI 25), .ref (b 0)]) hx hb hml hts hown hN hK hP hD hS hA (c_X5_waitOf l D cI b hL iK tL sP nU iS sN sR lE fI sC v g hv ho k (by omega)) gX5_doLeave_X5_waitOf rfl ⟨rfl, rfl⟩ hdX5_waitOf ⟨Nat.le_of_ble_eq_true rfl, Nat.le_of_ble_eq_true rfl⟩ [0, 1] [0] rfl rfl rfl (ci := 5) rfl rfl rfl rfl rfl hl.1 (Nat.le_of_ble_eq_true rfl) dX5_doLeave_55 ⟨Nat.zero_le _, Nat.zero_le _⟩ (fun H locs hP hS => ?_)
          refine kb_top (nI (plW g k)) (oI_t hp2) ?_
          refine kb_vV (As := [.int (nI 25), .int (nI 24), .int (nI (plW g k))]) (rest := []) hx hb hml hts hown hN hK hP hD hS hA (c_X5_takesOff l D cI b hL iK tL sP nU iS sN sR lE fI sC v 25 24 (plW g k) (nW g) (by omega) (by decide) (by omega) hp2 hv.w) gX5_doLeave_X5_takesOff rfl ⟨rfl, rfl⟩ hdX5_takesOff ⟨Nat.le_of_ble_eq_true rfl, Nat.le_of_ble_eq_true rfl⟩ [0, 1] [0] rfl rfl rfl (ci := 5) rfl rfl rfl (fun _ => rfl) rfl rfl hl.1 (Nat.le_of_ble_eq_true rfl) dX5_doLeave_58 ⟨Nat.zero_le _, Nat.zero_le _⟩ (fun u H locs hw_58 hP hD hS => ?_)
          obtain ⟨vo_58, rfl⟩ : ∃ z, z = u := ⟨_, rfl⟩
          have hw_58 : tkO v vo_58 25 24 (plW g k) (nW g) := hw_58
          have hP : va_P D vwCl [((b 0), .inr (5, [.ref (b 1), .ref (b 2), .ref (b 3), .ref (b 4), .int (nI hL), .ref (b 5), .int (iK), .ref (b 6), .ref (b 7), .int (nI tL), .int (nI sP), .int (nU), .int (iS), .int (sN), .int (sR), .int (lE), .int (fI), .int (sC)])), ((b 1), .inl (cI, 217, .inl vo_58))] H := hP
          have hD : va_D A [((b 0), .inr (5, [.ref (b 1), .ref (b 2), .ref (b 3), .ref (b 4), .int (nI hL), .ref (b 5), .int (iK), .ref (b 6), .ref (b 7), .int (nI tL), .int (nI sP), .int (nU), .int (iS), .int (sN), .int (sR), .int (lE), .int (fI), .int (sC)])), ((b 1), .inl (cI, 217, .inl vo_58))] := hD
          refine lv_aload_n hx hb dX5_doLeave_61 rfl (lv_at hl 1 rfl) ?_
          refine lv_iload_n hx hb dX5_doLeave_62 rfl (lv_at hl 2 rfl) ?_
          refine lv_iconst (v := nI 3) hx hb dX5_doLeave_63 (by decide) ?_
          refine lv_iconst (v := nI 3) hx hb dX5_doLeave_64 (by decide) ?_
          refine kb_vV (As := [.int (nI k), .int (nI 3), .int (nI 3)]) (rest := []) hx hb hml hts hown hN hK hP hD hS hA (c_X5_lays l D cI b hL iK tL sP nU iS sN sR lE fI sC vo_58 k 3 (by omega) (by decide) (nI 3)) gX5_doLeave_X5_lays rfl ⟨rfl, rfl⟩ hdX5_lays ⟨Nat.le_of_ble_eq_true rfl, Nat.le_of_ble_eq_true rfl⟩ [0, 1] [0] rfl rfl rfl (ci := 5) rfl rfl rfl (fun _ => rfl) rfl rfl hl.1 (Nat.le_of_ble_eq_true rfl) dX5_doLeave_65 ⟨Nat.zero_le _, Nat.zero_le _⟩ (fun u H locs hw_65 hP hD hS => ?_)
          have hw_65 : True := hw_65
          have hP : va_P D vwCl [((b 0), .inr (5, [.ref (b 1), .ref (b 2), .ref (b 3), .ref (b 4), .int (nI hL), .ref (b 5), .int (iK), .ref (b 6), .ref (b 7), .int (nI tL), .int (nI sP), .int (nU), .int (iS), .int (sN), .int (sR), .int (lE), .int (fI), .int (sC)])), ((b 1), .inl (cI, 217, .inl (upd vo_58 (49 + 7 * k + 3) (nI 3))))] H := hP
          have hD : va_D A [((b 0), .inr (5, [.ref (b 1), .ref (b 2), .ref (b 3), .ref (b 4), .int (nI hL), .ref (b 5), .int (iK), .ref (b 6), .ref (b 7), .int (nI tL), .int (nI sP), .int (nU), .int (iS), .int (sN), .int (sR), .int (lE), .int (fI), .int (sC)])), ((b 1), .inl (cI, 217, .inl (upd vo_58 (49 + 7 * k + 3) (nI 3))))] := hD
          refine lv_iload_n hx hb dX5_doLeave_68 rfl (lv_at hl 0 rfl) ?_
          exact kb_iret (D := D) hQ hx hb hr hlocks hK hP hD hS dX5_doLeave_69 (upd vo_58 (49 + 7 * k + 3) (nI 3)) rfl (Nat.le_refl _) (Nat.le_refl _) (show (nI (gD g k)) = (opL g (nI k)).1 ∧ rV (upd vo_58 (49 + 7 * k + 3) (nI 3)) (opL g (nI k)).2 from (by rw [opL_3 c5 (by omega) c19, oLv_1 c45]; exact ⟨rfl, rV_lv0 (rV_tkW hv hn.2.1 hn.2.2 hw_58) (by omega) hn.2.1 (by show nW g - 1 ≤ 24; omega)⟩))
      · have hp2 := (plT_lt ho hk).mpr c27
        refine lv_aload_n hx hb dX5_doLeave_30 rfl (lv_at hl 1 rfl) ?_
        refine lv_bipush (v := nI 12) hx hb dX5_doLeave_31 (by decide) ?_
        refine lv_bipush (v := nI 11) hx hb dX5_doLeave_33 (by decide) ?_
        refine lv_aload_n hx hb dX5_doLeave_35 rfl (lv_at hl 1 rfl) ?_
        refine lv_iload_n hx hb dX5_doLeave_36 rfl (lv_at hl 2 rfl) ?_
        refine kb_vR (As := [.int (nI k)]) (rest := [.int (nI 11), .int (nI 12), .ref (b 0)]) hx hb hml hts hown hN hK hP hD hS hA (c_X5_seatOf l D cI b hL iK tL sP nU iS sN sR lE fI sC v g hv ho k (by omega)) gX5_doLeave_X5_seatOf rfl ⟨rfl, rfl⟩ hdX5_seatOf ⟨Nat.le_of_ble_eq_true rfl, Nat.le_of_ble_eq_true rfl⟩ [0, 1] [0] rfl rfl rfl (ci := 5) rfl rfl rfl rfl rfl hl.1 (Nat.le_of_ble_eq_true rfl) dX5_doLeave_37 ⟨Nat.zero_le _, Nat.zero_le _⟩ (fun H locs hP hS => ?_)
        refine kb_top (nI (plT g k)) (oI_t hp2) ?_
        refine kb_vV (As := [.int (nI 12), .int (nI 11), .int (nI (plT g k))]) (rest := []) hx hb hml hts hown hN hK hP hD hS hA (c_X5_takesOff l D cI b hL iK tL sP nU iS sN sR lE fI sC v 12 11 (plT g k) (nT g) (by omega) (by decide) (by omega) hp2 hv.t) gX5_doLeave_X5_takesOff rfl ⟨rfl, rfl⟩ hdX5_takesOff ⟨Nat.le_of_ble_eq_true rfl, Nat.le_of_ble_eq_true rfl⟩ [0, 1] [0] rfl rfl rfl (ci := 5) rfl rfl rfl (fun _ => rfl) rfl rfl hl.1 (Nat.le_of_ble_eq_true rfl) dX5_doLeave_40 ⟨Nat.zero_le _, Nat.zero_le _⟩ (fun u H locs hw_40 hP hD hS => ?_)
        obtain ⟨vo_40, rfl⟩ : ∃ z, z = u := ⟨_, rfl⟩
        have hw_40 : tkO v vo_40 12 11 (plT g k) (nT g) := hw_40
        have hP : va_P D vwCl [((b 0), .inr (5, [.ref (b 1), .ref (b 2), .ref (b 3), .ref (b 4), .int (nI hL), .ref (b 5), .int (iK), .ref (b 6), .ref (b 7), .int (nI tL), .int (nI sP), .int (nU), .int (iS), .int (sN), .int (sR), .int (lE), .int (fI), .int (sC)])), ((b 1), .inl (cI, 217, .inl vo_40))] H := hP
        have hD : va_D A [((b 0), .inr (5, [.ref (b 1), .ref (b 2), .ref (b 3), .ref (b 4), .int (nI hL), .ref (b 5), .int (iK), .ref (b 6), .ref (b 7), .int (nI tL), .int (nI sP), .int (nU), .int (iS), .int (sN), .int (sR), .int (lE), .int (fI), .int (sC)])), ((b 1), .inl (cI, 217, .inl vo_40))] := hD
        refine lv_iload_n hx hb dX5_doLeave_43 rfl (lv_at hl 0 rfl) ?_
        refine lv_iconst (v := nI 1) hx hb dX5_doLeave_44 (by decide) ?_
        refine kb_icmp_ne (tgt := 61) hx hb dX5_doLeave_45 (by decide) (by omega) (by omega) (fun c45 => ?_) (fun c45 => ?_)
        · refine lv_aload_n hx hb dX5_doLeave_61 rfl (lv_at hl 1 rfl) ?_
          refine lv_iload_n hx hb dX5_doLeave_62 rfl (lv_at hl 2 rfl) ?_
          refine lv_iconst (v := nI 3) hx hb dX5_doLeave_63 (by decide) ?_
          refine lv_iconst (v := nI 3) hx hb dX5_doLeave_64 (by decide) ?_
          refine kb_vV (As := [.int (nI k), .int (nI 3), .int (nI 3)]) (rest := []) hx hb hml hts hown hN hK hP hD hS hA (c_X5_lays l D cI b hL iK tL sP nU iS sN sR lE fI sC vo_40 k 3 (by omega) (by decide) (nI 3)) gX5_doLeave_X5_lays rfl ⟨rfl, rfl⟩ hdX5_lays ⟨Nat.le_of_ble_eq_true rfl, Nat.le_of_ble_eq_true rfl⟩ [0, 1] [0] rfl rfl rfl (ci := 5) rfl rfl rfl (fun _ => rfl) rfl rfl hl.1 (Nat.le_of_ble_eq_true rfl) dX5_doLeave_65 ⟨Nat.zero_le _, Nat.zero_le _⟩ (fun u H locs hw_65 hP hD hS => ?_)
          have hw_65 : True := hw_65
          have hP : va_P D vwCl [((b 0), .inr (5, [.ref (b 1), .ref (b 2), .ref (b 3), .ref (b 4), .int (nI hL), .ref (b 5), .int (iK), .ref (b 6), .ref (b 7), .int (nI tL), .int (nI sP), .int (nU), .int (iS), .int (sN), .int (sR), .int (lE), .int (fI), .int (sC)])), ((b 1), .inl (cI, 217, .inl (upd vo_40 (49 + 7 * k + 3) (nI 3))))] H := hP
          have hD : va_D A [((b 0), .inr (5, [.ref (b 1), .ref (b 2), .ref (b 3), .ref (b 4), .int (nI hL), .ref (b 5), .int (iK), .ref (b 6), .ref (b 7), .int (nI tL), .int (nI sP), .int (nU), .int (iS), .int (sN), .int (sR), .int (lE), .int (fI), .int (sC)])), ((b 1), .inl (cI, 217, .inl (upd vo_40 (49 + 7 * k + 3) (nI 3))))] := hD
          refine lv_iload_n hx hb dX5_doLeave_68 rfl (lv_at hl 0 rfl) ?_
          exact kb_iret (D := D) hQ hx hb hr hlocks hK hP hD hS dX5_doLeave_69 (upd vo_40 (49 + 7 * k + 3) (nI 3)) rfl (Nat.le_refl _) (Nat.le_refl _) (show (nI (gD g k)) = (opL g (nI k)).1 ∧ rV (upd vo_40 (49 + 7 * k + 3) (nI 3)) (opL g (nI k)).2 from (by rw [opL_3 c5 (by omega) c19, oLv_2 c27]; exact ⟨rfl, rV_lv0 (rV_tkT hv hn.2.1 hn.2.2 hw_40) (by omega) (by show nT g - 1 ≤ 12; omega) hn.2.2⟩))
        · exfalso; omega
    · refine lv_bipush (v := (-4)) hx hb dX5_doLeave_22 (by decide) ?_
      exact kb_iret (D := D) hQ hx hb hr hlocks hK hP hD hS dX5_doLeave_24 v rfl (Nat.le_refl _) (Nat.le_refl _) (show (-4) = (opL g (nI k)).1 ∧ rV v (opL g (nI k)).2 from (by rw [opL_2 c5 (by omega) c19]; exact ⟨rfl, hv⟩))
  · refine lv_iconst (v := (-1)) hx hb dX5_doLeave_8 (by decide) ?_
    exact kb_iret (D := D) hQ hx hb hr hlocks hK hP hD hS dX5_doLeave_9 v rfl (Nat.le_refl _) (Nat.le_refl _) (show (-1) = (opL g x).1 ∧ rV v (opL g x).2 from (by rw [opL_1 c5]; exact ⟨rfl, hv⟩))
