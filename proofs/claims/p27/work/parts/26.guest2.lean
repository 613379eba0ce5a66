abbrev rmX0_add : Room := { frames := 0, cells := 0, slots := 0, locals := 0 }
theorem hdX0_add : yX0_add.cls = RX0 ∧ yX0_add.cls ≠ "java/lang/invoke/MethodHandle" ∧ yX0_add.cls ≠ "java/lang/invoke/VarHandle" ∧ (parseMethodDescriptor yX0_add.desc).map (fun d => d.parameters.length) = some 1 := by decide +kernel
theorem inwX0_add_X0 : ∀ w ∈ wsX00, w ∈ wsX0_add := fun w h => List.mem_cons_of_mem _ (List.mem_append_right _ h)
set_option maxHeartbeats 4000000 in
set_option maxRecDepth 100000 in
theorem c_X0_add (l : Launch) (D : va_G) (cC : ClassId) (q : Nat → Nat) (n : Nat) (pl : Nat) (kd : Int32) (cr : Int32) (ag : Int32) (nu : Int32) (t : Nat → Int32) (x : Nat) (hx6 : x < 65536) (hn6 : n ≤ 60) : kb_I (S := Nat × (Nat → Int32)) D [(cC, .char)] l yX0_add wsX0_add rmX0_add [.ref (q 0), .int (nI x)] [((q 0), .inr (0, [.ref (q 1), .int (nI n), .int (nI pl), .int (kd), .int (cr), .int (ag), .int (nu)])), ((q 1), .inl (cC, 60, .inl t))] (fun (r : Int32) (u : Nat × (Nat → Int32)) => (n = 60 ∧ r = -3 ∧ u.1 = n ∧ u.2 = t) ∨ (n < 60 ∧ r = nI (n + 1) ∧ u.1 = n + 1 ∧ u.2 = upd t n (nI x))) (fun (u : Nat × (Nat → Int32)) => [((q 0), .inr (0, [.ref (q 1), .int (nI u.1), .int (nI pl), .int (kd), .int (cr), .int (ag), .int (nu)])), ((q 1), .inl (cC, 60, .inl u.2))]) 0 0 := by
  refine kb_I_of (cc := cX0_add) (maxL := 2) (ret := (some .int)) (by decide) rfl (Nat.le_of_ble_eq_true rfl) ?_
  intro p e s mm args below meth c A hx hb hml hr hts hown hlocks hnm hA hN hK hP hD hS ls hl Q hQ
  have hl : lv_has ls 2 [(0, .ref (q 0)), (1, .int (nI x))] := hl
  have hP : va_P D vwCl [((q 0), .inr (0, [.ref (q 1), .int (nI n), .int (nI pl), .int (kd), .int (cr), .int (ag), .int (nu)])), ((q 1), .inl (cC, 60, .inl t))] s.heap := hP
  have hD : va_D A [((q 0), .inr (0, [.ref (q 1), .int (nI n), .int (nI pl), .int (kd), .int (cr), .int (ag), .int (nu)])), ((q 1), .inl (cC, 60, .inl t))] := hD
  have fl15 := hts (.fieldLink RX0 15 "KingsBanquet$Guests" "length" "I") (by decide +kernel)
  have fl9 := hts (.fieldLink RX0 9 "KingsBanquet$Guests" "signs" "[C") (by decide +kernel)
  refine lv_aload_n hx hb dX0_add_0 rfl (lv_at hl 0 rfl) ?_
  refine va_get (D := D) (ci := 0) (v := .int (nI n)) (C := RX0) (T := TX0) (N := 7) hx hb hts inwX0_add_X0 hown hK hP 0 rfl rfl 1 (by decide) fl15 (fun _ h9 => h9) rfl dX0_add_1 ?_
  refine kb_nif_lt (tgt := 19) hx hb dX0_add_4 (by decide) (by omega) ?_
  refine lv_aload_n hx hb dX0_add_7 rfl (lv_at hl 0 rfl) ?_
  refine va_get (D := D) (ci := 0) (v := .int (nI n)) (C := RX0) (T := TX0) (N := 7) hx hb hts inwX0_add_X0 hown hK hP 0 rfl rfl 1 (by decide) fl15 (fun _ h9 => h9) rfl dX0_add_8 ?_
  refine lv_aload_n hx hb dX0_add_11 rfl (lv_at hl 0 rfl) ?_
  refine va_get (D := D) (ci := 0) (v := .ref (q 1)) (C := RX0) (T := TX0) (N := 7) hx hb hts inwX0_add_X0 hown hK hP 0 rfl rfl 0 (by decide) fl9 (fun _ h9 => h9) rfl dX0_add_12 ?_
  refine va_alen hx hb hK hP 1 0 rfl (ty := .char) rfl (v := nI 60) rfl dX0_add_15 ?_
  refine kb_icmp_lt (tgt := 22) hx hb dX0_add_16 (by decide) (by omega) (by omega) (fun c16 => ?_) (fun c16 => ?_)
  · refine lv_aload_n hx hb dX0_add_22 rfl (lv_at hl 0 rfl) ?_
    refine va_get (D := D) (ci := 0) (v := .ref (q 1)) (C := RX0) (T := TX0) (N := 7) hx hb hts inwX0_add_X0 hown hK hP 0 rfl rfl 0 (by decide) fl9 (fun _ h9 => h9) rfl dX0_add_23 ?_
    refine lv_aload_n hx hb dX0_add_26 rfl (lv_at hl 0 rfl) ?_
    refine va_get (D := D) (ci := 0) (v := .int (nI n)) (C := RX0) (T := TX0) (N := 7) hx hb hts inwX0_add_X0 hown hK hP 0 rfl rfl 1 (by decide) fl15 (fun _ h9 => h9) rfl dX0_add_27 ?_
    refine lv_iload_n hx hb dX0_add_30 rfl (lv_at hl 1 rfl) ?_
    refine kb_cast hx hb hK hP hD hS 1 0 rfl rfl (by decide) (by omega) (by omega) dX0_add_31 (fun H locs hP hD hS => ?_)
    have hP : va_P D vwCl [((q 0), .inr (0, [.ref (q 1), .int (nI n), .int (nI pl), .int (kd), .int (cr), .int (ag), .int (nu)])), ((q 1), .inl (cC, 60, .inl (upd t n (nI x))))] H := hP
    have hD : va_D A [((q 0), .inr (0, [.ref (q 1), .int (nI n), .int (nI pl), .int (kd), .int (cr), .int (ag), .int (nu)])), ((q 1), .inl (cC, 60, .inl (upd t n (nI x))))] := hD
    refine lv_aload_n hx hb dX0_add_32 rfl (lv_at hl 0 rfl) ?_
    refine lv_dup hx hb dX0_add_33 rfl ?_
    refine va_get (D := D) (ci := 0) (v := .int (nI n)) (C := RX0) (T := TX0) (N := 7) hx hb hts inwX0_add_X0 hown hK hP 0 rfl rfl 1 (by decide) fl15 (fun _ h9 => h9) rfl dX0_add_34 ?_
    refine lv_iconst (v := nI 1) hx hb dX0_add_37 (by decide) ?_
    refine lv_iadd hx hb dX0_add_38 ?_
    refine kb_top (nI (n + 1)) (nI_add n 1) ?_
    refine va_put (D := D) (ci := 0) (v := .int (nI (n + 1))) (ty := .int) (C := RX0) (T := TX0) (N := 7) hx hb hts inwX0_add_X0 tyX0 tyX0_ok nmX0 hown hK hP hD hS 0 rfl rfl 1 (by decide) fl15 (fun _ h9 => h9) rfl (by decide +kernel) rfl rfl (Nat.le_of_ble_eq_true rfl) dX0_add_39 (fun H locs hP hD hS => ?_)
    have hP : va_P D vwCl [((q 0), .inr (0, [.ref (q 1), .int (nI (n + 1)), .int (nI pl), .int (kd), .int (cr), .int (ag), .int (nu)])), ((q 1), .inl (cC, 60, .inl (upd t n (nI x))))] H := hP
    have hD : va_D A [((q 0), .inr (0, [.ref (q 1), .int (nI (n + 1)), .int (nI pl), .int (kd), .int (cr), .int (ag), .int (nu)])), ((q 1), .inl (cC, 60, .inl (upd t n (nI x))))] := hD
    refine lv_aload_n hx hb dX0_add_42 rfl (lv_at hl 0 rfl) ?_
    refine va_get (D := D) (ci := 0) (v := .int (nI (n + 1))) (C := RX0) (T := TX0) (N := 7) hx hb hts inwX0_add_X0 hown hK hP 0 rfl rfl 1 (by decide) fl15 (fun _ h9 => h9) rfl dX0_add_43 ?_
    exact kb_iret (D := D) hQ hx hb hr hlocks hK hP hD hS dX0_add_46 (n + 1, upd t n (nI x)) rfl (Nat.le_refl _) (Nat.le_refl _) (show (n = 60 ∧ (nI (n + 1)) = -3 ∧ (n + 1) = n ∧ (upd t n (nI x)) = t) ∨ (n < 60 ∧ (nI (n + 1)) = nI (n + 1) ∧ (n + 1) = n + 1 ∧ (upd t n (nI x)) = upd t n (nI x)) from (Or.inr ⟨by omega, rfl, rfl, rfl⟩))
  · refine lv_bipush (v := (-3)) hx hb dX0_add_19 (by decide) ?_
    exact kb_iret (D := D) hQ hx hb hr hlocks hK hP hD hS dX0_add_21 (n, t) rfl (Nat.le_refl _) (Nat.le_refl _) (show (n = 60 ∧ (-3) = -3 ∧ n = n ∧ t = t) ∨ (n < 60 ∧ (-3) = nI (n + 1) ∧ n = n + 1 ∧ t = upd t n (nI x)) from (Or.inl ⟨by omega, rfl, rfl, rfl⟩))
abbrev rmX0_readThing : Room := { frames := 4, cells := 0, slots := 0, locals := 85 }
theorem hdX0_readThing : yX0_readThing.cls = RX0 ∧ yX0_readThing.cls ≠ "java/lang/invoke/MethodHandle" ∧ yX0_readThing.cls ≠ "java/lang/invoke/VarHandle" ∧ (parseMethodDescriptor yX0_readThing.desc).map (fun d => d.parameters.length) = some 0 := by decide +kernel
theorem inwX0_readThing_X0 : ∀ w ∈ wsX00, w ∈ wsX0_readThing := fun w h => List.mem_cons_of_mem _ (List.mem_append_right _ h)
set_option maxHeartbeats 4000000 in
set_option maxRecDepth 100000 in
theorem c_X0_readThing (l : Launch) (D : va_G) (cC : ClassId) (q : Nat → Nat) (n : Nat) (pl : Nat) (kd : Int32) (cr : Int32) (ag : Int32) (nu : Int32) (t : Nat → Int32) (hpl : pl ≤ n) (tx : Nat → Nat) (htx : tOk t tx n) : kb_I (S := Nat × Int32 × Int32 × Int32 × Int32) D [(cC, .char)] l yX0_readThing wsX0_readThing rmX0_readThing [.ref (q 0)] [((q 0), .inr (0, [.ref (q 1), .int (nI n), .int (nI pl), .int (kd), .int (cr), .int (ag), .int (nu)])), ((q 1), .inl (cC, 60, .inl t))] (fun (r : Int32) (u : Nat × Int32 × Int32 × Int32 × Int32) => r = kb_b (pTs tx n pl).1 ∧ u.1 = (pTs tx n pl).2.1 ∧ ((pTs tx n pl).1 = true → u.2.1 = nI (pTs tx n pl).2.2.1 ∧ u.2.2.2.2 = nI (pTs tx n pl).2.2.2.2.2 ∧ ((pTs tx n pl).2.2.1 = 107 → u.2.2.1 = nI (pTs tx n pl).2.2.2.1 ∧ u.2.2.2.1 = nI (pTs tx n pl).2.2.2.2.1))) (fun (u : Nat × Int32 × Int32 × Int32 × Int32) => [((q 0), .inr (0, [.ref (q 1), .int (nI n), .int (nI u.1), .int (u.2.1), .int (u.2.2.1), .int (u.2.2.2.1), .int (u.2.2.2.2)])), ((q 1), .inl (cC, 60, .inl t))]) 0 0 := by
  refine kb_I_of (cc := cX0_readThing) (maxL := 1) (ret := (some .boolean)) (by decide) rfl (Nat.le_of_ble_eq_true rfl) ?_
  intro p e s mm args below meth c A hx hb hml hr hts hown hlocks hnm hA hN hK hP hD hS ls hl Q hQ
  have hl : lv_has ls 1 [(0, .ref (q 0))] := hl
  have hP : va_P D vwCl [((q 0), .inr (0, [.ref (q 1), .int (nI n), .int (nI pl), .int (kd), .int (cr), .int (ag), .int (nu)])), ((q 1), .inl (cC, 60, .inl t))] s.heap := hP
  have hD : va_D A [((q 0), .inr (0, [.ref (q 1), .int (nI n), .int (nI pl), .int (kd), .int (cr), .int (ag), .int (nu)])), ((q 1), .inl (cC, 60, .inl t))] := hD
  have fl19 := hts (.fieldLink RX0 19 "KingsBanquet$Guests" "place" "I") (by decide +kernel)
  have fl22 := hts (.fieldLink RX0 22 "KingsBanquet$Guests" "kind" "I") (by decide +kernel)
  have hn := htx.1
  refine lv_aload_n hx hb dX0_readThing_0 rfl (lv_at hl 0 rfl) ?_
  refine va_get (D := D) (ci := 0) (v := .int (nI pl)) (C := RX0) (T := TX0) (N := 7) hx hb hts inwX0_readThing_X0 hown hK hP 0 rfl rfl 2 (by decide) fl19 (fun _ h9 => h9) rfl dX0_readThing_1 ?_
  refine kb_nif_le (tgt := 18) hx hb dX0_readThing_4 (by decide) (by omega) (fun c4 => ?_) (fun c4 => ?_)
  · have hE : pTs tx n pl = pTh tx n pl := pTs_z c4
    have hIle : pl ≤ n := hpl
    refine lv_aload_n hx hb dX0_readThing_18 rfl (lv_at hl 0 rfl) ?_
    refine lv_aload_n hx hb dX0_readThing_19 rfl (lv_at hl 0 rfl) ?_
    refine lv_aload_n hx hb dX0_readThing_20 rfl (lv_at hl 0 rfl) ?_
    refine va_get (D := D) (ci := 0) (v := .int (nI pl)) (C := RX0) (T := TX0) (N := 7) hx hb hts inwX0_readThing_X0 hown hK hP 0 rfl rfl 2 (by decide) fl19 (fun _ h9 => h9) rfl dX0_readThing_21 ?_
    refine kb_vR (As := [.int (nI pl)]) (rest := [.ref (q 0)]) hx hb hml hts hown hN hK hP hD hS hA (c_X0_signAt l D cC q n pl kd cr ag nu t pl (by omega) (by first | assumption | omega) htx) gX0_readThing_X0_signAt rfl ⟨rfl, rfl⟩ hdX0_signAt ⟨Nat.le_of_ble_eq_true rfl, Nat.le_of_ble_eq_true rfl⟩ [0, 1] [0] rfl rfl rfl (ci := 0) rfl rfl rfl rfl rfl hl.1 (Nat.le_of_ble_eq_true rfl) dX0_readThing_24 ⟨Nat.zero_le _, Nat.zero_le _⟩ (fun H locs hP hS => ?_)
    refine va_put (D := D) (ci := 0) (v := .int (sgI tx n pl)) (ty := .int) (C := RX0) (T := TX0) (N := 7) hx hb hts inwX0_readThing_X0 tyX0 tyX0_ok nmX0 hown hK hP hD hS 0 rfl rfl 3 (by decide) fl22 (fun _ h9 => h9) rfl (by decide +kernel) rfl rfl (Nat.le_of_ble_eq_true rfl) dX0_readThing_27 (fun H locs hP hD hS => ?_)
    have hP : va_P D vwCl [((q 0), .inr (0, [.ref (q 1), .int (nI n), .int (nI pl), .int (sgI tx n pl), .int (cr), .int (ag), .int (nu)])), ((q 1), .inl (cC, 60, .inl t))] H := hP
    have hD : va_D A [((q 0), .inr (0, [.ref (q 1), .int (nI n), .int (nI pl), .int (sgI tx n pl), .int (cr), .int (ag), .int (nu)])), ((q 1), .inl (cC, 60, .inl t))] := hD
    refine lv_aload_n hx hb dX0_readThing_30 rfl (lv_at hl 0 rfl) ?_
    refine lv_bipush (v := nI 107) hx hb dX0_readThing_31 (by decide) ?_
    refine kb_vI (As := [.int (nI 107)]) (rest := []) hx hb hml hts hown hN hK hP hD hS hA (c_X0_skip l D cC q n pl (sgI tx n pl) cr ag nu t 107 (by decide) hIle (by first | assumption | omega) htx) gX0_readThing_X0_skip rfl ⟨rfl, rfl⟩ hdX0_skip ⟨Nat.le_of_ble_eq_true rfl, Nat.le_of_ble_eq_true rfl⟩ [0, 1] [0] rfl rfl rfl (ci := 0) rfl rfl rfl (fun _ => rfl) rfl rfl hl.1 (Nat.le_of_ble_eq_true rfl) dX0_readThing_33 ⟨Nat.zero_le _, Nat.zero_le _⟩ (fun r_33 u H locs hw_33 hP hD hS => ?_)
    obtain ⟨plo_33, rfl⟩ : ∃ z, z = u := ⟨_, rfl⟩
    have hw_33 : r_33 = kb_b (decide (cd tx n pl = 107)) ∧ plo_33 = if cd tx n pl = 107 then pl + 1 else pl := hw_33
    have hP : va_P D vwCl [((q 0), .inr (0, [.ref (q 1), .int (nI n), .int (nI plo_33), .int ((sgI tx n pl)), .int (cr), .int (ag), .int (nu)])), ((q 1), .inl (cC, 60, .inl t))] H := hP
    have hD : va_D A [((q 0), .inr (0, [.ref (q 1), .int (nI n), .int (nI plo_33), .int ((sgI tx n pl)), .int (cr), .int (ag), .int (nu)])), ((q 1), .inl (cC, 60, .inl t))] := hD
    obtain ⟨hr_33, hp_33⟩ := hw_33
    subst hr_33
    subst hp_33
    refine kb_bif_eq (tgt := 44) hx hb dX0_readThing_36 (by decide) (fun c36 => ?_) (fun c36 => ?_)
    · have hs_36 : ¬ cd tx n pl = 107 := of_decide_eq_false c36
      have hP : va_P D vwCl [((q 0), .inr (0, [.ref (q 1), .int (nI n), .int (nI pl), .int ((sgI tx n pl)), .int (cr), .int (ag), .int (nu)])), ((q 1), .inl (cC, 60, .inl t))] H := by rw [if_neg hs_36] at hP; exact hP
      have hD : va_D A [((q 0), .inr (0, [.ref (q 1), .int (nI n), .int (nI pl), .int ((sgI tx n pl)), .int (cr), .int (ag), .int (nu)])), ((q 1), .inl (cC, 60, .inl t))] := by rw [if_neg hs_36] at hD; exact hD
      refine lv_aload_n hx hb dX0_readThing_44 rfl (lv_at hl 0 rfl) ?_
      refine lv_bipush (v := nI 108) hx hb dX0_readThing_45 (by decide) ?_
      refine kb_vI (As := [.int (nI 108)]) (rest := []) hx hb hml hts hown hN hK hP hD hS hA (c_X0_skip l D cC q n pl (sgI tx n pl) cr ag nu t 108 (by decide) hIle (by first | assumption | omega) htx) gX0_readThing_X0_skip rfl ⟨rfl, rfl⟩ hdX0_skip ⟨Nat.le_of_ble_eq_true rfl, Nat.le_of_ble_eq_true rfl⟩ [0, 1] [0] rfl rfl rfl (ci := 0) rfl rfl rfl (fun _ => rfl) rfl rfl hl.1 (Nat.le_of_ble_eq_true rfl) dX0_readThing_47 ⟨Nat.zero_le _, Nat.zero_le _⟩ (fun r_47 u H locs hw_47 hP hD hS => ?_)
      obtain ⟨plo_47, rfl⟩ : ∃ z, z = u := ⟨_, rfl⟩
      have hw_47 : r_47 = kb_b (decide (cd tx n pl = 108)) ∧ plo_47 = if cd tx n pl = 108 then pl + 1 else pl := hw_47
      have hP : va_P D vwCl [((q 0), .inr (0, [.ref (q 1), .int (nI n), .int (nI plo_47), .int ((sgI tx n pl)), .int (cr), .int (ag), .int (nu)])), ((q 1), .inl (cC, 60, .inl t))] H := hP
      have hD : va_D A [((q 0), .inr (0, [.ref (q 1), .int (nI n), .int (nI plo_47), .int ((sgI tx n pl)), .int (cr), .int (ag), .int (nu)])), ((q 1), .inl (cC, 60, .inl t))] := hD
      obtain ⟨hr_47, hp_47⟩ := hw_47
      subst hr_47
      subst hp_47
      refine kb_bif_eq (tgt := 61) hx hb dX0_readThing_50 (by decide) (fun c50 => ?_) (fun c50 => ?_)
      · have hs_50 : ¬ cd tx n pl = 108 := of_decide_eq_false c50
        have hP : va_P D vwCl [((q 0), .inr (0, [.ref (q 1), .int (nI n), .int (nI pl), .int ((sgI tx n pl)), .int (cr), .int (ag), .int (nu)])), ((q 1), .inl (cC, 60, .inl t))] H := by rw [if_neg hs_50] at hP; exact hP
        have hD : va_D A [((q 0), .inr (0, [.ref (q 1), .int (nI n), .int (nI pl), .int ((sgI tx n pl)), .int (cr), .int (ag), .int (nu)])), ((q 1), .inl (cC, 60, .inl t))] := by rw [if_neg hs_50] at hD; exact hD
        refine lv_aload_n hx hb dX0_readThing_61 rfl (lv_at hl 0 rfl) ?_
        refine lv_bipush (v := nI 46) hx hb dX0_readThing_62 (by decide) ?_
        refine kb_vI (As := [.int (nI 46)]) (rest := []) hx hb hml hts hown hN hK hP hD hS hA (c_X0_skip l D cC q n pl (sgI tx n pl) cr ag nu t 46 (by decide) hIle (by first | assumption | omega) htx) gX0_readThing_X0_skip rfl ⟨rfl, rfl⟩ hdX0_skip ⟨Nat.le_of_ble_eq_true rfl, Nat.le_of_ble_eq_true rfl⟩ [0, 1] [0] rfl rfl rfl (ci := 0) rfl rfl rfl (fun _ => rfl) rfl rfl hl.1 (Nat.le_of_ble_eq_true rfl) dX0_readThing_64 ⟨Nat.zero_le _, Nat.zero_le _⟩ (fun r_64 u H locs hw_64 hP hD hS => ?_)
        obtain ⟨plo_64, rfl⟩ : ∃ z, z = u := ⟨_, rfl⟩
        have hw_64 : r_64 = kb_b (decide (cd tx n pl = 46)) ∧ plo_64 = if cd tx n pl = 46 then pl + 1 else pl := hw_64
        have hP : va_P D vwCl [((q 0), .inr (0, [.ref (q 1), .int (nI n), .int (nI plo_64), .int ((sgI tx n pl)), .int (cr), .int (ag), .int (nu)])), ((q 1), .inl (cC, 60, .inl t))] H := hP
        have hD : va_D A [((q 0), .inr (0, [.ref (q 1), .int (nI n), .int (nI plo_64), .int ((sgI tx n pl)), .int (cr), .int (ag), .int (nu)])), ((q 1), .inl (cC, 60, .inl t))] := hD
        obtain ⟨hr_64, hp_64⟩ := hw_64
        subst hr_64
        subst hp_64
        refine kb_bif_eq (tgt := 84) hx hb dX0_readThing_67 (by decide) (fun c67 => ?_) (fun c67 => ?_)
        · have hs_67 : ¬ cd tx n pl = 46 := of_decide_eq_false c67
          have hP : va_P D vwCl [((q 0), .inr (0, [.ref (q 1), .int (nI n), .int (nI pl), .int ((sgI tx n pl)), .int (cr), .int (ag), .int (nu)])), ((q 1), .inl (cC, 60, .inl t))] H := by rw [if_neg hs_67] at hP; exact hP
          have hD : va_D A [((q 0), .inr (0, [.ref (q 1), .int (nI n), .int (nI pl), .int ((sgI tx n pl)), .int (cr), .int (ag), .int (nu)])), ((q 1), .inl (cC, 60, .inl t))] := by rw [if_neg hs_67] at hD; exact hD
          refine lv_iconst (v := nI 0) hx hb dX0_readThing_84 (by decide) ?_
          exact kb_zret (D := D) hQ hx hb hr hlocks hK hP hD hS dX0_readThing_85 rfl (pl, (sgI tx n pl), cr, ag, nu) rfl (Nat.le_refl _) (Nat.le_refl _) (show (nI 0) = kb_b (pTs tx n pl).1 ∧ pl = (pTs tx n pl).2.1 ∧ ((pTs tx n pl).1 = true → (sgI tx n pl) = nI (pTs tx n pl).2.2.1 ∧ nu = nI (pTs tx n pl).2.2.2.2.2 ∧ ((pTs tx n pl).2.2.1 = 107 → cr = nI (pTs tx n pl).2.2.2.1 ∧ ag = nI (pTs tx n pl).2.2.2.2.1)) from (by rw [hE, pTh_0 hs_36 hs_50 hs_67]; exact ⟨rfl, rfl, fun q => by cases q⟩))
        · have hs_67 : cd tx n pl = 46 := of_decide_eq_true c67
          have hlt_67 := cd_lt hs_67 (by decide)
          have hP : va_P D vwCl [((q 0), .inr (0, [.ref (q 1), .int (nI n), .int (nI (pl + 1)), .int ((sgI tx n pl)), .int (cr), .int (ag), .int (nu)])), ((q 1), .inl (cC, 60, .inl t))] H := by rw [if_pos hs_67] at hP; exact hP
          have hD : va_D A [((q 0), .inr (0, [.ref (q 1), .int (nI n), .int (nI (pl + 1)), .int ((sgI tx n pl)), .int (cr), .int (ag), .int (nu)])), ((q 1), .inl (cC, 60, .inl t))] := by rw [if_pos hs_67] at hD; exact hD
          refine lv_aload_n hx hb dX0_readThing_70 rfl (lv_at hl 0 rfl) ?_
          refine lv_iconst (v := nI 1) hx hb dX0_readThing_71 (by decide) ?_
          refine lv_bipush (v := nI 99) hx hb dX0_readThing_72 (by decide) ?_
          refine kb_vI (As := [.int (nI 1), .int (nI 99)]) (rest := []) hx hb hml hts hown hN hK hP hD hS hA (c_X0_readNumber l D cC q n (pl + 1) (sgI tx n pl) cr ag nu t 1 99 (by decide) (by decide) hlt_67 (by first | assumption | omega) htx) gX0_readThing_X0_readNumber rfl ⟨rfl, rfl⟩ hdX0_readNumber ⟨Nat.le_of_ble_eq_true rfl, Nat.le_of_ble_eq_true rfl⟩ [0, 1] [0] rfl rfl rfl (ci := 0) rfl rfl rfl (fun _ => rfl) rfl rfl hl.1 (Nat.le_of_ble_eq_true rfl) dX0_readThing_74 ⟨Nat.zero_le _, Nat.zero_le _⟩ (fun r_74 u H locs hw_74 hP hD hS => ?_)
          obtain ⟨plo_74, nuo_74⟩ := u
          have hw_74 : r_74 = kb_b (pN tx n 1 99 (pl + 1)).1 ∧ plo_74 = (pN tx n 1 99 (pl + 1)).2.1 ∧ ((pN tx n 1 99 (pl + 1)).1 = true → nuo_74 = nI (pN tx n 1 99 (pl + 1)).2.2) := hw_74
          have hP : va_P D vwCl [((q 0), .inr (0, [.ref (q 1), .int (nI n), .int (nI plo_74), .int ((sgI tx n pl)), .int (cr), .int (ag), .int (nuo_74)])), ((q 1), .inl (cC, 60, .inl t))] H := hP
          have hD : va_D A [((q 0), .inr (0, [.ref (q 1), .int (nI n), .int (nI plo_74), .int ((sgI tx n pl)), .int (cr), .int (ag), .int (nuo_74)])), ((q 1), .inl (cC, 60, .inl t))] := hD
          obtain ⟨hr_74, hp_74, hq_74⟩ := hw_74
          subst hr_74
          subst hp_74
          refine kb_bif_eq (tgt := 84) hx hb dX0_readThing_77 (by decide) (fun c77 => ?_) (fun c77 => ?_)
          · refine lv_iconst (v := nI 0) hx hb dX0_readThing_84 (by decide) ?_
            exact kb_zret (D := D) hQ hx hb hr hlocks hK hP hD hS dX0_readThing_85 rfl ((pN tx n 1 99 (pl + 1)).2.1, (sgI tx n pl), cr, ag, nuo_74) rfl (Nat.le_refl _) (Nat.le_refl _) (show (nI 0) = kb_b (pTs tx n pl).1 ∧ ((pN tx n 1 99 (pl + 1)).2.1) = (pTs tx n pl).2.1 ∧ ((pTs tx n pl).1 = true → (sgI tx n pl) = nI (pTs tx n pl).2.2.1 ∧ nuo_74 = nI (pTs tx n pl).2.2.2.2.2 ∧ ((pTs tx n pl).2.2.1 = 107 → cr = nI (pTs tx n pl).2.2.2.1 ∧ ag = nI (pTs tx n pl).2.2.2.2.1)) from (by rw [hE, pTh_d hs_67]; exact ⟨by rw [c77]; rfl, rfl, fun q => by rw [c77] at q; cases q⟩))
          · refine lv_iconst (v := nI 1) hx hb dX0_readThing_80 (by decide) ?_
            refine lv_goto (tgt := 85) hx hb dX0_readThing_81 (by decide) ?_
            exact kb_zret (D := D) hQ hx hb hr hlocks hK hP hD hS dX0_readThing_85 rfl ((pN tx n 1 99 (pl + 1)).2.1, (sgI tx n pl), cr, ag, nuo_74) rfl (Nat.le_refl _) (Nat.le_refl _) (show (nI 1) = kb_b (pTs tx n pl).1 ∧ ((pN tx n 1 99 (pl + 1)).2.1) = (pTs tx n pl).2.1 ∧ ((pTs tx n pl).1 = true → (sgI tx n pl) = nI (pTs tx n pl).2.2.1 ∧ nuo_74 = nI (pTs tx n pl).2.2.2.2.2 ∧ ((pTs tx n pl).2.2.1 = 107 → cr = nI (pTs tx n pl).2.2.2.1 ∧ ag = nI (pTs tx n pl).2.2.2.2.1)) from (by rw [hE, pTh_d hs_67]; exact ⟨by rw [c77]; rfl, rfl, fun q => ⟨(sgI_eq (x := 46) htx (by decide)).mpr hs_67, hq_74 q, fun z => absurd (show (46 : Nat) = 107 from z) (by decide)⟩⟩))
      · have hs_50 : cd tx n pl = 108 := of_decide_eq_true c50
        have hlt_50 := cd_lt hs_50 (by decide)
        have hP : va_P D vwCl [((q 0), .inr (0, [.ref (q 1), .int (nI n), .int (nI (pl + 1)), .int ((sgI tx n pl)), .int (cr), .int (ag), .int (nu)])), ((q 1), .inl (cC, 60, .inl t))] H := by rw [if_pos hs_50] at hP; exact hP
        have hD : va_D A [((q 0), .inr (0, [.ref (q 1), .int (nI n), .int (nI (pl + 1)), .int ((sgI tx n pl)), .int (cr), .int (ag), .int (nu)])), ((q 1), .inl (cC, 60, .inl t))] := by rw [if_pos hs_50] at hD; exact hD
        refine lv_aload_n hx hb dX0_readThing_53 rfl (lv_at hl 0 rfl) ?_
        refine lv_iconst (v := nI 0) hx hb dX0_readThing_54 (by decide) ?_
        refine lv_bipush (v := nI 23) hx hb dX0_readThing_55 (by decide) ?_
        refine kb_vI (As := [.int (nI 0), .int (nI 23)]) (rest := []) hx hb hml hts hown hN hK hP hD hS hA (c_X0_readNumber l D cC q n (pl + 1) (sgI tx n pl) cr ag nu t 0 23 (by decide) (by decide) hlt_50 (by first | assumption | omega) htx) gX0_readThing_X0_readNumber rfl ⟨rfl, rfl⟩ hdX0_readNumber ⟨Nat.le_of_ble_eq_true rfl, Nat.le_of_ble_eq_true rfl⟩ [0, 1] [0] rfl rfl rfl (ci := 0) rfl rfl rfl (fun _ => rfl) rfl rfl hl.1 (Nat.le_of_ble_eq_true rfl) dX0_readThing_57 ⟨Nat.zero_le _, Nat.zero_le _⟩ (fun r_57 u H locs hw_57 hP hD hS => ?_)
        obtain ⟨plo_57, nuo_57⟩ := u
        have hw_57 : r_57 = kb_b (pN tx n 0 23 (pl + 1)).1 ∧ plo_57 = (pN tx n 0 23 (pl + 1)).2.1 ∧ ((pN tx n 0 23 (pl + 1)).1 = true → nuo_57 = nI (pN tx n 0 23 (pl + 1)).2.2) := hw_57
        have hP : va_P D vwCl [((q 0), .inr (0, [.ref (q 1), .int (nI n), .int (nI plo_57), .int ((sgI tx n pl)), .int (cr), .int (ag), .int (nuo_57)])), ((q 1), .inl (cC, 60, .inl t))] H := hP
        have hD : va_D A [((q 0), .inr (0, [.ref (q 1), .int (nI n), .int (nI plo_57), .int ((sgI tx n pl)), .int (cr), .int (ag), .int (nuo_57)])), ((q 1), .inl (cC, 60, .inl t))] := hD
        obtain ⟨hr_57, hp_57, hq_57⟩ := hw_57
        subst hr_57
        subst hp_57
        exact kb_zret (D := D) hQ hx hb hr hlocks hK hP hD hS dX0_readThing_60 (kb_b_n _) ((pN tx n 0 23 (pl + 1)).2.1, (sgI tx n pl), cr, ag, nuo_57) rfl (Nat.le_refl _) (Nat.le_refl _) (show (kb_b ((pN tx n 0 23 (pl + 1)).1)) = kb_b (pTs tx n pl).1 ∧ ((pN tx n 0 23 (pl + 1)).2.1) = (pTs tx n pl).2.1 ∧ ((pTs tx n pl).1 = true → (sgI tx n pl) = nI (pTs tx n pl).2.2.1 ∧ nuo_57 = nI (pTs tx n pl).2.2.2.2.2 ∧ ((pTs tx n pl).2.2.1 = 107 → cr = nI (pTs tx n pl).2.2.2.1 ∧ ag = nI (pTs tx n pl).2.2.2.2.1)) from (by rw [hE, pTh_l hs_50]; exact ⟨rfl, rfl, fun q => ⟨(sgI_eq (x := 108) htx (by decide)).mpr hs_50, hq_57 q, fun z => absurd (show (108 : Nat) = 107 from z) (by decide)⟩⟩))
    · have hs_36 : cd tx n pl = 107 := of_decide_eq_true c36
      have hlt_36 := cd_lt hs_36 (by decide)
      have hP : va_P D vwCl [((q 0), .inr (0, [.ref (q 1), .int (nI n), .int (nI (pl + 1)), .int ((sgI tx n pl)), .int (cr), .int (ag), .int (nu)])), ((q 1), .inl (cC, 60, .inl t))] H := by rw [if_pos hs_36] at hP; exact hP
      have hD : va_D A [((q 0), .inr (0, [.ref (q 1), .int (nI n), .int (nI (pl + 1)), .int ((sgI tx n pl)), .int (cr), .int (ag), .int (nu)])), ((q 1), .inl (cC, 60, .inl t))] := by rw [if_pos hs_36] at hD; exact hD
      refine lv_aload_n hx hb dX0_readThing_39 rfl (lv_at hl 0 rfl) ?_
      refine kb_vI (As := []) (rest := []) hx hb hml hts hown hN hK hP hD hS hA (c_X0_readKing l D cC q n (pl + 1) (sgI tx n pl) cr ag nu t hlt_36 (by first | assumption | omega) htx) gX0_readThing_X0_readKing rfl ⟨rfl, rfl⟩ hdX0_readKing ⟨Nat.le_of_ble_eq_true rfl, Nat.le_of_ble_eq_true rfl⟩ [0, 1] [0] rfl rfl rfl (ci := 0) rfl rfl rfl (fun _ => rfl) rfl rfl hl.1 (Nat.le_of_ble_eq_true rfl) dX0_readThing_40 ⟨Nat.zero_le _, Nat.zero_le _⟩ (fun r_40 u H locs hw_40 hP hD hS => ?_)
      obtain ⟨plo_40, cro_40, ago_40, nuo_40⟩ := u
      have hw_40 : r_40 = kb_b (pK tx n (pl + 1)).1 ∧ plo_40 = (pK tx n (pl + 1)).2.1 ∧ ((pK tx n (pl + 1)).1 = true → cro_40 = nI (pK tx n (pl + 1)).2.2.1 ∧ ago_40 = nI (pK tx n (pl + 1)).2.2.2.1 ∧ nuo_40 = nI (pK tx n (pl + 1)).2.2.2.2) := hw_40
      have hP : va_P D vwCl [((q 0), .inr (0, [.ref (q 1), .int (nI n), .int (nI plo_40), .int ((sgI tx n pl)), .int (cro_40), .int (ago_40), .int (nuo_40)])), ((q 1), .inl (cC, 60, .inl t))] H := hP
      have hD : va_D A [((q 0), .inr (0, [.ref (q 1), .int (nI n), .int (nI plo_40), .int ((sgI tx n pl)), .int (cro_40), .int (ago_40), .int (nuo_40)])), ((q 1), .inl (cC, 60, .inl t))] := hD
      obtain ⟨hr_40, hp_40, hq_40⟩ := hw_40
      subst hr_40
      subst hp_40
      exact kb_zret (D := D) hQ hx hb hr hlocks hK hP hD hS dX0_readThing_43 (kb_b_n _) ((pK tx n (pl + 1)).2.1, (sgI tx n pl), cro_40, ago_40, nuo_40) rfl (Nat.le_refl _) (Nat.le_refl _) (show (kb_b ((pK tx n (pl + 1)).1)) = kb_b (pTs tx n pl).1 ∧ ((pK tx n (pl + 1)).2.1) = (pTs tx n pl).2.1 ∧ ((pTs tx n pl).1 = true → (sgI tx n pl) = nI (pTs tx n pl).2.2.1 ∧ nuo_40 = nI (pTs tx n pl).2.2.2.2.2 ∧ ((pTs tx n pl).2.2.1 = 107 → cro_40 = nI (pTs tx n pl).2.2.2.1 ∧ ago_40 = nI (pTs tx n pl).2.2.2.2.1)) from (by rw [hE, pTh_k hs_36]; exact ⟨rfl, rfl, fun q => ⟨(sgI_eq (x := 107) htx (by decide)).mpr hs_36, (hq_40 q).2.2, fun _ => ⟨(hq_40 q).1, (hq_40 q).2.1⟩⟩⟩))
  · refine lv_aload_n hx hb dX0_readThing_7 rfl (lv_at hl 0 rfl) ?_
    refine lv_bipush (v := nI 59) hx hb dX0_readThing_8 (by decide) ?_
    refine kb_vI (As := [.int (nI 59)]) (rest := []) hx hb hml hts hown hN hK hP hD hS hA (c_X0_skip l D cC q n pl kd cr ag nu t 59 (by decide) hpl (by first | assumption | omega) htx) gX0_readThing_X0_skip rfl ⟨rfl, rfl⟩ hdX0_skip ⟨Nat.le_of_ble_eq_true rfl, Nat.le_of_ble_eq_true rfl⟩ [0, 1] [0] rfl rfl rfl (ci := 0) rfl rfl rfl (fun _ => rfl) rfl rfl hl.1 (Nat.le_of_ble_eq_true rfl) dX0_readThing_10 ⟨Nat.zero_le _, Nat.zero_le _⟩ (fun r_10 u H locs hw_10 hP hD hS => ?_)
    obtain ⟨plo_10, rfl⟩ : ∃ z, z = u := ⟨_, rfl⟩
    have hw_10 : r_10 = kb_b (decide (cd tx n pl = 59)) ∧ plo_10 = if cd tx n pl = 59 then pl + 1 else pl := hw_10
    have hP : va_P D vwCl [((q 0), .inr (0, [.ref (q 1), .int (nI n), .int (nI plo_10), .int (kd), .int (cr), .int (ag), .int (nu)])), ((q 1), .inl (cC, 60, .inl t))] H := hP
    have hD : va_D A [((q 0), .inr (0, [.ref (q 1), .int (nI n), .int (nI plo_10), .int (kd), .int (cr), .int (ag), .int (nu)])), ((q 1), .inl (cC, 60, .inl t))] := hD
    obtain ⟨hr_10, hp_10⟩ := hw_10
    subst hr_10
    subst hp_10
    refine kb_bif_ne (tgt := 18) hx hb dX0_readThing_13 (by decide) (fun c13 => ?_) (fun c13 => ?_)
    · have hs_13 : cd tx n pl = 59 := of_decide_eq_true c13
      have hlt_13 := cd_lt hs_13 (by decide)
      have hP : va_P D vwCl [((q 0), .inr (0, [.ref (q 1), .int (nI n), .int (nI (pl + 1)), .int (kd), .int (cr), .int (ag), .int (nu)])), ((q 1), .inl (cC, 60, .inl t))] H := by rw [if_pos hs_13] at hP; exact hP
      have hD : va_D A [((q 0), .inr (0, [.ref (q 1), .int (nI n), .int (nI (pl + 1)), .int (kd), .int (cr), .int (ag), .int (nu)])), ((q 1), .inl (cC, 60, .inl t))] := by rw [if_pos hs_13] at hD; exact hD
      have hE : pTs tx n pl = pTh tx n (pl + 1) := pTs_s (by omega) hs_13
      have hIle : pl + 1 ≤ n := hlt_13
      refine lv_aload_n hx hb dX0_readThing_18 rfl (lv_at hl 0 rfl) ?_
      refine lv_aload_n hx hb dX0_readThing_19 rfl (lv_at hl 0 rfl) ?_
      refine lv_aload_n hx hb dX0_readThing_20 rfl (lv_at hl 0 rfl) ?_
      refine va_get (D := D) (ci := 0) (v := .int (nI (pl + 1))) (C := RX0) (T := TX0) (N := 7) hx hb hts inwX0_readThing_X0 hown hK hP 0 rfl rfl 2 (by decide) fl19 (fun _ h9 => h9) rfl dX0_readThing_21 ?_
      refine kb_vR (As := [.int (nI (pl + 1))]) (rest := [.ref (q 0)]) hx hb hml hts hown hN hK hP hD hS hA (c_X0_signAt l D cC q n (pl + 1) kd cr ag nu t (pl + 1) (by omega) (by first | assumption | omega) htx) gX0_readThing_X0_signAt rfl ⟨rfl, rfl⟩ hdX0_signAt ⟨Nat.le_of_ble_eq_true rfl, Nat.le_of_ble_eq_true rfl⟩ [0, 1] [0] rfl rfl rfl (ci := 0) rfl rfl rfl rfl rfl hl.1 (Nat.le_of_ble_eq_true rfl) dX0_readThing_24 ⟨Nat.zero_le _, Nat.zero_le _⟩ (fun H locs hP hS => ?_)
      refine va_put (D := D) (ci := 0) (v := .int (sgI tx n (pl + 1))) (ty := .int) (C := RX0) (T := TX0) (N := 7) hx hb hts inwX0_readThing_X0 tyX0 tyX0_ok nmX0 hown hK hP hD hS 0 rfl rfl 3 (by decide) fl22 (fun _ h9 => h9) rfl (by decide +kernel) rfl rfl (Nat.le_of_ble_eq_true rfl) dX0_readThing_27 (fun H locs hP hD hS => ?_)
      have hP : va_P D vwCl [((q 0), .inr (0, [.ref (q 1), .int (nI n), .int (nI (pl + 1)), .int (sgI tx n (pl + 1)), .int (cr), .int (ag), .int (nu)])), ((q 1), .inl (cC, 60, .inl t))] H := hP
      have hD : va_D A [((q 0), .inr (0, [.ref (q 1), .int (nI n), .int (nI (pl + 1)), .int (sgI tx n (pl + 1)), .int (cr), .int (ag), .int (nu)])), ((q 1), .inl (cC, 60, .inl t))] := hD
      refine lv_aload_n hx hb dX0_readThing_30 rfl (lv_at hl 0 rfl) ?_
      refine lv_bipush (v := nI 107) hx hb dX0_readThing_31 (by decide) ?_
      refine kb_vI (As := [.int (nI 107)]) (rest := []) hx hb hml hts hown hN hK hP hD hS hA (c_X0_skip l D cC q n (pl + 1) (sgI tx n (pl + 1)) cr ag nu t 107 (by decide) hIle (by first | assumption | omega) htx) gX0_readThing_X0_skip rfl ⟨rfl, rfl⟩ hdX0_skip ⟨Nat.le_of_ble_eq_true rfl, Nat.le_of_ble_eq_true rfl⟩ [0, 1] [0] rfl rfl rfl (ci := 0) rfl rfl rfl (fun _ => rfl) rfl rfl hl.1 (Nat.le_of_ble_eq_true rfl) dX0_readThing_33 ⟨Nat.zero_le _, Nat.zero_le _⟩ (fun r_33 u H locs hw_33 hP hD hS => ?_)
      obtain ⟨plo_33, rfl⟩ : ∃ z, z = u := ⟨_, rfl⟩
      have hw_33 : r_33 = kb_b (decide (cd tx n (pl + 1) = 107)) ∧ plo_33 = if cd tx n (pl + 1) = 107 then (pl + 1) + 1 else (pl + 1) := hw_33
      have hP : va_P D vwCl [((q 0), .inr (0, [.ref (q 1), .int (nI n), .int (nI plo_33), .int ((sgI tx n (pl + 1))), .int (cr), .int (ag), .int (nu)])), ((q 1), .inl (cC, 60, .inl t))] H := hP
      have hD : va_D A [((q 0), .inr (0, [.ref (q 1), .int (nI n), .int (nI plo_33), .int ((sgI tx n (pl + 1))), .int (cr), .int (ag), .int (nu)])), ((q 1), .inl (cC, 60, .inl t))] := hD
      obtain ⟨hr_33, hp_33⟩ := hw_33
      subst hr_33
      subst hp_33
      refine kb_bif_eq (tgt := 44) hx hb dX0_readThing_36 (by decide) (fun c36 => ?_) (fun c36 => ?_)
      · have hs_36 : ¬ cd tx n (pl + 1) = 107 := of_decide_eq_false c36
        have hP : va_P D vwCl [((q 0), .inr (0, [.ref (q 1), .int (nI n), .int (nI (pl + 1)), .int ((sgI tx n (pl + 1))), .int (cr), .int (ag), .int (nu)])), ((q 1), .inl (cC, 60, .inl t))] H := by rw [if_neg hs_36] at hP; exact hP
        have hD : va_D A [((q 0), .inr (0, [.ref (q 1), .int (nI n), .int (nI (pl + 1)), .int ((sgI tx n (pl + 1))), .int (cr), .int (ag), .int (nu)])), ((q 1), .inl (cC, 60, .inl t))] := by rw [if_neg hs_36] at hD; exact hD
        refine lv_aload_n hx hb dX0_readThing_44 rfl (lv_at hl 0 rfl) ?_
        refine lv_bipush (v := nI 108) hx hb dX0_readThing_45 (by decide) ?_
        refine kb_vI (As := [.int (nI 108)]) (rest := []) hx hb hml hts hown hN hK hP hD hS hA (c_X0_skip l D cC q n (pl + 1) (sgI tx n (pl + 1)) cr ag nu t 108 (by decide) hIle (by first | assumption | omega) htx) gX0_readThing_X0_skip rfl ⟨rfl, rfl⟩ hdX0_skip ⟨Nat.le_of_ble_eq_true rfl, Nat.le_of_ble_eq_true rfl⟩ [0, 1] [0] rfl rfl rfl (ci := 0) rfl rfl rfl (fun _ => rfl) rfl rfl hl.1 (Nat.le_of_ble_eq_true rfl) dX0_readThing_47 ⟨Nat.zero_le _, Nat.zero_le _⟩ (fun r_47 u H locs hw_47 hP hD hS => ?_)
        obtain ⟨plo_47, rfl⟩ : ∃ z, z = u := ⟨_, rfl⟩
        have hw_47 : r_47 = kb_b (decide (cd tx n (pl + 1) = 108)) ∧ plo_47 = if cd tx n (pl + 1) = 108 then (pl + 1) + 1 else (pl + 1) := hw_47
        have hP : va_P D vwCl [((q 0), .inr (0, [.ref (q 1), .int (nI n), .int (nI plo_47), .int ((sgI tx n (pl + 1))), .int (cr), .int (ag), .int (nu)])), ((q 1), .inl (cC, 60, .inl t))] H := hP
        have hD : va_D A [((q 0), .inr (0, [.ref (q 1), .int (nI n), .int (nI plo_47), .int ((sgI tx n (pl + 1))), .int (cr), .int (ag), .int (nu)])), ((q 1), .inl (cC, 60, .inl t))] := hD
        obtain ⟨hr_47, hp_47⟩ := hw_47
        subst hr_47
        subst hp_47
        refine kb_bif_eq (tgt := 61) hx hb dX0_readThing_50 (by decide) (fun c50 => ?_) (fun c50 => ?_)
        · have hs_50 : ¬ cd tx n (pl + 1) = 108 := of_decide_eq_false c50
          have hP : va_P D vwCl [((q 0), .inr (0, [.ref (q 1), .int (nI n), .int (nI (pl + 1)), .int ((sgI tx n (pl + 1))), .int (cr), .int (ag), .int (nu)])), ((q 1), .inl (cC, 60, .inl t))] H := by rw [if_neg hs_50] at hP; exact hP
          have hD : va_D A [((q 0), .inr (0, [.ref (q 1), .int (nI n), .int (nI (pl + 1)), .int ((sgI tx n (pl + 1))), .int (cr), .int (ag), .int (nu)])), ((q 1), .inl (cC, 60, .inl t))] := by rw [if_neg hs_50] at hD; exact hD
          refine lv_aload_n hx hb dX0_readThing_61 rfl (lv_at hl 0 rfl) ?_
          refine lv_bipush (v := nI 46) hx hb dX0_readThing_62 (by decide) ?_
          refine kb_vI (As := [.int (nI 46)]) (rest := []) hx hb hml hts hown hN hK hP hD hS hA (c_X0_skip l D cC q n (pl + 1) (sgI tx n (pl + 1)) cr ag nu t 46 (by decide) hIle (by first | assumption | omega) htx) gX0_readThing_X0_skip rfl ⟨rfl, rfl⟩ hdX0_skip ⟨Nat.le_of_ble_eq_true rfl, Nat.le_of_ble_eq_true rfl⟩ [0, 1] [0] rfl rfl rfl (ci := 0) rfl rfl rfl (fun _ => rfl) rfl rfl hl.1 (Nat.le_of_ble_eq_true rfl) dX0_readThing_64 ⟨Nat.zero_le _, Nat.zero_le _⟩ (fun r_64 u H locs hw_64 hP hD hS => ?_)
          obtain ⟨plo_64, rfl⟩ : ∃ z, z = u := ⟨_, rfl⟩
          have hw_64 : r_64 = kb_b (decide (cd tx n (pl + 1) = 46)) ∧ plo_64 = if cd tx n (pl + 1) = 46 then (pl + 1) + 1 else (pl + 1) := hw_64
          have hP : va_P D vwCl [((q 0), .inr (0, [.ref (q 1), .int (nI n), .int (nI plo_64), .int ((sgI tx n (pl + 1))), .int (cr), .int (ag), .int (nu)])), ((q 1), .inl (cC, 60, .inl t))] H := hP
          have hD : va_D A [((q 0), .inr (0, [.ref (q 1), .int (nI n), .int (nI plo_64), .int ((sgI tx n (pl + 1))), .int (cr), .int (ag), .int (nu)])), ((q 1), .inl (cC, 60, .inl t))] := hD
          obtain ⟨hr_64, hp_64⟩ := hw_64
          subst hr_64
          subst hp_64
          refine kb_bif_eq (tgt := 84) hx hb dX0_readThing_67 (by decide) (fun c67 => ?_) (fun c67 => ?_)
          · have hs_67 : ¬ cd tx n (pl + 1) = 46 := of_decide_eq_false c67
            have hP : va_P D vwCl [((q 0), .inr (0, [.ref (q 1), .int (nI n), .int (nI (pl + 1)), .int ((sgI tx n (pl + 1))), .int (cr), .int (ag), .int (nu)])), ((q 1), .inl (cC, 60, .inl t))] H := by rw [if_neg hs_67] at hP; exact hP
            have hD : va_D A [((q 0), .inr (0, [.ref (q 1), .int (nI n), .int (nI (pl + 1)), .int ((sgI tx n (pl + 1))), .int (cr), .int (ag), .int (nu)])), ((q 1), .inl (cC, 60, .inl t))] := by rw [if_neg hs_67] at hD; exact hD
            refine lv_iconst (v := nI 0) hx hb dX0_readThing_84 (by decide) ?_
            exact kb_zret (D := D) hQ hx hb hr hlocks hK hP hD hS dX0_readThing_85 rfl ((pl + 1), (sgI tx n (pl + 1)), cr, ag, nu) rfl (Nat.le_refl _) (Nat.le_refl _) (show (nI 0) = kb_b (pTs tx n pl).1 ∧ (pl + 1) = (pTs tx n pl).2.1 ∧ ((pTs tx n pl).1 = true → (sgI tx n (pl + 1)) = nI (pTs tx n pl).2.2.1 ∧ nu = nI (pTs tx n pl).2.2.2.2.2 ∧ ((pTs tx n pl).2.2.1 = 107 → cr = nI (pTs tx n pl).2.2.2.1 ∧ ag = nI (pTs tx n pl).2.2.2.2.1)) from (by rw [hE, pTh_0 hs_36 hs_50 hs_67]; exact ⟨rfl, rfl, fun q => by cases q⟩))
          · have hs_67 : cd tx n (pl + 1) = 46 := of_decide_eq_true c67
            have hlt_67 := cd_lt hs_67 (by decide)
            have hP : va_P D vwCl [((q 0), .inr (0, [.ref (q 1), .int (nI n), .int (nI ((pl + 1) + 1)), .int ((sgI tx n (pl + 1))), .int (cr), .int (ag), .int (nu)])), ((q 1), .inl (cC, 60, .inl t))] H := by rw [if_pos hs_67] at hP; exact hP
            have hD : va_D A [((q 0), .inr (0, [.ref (q 1), .int (nI n), .int (nI ((pl + 1) + 1)), .int ((sgI tx n (pl + 1))), .int (cr), .int (ag), .int (nu)])), ((q 1), .inl (cC, 60, .inl t))] := by rw [if_pos hs_67] at hD; exact hD
            refine lv_aload_n hx hb dX0_readThing_70 rfl (lv_at hl 0 rfl) ?_
            refine lv_iconst (v := nI 1) hx hb dX0_readThing_71 (by decide) ?_
            refine lv_bipush (v := nI 99) hx hb dX0_readThing_72 (by decide) ?_
            refine kb_vI (As := [.int (nI 1), .int (nI 99)]) (rest := []) hx hb hml hts hown hN hK hP hD hS hA (c_X0_readNumber l D cC q n ((pl + 1) + 1) (sgI tx n (pl + 1)) cr ag nu t 1 99 (by decide) (by decide) hlt_67 (by first | assumption | omega) htx) gX0_readThing_X0_readNumber rfl ⟨rfl, rfl⟩ hdX0_readNumber ⟨Nat.le_of_ble_eq_true rfl, Nat.le_of_ble_eq_true rfl⟩ [0, 1] [0] rfl rfl rfl (ci := 0) rfl rfl rfl (fun _ => rfl) rfl rfl hl.1 (Nat.le_of_ble_eq_true rfl) dX0_readThing_74 ⟨Nat.zero_le _, Nat.zero_le _⟩ (fun r_74 u H locs hw_74 hP hD hS => ?_)
            obtain ⟨plo_74, nuo_74⟩ := u
            have hw_74 : r_74 = kb_b (pN tx n 1 99 ((pl + 1) + 1)).1 ∧ plo_74 = (pN tx n 1 99 ((pl + 1) + 1)).2.1 ∧ ((pN tx n 1 99 ((pl + 1) + 1)).1 = true → nuo_74 = nI (pN tx n 1 99 ((pl + 1) + 1)).2.2) := hw_74
            have hP : va_P D vwCl [((q 0), .inr (0, [.ref (q 1), .int (nI n), .int (nI plo_74), .int ((sgI tx n (pl + 1))), .int (cr), .int (ag), .int (nuo_74)])), ((q 1), .inl (cC, 60, .inl t))] H := hP
            have hD : va_D A [((q 0), .inr (0, [.ref (q 1), .int (nI n), .int (nI plo_74), .int ((sgI tx n (pl + 1))), .int (cr), .int (ag), .int (nuo_74)])), ((q 1), .inl (cC, 60, .inl t))] := hD
            obtain ⟨hr_74, hp_74, hq_74⟩ := hw_74
            subst hr_74
            subst hp_74
            refine kb_bif_eq (tgt := 84) hx hb dX0_readThing_77 (by decide) (fun c77 => ?_) (fun c77 => ?_)
            · refine lv_iconst (v := nI 0) hx hb dX0_readThing_84 (by decide) ?_
              exact kb_zret (D := D) hQ hx hb hr hlocks hK hP hD hS dX0_readThing_85 rfl ((pN tx n 1 99 ((pl + 1) + 1)).2.1, (sgI tx n (pl + 1)), cr, ag, nuo_74) rfl (Nat.le_refl _) (Nat.le_refl _) (show (nI 0) = kb_b (pTs tx n pl).1 ∧ ((pN tx n 1 99 ((pl + 1) + 1)).2.1) = (pTs tx n pl).2.1 ∧ ((pTs tx n pl).1 = true → (sgI tx n (pl + 1)) = nI (pTs tx n pl).2.2.1 ∧ nuo_74 = nI (pTs tx n pl).2.2.2.2.2 ∧ ((pTs tx n pl).2.2.1 = 107 → cr = nI (pTs tx n pl).2.2.2.1 ∧ ag = nI (pTs tx n pl).2.2.2.2.1)) from (by rw [hE, pTh_d hs_67]; exact ⟨by rw [c77]; rfl, rfl, fun q => by rw [c77] at q; cases q⟩))
            · refine lv_iconst (v := nI 1) hx hb dX0_readThing_80 (by decide) ?_
              refine lv_goto (tgt := 85) hx hb dX0_readThing_81 (by decide) ?_
              exact kb_zret (D := D) hQ hx hb hr hlocks hK hP hD hS dX0_readThing_85 rfl ((pN tx n 1 99 ((pl + 1) + 1)).2.1, (sgI tx n (pl + 1)), cr, ag, nuo_74) rfl (Nat.le_refl _) (Nat.le_refl _) (show (nI 1) = kb_b (pTs tx n pl).1 ∧ ((pN tx n 1 99 ((pl + 1) + 1)).2.1) = (pTs tx n pl).2.1 ∧ ((pTs tx n pl).1 = true → (sgI tx n (pl + 1)) = nI (pTs tx n pl).2.2.1 ∧ nuo_74 = nI (pTs tx n pl).2.2.2.2.2 ∧ ((pTs tx n pl).2.2.1 = 107 → cr = nI (pTs tx n pl).2.2.2.1 ∧ ag = nI (pTs tx n pl).2.2.2.2.1)) from (by rw [hE, pTh_d hs_67]; exact ⟨by rw [c77]; rfl, rfl, fun q => ⟨(sgI_eq (x := 46) htx (by decide)).mpr hs_67, hq_74 q, fun z => absurd (show (46 : Nat) = 107 from z) (by decide)⟩⟩))
        · have hs_50 : cd tx n (pl + 1) = 108 := of_decide_eq_true c50
          have hlt_50 := cd_lt hs_50 (by decide)
          have hP : va_P D vwCl [((q 0), .inr (0, [.ref (q 1), .int (nI n), .int (nI ((pl + 1) + 1)), .int ((sgI tx n (pl + 1))), .int (cr), .int (ag), .int (nu)])), ((q 1), .inl (cC, 60, .inl t))] H := by rw [if_pos hs_50] at hP; exact hP
          have hD : va_D A [((q 0), .inr (0, [.ref (q 1), .int (nI n), .int (nI ((pl + 1) + 1)), .int ((sgI tx n (pl + 1))), .int (cr), .int (ag), .int (nu)])), ((q 1), .inl (cC, 60, .inl t))] := by rw [if_pos hs_50] at hD; exact hD
          refine lv_aload_n hx hb dX0_readThing_53 rfl (lv_at hl 0 rfl) ?_
          refine lv_iconst (v := nI 0) hx hb dX0_readThing_54 (by decide) ?_
          refine lv_bipush (v := nI 23) hx hb dX0_readThing_55 (by decide) ?_
          refine kb_vI (As := [.int (nI 0), .int (nI 23)]) (rest := []) hx hb hml hts hown hN hK hP hD hS hA (c_X0_readNumber l D cC q n ((pl + 1) + 1) (sgI tx n (pl + 1)) cr ag nu t 0 23 (by decide) (by decide) hlt_50 (by first | assumption | omega) htx) gX0_readThing_X0_readNumber rfl ⟨rfl, rfl⟩ hdX0_readNumber ⟨Nat.le_of_ble_eq_true rfl, Nat.le_of_ble_eq_true rfl⟩ [0, 1] [0] rfl rfl rfl (ci := 0) rfl rfl rfl (fun _ => rfl) rfl rfl hl.1 (Nat.le_of_ble_eq_true rfl) dX0_readThing_57 ⟨Nat.zero_le _, Nat.zero_le _⟩ (fun r_57 u H locs hw_57 hP hD hS => ?_)
          obtain ⟨plo_57, nuo_57⟩ := u
          have hw_57 : r_57 = kb_b (pN tx n 0 23 ((pl + 1) + 1)).1 ∧ plo_57 = (pN tx n 0 23 ((pl + 1) + 1)).2.1 ∧ ((pN tx n 0 23 ((pl + 1) + 1)).1 = true → nuo_57 = nI (pN tx n 0 23 ((pl + 1) + 1)).2.2) := hw_57
          have hP : va_P D vwCl [((q 0), .inr (0, [.ref (q 1), .int (nI n), .int (nI plo_57), .int ((sgI tx n (pl + 1))), .int (cr), .int (ag), .int (nuo_57)])), ((q 1), .inl (cC, 60, .inl t))] H := hP
          have hD : va_D A [((q 0), .inr (0, [.ref (q 1), .int (nI n), .int (nI plo_57), .int ((sgI tx n (pl + 1))), .int (cr), .int (ag), .int (nuo_57)])), ((q 1), .inl (cC, 60, .inl t))] := hD
          obtain ⟨hr_57, hp_57, hq_57⟩ := hw_57
          subst hr_57
          subst hp_57
          exact kb_zret (D := D) hQ hx hb hr hlocks hK hP hD hS dX0_readThing_60 (kb_b_n _) ((pN tx n 0 23 ((pl + 1) + 1)).2.1, (sgI tx n (pl + 1)), cr, ag, nuo_57) rfl (Nat.le_refl _) (Nat.le_refl _) (show (kb_b ((pN tx n 0 23 ((pl + 1) + 1)).1)) = kb_b (pTs tx n pl).1 ∧ ((pN tx n 0 23 ((pl + 1) + 1)).2.1) = (pTs tx n pl).2.1 ∧ ((pTs tx n pl).1 = true → (sgI tx n (pl + 1)) = nI (pTs tx n pl).2.2.1 ∧ nuo_57 = nI (pTs tx n pl).2.2.2.2.2 ∧ ((pTs tx n pl).2.2.1 = 107 → cr = nI (pTs tx n pl).2.2.2.1 ∧ ag = nI (pTs tx n pl).2.2.2.2.1)) from (by rw [hE, pTh_l hs_50]; exact ⟨rfl, rfl, fun q => ⟨(sgI_eq (x := 108) htx (by decide)).mpr hs_50, hq_57 q, fun z => absurd (show (108 : Nat) = 107 from z) (by decide)⟩⟩))
      · have hs_36 : cd tx n (pl + 1) = 107 := of_decide_eq_true c36
        have hlt_36 := cd_lt hs_36 (by decide)
        have hP : va_P D vwCl [((q 0), .inr (0, [.ref (q 1), .int (nI n), .int (nI ((pl + 1) + 1)), .int ((sgI tx n (pl + 1))), .int (cr), .int (ag), .int (nu)])), ((q 1), .inl (cC, 60, .inl t))] H := by rw [if_pos hs_36] at hP; exact hP
        have hD : va_D A [((q 0), .inr (0, [.ref (q 1), .int (nI n), .int (nI ((pl + 1) + 1)), .int ((sgI tx n (pl + 1))), .int (cr), .int (ag), .int (nu)])), ((q 1), .inl (cC, 60, .inl t))] := by rw [if_pos hs_36] at hD; exact hD
        refine lv_aload_n hx hb dX0_readThing_39 rfl (lv_at hl 0 rfl) ?_
        refine kb_vI (As := []) (rest := []) hx hb hml hts hown hN hK hP hD hS hA (c_X0_readKing l D cC q n ((pl + 1) + 1) (sgI tx n (pl + 1)) cr ag nu t hlt_36 (by first | assumption | omega) htx) gX0_readThing_X0_readKing rfl ⟨rfl, rfl⟩ hdX0_readKing ⟨Nat.le_of_ble_eq_true rfl, Nat.le_of_ble_eq_true rfl⟩ [0, 1] [0] rfl rfl rfl (ci := 0) rfl rfl rfl (fun _ => rfl) rfl rfl hl.1 (Nat.le_of_ble_eq_true rfl) dX0_readThing_40 ⟨Nat.zero_le _, Nat.zero_le _⟩ (fun r_40 u H locs hw_40 hP hD hS => ?_)
        obtain ⟨plo_40, cro_40, ago_40, nuo_40⟩ := u
        have hw_40 : r_40 = kb_b (pK tx n ((pl + 1) + 1)).1 ∧ plo_40 = (pK tx n ((pl + 1) + 1)).2.1 ∧ ((pK tx n ((pl + 1) + 1)).1 = true → cro_40 = nI (pK tx n ((pl + 1) + 1)).2.2.1 ∧ ago_40 = nI (pK tx n ((pl + 1) + 1)).2.2.2.1 ∧ nuo_40 = nI (pK tx n ((pl + 1) + 1)).2.2.2.2) := hw_40
        have hP : va_P D vwCl [((q 0), .inr (0, [.ref (q 1), .int (nI n), .int (nI plo_40), .int ((sgI tx n (pl + 1))), .int (cro_40), .int (ago_40), .int (nuo_40)])), ((q 1), .inl (cC, 60, .inl t))] H := hP
        have hD : va_D A [((q 0), .inr (0, [.ref (q 1), .int (nI n), .int (nI plo_40), .int ((sgI tx n (pl + 1))), .int (cro_40), .int (ago_40), .int (nuo_40)])), ((q 1), .inl (cC, 60, .inl t))] := hD
        obtain ⟨hr_40, hp_40, hq_40⟩ := hw_40
        subst hr_40
        subst hp_40
        exact kb_zret (D := D) hQ hx hb hr hlocks hK hP hD hS dX0_readThing_43 (kb_b_n _) ((pK tx n ((pl + 1) + 1)).2.1, (sgI tx n (pl + 1)), cro_40, ago_40, nuo_40) rfl (Nat.le_refl _) (Nat.le_refl _) (show (kb_b ((pK tx n ((pl + 1) + 1)).1)) = kb_b (pTs tx n pl).1 ∧ ((pK tx n ((pl + 1) + 1)).2.1) = (pTs tx n pl).2.1 ∧ ((pTs tx n pl).1 = true → (sgI tx n (pl + 1)) = nI (pTs tx n pl).2.2.1 ∧ nuo_40 = nI (pTs tx n pl).2.2.2.2.2 ∧ ((pTs tx n pl).2.2.1 = 107 → cro_40 = nI (pTs tx n pl).2.2.2.1 ∧ ago_40 = nI (pTs tx n pl).2.2.2.2.1)) from (by rw [hE, pTh_k hs_36]; exact ⟨rfl, rfl, fun q => ⟨(sgI_eq (x := 107) htx (by decide)).mpr hs_36, (hq_40 q).2.2, fun _ => ⟨(hq_40 q).1, (hq_40 q).2.1⟩⟩⟩))
    · have hs_13 : ¬ cd tx n pl = 59 := of_decide_eq_false c13
      have hP : va_P D vwCl [((q 0), .inr (0, [.ref (q 1), .int (nI n), .int (nI pl), .int (kd), .int (cr), .int (ag), .int (nu)])), ((q 1), .inl (cC, 60, .inl t))] H := by rw [if_neg hs_13] at hP; exact hP
      have hD : va_D A [((q 0), .inr (0, [.ref (q 1), .int (nI n), .int (nI pl), .int (kd), .int (cr), .int (ag), .int (nu)])), ((q 1), .inl (cC, 60, .inl t))] := by rw [if_neg hs_13] at hD; exact hD
      refine lv_iconst (v := nI 0) hx hb dX0_readThing_16 (by decide) ?_
      exact kb_zret (D := D) hQ hx hb hr hlocks hK hP hD hS dX0_readThing_17 rfl (pl, kd, cr, ag, nu) rfl (Nat.le_refl _) (Nat.le_refl _) (show (nI 0) = kb_b (pTs tx n pl).1 ∧ pl = (pTs tx n pl).2.1 ∧ ((pTs tx n pl).1 = true → kd = nI (pTs tx n pl).2.2.1 ∧ nu = nI (pTs tx n pl).2.2.2.2.2 ∧ ((pTs tx n pl).2.2.1 = 107 → cr = nI (pTs tx n pl).2.2.2.1 ∧ ag = nI (pTs tx n pl).2.2.2.2.1)) from ⟨by rw [pTs_f (by omega) hs_13]; rfl, by rw [pTs_f (by omega) hs_13], fun q => by rw [pTs_f (by omega) hs_13] at q; cases q⟩)
abbrev rmX0_checkThings : Room := { frames := 5, cells := 0, slots := 0, locals := 105 }
theorem hdX0_checkThings : yX0_checkThings.cls = RX0 ∧ yX0_checkThings.cls ≠ "java/lang/invoke/MethodHandle" ∧ yX0_checkThings.cls ≠ "java/lang/invoke/VarHandle" ∧ (parseMethodDescriptor yX0_checkThings.desc).map (fun d => d.parameters.length) = some 0 := by decide +kernel
theorem inwX0_checkThings_X0 : ∀ w ∈ wsX00, w ∈ wsX0_checkThings := fun w h => List.mem_cons_of_mem _ (List.mem_append_right _ h)
set_option maxHeartbeats 4000000 in
set_option maxRecDepth 100000 in
theorem c_X0_checkThings (l : Launch) (D : va_G) (cC : ClassId) (q : Nat → Nat) (n : Nat) (pl : Nat) (kd : Int32) (cr : Int32) (ag : Int32) (nu : Int32) (t : Nat → Int32) (tx : Nat → Nat) (htx : tOk t tx n) : kb_I (S := Nat × Int32 × Int32 × Int32 × Int32) D [(cC, .char)] l yX0_checkThings wsX0_checkThings rmX0_checkThings [.ref (q 0)] [((q 0), .inr (0, [.ref (q 1), .int (nI n), .int (nI pl), .int (kd), .int (cr), .int (ag), .int (nu)])), ((q 1), .inl (cC, 60, .inl t))] (fun (r : Int32) (u : Nat × Int32 × Int32 × Int32 × Int32) => ((pF tx n 61 0).1 = true → r = nI (pF tx n 61 0).2 ∧ (pF tx n 61 0).2 ≤ 31) ∧ ((pF tx n 61 0).1 = false → r = -1 ∧ u.1 = (pF tx n 61 0).2 ∧ u.1 ≤ n)) (fun (u : Nat × Int32 × Int32 × Int32 × Int32) => [((q 0), .inr (0, [.ref (q 1), .int (nI n), .int (nI u.1), .int (u.2.1), .int (u.2.2.1), .int (u.2.2.2.1), .int (u.2.2.2.2)])), ((q 1), .inl (cC, 60, .inl t))]) 0 0 := by
  refine kb_I_of (cc := cX0_checkThings) (maxL := 2) (ret := (some .int)) (by decide) rfl (Nat.le_of_ble_eq_true rfl) ?_
  intro p e s mm args below meth c A hx hb hml hr hts hown hlocks hnm hA hN hK hP hD hS ls hl Q hQ
  have hl : lv_has ls 2 [(0, .ref (q 0))] := hl
  have hP : va_P D vwCl [((q 0), .inr (0, [.ref (q 1), .int (nI n), .int (nI pl), .int (kd), .int (cr), .int (ag), .int (nu)])), ((q 1), .inl (cC, 60, .inl t))] s.heap := hP
  have hD : va_D A [((q 0), .inr (0, [.ref (q 1), .int (nI n), .int (nI pl), .int (kd), .int (cr), .int (ag), .int (nu)])), ((q 1), .inl (cC, 60, .inl t))] := hD
  have fl19 := hts (.fieldLink RX0 19 "KingsBanquet$Guests" "place" "I") (by decide +kernel)
  have fl15 := hts (.fieldLink RX0 15 "KingsBanquet$Guests" "length" "I") (by decide +kernel)
  have hn := htx.1
  refine lv_aload_n hx hb dX0_checkThings_0 rfl (lv_at hl 0 rfl) ?_
  refine kb_vV (As := []) (rest := []) hx hb hml hts hown hN hK hP hD hS hA (c_X0_rewind l D cC q n pl kd cr ag nu t) gX0_checkThings_X0_rewind rfl ⟨rfl, rfl⟩ hdX0_rewind ⟨Nat.le_of_ble_eq_true rfl, Nat.le_of_ble_eq_true rfl⟩ [0, 1] [0] rfl rfl rfl (ci := 0) rfl rfl rfl (fun _ => rfl) rfl rfl hl.1 (Nat.le_of_ble_eq_true rfl) dX0_checkThings_1 ⟨Nat.zero_le _, Nat.zero_le _⟩ (fun u H locs hw_1 hP hD hS => ?_)
  have hw_1 : True := hw_1
  have hP : va_P D vwCl [((q 0), .inr (0, [.ref (q 1), .int (nI n), .int (nI 0), .int (kd), .int (cr), .int (ag), .int (nu)])), ((q 1), .inl (cC, 60, .inl t))] H := hP
  have hD : va_D A [((q 0), .inr (0, [.ref (q 1), .int (nI n), .int (nI 0), .int (kd), .int (cr), .int (ag), .int (nu)])), ((q 1), .inl (cC, 60, .inl t))] := hD
  refine lv_iconst (v := nI 1) hx hb dX0_checkThings_4 (by decide) ?_
  refine lv_istore_n (lv' := [(1, .int (nI 1)), (0, .ref (q 0))]) hx hb dX0_checkThings_5 rfl hl (by decide) rfl (fun ls hl => ?_)
  have L_6 : ∀ (z : Nat) (th : Nat) (p1 : Nat) (k1 : Int32) (r1 : Int32) (a1 : Int32) (n1 : Int32), (1 ≤ th) → (p1 ≤ n) → (2 * (th - 1) ≤ p1) → (th = 1 ∨ p1 < n) → (pRe tx n (th - 1) (62 - th) p1) → (61 - th) < z → ∀ (H : Heap) (locs : List Loc), va_P D vwCl [((q 0), .inr (0, [.ref (q 1), .int (nI n), .int (nI p1), .int (k1), .int (r1), .int (a1), .int (n1)])), ((q 1), .inl (cC, 60, .inl t))] H → va_D A [((q 0), .inr (0, [.ref (q 1), .int (nI n), .int (nI p1), .int (k1), .int (r1), .int (a1), .int (n1)])), ((q 1), .inl (cC, 60, .inl t))] → va_S A s.heap H locs → ∀ ls : Array Slot, lv_has ls 2 [(1, .int (nI th)), (0, .ref (q 0))] → W p l e rmX0_checkThings s mm args below meth c H locs 0 0 Q (F0 mm 6 ls []) := by
    intro z
    induction z with
    | zero =>
      intro th p1 k1 r1 a1 n1 _ _ _ _ _ hz
      exact absurd hz (Nat.not_lt_zero _)
    | succ z ih_6 =>
      intro th p1 k1 r1 a1 n1 hth hp1 hb1 hc1 hre hz H locs hP hD hS ls hl
      refine lv_iload_n hx hb dX0_checkThings_6 rfl (lv_at hl 0 rfl) ?_
      refine lv_bipush (v := nI 60) hx hb dX0_checkThings_7 (by decide) ?_
      refine kb_icmp_gt (tgt := 38) hx hb dX0_checkThings_9 (by decide) (by omega) (by omega) (fun c9 => ?_) (fun c9 => ?_)
      · exfalso; omega
      · have hre2 : pRe tx n (th - 1) (62 - (th + 1) + 1) p1 := by rw [show 62 - (th + 1) + 1 = 62 - th by omega]; exact hre
        refine lv_aload_n hx hb dX0_checkThings_12 rfl (lv_at hl 1 rfl) ?_
        refine kb_vI (As := []) (rest := []) hx hb hml hts hown hN hK hP hD hS hA (c_X0_readThing l D cC q n p1 k1 r1 a1 n1 t hp1 (by first | assumption | omega) htx) gX0_checkThings_X0_readThing rfl ⟨rfl, rfl⟩ hdX0_readThing ⟨Nat.le_of_ble_eq_true rfl, Nat.le_of_ble_eq_true rfl⟩ [0, 1] [0] rfl rfl rfl (ci := 0) rfl rfl rfl (fun _ => rfl) rfl rfl hl.1 (Nat.le_of_ble_eq_true rfl) dX0_checkThings_13 ⟨Nat.zero_le _, Nat.zero_le _⟩ (fun r_13 u H locs hw_13 hP hD hS => ?_)
        obtain ⟨plo_13, kdo_13, cro_13, ago_13, nuo_13⟩ := u
        have hw_13 : r_13 = kb_b (pTs tx n p1).1 ∧ plo_13 = (pTs tx n p1).2.1 ∧ ((pTs tx n p1).1 = true → kdo_13 = nI (pTs tx n p1).2.2.1 ∧ nuo_13 = nI (pTs tx n p1).2.2.2.2.2 ∧ ((pTs tx n p1).2.2.1 = 107 → cro_13 = nI (pTs tx n p1).2.2.2.1 ∧ ago_13 = nI (pTs tx n p1).2.2.2.2.1)) := hw_13
        have hP : va_P D vwCl [((q 0), .inr (0, [.ref (q 1), .int (nI n), .int (nI plo_13), .int (kdo_13), .int (cro_13), .int (ago_13), .int (nuo_13)])), ((q 1), .inl (cC, 60, .inl t))] H := hP
        have hD : va_D A [((q 0), .inr (0, [.ref (q 1), .int (nI n), .int (nI plo_13), .int (kdo_13), .int (cro_13), .int (ago_13), .int (nuo_13)])), ((q 1), .inl (cC, 60, .inl t))] := hD
        obtain ⟨hr_13, hp_13, hq_13⟩ := hw_13
        subst hr_13
        subst hp_13
        refine kb_bif_eq (tgt := 38) hx hb dX0_checkThings_16 (by decide) (fun c16 => ?_) (fun c16 => ?_)
        · refine lv_iconst (v := (-1)) hx hb dX0_checkThings_38 (by decide) ?_
          exact kb_iret (D := D) hQ hx hb hr hlocks hK hP hD hS dX0_checkThings_39 ((pTs tx n p1).2.1, kdo_13, cro_13, ago_13, nuo_13) rfl (Nat.le_refl _) (Nat.le_refl _) (show ((pF tx n 61 0).1 = true → (-1) = nI (pF tx n 61 0).2 ∧ (pF tx n 61 0).2 ≤ 31) ∧ ((pF tx n 61 0).1 = false → (-1) = -1 ∧ ((pTs tx n p1).2.1) = (pF tx n 61 0).2 ∧ ((pTs tx n p1).2.1) ≤ n) from (by have q := pRe_f hre2 c16; rw [q.1, q.2]; exact ⟨fun z => (by cases z), fun _ => ⟨rfl, rfl, pTs_le hp1⟩⟩))
        · refine lv_aload_n hx hb dX0_checkThings_19 rfl (lv_at hl 1 rfl) ?_
          refine va_get (D := D) (ci := 0) (v := .int (nI ((pTs tx n p1).2.1))) (C := RX0) (T := TX0) (N := 7) hx hb hts inwX0_checkThings_X0 hown hK hP 0 rfl rfl 2 (by decide) fl19 (fun _ h9 => h9) rfl dX0_checkThings_20 ?_
          refine lv_aload_n hx hb dX0_checkThings_23 rfl (lv_at hl 1 rfl) ?_
          refine va_get (D := D) (ci := 0) (v := .int (nI n)) (C := RX0) (T := TX0) (N := 7) hx hb hts inwX0_checkThings_X0 hown hK hP 0 rfl rfl 1 (by decide) fl15 (fun _ h9 => h9) rfl dX0_checkThings_24 ?_
          refine kb_icmp_lt (tgt := 32) hx hb dX0_checkThings_27 (by decide) (by have := pTs_le (tx := tx) hp1; omega) (by have := pTs_le (tx := tx) hp1; omega) (fun c27 => ?_) (fun c27 => ?_)
          · refine lv_iinc (v := nI (th + 1)) (lv' := [(1, .int (nI (th + 1))), (0, .ref (q 0))]) hx hb dX0_checkThings_32 hl (k := 0) rfl (kb_inc1 th) (by decide) rfl (fun ls hl => ?_)
            refine lv_goto (tgt := 6) hx hb dX0_checkThings_35 (by decide) ?_
            exact ih_6 (th + 1) ((pTs tx n p1).2.1) kdo_13 cro_13 ago_13 nuo_13 (by omega) (pTs_ok c16).2 (by have := pTs_ok c16; omega) (Or.inr (by omega)) (by have q := pRe_s (f := 62 - (th + 1)) (by rw [show 62 - (th + 1) + 1 = 62 - th by omega]; exact hre) c16 (by omega); rwa [show th - 1 + 1 = th + 1 - 1 by omega] at q) (by omega) _ _ hP hD hS _ (lv_sub hl [0, 1] rfl)
          · refine lv_iload_n hx hb dX0_checkThings_30 rfl (lv_at hl 0 rfl) ?_
            exact kb_iret (D := D) hQ hx hb hr hlocks hK hP hD hS dX0_checkThings_31 ((pTs tx n p1).2.1, kdo_13, cro_13, ago_13, nuo_13) rfl (Nat.le_refl _) (Nat.le_refl _) (show ((pF tx n 61 0).1 = true → (nI th) = nI (pF tx n 61 0).2 ∧ (pF tx n 61 0).2 ≤ 31) ∧ ((pF tx n 61 0).1 = false → (nI th) = -1 ∧ ((pTs tx n p1).2.1) = (pF tx n 61 0).2 ∧ ((pTs tx n p1).2.1) ≤ n) from (by have q := pRe_e hre2 c16 (by omega); rw [q.1, q.2]; exact ⟨fun _ => ⟨by rw [show th - 1 + 1 = th by omega], by omega⟩, fun z => by cases z⟩))
  exact L_6 ((61 - 1) + 1) 1 0 kd cr ag nu (by omega) (by omega) (by omega) (by omega) (pRe_0 tx n) (Nat.lt_succ_self _) _ _ hP hD hS _ (lv_sub hl [0, 1] rfl)
