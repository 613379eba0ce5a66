abbrev rmX0_length : Room := { frames := 0, cells := 0, slots := 0, locals := 0 }
theorem hdX0_length : yX0_length.cls = RX0 ∧ yX0_length.cls ≠ "java/lang/invoke/MethodHandle" ∧ yX0_length.cls ≠ "java/lang/invoke/VarHandle" ∧ (parseMethodDescriptor yX0_length.desc).map (fun d => d.parameters.length) = some 0 := by decide +kernel
theorem inwX0_length_X0 : ∀ w ∈ wsX00, w ∈ wsX0_length := fun w h => List.mem_cons_of_mem _ (List.mem_append_right _ h)
set_option maxHeartbeats 4000000 in
set_option maxRecDepth 100000 in
theorem c_X0_length (l : Launch) (D : va_G) (cC : ClassId) (q : Nat → Nat) (n : Nat) (pl : Nat) (kd : Int32) (cr : Int32) (ag : Int32) (nu : Int32) (t : Nat → Int32) : kb_R D [(cC, .char)] l yX0_length wsX0_length rmX0_length [.ref (q 0)] [((q 0), .inr (0, [.ref (q 1), .int (nI n), .int (nI pl), .int (kd), .int (cr), .int (ag), .int (nu)])), ((q 1), .inl (cC, 60, .inl t))] (nI n) := by
  refine kb_I_of (cc := cX0_length) (maxL := 1) (ret := (some .int)) (by decide) rfl (Nat.le_of_ble_eq_true rfl) ?_
  intro p e s mm args below meth c A hx hb hml hr hts hown hlocks hnm hA hN hK hP hD hS ls hl Q hQ
  have hl : lv_has ls 1 [(0, .ref (q 0))] := hl
  have hP : va_P D vwCl [((q 0), .inr (0, [.ref (q 1), .int (nI n), .int (nI pl), .int (kd), .int (cr), .int (ag), .int (nu)])), ((q 1), .inl (cC, 60, .inl t))] s.heap := hP
  have hD : va_D A [((q 0), .inr (0, [.ref (q 1), .int (nI n), .int (nI pl), .int (kd), .int (cr), .int (ag), .int (nu)])), ((q 1), .inl (cC, 60, .inl t))] := hD
  have fl15 := hts (.fieldLink RX0 15 "KingsBanquet$Guests" "length" "I") (by decide +kernel)
  refine lv_aload_n hx hb dX0_length_0 rfl (lv_at hl 0 rfl) ?_
  refine va_get (D := D) (ci := 0) (v := .int (nI n)) (C := RX0) (T := TX0) (N := 7) hx hb hts inwX0_length_X0 hown hK hP 0 rfl rfl 1 (by decide) fl15 (fun _ h9 => h9) rfl dX0_length_1 ?_
  exact kb_iret (D := D) hQ hx hb hr hlocks hK hP hD hS dX0_length_4 () rfl (Nat.le_refl _) (Nat.le_refl _) (show nI n = nI n from rfl)
abbrev rmX0_place : Room := { frames := 0, cells := 0, slots := 0, locals := 0 }
theorem hdX0_place : yX0_place.cls = RX0 ∧ yX0_place.cls ≠ "java/lang/invoke/MethodHandle" ∧ yX0_place.cls ≠ "java/lang/invoke/VarHandle" ∧ (parseMethodDescriptor yX0_place.desc).map (fun d => d.parameters.length) = some 0 := by decide +kernel
theorem inwX0_place_X0 : ∀ w ∈ wsX00, w ∈ wsX0_place := fun w h => List.mem_cons_of_mem _ (List.mem_append_right _ h)
set_option maxHeartbeats 4000000 in
set_option maxRecDepth 100000 in
theorem c_X0_place (l : Launch) (D : va_G) (cC : ClassId) (q : Nat → Nat) (n : Nat) (pl : Nat) (kd : Int32) (cr : Int32) (ag : Int32) (nu : Int32) (t : Nat → Int32) : kb_R D [(cC, .char)] l yX0_place wsX0_place rmX0_place [.ref (q 0)] [((q 0), .inr (0, [.ref (q 1), .int (nI n), .int (nI pl), .int (kd), .int (cr), .int (ag), .int (nu)])), ((q 1), .inl (cC, 60, .inl t))] (nI pl) := by
  refine kb_I_of (cc := cX0_place) (maxL := 1) (ret := (some .int)) (by decide) rfl (Nat.le_of_ble_eq_true rfl) ?_
  intro p e s mm args below meth c A hx hb hml hr hts hown hlocks hnm hA hN hK hP hD hS ls hl Q hQ
  have hl : lv_has ls 1 [(0, .ref (q 0))] := hl
  have hP : va_P D vwCl [((q 0), .inr (0, [.ref (q 1), .int (nI n), .int (nI pl), .int (kd), .int (cr), .int (ag), .int (nu)])), ((q 1), .inl (cC, 60, .inl t))] s.heap := hP
  have hD : va_D A [((q 0), .inr (0, [.ref (q 1), .int (nI n), .int (nI pl), .int (kd), .int (cr), .int (ag), .int (nu)])), ((q 1), .inl (cC, 60, .inl t))] := hD
  have fl19 := hts (.fieldLink RX0 19 "KingsBanquet$Guests" "place" "I") (by decide +kernel)
  refine lv_aload_n hx hb dX0_place_0 rfl (lv_at hl 0 rfl) ?_
  refine va_get (D := D) (ci := 0) (v := .int (nI pl)) (C := RX0) (T := TX0) (N := 7) hx hb hts inwX0_place_X0 hown hK hP 0 rfl rfl 2 (by decide) fl19 (fun _ h9 => h9) rfl dX0_place_1 ?_
  exact kb_iret (D := D) hQ hx hb hr hlocks hK hP hD hS dX0_place_4 () rfl (Nat.le_refl _) (Nat.le_refl _) (show nI pl = nI pl from rfl)
abbrev rmX0_kind : Room := { frames := 0, cells := 0, slots := 0, locals := 0 }
theorem hdX0_kind : yX0_kind.cls = RX0 ∧ yX0_kind.cls ≠ "java/lang/invoke/MethodHandle" ∧ yX0_kind.cls ≠ "java/lang/invoke/VarHandle" ∧ (parseMethodDescriptor yX0_kind.desc).map (fun d => d.parameters.length) = some 0 := by decide +kernel
theorem inwX0_kind_X0 : ∀ w ∈ wsX00, w ∈ wsX0_kind := fun w h => List.mem_cons_of_mem _ (List.mem_append_right _ h)
set_option maxHeartbeats 4000000 in
set_option maxRecDepth 100000 in
theorem c_X0_kind (l : Launch) (D : va_G) (cC : ClassId) (q : Nat → Nat) (n : Nat) (pl : Nat) (kd : Int32) (cr : Int32) (ag : Int32) (nu : Int32) (t : Nat → Int32) : kb_R D [(cC, .char)] l yX0_kind wsX0_kind rmX0_kind [.ref (q 0)] [((q 0), .inr (0, [.ref (q 1), .int (nI n), .int (nI pl), .int (kd), .int (cr), .int (ag), .int (nu)])), ((q 1), .inl (cC, 60, .inl t))] (kd) := by
  refine kb_I_of (cc := cX0_kind) (maxL := 1) (ret := (some .int)) (by decide) rfl (Nat.le_of_ble_eq_true rfl) ?_
  intro p e s mm args below meth c A hx hb hml hr hts hown hlocks hnm hA hN hK hP hD hS ls hl Q hQ
  have hl : lv_has ls 1 [(0, .ref (q 0))] := hl
  have hP : va_P D vwCl [((q 0), .inr (0, [.ref (q 1), .int (nI n), .int (nI pl), .int (kd), .int (cr), .int (ag), .int (nu)])), ((q 1), .inl (cC, 60, .inl t))] s.heap := hP
  have hD : va_D A [((q 0), .inr (0, [.ref (q 1), .int (nI n), .int (nI pl), .int (kd), .int (cr), .int (ag), .int (nu)])), ((q 1), .inl (cC, 60, .inl t))] := hD
  have fl22 := hts (.fieldLink RX0 22 "KingsBanquet$Guests" "kind" "I") (by decide +kernel)
  refine lv_aload_n hx hb dX0_kind_0 rfl (lv_at hl 0 rfl) ?_
  refine va_get (D := D) (ci := 0) (v := .int (kd)) (C := RX0) (T := TX0) (N := 7) hx hb hts inwX0_kind_X0 hown hK hP 0 rfl rfl 3 (by decide) fl22 (fun _ h9 => h9) rfl dX0_kind_1 ?_
  exact kb_iret (D := D) hQ hx hb hr hlocks hK hP hD hS dX0_kind_4 () rfl (Nat.le_refl _) (Nat.le_refl _) (show kd = kd from rfl)
abbrev rmX0_crown : Room := { frames := 0, cells := 0, slots := 0, locals := 0 }
theorem hdX0_crown : yX0_crown.cls = RX0 ∧ yX0_crown.cls ≠ "java/lang/invoke/MethodHandle" ∧ yX0_crown.cls ≠ "java/lang/invoke/VarHandle" ∧ (parseMethodDescriptor yX0_crown.desc).map (fun d => d.parameters.length) = some 0 := by decide +kernel
theorem inwX0_crown_X0 : ∀ w ∈ wsX00, w ∈ wsX0_crown := fun w h => List.mem_cons_of_mem _ (List.mem_append_right _ h)
set_option maxHeartbeats 4000000 in
set_option maxRecDepth 100000 in
theorem c_X0_crown (l : Launch) (D : va_G) (cC : ClassId) (q : Nat → Nat) (n : Nat) (pl : Nat) (kd : Int32) (cr : Int32) (ag : Int32) (nu : Int32) (t : Nat → Int32) : kb_R D [(cC, .char)] l yX0_crown wsX0_crown rmX0_crown [.ref (q 0)] [((q 0), .inr (0, [.ref (q 1), .int (nI n), .int (nI pl), .int (kd), .int (cr), .int (ag), .int (nu)])), ((q 1), .inl (cC, 60, .inl t))] (cr) := by
  refine kb_I_of (cc := cX0_crown) (maxL := 1) (ret := (some .int)) (by decide) rfl (Nat.le_of_ble_eq_true rfl) ?_
  intro p e s mm args below meth c A hx hb hml hr hts hown hlocks hnm hA hN hK hP hD hS ls hl Q hQ
  have hl : lv_has ls 1 [(0, .ref (q 0))] := hl
  have hP : va_P D vwCl [((q 0), .inr (0, [.ref (q 1), .int (nI n), .int (nI pl), .int (kd), .int (cr), .int (ag), .int (nu)])), ((q 1), .inl (cC, 60, .inl t))] s.heap := hP
  have hD : va_D A [((q 0), .inr (0, [.ref (q 1), .int (nI n), .int (nI pl), .int (kd), .int (cr), .int (ag), .int (nu)])), ((q 1), .inl (cC, 60, .inl t))] := hD
  have fl25 := hts (.fieldLink RX0 25 "KingsBanquet$Guests" "crown" "I") (by decide +kernel)
  refine lv_aload_n hx hb dX0_crown_0 rfl (lv_at hl 0 rfl) ?_
  refine va_get (D := D) (ci := 0) (v := .int (cr)) (C := RX0) (T := TX0) (N := 7) hx hb hts inwX0_crown_X0 hown hK hP 0 rfl rfl 4 (by decide) fl25 (fun _ h9 => h9) rfl dX0_crown_1 ?_
  exact kb_iret (D := D) hQ hx hb hr hlocks hK hP hD hS dX0_crown_4 () rfl (Nat.le_refl _) (Nat.le_refl _) (show cr = cr from rfl)
abbrev rmX0_age : Room := { frames := 0, cells := 0, slots := 0, locals := 0 }
theorem hdX0_age : yX0_age.cls = RX0 ∧ yX0_age.cls ≠ "java/lang/invoke/MethodHandle" ∧ yX0_age.cls ≠ "java/lang/invoke/VarHandle" ∧ (parseMethodDescriptor yX0_age.desc).map (fun d => d.parameters.length) = some 0 := by decide +kernel
theorem inwX0_age_X0 : ∀ w ∈ wsX00, w ∈ wsX0_age := fun w h => List.mem_cons_of_mem _ (List.mem_append_right _ h)
set_option maxHeartbeats 4000000 in
set_option maxRecDepth 100000 in
theorem c_X0_age (l : Launch) (D : va_G) (cC : ClassId) (q : Nat → Nat) (n : Nat) (pl : Nat) (kd : Int32) (cr : Int32) (ag : Int32) (nu : Int32) (t : Nat → Int32) : kb_R D [(cC, .char)] l yX0_age wsX0_age rmX0_age [.ref (q 0)] [((q 0), .inr (0, [.ref (q 1), .int (nI n), .int (nI pl), .int (kd), .int (cr), .int (ag), .int (nu)])), ((q 1), .inl (cC, 60, .inl t))] (ag) := by
  refine kb_I_of (cc := cX0_age) (maxL := 1) (ret := (some .int)) (by decide) rfl (Nat.le_of_ble_eq_true rfl) ?_
  intro p e s mm args below meth c A hx hb hml hr hts hown hlocks hnm hA hN hK hP hD hS ls hl Q hQ
  have hl : lv_has ls 1 [(0, .ref (q 0))] := hl
  have hP : va_P D vwCl [((q 0), .inr (0, [.ref (q 1), .int (nI n), .int (nI pl), .int (kd), .int (cr), .int (ag), .int (nu)])), ((q 1), .inl (cC, 60, .inl t))] s.heap := hP
  have hD : va_D A [((q 0), .inr (0, [.ref (q 1), .int (nI n), .int (nI pl), .int (kd), .int (cr), .int (ag), .int (nu)])), ((q 1), .inl (cC, 60, .inl t))] := hD
  have fl28 := hts (.fieldLink RX0 28 "KingsBanquet$Guests" "age" "I") (by decide +kernel)
  refine lv_aload_n hx hb dX0_age_0 rfl (lv_at hl 0 rfl) ?_
  refine va_get (D := D) (ci := 0) (v := .int (ag)) (C := RX0) (T := TX0) (N := 7) hx hb hts inwX0_age_X0 hown hK hP 0 rfl rfl 5 (by decide) fl28 (fun _ h9 => h9) rfl dX0_age_1 ?_
  exact kb_iret (D := D) hQ hx hb hr hlocks hK hP hD hS dX0_age_4 () rfl (Nat.le_refl _) (Nat.le_refl _) (show ag = ag from rfl)
abbrev rmX0_number : Room := { frames := 0, cells := 0, slots := 0, locals := 0 }
theorem hdX0_number : yX0_number.cls = RX0 ∧ yX0_number.cls ≠ "java/lang/invoke/MethodHandle" ∧ yX0_number.cls ≠ "java/lang/invoke/VarHandle" ∧ (parseMethodDescriptor yX0_number.desc).map (fun d => d.parameters.length) = some 0 := by decide +kernel
theorem inwX0_number_X0 : ∀ w ∈ wsX00, w ∈ wsX0_number := fun w h => List.mem_cons_of_mem _ (List.mem_append_right _ h)
set_option maxHeartbeats 4000000 in
set_option maxRecDepth 100000 in
theorem c_X0_number (l : Launch) (D : va_G) (cC : ClassId) (q : Nat → Nat) (n : Nat) (pl : Nat) (kd : Int32) (cr : Int32) (ag : Int32) (nu : Int32) (t : Nat → Int32) : kb_R D [(cC, .char)] l yX0_number wsX0_number rmX0_number [.ref (q 0)] [((q 0), .inr (0, [.ref (q 1), .int (nI n), .int (nI pl), .int (kd), .int (cr), .int (ag), .int (nu)])), ((q 1), .inl (cC, 60, .inl t))] (nu) := by
  refine kb_I_of (cc := cX0_number) (maxL := 1) (ret := (some .int)) (by decide) rfl (Nat.le_of_ble_eq_true rfl) ?_
  intro p e s mm args below meth c A hx hb hml hr hts hown hlocks hnm hA hN hK hP hD hS ls hl Q hQ
  have hl : lv_has ls 1 [(0, .ref (q 0))] := hl
  have hP : va_P D vwCl [((q 0), .inr (0, [.ref (q 1), .int (nI n), .int (nI pl), .int (kd), .int (cr), .int (ag), .int (nu)])), ((q 1), .inl (cC, 60, .inl t))] s.heap := hP
  have hD : va_D A [((q 0), .inr (0, [.ref (q 1), .int (nI n), .int (nI pl), .int (kd), .int (cr), .int (ag), .int (nu)])), ((q 1), .inl (cC, 60, .inl t))] := hD
  have fl31 := hts (.fieldLink RX0 31 "KingsBanquet$Guests" "number" "I") (by decide +kernel)
  refine lv_aload_n hx hb dX0_number_0 rfl (lv_at hl 0 rfl) ?_
  refine va_get (D := D) (ci := 0) (v := .int (nu)) (C := RX0) (T := TX0) (N := 7) hx hb hts inwX0_number_X0 hown hK hP 0 rfl rfl 6 (by decide) fl31 (fun _ h9 => h9) rfl dX0_number_1 ?_
  exact kb_iret (D := D) hQ hx hb hr hlocks hK hP hD hS dX0_number_4 () rfl (Nat.le_refl _) (Nat.le_refl _) (show nu = nu from rfl)
abbrev rmX0_rewind : Room := { frames := 0, cells := 0, slots := 0, locals := 0 }
theorem hdX0_rewind : yX0_rewind.cls = RX0 ∧ yX0_rewind.cls ≠ "java/lang/invoke/MethodHandle" ∧ yX0_rewind.cls ≠ "java/lang/invoke/VarHandle" ∧ (parseMethodDescriptor yX0_rewind.desc).map (fun d => d.parameters.length) = some 0 := by decide +kernel
theorem inwX0_rewind_X0 : ∀ w ∈ wsX00, w ∈ wsX0_rewind := fun w h => List.mem_cons_of_mem _ (List.mem_append_right _ h)
set_option maxHeartbeats 4000000 in
set_option maxRecDepth 100000 in
theorem c_X0_rewind (l : Launch) (D : va_G) (cC : ClassId) (q : Nat → Nat) (n : Nat) (pl : Nat) (kd : Int32) (cr : Int32) (ag : Int32) (nu : Int32) (t : Nat → Int32) : kb_V (S := Unit) D [(cC, .char)] l yX0_rewind wsX0_rewind rmX0_rewind [.ref (q 0)] [((q 0), .inr (0, [.ref (q 1), .int (nI n), .int (nI pl), .int (kd), .int (cr), .int (ag), .int (nu)])), ((q 1), .inl (cC, 60, .inl t))] (fun (u : Unit) => True) (fun (u : Unit) => [((q 0), .inr (0, [.ref (q 1), .int (nI n), .int (nI 0), .int (kd), .int (cr), .int (ag), .int (nu)])), ((q 1), .inl (cC, 60, .inl t))]) 0 0 := by
  refine kb_V_of (cc := cX0_rewind) (maxL := 1) (ret := none) (by decide) rfl (Nat.le_of_ble_eq_true rfl) ?_
  intro p e s mm args below meth c A hx hb hml hr hts hown hlocks hnm hA hN hK hP hD hS ls hl Q hQ
  have hl : lv_has ls 1 [(0, .ref (q 0))] := hl
  have hP : va_P D vwCl [((q 0), .inr (0, [.ref (q 1), .int (nI n), .int (nI pl), .int (kd), .int (cr), .int (ag), .int (nu)])), ((q 1), .inl (cC, 60, .inl t))] s.heap := hP
  have hD : va_D A [((q 0), .inr (0, [.ref (q 1), .int (nI n), .int (nI pl), .int (kd), .int (cr), .int (ag), .int (nu)])), ((q 1), .inl (cC, 60, .inl t))] := hD
  have fl19 := hts (.fieldLink RX0 19 "KingsBanquet$Guests" "place" "I") (by decide +kernel)
  refine lv_aload_n hx hb dX0_rewind_0 rfl (lv_at hl 0 rfl) ?_
  refine lv_iconst (v := nI 0) hx hb dX0_rewind_1 (by decide) ?_
  refine va_put (D := D) (ci := 0) (v := .int (nI 0)) (ty := .int) (C := RX0) (T := TX0) (N := 7) hx hb hts inwX0_rewind_X0 tyX0 tyX0_ok nmX0 hown hK hP hD hS 0 rfl rfl 2 (by decide) fl19 (fun _ h9 => h9) rfl (by decide +kernel) rfl rfl (Nat.le_of_ble_eq_true rfl) dX0_rewind_2 (fun H locs hP hD hS => ?_)
  have hP : va_P D vwCl [((q 0), .inr (0, [.ref (q 1), .int (nI n), .int (nI 0), .int (kd), .int (cr), .int (ag), .int (nu)])), ((q 1), .inl (cC, 60, .inl t))] H := hP
  have hD : va_D A [((q 0), .inr (0, [.ref (q 1), .int (nI n), .int (nI 0), .int (kd), .int (cr), .int (ag), .int (nu)])), ((q 1), .inl (cC, 60, .inl t))] := hD
  exact kb_vret (D := D) hQ hx hb hr hlocks hK hP hD hS dX0_rewind_5 () rfl (Nat.le_refl _) (Nat.le_refl _) (show True from trivial)
abbrev rmX0_empty : Room := { frames := 0, cells := 0, slots := 0, locals := 0 }
theorem hdX0_empty : yX0_empty.cls = RX0 ∧ yX0_empty.cls ≠ "java/lang/invoke/MethodHandle" ∧ yX0_empty.cls ≠ "java/lang/invoke/VarHandle" ∧ (parseMethodDescriptor yX0_empty.desc).map (fun d => d.parameters.length) = some 0 := by decide +kernel
theorem inwX0_empty_X0 : ∀ w ∈ wsX00, w ∈ wsX0_empty := fun w h => List.mem_cons_of_mem _ (List.mem_append_right _ h)
set_option maxHeartbeats 4000000 in
set_option maxRecDepth 100000 in
theorem c_X0_empty (l : Launch) (D : va_G) (cC : ClassId) (q : Nat → Nat) (n : Nat) (pl : Nat) (kd : Int32) (cr : Int32) (ag : Int32) (nu : Int32) (t : Nat → Int32) : kb_I (S := Unit) D [(cC, .char)] l yX0_empty wsX0_empty rmX0_empty [.ref (q 0)] [((q 0), .inr (0, [.ref (q 1), .int (nI n), .int (nI pl), .int (kd), .int (cr), .int (ag), .int (nu)])), ((q 1), .inl (cC, 60, .inl t))] (fun (r : Int32) (u : Unit) => r = nI n) (fun (u : Unit) => [((q 0), .inr (0, [.ref (q 1), .int (nI 0), .int (nI pl), .int (kd), .int (cr), .int (ag), .int (nu)])), ((q 1), .inl (cC, 60, .inl t))]) 0 0 := by
  refine kb_I_of (cc := cX0_empty) (maxL := 2) (ret := (some .int)) (by decide) rfl (Nat.le_of_ble_eq_true rfl) ?_
  intro p e s mm args below meth c A hx hb hml hr hts hown hlocks hnm hA hN hK hP hD hS ls hl Q hQ
  have hl : lv_has ls 2 [(0, .ref (q 0))] := hl
  have hP : va_P D vwCl [((q 0), .inr (0, [.ref (q 1), .int (nI n), .int (nI pl), .int (kd), .int (cr), .int (ag), .int (nu)])), ((q 1), .inl (cC, 60, .inl t))] s.heap := hP
  have hD : va_D A [((q 0), .inr (0, [.ref (q 1), .int (nI n), .int (nI pl), .int (kd), .int (cr), .int (ag), .int (nu)])), ((q 1), .inl (cC, 60, .inl t))] := hD
  have fl15 := hts (.fieldLink RX0 15 "KingsBanquet$Guests" "length" "I") (by decide +kernel)
  refine lv_aload_n hx hb dX0_empty_0 rfl (lv_at hl 0 rfl) ?_
  refine va_get (D := D) (ci := 0) (v := .int (nI n)) (C := RX0) (T := TX0) (N := 7) hx hb hts inwX0_empty_X0 hown hK hP 0 rfl rfl 1 (by decide) fl15 (fun _ h9 => h9) rfl dX0_empty_1 ?_
  refine lv_istore_n (lv' := [(1, .int (nI n)), (0, .ref (q 0))]) hx hb dX0_empty_4 rfl hl (by decide) rfl (fun ls hl => ?_)
  refine lv_aload_n hx hb dX0_empty_5 rfl (lv_at hl 1 rfl) ?_
  refine lv_iconst (v := nI 0) hx hb dX0_empty_6 (by decide) ?_
  refine va_put (D := D) (ci := 0) (v := .int (nI 0)) (ty := .int) (C := RX0) (T := TX0) (N := 7) hx hb hts inwX0_empty_X0 tyX0 tyX0_ok nmX0 hown hK hP hD hS 0 rfl rfl 1 (by decide) fl15 (fun _ h9 => h9) rfl (by decide +kernel) rfl rfl (Nat.le_of_ble_eq_true rfl) dX0_empty_7 (fun H locs hP hD hS => ?_)
  have hP : va_P D vwCl [((q 0), .inr (0, [.ref (q 1), .int (nI 0), .int (nI pl), .int (kd), .int (cr), .int (ag), .int (nu)])), ((q 1), .inl (cC, 60, .inl t))] H := hP
  have hD : va_D A [((q 0), .inr (0, [.ref (q 1), .int (nI 0), .int (nI pl), .int (kd), .int (cr), .int (ag), .int (nu)])), ((q 1), .inl (cC, 60, .inl t))] := hD
  refine lv_iload_n hx hb dX0_empty_10 rfl (lv_at hl 0 rfl) ?_
  exact kb_iret (D := D) hQ hx hb hr hlocks hK hP hD hS dX0_empty_11 () rfl (Nat.le_refl _) (Nat.le_refl _) (show (nI n) = nI n from rfl)
abbrev rmX0_signAt : Room := { frames := 0, cells := 0, slots := 0, locals := 0 }
theorem hdX0_signAt : yX0_signAt.cls = RX0 ∧ yX0_signAt.cls ≠ "java/lang/invoke/MethodHandle" ∧ yX0_signAt.cls ≠ "java/lang/invoke/VarHandle" ∧ (parseMethodDescriptor yX0_signAt.desc).map (fun d => d.parameters.length) = some 1 := by decide +kernel
theorem inwX0_signAt_X0 : ∀ w ∈ wsX00, w ∈ wsX0_signAt := fun w h => List.mem_cons_of_mem _ (List.mem_append_right _ h)
set_option maxHeartbeats 4000000 in
set_option maxRecDepth 100000 in
theorem c_X0_signAt (l : Launch) (D : va_G) (cC : ClassId) (q : Nat → Nat) (n : Nat) (pl : Nat) (kd : Int32) (cr : Int32) (ag : Int32) (nu : Int32) (t : Nat → Int32) (i : Nat) (hi : i < 2 ^ 31) (tx : Nat → Nat) (htx : tOk t tx n) : kb_R D [(cC, .char)] l yX0_signAt wsX0_signAt rmX0_signAt [.ref (q 0), .int (nI i)] [((q 0), .inr (0, [.ref (q 1), .int (nI n), .int (nI pl), .int (kd), .int (cr), .int (ag), .int (nu)])), ((q 1), .inl (cC, 60, .inl t))] (sgI tx n i) := by
  refine kb_I_of (cc := cX0_signAt) (maxL := 2) (ret := (some .int)) (by decide) rfl (Nat.le_of_ble_eq_true rfl) ?_
  intro p e s mm args below meth c A hx hb hml hr hts hown hlocks hnm hA hN hK hP hD hS ls hl Q hQ
  have hl : lv_has ls 2 [(0, .ref (q 0)), (1, .int (nI i))] := hl
  have hP : va_P D vwCl [((q 0), .inr (0, [.ref (q 1), .int (nI n), .int (nI pl), .int (kd), .int (cr), .int (ag), .int (nu)])), ((q 1), .inl (cC, 60, .inl t))] s.heap := hP
  have hD : va_D A [((q 0), .inr (0, [.ref (q 1), .int (nI n), .int (nI pl), .int (kd), .int (cr), .int (ag), .int (nu)])), ((q 1), .inl (cC, 60, .inl t))] := hD
  have fl15 := hts (.fieldLink RX0 15 "KingsBanquet$Guests" "length" "I") (by decide +kernel)
  have fl9 := hts (.fieldLink RX0 9 "KingsBanquet$Guests" "signs" "[C") (by decide +kernel)
  have hn := htx.1
  refine lv_iload_n hx hb dX0_signAt_0 rfl (lv_at hl 1 rfl) ?_
  refine kb_nif_lt (tgt := 30) hx hb dX0_signAt_1 (by decide) (by omega) ?_
  refine lv_iload_n hx hb dX0_signAt_4 rfl (lv_at hl 1 rfl) ?_
  refine lv_aload_n hx hb dX0_signAt_5 rfl (lv_at hl 0 rfl) ?_
  refine va_get (D := D) (ci := 0) (v := .int (nI n)) (C := RX0) (T := TX0) (N := 7) hx hb hts inwX0_signAt_X0 hown hK hP 0 rfl rfl 1 (by decide) fl15 (fun _ h9 => h9) rfl dX0_signAt_6 ?_
  refine kb_icmp_ge (tgt := 30) hx hb dX0_signAt_9 (by decide) (by omega) (by omega) (fun c9 => ?_) (fun c9 => ?_)
  · refine lv_iconst (v := (-1)) hx hb dX0_signAt_30 (by decide) ?_
    exact kb_iret (D := D) hQ hx hb hr hlocks hK hP hD hS dX0_signAt_31 () rfl (Nat.le_refl _) (Nat.le_refl _) (show (-1) = sgI tx n i from ((if_neg (by omega)).symm : (-1) = sgI tx n i))
  · refine lv_iload_n hx hb dX0_signAt_12 rfl (lv_at hl 1 rfl) ?_
    refine lv_aload_n hx hb dX0_signAt_13 rfl (lv_at hl 0 rfl) ?_
    refine va_get (D := D) (ci := 0) (v := .ref (q 1)) (C := RX0) (T := TX0) (N := 7) hx hb hts inwX0_signAt_X0 hown hK hP 0 rfl rfl 0 (by decide) fl9 (fun _ h9 => h9) rfl dX0_signAt_14 ?_
    refine va_alen hx hb hK hP 1 0 rfl (ty := .char) rfl (v := nI 60) rfl dX0_signAt_17 ?_
    refine kb_icmp_ge (tgt := 30) hx hb dX0_signAt_18 (by decide) (by omega) (by omega) (fun c18 => ?_) (fun c18 => ?_)
    · exfalso; omega
    · refine lv_aload_n hx hb dX0_signAt_21 rfl (lv_at hl 0 rfl) ?_
      refine va_get (D := D) (ci := 0) (v := .ref (q 1)) (C := RX0) (T := TX0) (N := 7) hx hb hts inwX0_signAt_X0 hown hK hP 0 rfl rfl 0 (by decide) fl9 (fun _ h9 => h9) rfl dX0_signAt_22 ?_
      refine lv_iload_n hx hb dX0_signAt_25 rfl (lv_at hl 1 rfl) ?_
      refine kb_cald hx hb hK hP 1 0 rfl rfl (by decide) (by omega) dX0_signAt_26 ?_
      refine kb_top (nI (tx i)) (htx.2 i (by omega)).1 ?_
      refine lv_goto (tgt := 31) hx hb dX0_signAt_27 (by decide) ?_
      exact kb_iret (D := D) hQ hx hb hr hlocks hK hP hD hS dX0_signAt_31 () rfl (Nat.le_refl _) (Nat.le_refl _) (show nI (tx i) = sgI tx n i from ((if_pos c9).symm : nI (tx i) = sgI tx n i))
abbrev rmX0_digitAt : Room := { frames := 1, cells := 0, slots := 0, locals := 21 }
theorem hdX0_digitAt : yX0_digitAt.cls = RX0 ∧ yX0_digitAt.cls ≠ "java/lang/invoke/MethodHandle" ∧ yX0_digitAt.cls ≠ "java/lang/invoke/VarHandle" ∧ (parseMethodDescriptor yX0_digitAt.desc).map (fun d => d.parameters.length) = some 1 := by decide +kernel
theorem inwX0_digitAt_X0 : ∀ w ∈ wsX00, w ∈ wsX0_digitAt := fun w h => List.mem_cons_of_mem _ (List.mem_append_right _ h)
set_option maxHeartbeats 4000000 in
set_option maxRecDepth 100000 in
theorem c_X0_digitAt (l : Launch) (D : va_G) (cC : ClassId) (q : Nat → Nat) (n : Nat) (pl : Nat) (kd : Int32) (cr : Int32) (ag : Int32) (nu : Int32) (t : Nat → Int32) (i : Nat) (hi : i < 2 ^ 31) (tx : Nat → Nat) (htx : tOk t tx n) : kb_R D [(cC, .char)] l yX0_digitAt wsX0_digitAt rmX0_digitAt [.ref (q 0), .int (nI i)] [((q 0), .inr (0, [.ref (q 1), .int (nI n), .int (nI pl), .int (kd), .int (cr), .int (ag), .int (nu)])), ((q 1), .inl (cC, 60, .inl t))] (dgI tx n i) := by
  refine kb_I_of (cc := cX0_digitAt) (maxL := 3) (ret := (some .int)) (by decide) rfl (Nat.le_of_ble_eq_true rfl) ?_
  intro p e s mm args below meth c A hx hb hml hr hts hown hlocks hnm hA hN hK hP hD hS ls hl Q hQ
  have hl : lv_has ls 3 [(0, .ref (q 0)), (1, .int (nI i))] := hl
  have hP : va_P D vwCl [((q 0), .inr (0, [.ref (q 1), .int (nI n), .int (nI pl), .int (kd), .int (cr), .int (ag), .int (nu)])), ((q 1), .inl (cC, 60, .inl t))] s.heap := hP
  have hD : va_D A [((q 0), .inr (0, [.ref (q 1), .int (nI n), .int (nI pl), .int (kd), .int (cr), .int (ag), .int (nu)])), ((q 1), .inl (cC, 60, .inl t))] := hD
  have hn := htx.1
  refine lv_aload_n hx hb dX0_digitAt_0 rfl (lv_at hl 0 rfl) ?_
  refine lv_iload_n hx hb dX0_digitAt_1 rfl (lv_at hl 1 rfl) ?_
  refine kb_vR (As := [.int (nI i)]) (rest := []) hx hb hml hts hown hN hK hP hD hS hA (c_X0_signAt l D cC q n pl kd cr ag nu t i (by first | assumption | omega) (by first | assumption | omega) htx) gX0_digitAt_X0_signAt rfl ⟨rfl, rfl⟩ hdX0_signAt ⟨Nat.le_of_ble_eq_true rfl, Nat.le_of_ble_eq_true rfl⟩ [0, 1] [0] rfl rfl rfl (ci := 0) rfl rfl rfl rfl rfl hl.1 (Nat.le_of_ble_eq_true rfl) dX0_digitAt_2 ⟨Nat.zero_le _, Nat.zero_le _⟩ (fun H locs hP hS => ?_)
  refine lv_istore_n (lv' := [(2, .int (sgI tx n i)), (0, .ref (q 0)), (1, .int (nI i))]) hx hb dX0_digitAt_5 rfl hl (by decide) rfl (fun ls hl => ?_)
  by_cases hin : i < n
  · have hxi := htx.2 i hin
    rw [show sgI tx n i = nI (tx i) from if_pos hin] at hl
    refine lv_iload_n hx hb dX0_digitAt_6 rfl (lv_at hl 0 rfl) ?_
    refine lv_bipush (v := nI 48) hx hb dX0_digitAt_7 (by decide) ?_
    refine kb_icmp_lt (tgt := 25) hx hb dX0_digitAt_9 (by decide) (by omega) (by omega) (fun c9 => ?_) (fun c9 => ?_)
    · refine lv_iconst (v := (-1)) hx hb dX0_digitAt_25 (by decide) ?_
      exact kb_iret (D := D) hQ hx hb hr hlocks hK hP hD hS dX0_digitAt_26 () rfl (Nat.le_refl _) (Nat.le_refl _) (show (-1) = dgI tx n i from (by first | exact (show nI (tx i - 48) = dgI tx n i from by unfold dgI; rw [dg_yes hin ⟨by omega, by omega⟩, if_neg (by omega)]) | exact (if_pos (dg_no hin (by omega))).symm | exact (if_pos (dg_out (by omega))).symm))
    · refine lv_iload_n hx hb dX0_digitAt_12 rfl (lv_at hl 0 rfl) ?_
      refine lv_bipush (v := nI 57) hx hb dX0_digitAt_13 (by decide) ?_
      refine kb_icmp_gt (tgt := 25) hx hb dX0_digitAt_15 (by decide) (by omega) (by omega) (fun c15 => ?_) (fun c15 => ?_)
      · refine lv_iconst (v := (-1)) hx hb dX0_digitAt_25 (by decide) ?_
        exact kb_iret (D := D) hQ hx hb hr hlocks hK hP hD hS dX0_digitAt_26 () rfl (Nat.le_refl _) (Nat.le_refl _) (show (-1) = dgI tx n i from (by first | exact (show nI (tx i - 48) = dgI tx n i from by unfold dgI; rw [dg_yes hin ⟨by omega, by omega⟩, if_neg (by omega)]) | exact (if_pos (dg_no hin (by omega))).symm | exact (if_pos (dg_out (by omega))).symm))
      · refine lv_iload_n hx hb dX0_digitAt_18 rfl (lv_at hl 0 rfl) ?_
        refine lv_bipush (v := nI 48) hx hb dX0_digitAt_19 (by decide) ?_
        refine lv_isub hx hb dX0_digitAt_21 ?_
        refine kb_top (nI ((tx i) - 48)) (pk_sub (by omega)) ?_
        refine lv_goto (tgt := 26) hx hb dX0_digitAt_22 (by decide) ?_
        exact kb_iret (D := D) hQ hx hb hr hlocks hK hP hD hS dX0_digitAt_26 () rfl (Nat.le_refl _) (Nat.le_refl _) (show nI ((tx i) - 48) = dgI tx n i from (by first | exact (show nI (tx i - 48) = dgI tx n i from by unfold dgI; rw [dg_yes hin ⟨by omega, by omega⟩, if_neg (by omega)]) | exact (if_pos (dg_no hin (by omega))).symm | exact (if_pos (dg_out (by omega))).symm))
  · rw [show sgI tx n i = (-1) from if_neg hin] at hl
    refine lv_iload_n hx hb dX0_digitAt_6 rfl (lv_at hl 0 rfl) ?_
    refine lv_bipush (v := nI 48) hx hb dX0_digitAt_7 (by decide) ?_
    refine lv_icmp_lt (tgt := 25) hx hb dX0_digitAt_9 (by decide) (fun c9 => ?_) (fun c9 => ?_)
    · refine lv_iconst (v := (-1)) hx hb dX0_digitAt_25 (by decide) ?_
      exact kb_iret (D := D) hQ hx hb hr hlocks hK hP hD hS dX0_digitAt_26 () rfl (Nat.le_refl _) (Nat.le_refl _) (show (-1) = dgI tx n i from (by first | exact (show nI (tx i - 48) = dgI tx n i from by unfold dgI; rw [dg_yes hin ⟨by omega, by omega⟩, if_neg (by omega)]) | exact (if_pos (dg_no hin (by omega))).symm | exact (if_pos (dg_out (by omega))).symm))
    · exact absurd c9 (by decide : ¬ ¬ (-1 : Int32) < nI 48)
abbrev rmX0_skip : Room := { frames := 1, cells := 0, slots := 0, locals := 21 }
theorem hdX0_skip : yX0_skip.cls = RX0 ∧ yX0_skip.cls ≠ "java/lang/invoke/MethodHandle" ∧ yX0_skip.cls ≠ "java/lang/invoke/VarHandle" ∧ (parseMethodDescriptor yX0_skip.desc).map (fun d => d.parameters.length) = some 1 := by decide +kernel
theorem inwX0_skip_X0 : ∀ w ∈ wsX00, w ∈ wsX0_skip := fun w h => List.mem_cons_of_mem _ (List.mem_append_right _ h)
set_option maxHeartbeats 4000000 in
set_option maxRecDepth 100000 in
theorem c_X0_skip (l : Launch) (D : va_G) (cC : ClassId) (q : Nat → Nat) (n : Nat) (pl : Nat) (kd : Int32) (cr : Int32) (ag : Int32) (nu : Int32) (t : Nat → Int32) (x : Nat) (hx6 : x < 65536) (hpl : pl ≤ n) (tx : Nat → Nat) (htx : tOk t tx n) : kb_I (S := Nat) D [(cC, .char)] l yX0_skip wsX0_skip rmX0_skip [.ref (q 0), .int (nI x)] [((q 0), .inr (0, [.ref (q 1), .int (nI n), .int (nI pl), .int (kd), .int (cr), .int (ag), .int (nu)])), ((q 1), .inl (cC, 60, .inl t))] (fun (r : Int32) (u : Nat) => r = kb_b (decide (cd tx n pl = x)) ∧ u = if cd tx n pl = x then pl + 1 else pl) (fun (u : Nat) => [((q 0), .inr (0, [.ref (q 1), .int (nI n), .int (nI u), .int (kd), .int (cr), .int (ag), .int (nu)])), ((q 1), .inl (cC, 60, .inl t))]) 0 0 := by
  refine kb_I_of (cc := cX0_skip) (maxL := 2) (ret := (some .boolean)) (by decide) rfl (Nat.le_of_ble_eq_true rfl) ?_
  intro p e s mm args below meth c A hx hb hml hr hts hown hlocks hnm hA hN hK hP hD hS ls hl Q hQ
  have hl : lv_has ls 2 [(0, .ref (q 0)), (1, .int (nI x))] := hl
  have hP : va_P D vwCl [((q 0), .inr (0, [.ref (q 1), .int (nI n), .int (nI pl), .int (kd), .int (cr), .int (ag), .int (nu)])), ((q 1), .inl (cC, 60, .inl t))] s.heap := hP
  have hD : va_D A [((q 0), .inr (0, [.ref (q 1), .int (nI n), .int (nI pl), .int (kd), .int (cr), .int (ag), .int (nu)])), ((q 1), .inl (cC, 60, .inl t))] := hD
  have fl19 := hts (.fieldLink RX0 19 "KingsBanquet$Guests" "place" "I") (by decide +kernel)
  have hn := htx.1
  refine lv_aload_n hx hb dX0_skip_0 rfl (lv_at hl 0 rfl) ?_
  refine lv_aload_n hx hb dX0_skip_1 rfl (lv_at hl 0 rfl) ?_
  refine va_get (D := D) (ci := 0) (v := .int (nI pl)) (C := RX0) (T := TX0) (N := 7) hx hb hts inwX0_skip_X0 hown hK hP 0 rfl rfl 2 (by decide) fl19 (fun _ h9 => h9) rfl dX0_skip_2 ?_
  refine kb_vR (As := [.int (nI pl)]) (rest := []) hx hb hml hts hown hN hK hP hD hS hA (c_X0_signAt l D cC q n pl kd cr ag nu t pl (by first | assumption | omega) (by first | assumption | omega) htx) gX0_skip_X0_signAt rfl ⟨rfl, rfl⟩ hdX0_signAt ⟨Nat.le_of_ble_eq_true rfl, Nat.le_of_ble_eq_true rfl⟩ [0, 1] [0] rfl rfl rfl (ci := 0) rfl rfl rfl rfl rfl hl.1 (Nat.le_of_ble_eq_true rfl) dX0_skip_5 ⟨Nat.zero_le _, Nat.zero_le _⟩ (fun H locs hP hS => ?_)
  refine lv_iload_n hx hb dX0_skip_8 rfl (lv_at hl 1 rfl) ?_
  refine lv_icmp_eq (tgt := 14) hx hb dX0_skip_9 (by decide) (fun c9 => ?_) (fun c9 => ?_)
  · refine lv_aload_n hx hb dX0_skip_14 rfl (lv_at hl 0 rfl) ?_
    refine lv_dup hx hb dX0_skip_15 rfl ?_
    refine va_get (D := D) (ci := 0) (v := .int (nI pl)) (C := RX0) (T := TX0) (N := 7) hx hb hts inwX0_skip_X0 hown hK hP 0 rfl rfl 2 (by decide) fl19 (fun _ h9 => h9) rfl dX0_skip_16 ?_
    refine lv_iconst (v := nI 1) hx hb dX0_skip_19 (by decide) ?_
    refine lv_iadd hx hb dX0_skip_20 ?_
    refine kb_top (nI (pl + 1)) (nI_add pl 1) ?_
    refine va_put (D := D) (ci := 0) (v := .int (nI (pl + 1))) (ty := .int) (C := RX0) (T := TX0) (N := 7) hx hb hts inwX0_skip_X0 tyX0 tyX0_ok nmX0 hown hK hP hD hS 0 rfl rfl 2 (by decide) fl19 (fun _ h9 => h9) rfl (by decide +kernel) rfl rfl (Nat.le_of_ble_eq_true rfl) dX0_skip_21 (fun H locs hP hD hS => ?_)
    have hP : va_P D vwCl [((q 0), .inr (0, [.ref (q 1), .int (nI n), .int (nI (pl + 1)), .int (kd), .int (cr), .int (ag), .int (nu)])), ((q 1), .inl (cC, 60, .inl t))] H := hP
    have hD : va_D A [((q 0), .inr (0, [.ref (q 1), .int (nI n), .int (nI (pl + 1)), .int (kd), .int (cr), .int (ag), .int (nu)])), ((q 1), .inl (cC, 60, .inl t))] := hD
    refine lv_iconst (v := nI 1) hx hb dX0_skip_24 (by decide) ?_
    exact kb_zret (D := D) hQ hx hb hr hlocks hK hP hD hS dX0_skip_25 rfl (pl + 1) rfl (Nat.le_refl _) (Nat.le_refl _) (show (nI 1) = kb_b (decide (cd tx n pl = x)) ∧ (pl + 1) = if cd tx n pl = x then pl + 1 else pl from ⟨kb_d1 ((sgI_eq htx hx6).mp c9), (if_pos ((sgI_eq htx hx6).mp c9)).symm⟩)
  · refine lv_iconst (v := nI 0) hx hb dX0_skip_12 (by decide) ?_
    exact kb_zret (D := D) hQ hx hb hr hlocks hK hP hD hS dX0_skip_13 rfl pl rfl (Nat.le_refl _) (Nat.le_refl _) (show (nI 0) = kb_b (decide (cd tx n pl = x)) ∧ pl = if cd tx n pl = x then pl + 1 else pl from ⟨kb_d0 (fun q => c9 ((sgI_eq htx hx6).mpr q)), (if_neg (fun q => c9 ((sgI_eq htx hx6).mpr q))).symm⟩)
abbrev rmX0_readNumber : Room := { frames := 2, cells := 0, slots := 0, locals := 43 }
theorem hdX0_readNumber : yX0_readNumber.cls = RX0 ∧ yX0_readNumber.cls ≠ "java/lang/invoke/MethodHandle" ∧ yX0_readNumber.cls ≠ "java/lang/invoke/VarHandle" ∧ (parseMethodDescriptor yX0_readNumber.desc).map (fun d => d.parameters.length) = some 2 := by decide +kernel
theorem inwX0_readNumber_X0 : ∀ w ∈ wsX00, w ∈ wsX0_readNumber := fun w h => List.mem_cons_of_mem _ (List.mem_append_right _ h)
set_option maxHeartbeats 4000000 in
set_option maxRecDepth 100000 in
theorem c_X0_readNumber (l : Launch) (D : va_G) (cC : ClassId) (q : Nat → Nat) (n : Nat) (pl : Nat) (kd : Int32) (cr : Int32) (ag : Int32) (nu : Int32) (t : Nat → Int32) (lo : Nat) (hi : Nat) (hlo : lo ≤ 9) (hhi : 9 ≤ hi ∧ hi ≤ 9999) (hpl : pl ≤ n) (tx : Nat → Nat) (htx : tOk t tx n) : kb_I (S := Nat × Int32) D [(cC, .char)] l yX0_readNumber wsX0_readNumber rmX0_readNumber [.ref (q 0), .int (nI lo), .int (nI hi)] [((q 0), .inr (0, [.ref (q 1), .int (nI n), .int (nI pl), .int (kd), .int (cr), .int (ag), .int (nu)])), ((q 1), .inl (cC, 60, .inl t))] (fun (r : Int32) (u : Nat × Int32) => r = kb_b (pN tx n lo hi pl).1 ∧ u.1 = (pN tx n lo hi pl).2.1 ∧ ((pN tx n lo hi pl).1 = true → u.2 = nI (pN tx n lo hi pl).2.2)) (fun (u : Nat × Int32) => [((q 0), .inr (0, [.ref (q 1), .int (nI n), .int (nI u.1), .int (kd), .int (cr), .int (ag), .int (u.2)])), ((q 1), .inl (cC, 60, .inl t))]) 0 0 := by
  refine kb_I_of (cc := cX0_readNumber) (maxL := 3) (ret := (some .boolean)) (by decide) rfl (Nat.le_of_ble_eq_true rfl) ?_
  intro p e s mm args below meth c A hx hb hml hr hts hown hlocks hnm hA hN hK hP hD hS ls hl Q hQ
  have hl : lv_has ls 3 [(0, .ref (q 0)), (1, .int (nI lo)), (2, .int (nI hi))] := hl
  have hP : va_P D vwCl [((q 0), .inr (0, [.ref (q 1), .int (nI n), .int (nI pl), .int (kd), .int (cr), .int (ag), .int (nu)])), ((q 1), .inl (cC, 60, .inl t))] s.heap := hP
  have hD : va_D A [((q 0), .inr (0, [.ref (q 1), .int (nI n), .int (nI pl), .int (kd), .int (cr), .int (ag), .int (nu)])), ((q 1), .inl (cC, 60, .inl t))] := hD
  have fl19 := hts (.fieldLink RX0 19 "KingsBanquet$Guests" "place" "I") (by decide +kernel)
  have fl31 := hts (.fieldLink RX0 31 "KingsBanquet$Guests" "number" "I") (by decide +kernel)
  have fl15 := hts (.fieldLink RX0 15 "KingsBanquet$Guests" "length" "I") (by decide +kernel)
  have hn := htx.1
  have hdl := dg_le tx n pl
  refine lv_aload_n hx hb dX0_readNumber_0 rfl (lv_at hl 0 rfl) ?_
  refine lv_aload_n hx hb dX0_readNumber_1 rfl (lv_at hl 0 rfl) ?_
  refine lv_aload_n hx hb dX0_readNumber_2 rfl (lv_at hl 0 rfl) ?_
  refine va_get (D := D) (ci := 0) (v := .int (nI pl)) (C := RX0) (T := TX0) (N := 7) hx hb hts inwX0_readNumber_X0 hown hK hP 0 rfl rfl 2 (by decide) fl19 (fun _ h9 => h9) rfl dX0_readNumber_3 ?_
  refine kb_vR (As := [.int (nI pl)]) (rest := [.ref (q 0)]) hx hb hml hts hown hN hK hP hD hS hA (c_X0_digitAt l D cC q n pl kd cr ag nu t pl (by omega) (by first | assumption | omega) htx) gX0_readNumber_X0_digitAt rfl ⟨rfl, rfl⟩ hdX0_digitAt ⟨Nat.le_of_ble_eq_true rfl, Nat.le_of_ble_eq_true rfl⟩ [0, 1] [0] rfl rfl rfl (ci := 0) rfl rfl rfl rfl rfl hl.1 (Nat.le_of_ble_eq_true rfl) dX0_readNumber_6 ⟨Nat.zero_le _, Nat.zero_le _⟩ (fun H locs hP hS => ?_)
  refine va_put (D := D) (ci := 0) (v := .int (dgI tx n pl)) (ty := .int) (C := RX0) (T := TX0) (N := 7) hx hb hts inwX0_readNumber_X0 tyX0 tyX0_ok nmX0 hown hK hP hD hS 0 rfl rfl 6 (by decide) fl31 (fun _ h9 => h9) rfl (by decide +kernel) rfl rfl (Nat.le_of_ble_eq_true rfl) dX0_readNumber_9 (fun H locs hP hD hS => ?_)
  have hP : va_P D vwCl [((q 0), .inr (0, [.ref (q 1), .int (nI n), .int (nI pl), .int (kd), .int (cr), .int (ag), .int (dgI tx n pl)])), ((q 1), .inl (cC, 60, .inl t))] H := hP
  have hD : va_D A [((q 0), .inr (0, [.ref (q 1), .int (nI n), .int (nI pl), .int (kd), .int (cr), .int (ag), .int (dgI tx n pl)])), ((q 1), .inl (cC, 60, .inl t))] := hD
  refine lv_aload_n hx hb dX0_readNumber_12 rfl (lv_at hl 0 rfl) ?_
  refine va_get (D := D) (ci := 0) (v := .int (dgI tx n pl)) (C := RX0) (T := TX0) (N := 7) hx hb hts inwX0_readNumber_X0 hown hK hP 0 rfl rfl 6 (by decide) fl31 (fun _ h9 => h9) rfl dX0_readNumber_13 ?_
  refine lv_iconst (v := (-1)) hx hb dX0_readNumber_16 (by decide) ?_
  refine lv_icmp_eq (tgt := 28) hx hb dX0_readNumber_17 (by decide) (fun c17 => ?_) (fun c17 => ?_)
  · refine lv_iconst (v := nI 0) hx hb dX0_readNumber_28 (by decide) ?_
    exact kb_zret (D := D) hQ hx hb hr hlocks hK hP hD hS dX0_readNumber_29 rfl (pl, dgI tx n pl) rfl (Nat.le_refl _) (Nat.le_refl _) (show (nI 0) = kb_b (pN tx n lo hi pl).1 ∧ pl = (pN tx n lo hi pl).2.1 ∧ ((pN tx n lo hi pl).1 = true → (dgI tx n pl) = nI (pN tx n lo hi pl).2.2) from (by first | exact ⟨by rw [pN_f (Or.inl (dgI_eq c17))]; rfl, by rw [pN_f (Or.inl (dgI_eq c17))], fun q => by rw [pN_f (Or.inl (dgI_eq c17))] at q; cases q⟩ | exact ⟨by rw [pN_f (Or.inr (by omega))]; rfl, by rw [pN_f (Or.inr (by omega))], fun q => by rw [pN_f (Or.inr (by omega))] at q; cases q⟩))
  · have hd17 := dg_ne (dgI_ne c17)
    have hP : va_P D vwCl [((q 0), .inr (0, [.ref (q 1), .int (nI n), .int (nI pl), .int (kd), .int (cr), .int (ag), .int (nI (dg tx n pl))])), ((q 1), .inl (cC, 60, .inl t))] H := by rw [← dgI_1 c17]; exact hP
    have hD : va_D A [((q 0), .inr (0, [.ref (q 1), .int (nI n), .int (nI pl), .int (kd), .int (cr), .int (ag), .int (nI (dg tx n pl))])), ((q 1), .inl (cC, 60, .inl t))] := by rw [← dgI_1 c17]; exact hD
    refine lv_aload_n hx hb dX0_readNumber_20 rfl (lv_at hl 0 rfl) ?_
    refine va_get (D := D) (ci := 0) (v := .int (nI (dg tx n pl))) (C := RX0) (T := TX0) (N := 7) hx hb hts inwX0_readNumber_X0 hown hK hP 0 rfl rfl 6 (by decide) fl31 (fun _ h9 => h9) rfl dX0_readNumber_21 ?_
    refine lv_iload_n hx hb dX0_readNumber_24 rfl (lv_at hl 1 rfl) ?_
    refine kb_icmp_ge (tgt := 30) hx hb dX0_readNumber_25 (by decide) (by omega) (by omega) (fun c25 => ?_) (fun c25 => ?_)
    · have hpn : ¬ (dg tx n pl = 10 ∨ dg tx n pl < lo) := fun q => q.elim (dgI_ne c17) (by omega)
      refine lv_aload_n hx hb dX0_readNumber_30 rfl (lv_at hl 0 rfl) ?_
      refine lv_dup hx hb dX0_readNumber_31 rfl ?_
      refine va_get (D := D) (ci := 0) (v := .int (nI pl)) (C := RX0) (T := TX0) (N := 7) hx hb hts inwX0_readNumber_X0 hown hK hP 0 rfl rfl 2 (by decide) fl19 (fun _ h9 => h9) rfl dX0_readNumber_32 ?_
      refine lv_iconst (v := nI 1) hx hb dX0_readNumber_35 (by decide) ?_
      refine lv_iadd hx hb dX0_readNumber_36 ?_
      refine kb_top (nI (pl + 1)) (nI_add pl 1) ?_
      refine va_put (D := D) (ci := 0) (v := .int (nI (pl + 1))) (ty := .int) (C := RX0) (T := TX0) (N := 7) hx hb hts inwX0_readNumber_X0 tyX0 tyX0_ok nmX0 hown hK hP hD hS 0 rfl rfl 2 (by decide) fl19 (fun _ h9 => h9) rfl (by decide +kernel) rfl rfl (Nat.le_of_ble_eq_true rfl) dX0_readNumber_37 (fun H locs hP hD hS => ?_)
      have hP : va_P D vwCl [((q 0), .inr (0, [.ref (q 1), .int (nI n), .int (nI (pl + 1)), .int (kd), .int (cr), .int (ag), .int (nI (dg tx n pl))])), ((q 1), .inl (cC, 60, .inl t))] H := hP
      have hD : va_D A [((q 0), .inr (0, [.ref (q 1), .int (nI n), .int (nI (pl + 1)), .int (kd), .int (cr), .int (ag), .int (nI (dg tx n pl))])), ((q 1), .inl (cC, 60, .inl t))] := hD
      have L_40 : ∀ (z : Nat) (i : Nat) (v : Nat), (nL tx n hi (n - (pl + 1)) (dg tx n pl) (pl + 1) = nL tx n hi (n - i) v i) → (v ≤ hi) → (pl + 1 ≤ i ∧ i ≤ n) → (n - i) < z → ∀ (H : Heap) (locs : List Loc), va_P D vwCl [((q 0), .inr (0, [.ref (q 1), .int (nI n), .int (nI i), .int (kd), .int (cr), .int (ag), .int (nI v)])), ((q 1), .inl (cC, 60, .inl t))] H → va_D A [((q 0), .inr (0, [.ref (q 1), .int (nI n), .int (nI i), .int (kd), .int (cr), .int (ag), .int (nI v)])), ((q 1), .inl (cC, 60, .inl t))] → va_S A s.heap H locs → ∀ ls : Array Slot, lv_has ls 3 [(0, .ref (q 0)), (1, .int (nI lo)), (2, .int (nI hi))] → W p l e rmX0_readNumber s mm args below meth c H locs 0 0 Q (F0 mm 40 ls []) := by
        intro z
        induction z with
        | zero =>
          intro i v _ _ _ hz
          exact absurd hz (Nat.not_lt_zero _)
        | succ z ih_40 =>
          intro i v he hv hi2 hz H locs hP hD hS ls hl
          refine lv_aload_n hx hb dX0_readNumber_40 rfl (lv_at hl 0 rfl) ?_
          refine va_get (D := D) (ci := 0) (v := .int (nI v)) (C := RX0) (T := TX0) (N := 7) hx hb hts inwX0_readNumber_X0 hown hK hP 0 rfl rfl 6 (by decide) fl31 (fun _ h9 => h9) rfl dX0_readNumber_41 ?_
          refine kb_nif_le (tgt := 123) hx hb dX0_readNumber_44 (by decide) (by omega) (fun c44 => ?_) (fun c44 => ?_)
          · have hend : nL tx n hi (n - i) v i = (i, v) := nL_e (fun q => by first | omega | exact q.2.1 (dgI_eq c67) | (have := (dg_ne q.2.1).1; omega)) _
            refine lv_iconst (v := nI 1) hx hb dX0_readNumber_123 (by decide) ?_
            exact kb_zret (D := D) hQ hx hb hr hlocks hK hP hD hS dX0_readNumber_124 rfl (i, nI v) rfl (Nat.le_refl _) (Nat.le_refl _) (show (nI 1) = kb_b (pN tx n lo hi pl).1 ∧ i = (pN tx n lo hi pl).2.1 ∧ ((pN tx n lo hi pl).1 = true → (nI v) = nI (pN tx n lo hi pl).2.2) from ⟨by rw [pN_t hpn]; rfl, by rw [pN_t hpn, he, hend], fun _ => by rw [pN_t hpn, he, hend]⟩)
          · refine lv_aload_n hx hb dX0_readNumber_47 rfl (lv_at hl 0 rfl) ?_
            refine va_get (D := D) (ci := 0) (v := .int (nI i)) (C := RX0) (T := TX0) (N := 7) hx hb hts inwX0_readNumber_X0 hown hK hP 0 rfl rfl 2 (by decide) fl19 (fun _ h9 => h9) rfl dX0_readNumber_48 ?_
            refine lv_aload_n hx hb dX0_readNumber_51 rfl (lv_at hl 0 rfl) ?_
            refine va_get (D := D) (ci := 0) (v := .int (nI n)) (C := RX0) (T := TX0) (N := 7) hx hb hts inwX0_readNumber_X0 hown hK hP 0 rfl rfl 1 (by decide) fl15 (fun _ h9 => h9) rfl dX0_readNumber_52 ?_
            refine kb_icmp_ge (tgt := 123) hx hb dX0_readNumber_55 (by decide) (by omega) (by omega) (fun c55 => ?_) (fun c55 => ?_)
            · have hend : nL tx n hi (n - i) v i = (i, v) := nL_e (fun q => by first | omega | exact q.2.1 (dgI_eq c67) | (have := (dg_ne q.2.1).1; omega)) _
              refine lv_iconst (v := nI 1) hx hb dX0_readNumber_123 (by decide) ?_
              exact kb_zret (D := D) hQ hx hb hr hlocks hK hP hD hS dX0_readNumber_124 rfl (i, nI v) rfl (Nat.le_refl _) (Nat.le_refl _) (show (nI 1) = kb_b (pN tx n lo hi pl).1 ∧ i = (pN tx n lo hi pl).2.1 ∧ ((pN tx n lo hi pl).1 = true → (nI v) = nI (pN tx n lo hi pl).2.2) from ⟨by rw [pN_t hpn]; rfl, by rw [pN_t hpn, he, hend], fun _ => by rw [pN_t hpn, he, hend]⟩)
            · refine lv_aload_n hx hb dX0_readNumber_58 rfl (lv_at hl 0 rfl) ?_
              refine lv_aload_n hx hb dX0_readNumber_59 rfl (lv_at hl 0 rfl) ?_
              refine va_get (D := D) (ci := 0) (v := .int (nI i)) (C := RX0) (T := TX0) (N := 7) hx hb hts inwX0_readNumber_X0 hown hK hP 0 rfl rfl 2 (by decide) fl19 (fun _ h9 => h9) rfl dX0_readNumber_60 ?_
              refine kb_vR (As := [.int (nI i)]) (rest := []) hx hb hml hts hown hN hK hP hD hS hA (c_X0_digitAt l D cC q n i kd cr ag (nI v) t i (by omega) (by first | assumption | omega) htx) gX0_readNumber_X0_digitAt rfl ⟨rfl, rfl⟩ hdX0_digitAt ⟨Nat.le_of_ble_eq_true rfl, Nat.le_of_ble_eq_true rfl⟩ [0, 1] [0] rfl rfl rfl (ci := 0) rfl rfl rfl rfl rfl hl.1 (Nat.le_of_ble_eq_true rfl) dX0_readNumber_63 ⟨Nat.zero_le _, Nat.zero_le _⟩ (fun H locs hP hS => ?_)
              refine lv_iconst (v := (-1)) hx hb dX0_readNumber_66 (by decide) ?_
              refine lv_icmp_eq (tgt := 123) hx hb dX0_readNumber_67 (by decide) (fun c67 => ?_) (fun c67 => ?_)
              · have hend : nL tx n hi (n - i) v i = (i, v) := nL_e (fun q => by first | omega | exact q.2.1 (dgI_eq c67) | (have := (dg_ne q.2.1).1; omega)) _
                refine lv_iconst (v := nI 1) hx hb dX0_readNumber_123 (by decide) ?_
                exact kb_zret (D := D) hQ hx hb hr hlocks hK hP hD hS dX0_readNumber_124 rfl (i, nI v) rfl (Nat.le_refl _) (Nat.le_refl _) (show (nI 1) = kb_b (pN tx n lo hi pl).1 ∧ i = (pN tx n lo hi pl).2.1 ∧ ((pN tx n lo hi pl).1 = true → (nI v) = nI (pN tx n lo hi pl).2.2) from ⟨by rw [pN_t hpn]; rfl, by rw [pN_t hpn, he, hend], fun _ => by rw [pN_t hpn, he, hend]⟩)
              · have hd63 : dg tx n i ≠ 10 ∧ dg tx n i ≤ 9 := ⟨dgI_ne c67, (dg_ne (dgI_ne c67)).2.1⟩
                refine lv_aload_n hx hb dX0_readNumber_70 rfl (lv_at hl 0 rfl) ?_
                refine va_get (D := D) (ci := 0) (v := .int (nI v)) (C := RX0) (T := TX0) (N := 7) hx hb hts inwX0_readNumber_X0 hown hK hP 0 rfl rfl 6 (by decide) fl31 (fun _ h9 => h9) rfl dX0_readNumber_71 ?_
                refine lv_bipush (v := nI 10) hx hb dX0_readNumber_74 (by decide) ?_
                refine lv_imul hx hb dX0_readNumber_76 ?_
                refine kb_top (nI (v * 10)) (pk_mul v 10) ?_
                refine lv_aload_n hx hb dX0_readNumber_77 rfl (lv_at hl 0 rfl) ?_
                refine lv_aload_n hx hb dX0_readNumber_78 rfl (lv_at hl 0 rfl) ?_
                refine va_get (D := D) (ci := 0) (v := .int (nI i)) (C := RX0) (T := TX0) (N := 7) hx hb hts inwX0_readNumber_X0 hown hK hP 0 rfl rfl 2 (by decide) fl19 (fun _ h9 => h9) rfl dX0_readNumber_79 ?_
                refine kb_vR (As := [.int (nI i)]) (rest := [.int (nI (v * 10))]) hx hb hml hts hown hN hK hP hD hS hA (c_X0_digitAt l D cC q n i kd cr ag (nI v) t i (by omega) (by first | assumption | omega) htx) gX0_readNumber_X0_digitAt rfl ⟨rfl, rfl⟩ hdX0_digitAt ⟨Nat.le_of_ble_eq_true rfl, Nat.le_of_ble_eq_true rfl⟩ [0, 1] [0] rfl rfl rfl (ci := 0) rfl rfl rfl rfl rfl hl.1 (Nat.le_of_ble_eq_true rfl) dX0_readNumber_82 ⟨Nat.zero_le _, Nat.zero_le _⟩ (fun H locs hP hS => ?_)
                refine kb_top (nI (dg tx n i)) (dgI_1 c67) ?_
                refine lv_iadd hx hb dX0_readNumber_85 ?_
                refine kb_top (nI (v * 10 + (dg tx n i))) (nI_add (v * 10) (dg tx n i)) ?_
                refine lv_iload_n hx hb dX0_readNumber_86 rfl (lv_at hl 2 rfl) ?_
                refine kb_icmp_gt (tgt := 123) hx hb dX0_readNumber_87 (by decide) (by omega) (by omega) (fun c87 => ?_) (fun c87 => ?_)
                · have hend : nL tx n hi (n - i) v i = (i, v) := nL_e (fun q => by first | omega | exact q.2.1 (dgI_eq c67) | (have := (dg_ne q.2.1).1; omega)) _
                  refine lv_iconst (v := nI 1) hx hb dX0_readNumber_123 (by decide) ?_
                  exact kb_zret (D := D) hQ hx hb hr hlocks hK hP hD hS dX0_readNumber_124 rfl (i, nI v) rfl (Nat.le_refl _) (Nat.le_refl _) (show (nI 1) = kb_b (pN tx n lo hi pl).1 ∧ i = (pN tx n lo hi pl).2.1 ∧ ((pN tx n lo hi pl).1 = true → (nI v) = nI (pN tx n lo hi pl).2.2) from ⟨by rw [pN_t hpn]; rfl, by rw [pN_t hpn, he, hend], fun _ => by rw [pN_t hpn, he, hend]⟩)
                · refine lv_aload_n hx hb dX0_readNumber_90 rfl (lv_at hl 0 rfl) ?_
                  refine lv_aload_n hx hb dX0_readNumber_91 rfl (lv_at hl 0 rfl) ?_
                  refine va_get (D := D) (ci := 0) (v := .int (nI v)) (C := RX0) (T := TX0) (N := 7) hx hb hts inwX0_readNumber_X0 hown hK hP 0 rfl rfl 6 (by decide) fl31 (fun _ h9 => h9) rfl dX0_readNumber_92 ?_
                  refine lv_bipush (v := nI 10) hx hb dX0_readNumber_95 (by decide) ?_
                  refine lv_imul hx hb dX0_readNumber_97 ?_
                  refine kb_top (nI (v * 10)) (pk_mul v 10) ?_
                  refine lv_aload_n hx hb dX0_readNumber_98 rfl (lv_at hl 0 rfl) ?_
                  refine lv_aload_n hx hb dX0_readNumber_99 rfl (lv_at hl 0 rfl) ?_
                  refine va_get (D := D) (ci := 0) (v := .int (nI i)) (C := RX0) (T := TX0) (N := 7) hx hb hts inwX0_readNumber_X0 hown hK hP 0 rfl rfl 2 (by decide) fl19 (fun _ h9 => h9) rfl dX0_readNumber_100 ?_
                  refine kb_vR (As := [.int (nI i)]) (rest := [.int (nI (v * 10)), .ref (q 0)]) hx hb hml hts hown hN hK hP hD hS hA (c_X0_digitAt l D cC q n i kd cr ag (nI v) t i (by omega) (by first | assumption | omega) htx) gX0_readNumber_X0_digitAt rfl ⟨rfl, rfl⟩ hdX0_digitAt ⟨Nat.le_of_ble_eq_true rfl, Nat.le_of_ble_eq_true rfl⟩ [0, 1] [0] rfl rfl rfl (ci := 0) rfl rfl rfl rfl rfl hl.1 (Nat.le_of_ble_eq_true rfl) dX0_readNumber_103 ⟨Nat.zero_le _, Nat.zero_le _⟩ (fun H locs hP hS => ?_)
                  refine kb_top (nI (dg tx n i)) (dgI_1 c67) ?_
                  refine lv_iadd hx hb dX0_readNumber_106 ?_
                  refine kb_top (nI (v * 10 + (dg tx n i))) (nI_add (v * 10) (dg tx n i)) ?_
                  refine va_put (D := D) (ci := 0) (v := .int (nI (v * 10 + (dg tx n i)))) (ty := .int) (C := RX0) (T := TX0) (N := 7) hx hb hts inwX0_readNumber_X0 tyX0 tyX0_ok nmX0 hown hK hP hD hS 0 rfl rfl 6 (by decide) fl31 (fun _ h9 => h9) rfl (by decide +kernel) rfl rfl (Nat.le_of_ble_eq_true rfl) dX0_readNumber_107 (fun H locs hP hD hS => ?_)
                  have hP : va_P D vwCl [((q 0), .inr (0, [.ref (q 1), .int (nI n), .int (nI i), .int (kd), .int (cr), .int (ag), .int (nI (v * 10 + (dg tx n i)))])), ((q 1), .inl (cC, 60, .inl t))] H := hP
                  have hD : va_D A [((q 0), .inr (0, [.ref (q 1), .int (nI n), .int (nI i), .int (kd), .int (cr), .int (ag), .int (nI (v * 10 + (dg tx n i)))])), ((q 1), .inl (cC, 60, .inl t))] := hD
                  refine lv_aload_n hx hb dX0_readNumber_110 rfl (lv_at hl 0 rfl) ?_
                  refine lv_dup hx hb dX0_readNumber_111 rfl ?_
                  refine va_get (D := D) (ci := 0) (v := .int (nI i)) (C := RX0) (T := TX0) (N := 7) hx hb hts inwX0_readNumber_X0 hown hK hP 0 rfl rfl 2 (by decide) fl19 (fun _ h9 => h9) rfl dX0_readNumber_112 ?_
                  refine lv_iconst (v := nI 1) hx hb dX0_readNumber_115 (by decide) ?_
                  refine lv_iadd hx hb dX0_readNumber_116 ?_
                  refine kb_top (nI (i + 1)) (nI_add i 1) ?_
                  refine va_put (D := D) (ci := 0) (v := .int (nI (i + 1))) (ty := .int) (C := RX0) (T := TX0) (N := 7) hx hb hts inwX0_readNumber_X0 tyX0 tyX0_ok nmX0 hown hK hP hD hS 0 rfl rfl 2 (by decide) fl19 (fun _ h9 => h9) rfl (by decide +kernel) rfl rfl (Nat.le_of_ble_eq_true rfl) dX0_readNumber_117 (fun H locs hP hD hS => ?_)
                  have hP : va_P D vwCl [((q 0), .inr (0, [.ref (q 1), .int (nI n), .int (nI (i + 1)), .int (kd), .int (cr), .int (ag), .int (nI (v * 10 + (dg tx n i)))])), ((q 1), .inl (cC, 60, .inl t))] H := hP
                  have hD : va_D A [((q 0), .inr (0, [.ref (q 1), .int (nI n), .int (nI (i + 1)), .int (kd), .int (cr), .int (ag), .int (nI (v * 10 + (dg tx n i)))])), ((q 1), .inl (cC, 60, .inl t))] := hD
                  refine lv_goto (tgt := 40) hx hb dX0_readNumber_120 (by decide) ?_
                  exact ih_40 (i + 1) (v * 10 + (dg tx n i)) (by rw [he, show n - i = n - (i + 1) + 1 by omega, nL_s (by omega) hd63.1 (by omega)]) (by omega) (by omega) (by omega) _ _ hP hD hS _ (lv_sub hl [0, 1, 2] rfl)
      exact L_40 ((n - (pl + 1)) + 1) (pl + 1) (dg tx n pl) rfl (by omega) ⟨Nat.le_refl _, by omega⟩ (Nat.lt_succ_self _) _ _ hP hD hS _ (lv_sub hl [0, 1, 2] rfl)
    · refine lv_iconst (v := nI 0) hx hb dX0_readNumber_28 (by decide) ?_
      exact kb_zret (D := D) hQ hx hb hr hlocks hK hP hD hS dX0_readNumber_29 rfl (pl, nI (dg tx n pl)) rfl (Nat.le_refl _) (Nat.le_refl _) (show (nI 0) = kb_b (pN tx n lo hi pl).1 ∧ pl = (pN tx n lo hi pl).2.1 ∧ ((pN tx n lo hi pl).1 = true → (nI (dg tx n pl)) = nI (pN tx n lo hi pl).2.2) from (by first | exact ⟨by rw [pN_f (Or.inl (dgI_eq c17))]; rfl, by rw [pN_f (Or.inl (dgI_eq c17))], fun q => by rw [pN_f (Or.inl (dgI_eq c17))] at q; cases q⟩ | exact ⟨by rw [pN_f (Or.inr (by omega))]; rfl, by rw [pN_f (Or.inr (by omega))], fun q => by rw [pN_f (Or.inr (by omega))] at q; cases q⟩))
abbrev rmX0_readKing : Room := { frames := 3, cells := 0, slots := 0, locals := 65 }
theorem hdX0_readKing : yX0_readKing.cls = RX0 ∧ yX0_readKing.cls ≠ "java/lang/invoke/MethodHandle" ∧ yX0_readKing.cls ≠ "java/lang/invoke/VarHandle" ∧ (parseMethodDescriptor yX0_readKing.desc).map (fun d => d.parameters.length) = some 0 := by decide +kernel
theorem inwX0_readKing_X0 : ∀ w ∈ wsX00, w ∈ wsX0_readKing := fun w h => List.mem_cons_of_mem _ (List.mem_append_right _ h)
set_option maxHeartbeats 4000000 in
set_option maxRecDepth 100000 in
theorem c_X0_readKing (l : Launch) (D : va_G) (cC : ClassId) (q : Nat → Nat) (n : Nat) (pl : Nat) (kd : Int32) (cr : Int32) (ag : Int32) (nu : Int32) (t : Nat → Int32) (hpl : pl ≤ n) (tx : Nat → Nat) (htx : tOk t tx n) : kb_I (S := Nat × Int32 × Int32 × Int32) D [(cC, .char)] l yX0_readKing wsX0_readKing rmX0_readKing [.ref (q 0)] [((q 0), .inr (0, [.ref (q 1), .int (nI n), .int (nI pl), .int (kd), .int (cr), .int (ag), .int (nu)])), ((q 1), .inl (cC, 60, .inl t))] (fun (r : Int32) (u : Nat × Int32 × Int32 × Int32) => r = kb_b (pK tx n pl).1 ∧ u.1 = (pK tx n pl).2.1 ∧ ((pK tx n pl).1 = true → u.2.1 = nI (pK tx n pl).2.2.1 ∧ u.2.2.1 = nI (pK tx n pl).2.2.2.1 ∧ u.2.2.2 = nI (pK tx n pl).2.2.2.2)) (fun (u : Nat × Int32 × Int32 × Int32) => [((q 0), .inr (0, [.ref (q 1), .int (nI n), .int (nI u.1), .int (kd), .int (u.2.1), .int (u.2.2.1), .int (u.2.2.2)])), ((q 1), .inl (cC, 60, .inl t))]) 0 0 := by
  refine kb_I_of (cc := cX0_readKing) (maxL := 1) (ret := (some .boolean)) (by decide) rfl (Nat.le_of_ble_eq_true rfl) ?_
  intro p e s mm args below meth c A hx hb hml hr hts hown hlocks hnm hA hN hK hP hD hS ls hl Q hQ
  have hl : lv_has ls 1 [(0, .ref (q 0))] := hl
  have hP : va_P D vwCl [((q 0), .inr (0, [.ref (q 1), .int (nI n), .int (nI pl), .int (kd), .int (cr), .int (ag), .int (nu)])), ((q 1), .inl (cC, 60, .inl t))] s.heap := hP
  have hD : va_D A [((q 0), .inr (0, [.ref (q 1), .int (nI n), .int (nI pl), .int (kd), .int (cr), .int (ag), .int (nu)])), ((q 1), .inl (cC, 60, .inl t))] := hD
  have fl31 := hts (.fieldLink RX0 31 "KingsBanquet$Guests" "number" "I") (by decide +kernel)
  have fl25 := hts (.fieldLink RX0 25 "KingsBanquet$Guests" "crown" "I") (by decide +kernel)
  have fl28 := hts (.fieldLink RX0 28 "KingsBanquet$Guests" "age" "I") (by decide +kernel)
  have hn := htx.1
  refine lv_aload_n hx hb dX0_readKing_0 rfl (lv_at hl 0 rfl) ?_
  refine lv_iconst (v := nI 1) hx hb dX0_readKing_1 (by decide) ?_
  refine lv_bipush (v := nI 9) hx hb dX0_readKing_2 (by decide) ?_
  refine kb_vI (As := [.int (nI 1), .int (nI 9)]) (rest := []) hx hb hml hts hown hN hK hP hD hS hA (c_X0_readNumber l D cC q n pl kd cr ag nu t 1 9 (by decide) (by decide) hpl (by first | assumption | omega) htx) gX0_readKing_X0_readNumber rfl ⟨rfl, rfl⟩ hdX0_readNumber ⟨Nat.le_of_ble_eq_true rfl, Nat.le_of_ble_eq_true rfl⟩ [0, 1] [0] rfl rfl rfl (ci := 0) rfl rfl rfl (fun _ => rfl) rfl rfl hl.1 (Nat.le_of_ble_eq_true rfl) dX0_readKing_4 ⟨Nat.zero_le _, Nat.zero_le _⟩ (fun r_4 u H locs hw_4 hP hD hS => ?_)
  obtain ⟨plo_4, nuo_4⟩ := u
  have hw_4 : r_4 = kb_b (pN tx n 1 9 pl).1 ∧ plo_4 = (pN tx n 1 9 pl).2.1 ∧ ((pN tx n 1 9 pl).1 = true → nuo_4 = nI (pN tx n 1 9 pl).2.2) := hw_4
  have hP : va_P D vwCl [((q 0), .inr (0, [.ref (q 1), .int (nI n), .int (nI plo_4), .int (kd), .int (cr), .int (ag), .int (nuo_4)])), ((q 1), .inl (cC, 60, .inl t))] H := hP
  have hD : va_D A [((q 0), .inr (0, [.ref (q 1), .int (nI n), .int (nI plo_4), .int (kd), .int (cr), .int (ag), .int (nuo_4)])), ((q 1), .inl (cC, 60, .inl t))] := hD
  obtain ⟨hr_4, hp_4, hq_4⟩ := hw_4
  subst hr_4
  subst hp_4
  refine kb_bif_ne (tgt := 12) hx hb dX0_readKing_7 (by decide) (fun c7 => ?_) (fun c7 => ?_)
  · refine lv_aload_n hx hb dX0_readKing_12 rfl (lv_at hl 0 rfl) ?_
    refine lv_aload_n hx hb dX0_readKing_13 rfl (lv_at hl 0 rfl) ?_
    refine va_get (D := D) (ci := 0) (v := .int (nuo_4)) (C := RX0) (T := TX0) (N := 7) hx hb hts inwX0_readKing_X0 hown hK hP 0 rfl rfl 6 (by decide) fl31 (fun _ h9 => h9) rfl dX0_readKing_14 ?_
    refine va_put (D := D) (ci := 0) (v := .int (nuo_4)) (ty := .int) (C := RX0) (T := TX0) (N := 7) hx hb hts inwX0_readKing_X0 tyX0 tyX0_ok nmX0 hown hK hP hD hS 0 rfl rfl 4 (by decide) fl25 (fun _ h9 => h9) rfl (by decide +kernel) rfl rfl (Nat.le_of_ble_eq_true rfl) dX0_readKing_17 (fun H locs hP hD hS => ?_)
    have hP : va_P D vwCl [((q 0), .inr (0, [.ref (q 1), .int (nI n), .int (nI ((pN tx n 1 9 pl).2.1)), .int (kd), .int (nuo_4), .int (ag), .int (nuo_4)])), ((q 1), .inl (cC, 60, .inl t))] H := hP
    have hD : va_D A [((q 0), .inr (0, [.ref (q 1), .int (nI n), .int (nI ((pN tx n 1 9 pl).2.1)), .int (kd), .int (nuo_4), .int (ag), .int (nuo_4)])), ((q 1), .inl (cC, 60, .inl t))] := hD
    refine lv_aload_n hx hb dX0_readKing_20 rfl (lv_at hl 0 rfl) ?_
    refine lv_bipush (v := nI 46) hx hb dX0_readKing_21 (by decide) ?_
    refine kb_vI (As := [.int (nI 46)]) (rest := []) hx hb hml hts hown hN hK hP hD hS hA (c_X0_skip l D cC q n ((pN tx n 1 9 pl).2.1) kd nuo_4 ag nuo_4 t 46 (by decide) (pN_p (by decide) hpl) (by first | assumption | omega) htx) gX0_readKing_X0_skip rfl ⟨rfl, rfl⟩ hdX0_skip ⟨Nat.le_of_ble_eq_true rfl, Nat.le_of_ble_eq_true rfl⟩ [0, 1] [0] rfl rfl rfl (ci := 0) rfl rfl rfl (fun _ => rfl) rfl rfl hl.1 (Nat.le_of_ble_eq_true rfl) dX0_readKing_23 ⟨Nat.zero_le _, Nat.zero_le _⟩ (fun r_23 u H locs hw_23 hP hD hS => ?_)
    obtain ⟨plo_23, rfl⟩ : ∃ z, z = u := ⟨_, rfl⟩
    have hw_23 : r_23 = kb_b (decide (cd tx n ((pN tx n 1 9 pl).2.1) = 46)) ∧ plo_23 = if cd tx n ((pN tx n 1 9 pl).2.1) = 46 then ((pN tx n 1 9 pl).2.1) + 1 else ((pN tx n 1 9 pl).2.1) := hw_23
    have hP : va_P D vwCl [((q 0), .inr (0, [.ref (q 1), .int (nI n), .int (nI plo_23), .int (kd), .int (nuo_4), .int (ag), .int (nuo_4)])), ((q 1), .inl (cC, 60, .inl t))] H := hP
    have hD : va_D A [((q 0), .inr (0, [.ref (q 1), .int (nI n), .int (nI plo_23), .int (kd), .int (nuo_4), .int (ag), .int (nuo_4)])), ((q 1), .inl (cC, 60, .inl t))] := hD
    obtain ⟨hr_23, hp_23⟩ := hw_23
    subst hr_23
    subst hp_23
    refine kb_bif_eq (tgt := 39) hx hb dX0_readKing_26 (by decide) (fun c26 => ?_) (fun c26 => ?_)
    · have hs_26 : ¬ cd tx n ((pN tx n 1 9 pl).2.1) = 46 := of_decide_eq_false c26
      have hP : va_P D vwCl [((q 0), .inr (0, [.ref (q 1), .int (nI n), .int (nI ((pN tx n 1 9 pl).2.1)), .int (kd), .int (nuo_4), .int (ag), .int (nuo_4)])), ((q 1), .inl (cC, 60, .inl t))] H := by rw [if_neg hs_26] at hP; exact hP
      have hD : va_D A [((q 0), .inr (0, [.ref (q 1), .int (nI n), .int (nI ((pN tx n 1 9 pl).2.1)), .int (kd), .int (nuo_4), .int (ag), .int (nuo_4)])), ((q 1), .inl (cC, 60, .inl t))] := by rw [if_neg hs_26] at hD; exact hD
      refine lv_iconst (v := nI 0) hx hb dX0_readKing_39 (by decide) ?_
      exact kb_zret (D := D) hQ hx hb hr hlocks hK hP hD hS dX0_readKing_40 rfl ((pN tx n 1 9 pl).2.1, nuo_4, ag, nuo_4) rfl (Nat.le_refl _) (Nat.le_refl _) (show (nI 0) = kb_b (pK tx n pl).1 ∧ ((pN tx n 1 9 pl).2.1) = (pK tx n pl).2.1 ∧ ((pK tx n pl).1 = true → nuo_4 = nI (pK tx n pl).2.2.1 ∧ ag = nI (pK tx n pl).2.2.2.1 ∧ nuo_4 = nI (pK tx n pl).2.2.2.2) from ⟨by rw [pK_2 c7 hs_26]; rfl, by rw [pK_2 c7 hs_26], fun q => by rw [pK_2 c7 hs_26] at q; cases q⟩)
    · have hs_26 : cd tx n ((pN tx n 1 9 pl).2.1) = 46 := of_decide_eq_true c26
      have hlt_26 := cd_lt hs_26 (by decide)
      have hP : va_P D vwCl [((q 0), .inr (0, [.ref (q 1), .int (nI n), .int (nI (((pN tx n 1 9 pl).2.1) + 1)), .int (kd), .int (nuo_4), .int (ag), .int (nuo_4)])), ((q 1), .inl (cC, 60, .inl t))] H := by rw [if_pos hs_26] at hP; exact hP
      have hD : va_D A [((q 0), .inr (0, [.ref (q 1), .int (nI n), .int (nI (((pN tx n 1 9 pl).2.1) + 1)), .int (kd), .int (nuo_4), .int (ag), .int (nuo_4)])), ((q 1), .inl (cC, 60, .inl t))] := by rw [if_pos hs_26] at hD; exact hD
      refine lv_aload_n hx hb dX0_readKing_29 rfl (lv_at hl 0 rfl) ?_
      refine lv_iconst (v := nI 0) hx hb dX0_readKing_30 (by decide) ?_
      refine lv_bipush (v := nI 120) hx hb dX0_readKing_31 (by decide) ?_
      refine kb_vI (As := [.int (nI 0), .int (nI 120)]) (rest := []) hx hb hml hts hown hN hK hP hD hS hA (c_X0_readNumber l D cC q n (((pN tx n 1 9 pl).2.1) + 1) kd nuo_4 ag nuo_4 t 0 120 (by decide) (by decide) (by omega) (by first | assumption | omega) htx) gX0_readKing_X0_readNumber rfl ⟨rfl, rfl⟩ hdX0_readNumber ⟨Nat.le_of_ble_eq_true rfl, Nat.le_of_ble_eq_true rfl⟩ [0, 1] [0] rfl rfl rfl (ci := 0) rfl rfl rfl (fun _ => rfl) rfl rfl hl.1 (Nat.le_of_ble_eq_true rfl) dX0_readKing_33 ⟨Nat.zero_le _, Nat.zero_le _⟩ (fun r_33 u H locs hw_33 hP hD hS => ?_)
      obtain ⟨plo_33, nuo_33⟩ := u
      have hw_33 : r_33 = kb_b (pN tx n 0 120 (((pN tx n 1 9 pl).2.1) + 1)).1 ∧ plo_33 = (pN tx n 0 120 (((pN tx n 1 9 pl).2.1) + 1)).2.1 ∧ ((pN tx n 0 120 (((pN tx n 1 9 pl).2.1) + 1)).1 = true → nuo_33 = nI (pN tx n 0 120 (((pN tx n 1 9 pl).2.1) + 1)).2.2) := hw_33
      have hP : va_P D vwCl [((q 0), .inr (0, [.ref (q 1), .int (nI n), .int (nI plo_33), .int (kd), .int (nuo_4), .int (ag), .int (nuo_33)])), ((q 1), .inl (cC, 60, .inl t))] H := hP
      have hD : va_D A [((q 0), .inr (0, [.ref (q 1), .int (nI n), .int (nI plo_33), .int (kd), .int (nuo_4), .int (ag), .int (nuo_33)])), ((q 1), .inl (cC, 60, .inl t))] := hD
      obtain ⟨hr_33, hp_33, hq_33⟩ := hw_33
      subst hr_33
      subst hp_33
      refine kb_bif_ne (tgt := 41) hx hb dX0_readKing_36 (by decide) (fun c36 => ?_) (fun c36 => ?_)
      · refine lv_aload_n hx hb dX0_readKing_41 rfl (lv_at hl 0 rfl) ?_
        refine lv_aload_n hx hb dX0_readKing_42 rfl (lv_at hl 0 rfl) ?_
        refine va_get (D := D) (ci := 0) (v := .int (nuo_33)) (C := RX0) (T := TX0) (N := 7) hx hb hts inwX0_readKing_X0 hown hK hP 0 rfl rfl 6 (by decide) fl31 (fun _ h9 => h9) rfl dX0_readKing_43 ?_
        refine va_put (D := D) (ci := 0) (v := .int (nuo_33)) (ty := .int) (C := RX0) (T := TX0) (N := 7) hx hb hts inwX0_readKing_X0 tyX0 tyX0_ok nmX0 hown hK hP hD hS 0 rfl rfl 5 (by decide) fl28 (fun _ h9 => h9) rfl (by decide +kernel) rfl rfl (Nat.le_of_ble_eq_true rfl) dX0_readKing_46 (fun H locs hP hD hS => ?_)
        have hP : va_P D vwCl [((q 0), .inr (0, [.ref (q 1), .int (nI n), .int (nI ((pN tx n 0 120 ((pN tx n 1 9 pl).2.1 + 1)).2.1)), .int (kd), .int (nuo_4), .int (nuo_33), .int (nuo_33)])), ((q 1), .inl (cC, 60, .inl t))] H := hP
        have hD : va_D A [((q 0), .inr (0, [.ref (q 1), .int (nI n), .int (nI ((pN tx n 0 120 ((pN tx n 1 9 pl).2.1 + 1)).2.1)), .int (kd), .int (nuo_4), .int (nuo_33), .int (nuo_33)])), ((q 1), .inl (cC, 60, .inl t))] := hD
        refine lv_aload_n hx hb dX0_readKing_49 rfl (lv_at hl 0 rfl) ?_
        refine lv_bipush (v := nI 64) hx hb dX0_readKing_50 (by decide) ?_
        refine kb_vI (As := [.int (nI 64)]) (rest := []) hx hb hml hts hown hN hK hP hD hS hA (c_X0_skip l D cC q n ((pN tx n 0 120 ((pN tx n 1 9 pl).2.1 + 1)).2.1) kd nuo_4 nuo_33 nuo_33 t 64 (by decide) (pN_p (by decide) (by omega)) (by first | assumption | omega) htx) gX0_readKing_X0_skip rfl ⟨rfl, rfl⟩ hdX0_skip ⟨Nat.le_of_ble_eq_true rfl, Nat.le_of_ble_eq_true rfl⟩ [0, 1] [0] rfl rfl rfl (ci := 0) rfl rfl rfl (fun _ => rfl) rfl rfl hl.1 (Nat.le_of_ble_eq_true rfl) dX0_readKing_52 ⟨Nat.zero_le _, Nat.zero_le _⟩ (fun r_52 u H locs hw_52 hP hD hS => ?_)
        obtain ⟨plo_52, rfl⟩ : ∃ z, z = u := ⟨_, rfl⟩
        have hw_52 : r_52 = kb_b (decide (cd tx n ((pN tx n 0 120 ((pN tx n 1 9 pl).2.1 + 1)).2.1) = 64)) ∧ plo_52 = if cd tx n ((pN tx n 0 120 ((pN tx n 1 9 pl).2.1 + 1)).2.1) = 64 then ((pN tx n 0 120 ((pN tx n 1 9 pl).2.1 + 1)).2.1) + 1 else ((pN tx n 0 120 ((pN tx n 1 9 pl).2.1 + 1)).2.1) := hw_52
        have hP : va_P D vwCl [((q 0), .inr (0, [.ref (q 1), .int (nI n), .int (nI plo_52), .int (kd), .int (nuo_4), .int (nuo_33), .int (nuo_33)])), ((q 1), .inl (cC, 60, .inl t))] H := hP
        have hD : va_D A [((q 0), .inr (0, [.ref (q 1), .int (nI n), .int (nI plo_52), .int (kd), .int (nuo_4), .int (nuo_33), .int (nuo_33)])), ((q 1), .inl (cC, 60, .inl t))] := hD
        obtain ⟨hr_52, hp_52⟩ := hw_52
        subst hr_52
        subst hp_52
        refine kb_bif_eq (tgt := 73) hx hb dX0_readKing_55 (by decide) (fun c55 => ?_) (fun c55 => ?_)
        · have hs_55 : ¬ cd tx n ((pN tx n 0 120 ((pN tx n 1 9 pl).2.1 + 1)).2.1) = 64 := of_decide_eq_false c55
          have hP : va_P D vwCl [((q 0), .inr (0, [.ref (q 1), .int (nI n), .int (nI ((pN tx n 0 120 ((pN tx n 1 9 pl).2.1 + 1)).2.1)), .int (kd), .int (nuo_4), .int (nuo_33), .int (nuo_33)])), ((q 1), .inl (cC, 60, .inl t))] H := by rw [if_neg hs_55] at hP; exact hP
          have hD : va_D A [((q 0), .inr (0, [.ref (q 1), .int (nI n), .int (nI ((pN tx n 0 120 ((pN tx n 1 9 pl).2.1 + 1)).2.1)), .int (kd), .int (nuo_4), .int (nuo_33), .int (nuo_33)])), ((q 1), .inl (cC, 60, .inl t))] := by rw [if_neg hs_55] at hD; exact hD
          refine lv_iconst (v := nI 0) hx hb dX0_readKing_73 (by decide) ?_
          exact kb_zret (D := D) hQ hx hb hr hlocks hK hP hD hS dX0_readKing_74 rfl ((pN tx n 0 120 ((pN tx n 1 9 pl).2.1 + 1)).2.1, nuo_4, nuo_33, nuo_33) rfl (Nat.le_refl _) (Nat.le_refl _) (show (nI 0) = kb_b (pK tx n pl).1 ∧ ((pN tx n 0 120 ((pN tx n 1 9 pl).2.1 + 1)).2.1) = (pK tx n pl).2.1 ∧ ((pK tx n pl).1 = true → nuo_4 = nI (pK tx n pl).2.2.1 ∧ nuo_33 = nI (pK tx n pl).2.2.2.1 ∧ nuo_33 = nI (pK tx n pl).2.2.2.2) from ⟨by rw [pK_4 c7 hs_26 c36 hs_55]; rfl, by rw [pK_4 c7 hs_26 c36 hs_55], fun q => by rw [pK_4 c7 hs_26 c36 hs_55] at q; cases q⟩)
        · have hs_55 : cd tx n ((pN tx n 0 120 ((pN tx n 1 9 pl).2.1 + 1)).2.1) = 64 := of_decide_eq_true c55
          have hlt_55 := cd_lt hs_55 (by decide)
          have hP : va_P D vwCl [((q 0), .inr (0, [.ref (q 1), .int (nI n), .int (nI (((pN tx n 0 120 ((pN tx n 1 9 pl).2.1 + 1)).2.1) + 1)), .int (kd), .int (nuo_4), .int (nuo_33), .int (nuo_33)])), ((q 1), .inl (cC, 60, .inl t))] H := by rw [if_pos hs_55] at hP; exact hP
          have hD : va_D A [((q 0), .inr (0, [.ref (q 1), .int (nI n), .int (nI (((pN tx n 0 120 ((pN tx n 1 9 pl).2.1 + 1)).2.1) + 1)), .int (kd), .int (nuo_4), .int (nuo_33), .int (nuo_33)])), ((q 1), .inl (cC, 60, .inl t))] := by rw [if_pos hs_55] at hD; exact hD
          refine lv_aload_n hx hb dX0_readKing_58 rfl (lv_at hl 0 rfl) ?_
          refine lv_iconst (v := nI 0) hx hb dX0_readKing_59 (by decide) ?_
          refine lv_sipush (v := nI 9999) hx hb dX0_readKing_60 (by decide) ?_
          refine kb_vI (As := [.int (nI 0), .int (nI 9999)]) (rest := []) hx hb hml hts hown hN hK hP hD hS hA (c_X0_readNumber l D cC q n (((pN tx n 0 120 ((pN tx n 1 9 pl).2.1 + 1)).2.1) + 1) kd nuo_4 nuo_33 nuo_33 t 0 9999 (by decide) (by decide) (by omega) (by first | assumption | omega) htx) gX0_readKing_X0_readNumber rfl ⟨rfl, rfl⟩ hdX0_readNumber ⟨Nat.le_of_ble_eq_true rfl, Nat.le_of_ble_eq_true rfl⟩ [0, 1] [0] rfl rfl rfl (ci := 0) rfl rfl rfl (fun _ => rfl) rfl rfl hl.1 (Nat.le_of_ble_eq_true rfl) dX0_readKing_63 ⟨Nat.zero_le _, Nat.zero_le _⟩ (fun r_63 u H locs hw_63 hP hD hS => ?_)
          obtain ⟨plo_63, nuo_63⟩ := u
          have hw_63 : r_63 = kb_b (pN tx n 0 9999 (((pN tx n 0 120 ((pN tx n 1 9 pl).2.1 + 1)).2.1) + 1)).1 ∧ plo_63 = (pN tx n 0 9999 (((pN tx n 0 120 ((pN tx n 1 9 pl).2.1 + 1)).2.1) + 1)).2.1 ∧ ((pN tx n 0 9999 (((pN tx n 0 120 ((pN tx n 1 9 pl).2.1 + 1)).2.1) + 1)).1 = true → nuo_63 = nI (pN tx n 0 9999 (((pN tx n 0 120 ((pN tx n 1 9 pl).2.1 + 1)).2.1) + 1)).2.2) := hw_63
          have hP : va_P D vwCl [((q 0), .inr (0, [.ref (q 1), .int (nI n), .int (nI plo_63), .int (kd), .int (nuo_4), .int (nuo_33), .int (nuo_63)])), ((q 1), .inl (cC, 60, .inl t))] H := hP
          have hD : va_D A [((q 0), .inr (0, [.ref (q 1), .int (nI n), .int (nI plo_63), .int (kd), .int (nuo_4), .int (nuo_33), .int (nuo_63)])), ((q 1), .inl (cC, 60, .inl t))] := hD
          obtain ⟨hr_63, hp_63, hq_63⟩ := hw_63
          subst hr_63
          subst hp_63
          refine kb_bif_eq (tgt := 73) hx hb dX0_readKing_66 (by decide) (fun c66 => ?_) (fun c66 => ?_)
          · refine lv_iconst (v := nI 0) hx hb dX0_readKing_73 (by decide) ?_
            exact kb_zret (D := D) hQ hx hb hr hlocks hK hP hD hS dX0_readKing_74 rfl ((pN tx n 0 9999 ((pN tx n 0 120 ((pN tx n 1 9 pl).2.1 + 1)).2.1 + 1)).2.1, nuo_4, nuo_33, nuo_63) rfl (Nat.le_refl _) (Nat.le_refl _) (show (nI 0) = kb_b (pK tx n pl).1 ∧ ((pN tx n 0 9999 ((pN tx n 0 120 ((pN tx n 1 9 pl).2.1 + 1)).2.1 + 1)).2.1) = (pK tx n pl).2.1 ∧ ((pK tx n pl).1 = true → nuo_4 = nI (pK tx n pl).2.2.1 ∧ nuo_33 = nI (pK tx n pl).2.2.2.1 ∧ nuo_63 = nI (pK tx n pl).2.2.2.2) from ⟨by rw [pK_5 c7 hs_26 c36 hs_55, c66]; rfl, by rw [pK_5 c7 hs_26 c36 hs_55], fun q => by rw [pK_5 c7 hs_26 c36 hs_55] at q; rw [c66] at q; cases q⟩)
          · refine lv_iconst (v := nI 1) hx hb dX0_readKing_69 (by decide) ?_
            refine lv_goto (tgt := 74) hx hb dX0_readKing_70 (by decide) ?_
            exact kb_zret (D := D) hQ hx hb hr hlocks hK hP hD hS dX0_readKing_74 rfl ((pN tx n 0 9999 ((pN tx n 0 120 ((pN tx n 1 9 pl).2.1 + 1)).2.1 + 1)).2.1, nuo_4, nuo_33, nuo_63) rfl (Nat.le_refl _) (Nat.le_refl _) (show (nI 1) = kb_b (pK tx n pl).1 ∧ ((pN tx n 0 9999 ((pN tx n 0 120 ((pN tx n 1 9 pl).2.1 + 1)).2.1 + 1)).2.1) = (pK tx n pl).2.1 ∧ ((pK tx n pl).1 = true → nuo_4 = nI (pK tx n pl).2.2.1 ∧ nuo_33 = nI (pK tx n pl).2.2.2.1 ∧ nuo_63 = nI (pK tx n pl).2.2.2.2) from ⟨by rw [pK_5 c7 hs_26 c36 hs_55, c66]; rfl, by rw [pK_5 c7 hs_26 c36 hs_55], fun _ => by rw [pK_5 c7 hs_26 c36 hs_55]; exact ⟨hq_4 c7, hq_33 c36, hq_63 c66⟩⟩)
      · refine lv_iconst (v := nI 0) hx hb dX0_readKing_39 (by decide) ?_
        exact kb_zret (D := D) hQ hx hb hr hlocks hK hP hD hS dX0_readKing_40 rfl ((pN tx n 0 120 ((pN tx n 1 9 pl).2.1 + 1)).2.1, nuo_4, ag, nuo_33) rfl (Nat.le_refl _) (Nat.le_refl _) (show (nI 0) = kb_b (pK tx n pl).1 ∧ ((pN tx n 0 120 ((pN tx n 1 9 pl).2.1 + 1)).2.1) = (pK tx n pl).2.1 ∧ ((pK tx n pl).1 = true → nuo_4 = nI (pK tx n pl).2.2.1 ∧ ag = nI (pK tx n pl).2.2.2.1 ∧ nuo_33 = nI (pK tx n pl).2.2.2.2) from ⟨by rw [pK_3 c7 hs_26 (by rw [c36]; decide)]; rfl, by rw [pK_3 c7 hs_26 (by rw [c36]; decide)], fun q => by rw [pK_3 c7 hs_26 (by rw [c36]; decide)] at q; cases q⟩)
  · refine lv_iconst (v := nI 0) hx hb dX0_readKing_10 (by decide) ?_
    exact kb_zret (D := D) hQ hx hb hr hlocks hK hP hD hS dX0_readKing_11 rfl ((pN tx n 1 9 pl).2.1, cr, ag, nuo_4) rfl (Nat.le_refl _) (Nat.le_refl _) (show (nI 0) = kb_b (pK tx n pl).1 ∧ ((pN tx n 1 9 pl).2.1) = (pK tx n pl).2.1 ∧ ((pK tx n pl).1 = true → cr = nI (pK tx n pl).2.2.1 ∧ ag = nI (pK tx n pl).2.2.2.1 ∧ nuo_4 = nI (pK tx n pl).2.2.2.2) from ⟨by rw [pK_1 (by rw [c7]; decide)]; rfl, by rw [pK_1 (by rw [c7]; decide)], fun q => by rw [pK_1 (by rw [c7]; decide)] at q; cases q⟩)
