def isIn (x : Int32) (lo hi : Nat) : Bool := decide (¬ x < nI lo ∧ ¬ nI hi < x)
theorem isIn_1 {x : Int32} {lo hi : Nat} (h1 : ¬ x < nI lo) (h2 : ¬ nI hi < x) : nI 1 = kb_b (isIn x lo hi) := kb_d1 ⟨h1, h2⟩
theorem isIn_a {x : Int32} {lo hi : Nat} (h1 : x < nI lo) : nI 0 = kb_b (isIn x lo hi) := kb_d0 (fun q => q.1 h1)
theorem isIn_b {x : Int32} {lo hi : Nat} (h1 : nI hi < x) : nI 0 = kb_b (isIn x lo hi) := kb_d0 (fun q => q.2 h1)
theorem isIn_ex {x : Int32} {lo hi : Nat} (hl : lo ≤ hi) (hh : hi < 2 ^ 30) (h : isIn x lo hi = true) : ∃ j, lo ≤ j ∧ j ≤ hi ∧ x = nI j := by
  have h := of_decide_eq_true h
  have h1 := Int32.le_iff_toInt_le.mp (Int32.not_lt.mp h.1)
  have h2 := Int32.le_iff_toInt_le.mp (Int32.not_lt.mp h.2)
  rw [nI_toInt (by omega)] at h1 h2
  refine ⟨x.toInt.toNat, by omega, by omega, ?_⟩
  apply Int32.toInt_inj.mp
  rw [nI_toInt (by omega)]
  omega
theorem isIn_n {j lo hi : Nat} (hl : lo < 2 ^ 30) (hh : hi < 2 ^ 30) (hj : j < 2 ^ 31) : isIn (nI j) lo hi = decide (lo ≤ j ∧ j ≤ hi) := by
  unfold isIn
  by_cases h : lo ≤ j ∧ j ≤ hi
  · rw [decide_eq_true h, decide_eq_true ⟨nI_nlt h.1 hj, nI_nlt h.2 (by omega)⟩]
  · rw [decide_eq_false h, decide_eq_false (fun q => h ⟨?_, ?_⟩)]
    · rcases Nat.lt_or_ge j lo with z | z
      · exact absurd (nI_lt z (by omega)) q.1
      · exact z
    · rcases Nat.lt_or_ge hi j with z | z
      · exact absurd (nI_lt z hj) q.2
      · exact z
abbrev rmX4_isCrown : Room := { frames := 0, cells := 0, slots := 0, locals := 0 }
theorem hdX4_isCrown : yX4_isCrown.cls = RX4 ∧ yX4_isCrown.cls ≠ "java/lang/invoke/MethodHandle" ∧ yX4_isCrown.cls ≠ "java/lang/invoke/VarHandle" ∧ (parseMethodDescriptor yX4_isCrown.desc).map (fun d => d.parameters.length) = some 1 := by decide +kernel
set_option maxHeartbeats 4000000 in
set_option maxRecDepth 100000 in
theorem c_X4_isCrown (l : Launch) (D : va_G) (x : Int32) : kb_R D [] l yX4_isCrown wsX4_isCrown rmX4_isCrown [.int (x)] [] (kb_b (isIn x 1 9)) := by
  refine kb_I_of (cc := cX4_isCrown) (maxL := 1) (ret := (some .boolean)) (by decide) rfl (Nat.le_of_ble_eq_true rfl) ?_
  intro p e s mm args below meth c A hx hb hml hr hts hown hlocks hnm hA hN hK hP hD hS ls hl Q hQ
  have hl : lv_has ls 1 [(0, .int (x))] := hl
  have hP : va_P D vwCl [] s.heap := hP
  have hD : va_D A [] := hD
  refine lv_iload_n hx hb dX4_isCrown_0 rfl (lv_at hl 0 rfl) ?_
  refine lv_iconst (v := nI 1) hx hb dX4_isCrown_1 (by decide) ?_
  refine lv_icmp_lt (tgt := 15) hx hb dX4_isCrown_2 (by decide) (fun c2 => ?_) (fun c2 => ?_)
  · refine lv_iconst (v := nI 0) hx hb dX4_isCrown_15 (by decide) ?_
    exact kb_zret (D := D) hQ hx hb hr hlocks hK hP hD hS dX4_isCrown_16 rfl () rfl (Nat.le_refl _) (Nat.le_refl _) (show nI 0 = kb_b (isIn x 1 9) from isIn_a c2)
  · refine lv_iload_n hx hb dX4_isCrown_5 rfl (lv_at hl 0 rfl) ?_
    refine lv_bipush (v := nI 9) hx hb dX4_isCrown_6 (by decide) ?_
    refine lv_icmp_gt (tgt := 15) hx hb dX4_isCrown_8 (by decide) (fun c8 => ?_) (fun c8 => ?_)
    · refine lv_iconst (v := nI 0) hx hb dX4_isCrown_15 (by decide) ?_
      exact kb_zret (D := D) hQ hx hb hr hlocks hK hP hD hS dX4_isCrown_16 rfl () rfl (Nat.le_refl _) (Nat.le_refl _) (show nI 0 = kb_b (isIn x 1 9) from isIn_b c8)
    · refine lv_iconst (v := nI 1) hx hb dX4_isCrown_11 (by decide) ?_
      refine lv_goto (tgt := 16) hx hb dX4_isCrown_12 (by decide) ?_
      exact kb_zret (D := D) hQ hx hb hr hlocks hK hP hD hS dX4_isCrown_16 rfl () rfl (Nat.le_refl _) (Nat.le_refl _) (show nI 1 = kb_b (isIn x 1 9) from isIn_1 c2 c8)
abbrev rmX4_isAge : Room := { frames := 0, cells := 0, slots := 0, locals := 0 }
theorem hdX4_isAge : yX4_isAge.cls = RX4 ∧ yX4_isAge.cls ≠ "java/lang/invoke/MethodHandle" ∧ yX4_isAge.cls ≠ "java/lang/invoke/VarHandle" ∧ (parseMethodDescriptor yX4_isAge.desc).map (fun d => d.parameters.length) = some 1 := by decide +kernel
set_option maxHeartbeats 4000000 in
set_option maxRecDepth 100000 in
theorem c_X4_isAge (l : Launch) (D : va_G) (x : Int32) : kb_R D [] l yX4_isAge wsX4_isAge rmX4_isAge [.int (x)] [] (kb_b (isIn x 0 120)) := by
  refine kb_I_of (cc := cX4_isAge) (maxL := 1) (ret := (some .boolean)) (by decide) rfl (Nat.le_of_ble_eq_true rfl) ?_
  intro p e s mm args below meth c A hx hb hml hr hts hown hlocks hnm hA hN hK hP hD hS ls hl Q hQ
  have hl : lv_has ls 1 [(0, .int (x))] := hl
  have hP : va_P D vwCl [] s.heap := hP
  have hD : va_D A [] := hD
  refine lv_iload_n hx hb dX4_isAge_0 rfl (lv_at hl 0 rfl) ?_
  refine lv_if_lt (tgt := 14) hx hb dX4_isAge_1 (by decide) (fun c1 => ?_) (fun c1 => ?_)
  · refine lv_iconst (v := nI 0) hx hb dX4_isAge_14 (by decide) ?_
    exact kb_zret (D := D) hQ hx hb hr hlocks hK hP hD hS dX4_isAge_15 rfl () rfl (Nat.le_refl _) (Nat.le_refl _) (show nI 0 = kb_b (isIn x 0 120) from isIn_a c1)
  · refine lv_iload_n hx hb dX4_isAge_4 rfl (lv_at hl 0 rfl) ?_
    refine lv_bipush (v := nI 120) hx hb dX4_isAge_5 (by decide) ?_
    refine lv_icmp_gt (tgt := 14) hx hb dX4_isAge_7 (by decide) (fun c7 => ?_) (fun c7 => ?_)
    · refine lv_iconst (v := nI 0) hx hb dX4_isAge_14 (by decide) ?_
      exact kb_zret (D := D) hQ hx hb hr hlocks hK hP hD hS dX4_isAge_15 rfl () rfl (Nat.le_refl _) (Nat.le_refl _) (show nI 0 = kb_b (isIn x 0 120) from isIn_b c7)
    · refine lv_iconst (v := nI 1) hx hb dX4_isAge_10 (by decide) ?_
      refine lv_goto (tgt := 15) hx hb dX4_isAge_11 (by decide) ?_
      exact kb_zret (D := D) hQ hx hb hr hlocks hK hP hD hS dX4_isAge_15 rfl () rfl (Nat.le_refl _) (Nat.le_refl _) (show nI 1 = kb_b (isIn x 0 120) from isIn_1 c1 c7)
abbrev rmX4_worthOf : Room := { frames := 0, cells := 0, slots := 0, locals := 0 }
theorem hdX4_worthOf : yX4_worthOf.cls = RX4 ∧ yX4_worthOf.cls ≠ "java/lang/invoke/MethodHandle" ∧ yX4_worthOf.cls ≠ "java/lang/invoke/VarHandle" ∧ (parseMethodDescriptor yX4_worthOf.desc).map (fun d => d.parameters.length) = some 3 := by decide +kernel
set_option maxHeartbeats 4000000 in
set_option maxRecDepth 100000 in
theorem c_X4_worthOf (l : Launch) (D : va_G) (x : Nat) (y : Nat) (z : Nat) (hx1 : x ≤ 9) (hy : y ≤ 120) (hz : z ≤ 24) : kb_R D [] l yX4_worthOf wsX4_worthOf rmX4_worthOf [.int (nI x), .int (nI y), .int (nI z)] [] (nI ((x * 121 + y) * 25 + 24 - z)) := by
  refine kb_I_of (cc := cX4_worthOf) (maxL := 3) (ret := (some .int)) (by decide) rfl (Nat.le_of_ble_eq_true rfl) ?_
  intro p e s mm args below meth c A hx hb hml hr hts hown hlocks hnm hA hN hK hP hD hS ls hl Q hQ
  have hl : lv_has ls 3 [(0, .int (nI x)), (1, .int (nI y)), (2, .int (nI z))] := hl
  have hP : va_P D vwCl [] s.heap := hP
  have hD : va_D A [] := hD
  refine lv_iload_n hx hb dX4_worthOf_0 rfl (lv_at hl 0 rfl) ?_
  refine lv_bipush (v := nI 121) hx hb dX4_worthOf_1 (by decide) ?_
  refine lv_imul hx hb dX4_worthOf_3 ?_
  refine kb_top (nI (x * 121)) (pk_mul x 121) ?_
  refine lv_iload_n hx hb dX4_worthOf_4 rfl (lv_at hl 1 rfl) ?_
  refine lv_iadd hx hb dX4_worthOf_5 ?_
  refine kb_top (nI (x * 121 + y)) (nI_add (x * 121) y) ?_
  refine lv_bipush (v := nI 25) hx hb dX4_worthOf_6 (by decide) ?_
  refine lv_imul hx hb dX4_worthOf_8 ?_
  refine kb_top (nI ((x * 121 + y) * 25)) (pk_mul (x * 121 + y) 25) ?_
  refine lv_bipush (v := nI 24) hx hb dX4_worthOf_9 (by decide) ?_
  refine lv_iadd hx hb dX4_worthOf_11 ?_
  refine kb_top (nI ((x * 121 + y) * 25 + 24)) (nI_add ((x * 121 + y) * 25) 24) ?_
  refine lv_iload_n hx hb dX4_worthOf_12 rfl (lv_at hl 2 rfl) ?_
  refine lv_isub hx hb dX4_worthOf_13 ?_
  refine kb_top (nI (((x * 121 + y) * 25 + 24) - z)) (pk_sub (by omega)) ?_
  exact kb_iret (D := D) hQ hx hb hr hlocks hK hP hD hS dX4_worthOf_14 () rfl (Nat.le_refl _) (Nat.le_refl _) (show nI (((x * 121 + y) * 25 + 24) - z) = nI ((x * 121 + y) * 25 + 24 - z) from rfl)
abbrev rmX3_isKing : Room := { frames := 0, cells := 0, slots := 0, locals := 0 }
theorem hdX3_isKing : yX3_isKing.cls = RX3 ∧ yX3_isKing.cls ≠ "java/lang/invoke/MethodHandle" ∧ yX3_isKing.cls ≠ "java/lang/invoke/VarHandle" ∧ (parseMethodDescriptor yX3_isKing.desc).map (fun d => d.parameters.length) = some 1 := by decide +kernel
theorem inwX3_isKing_X3 : ∀ w ∈ wsX30, w ∈ wsX3_isKing := fun w h => List.mem_cons_of_mem _ (List.mem_append_right _ h)
set_option maxHeartbeats 4000000 in
set_option maxRecDepth 100000 in
theorem c_X3_isKing (l : Launch) (D : va_G) (cI : ClassId) (a : Nat → Nat) (nk : Nat) (mi : Int32) (ro : Int32) (ch : Int32) (x : Int32) (hn : nk ≤ 24) : kb_R D [] l yX3_isKing wsX3_isKing rmX3_isKing [.ref (a 0), .int (x)] [((a 0), .inr (3, [.ref (a 1), .ref (a 2), .ref (a 3), .ref (a 4), .ref (a 6), .int (nI nk), .int (mi), .int (ro), .int (ch)]))] (kb_b (kIs nk x)) := by
  refine kb_I_of (cc := cX3_isKing) (maxL := 2) (ret := (some .boolean)) (by decide) rfl (Nat.le_of_ble_eq_true rfl) ?_
  intro p e s mm args below meth c A hx hb hml hr hts hown hlocks hnm hA hN hK hP hD hS ls hl Q hQ
  have hl : lv_has ls 2 [(0, .ref (a 0)), (1, .int (x))] := hl
  have hP : va_P D vwCl [((a 0), .inr (3, [.ref (a 1), .ref (a 2), .ref (a 3), .ref (a 4), .ref (a 6), .int (nI nk), .int (mi), .int (ro), .int (ch)]))] s.heap := hP
  have hD : va_D A [((a 0), .inr (3, [.ref (a 1), .ref (a 2), .ref (a 3), .ref (a 4), .ref (a 6), .int (nI nk), .int (mi), .int (ro), .int (ch)]))] := hD
  have fl33 := hts (.fieldLink RX3 33 "KingsBanquet$State" "kings" "I") (by decide +kernel)
  rcases kb_sgn x with hneg_x | ⟨x', h_x, rfl⟩
  · refine lv_iload_n hx hb dX3_isKing_0 rfl (lv_at hl 1 rfl) ?_
    refine lv_if_lt (tgt := 16) hx hb dX3_isKing_1 (by decide) (fun _ => ?_) (fun c => absurd hneg_x c)
    refine lv_iconst (v := nI 0) hx hb dX3_isKing_16 (by decide) ?_
    exact kb_zret (D := D) hQ hx hb hr hlocks hK hP hD hS dX3_isKing_17 rfl () rfl (Nat.le_refl _) (Nat.le_refl _) (show nI 0 = kb_b (kIs nk x) from (congrArg kb_b (kIs_neg hneg_x)).symm)
  · refine lv_iload_n hx hb dX3_isKing_0 rfl (lv_at hl 1 rfl) ?_
    refine kb_nif_lt (tgt := 16) hx hb dX3_isKing_1 (by decide) (by omega) ?_
    refine lv_iload_n hx hb dX3_isKing_4 rfl (lv_at hl 1 rfl) ?_
    refine lv_aload_n hx hb dX3_isKing_5 rfl (lv_at hl 0 rfl) ?_
    refine va_get (D := D) (ci := 3) (v := .int (nI nk)) (C := RX3) (T := TX3) (N := 9) hx hb hts inwX3_isKing_X3 hown hK hP 0 rfl rfl 5 (by decide) fl33 (fun _ h9 => h9) rfl dX3_isKing_6 ?_
    refine kb_icmp_ge (tgt := 16) hx hb dX3_isKing_9 (by decide) (by omega) (by omega) (fun c9 => ?_) (fun c9 => ?_)
    · refine lv_iconst (v := nI 0) hx hb dX3_isKing_16 (by decide) ?_
      exact kb_zret (D := D) hQ hx hb hr hlocks hK hP hD hS dX3_isKing_17 rfl () rfl (Nat.le_refl _) (Nat.le_refl _) (show nI 0 = kb_b (kIs nk (nI x')) from (by rw [kIs_n (by omega) h_x, decide_eq_false (by omega)]; rfl))
    · refine lv_iconst (v := nI 1) hx hb dX3_isKing_12 (by decide) ?_
      refine lv_goto (tgt := 17) hx hb dX3_isKing_13 (by decide) ?_
      exact kb_zret (D := D) hQ hx hb hr hlocks hK hP hD hS dX3_isKing_17 rfl () rfl (Nat.le_refl _) (Nat.le_refl _) (show nI 1 = kb_b (kIs nk (nI x')) from (kIs_1 c9 (by omega)).symm)
abbrev rmX3_fact : Room := { frames := 1, cells := 0, slots := 0, locals := 21 }
theorem hdX3_fact : yX3_fact.cls = RX3 ∧ yX3_fact.cls ≠ "java/lang/invoke/MethodHandle" ∧ yX3_fact.cls ≠ "java/lang/invoke/VarHandle" ∧ (parseMethodDescriptor yX3_fact.desc).map (fun d => d.parameters.length) = some 2 := by decide +kernel
theorem inwX3_fact_X3 : ∀ w ∈ wsX30, w ∈ wsX3_fact := fun w h => List.mem_cons_of_mem _ (List.mem_append_right _ h)
set_option maxHeartbeats 4000000 in
set_option maxRecDepth 100000 in
theorem c_X3_fact (l : Launch) (D : va_G) (cI : ClassId) (a : Nat → Nat) (nk : Nat) (mi : Int32) (ro : Int32) (ch : Int32) (F : Nat → Int32) (k : Nat) (w : Nat) (hk : k < nk) (hw : w < 9) (hn : nk ≤ 24) : kb_R D [(cI, .int)] l yX3_fact wsX3_fact rmX3_fact [.ref (a 0), .int (nI k), .int (nI w)] [((a 0), .inr (3, [.ref (a 1), .ref (a 2), .ref (a 3), .ref (a 4), .ref (a 6), .int (nI nk), .int (mi), .int (ro), .int (ch)])), ((a 1), .inl (cI, 216, .inl F))] (F (k * 9 + w)) := by
  refine kb_I_of (cc := cX3_fact) (maxL := 4) (ret := (some .int)) (by decide) rfl (Nat.le_of_ble_eq_true rfl) ?_
  intro p e s mm args below meth c A hx hb hml hr hts hown hlocks hnm hA hN hK hP hD hS ls hl Q hQ
  have hl : lv_has ls 4 [(0, .ref (a 0)), (1, .int (nI k)), (2, .int (nI w))] := hl
  have hP : va_P D vwCl [((a 0), .inr (3, [.ref (a 1), .ref (a 2), .ref (a 3), .ref (a 4), .ref (a 6), .int (nI nk), .int (mi), .int (ro), .int (ch)])), ((a 1), .inl (cI, 216, .inl F))] s.heap := hP
  have hD : va_D A [((a 0), .inr (3, [.ref (a 1), .ref (a 2), .ref (a 3), .ref (a 4), .ref (a 6), .int (nI nk), .int (mi), .int (ro), .int (ch)])), ((a 1), .inl (cI, 216, .inl F))] := hD
  have fl9 := hts (.fieldLink RX3 9 "KingsBanquet$State" "facts" "[I") (by decide +kernel)
  refine lv_iload_n hx hb dX3_fact_0 rfl (lv_at hl 1 rfl) ?_
  refine lv_bipush (v := nI 9) hx hb dX3_fact_1 (by decide) ?_
  refine lv_imul hx hb dX3_fact_3 ?_
  refine kb_top (nI (k * 9)) (pk_mul k 9) ?_
  refine lv_iload_n hx hb dX3_fact_4 rfl (lv_at hl 2 rfl) ?_
  refine lv_iadd hx hb dX3_fact_5 ?_
  refine kb_top (nI (k * 9 + w)) (nI_add (k * 9) w) ?_
  refine lv_istore_n (lv' := [(3, .int (nI (k * 9 + w))), (0, .ref (a 0)), (1, .int (nI k)), (2, .int (nI w))]) hx hb dX3_fact_6 rfl hl (by decide) rfl (fun ls hl => ?_)
  refine lv_aload_n hx hb dX3_fact_7 rfl (lv_at hl 1 rfl) ?_
  refine lv_iload_n hx hb dX3_fact_8 rfl (lv_at hl 2 rfl) ?_
  refine kb_vR (As := [.int (nI k)]) (rest := []) hx hb hml hts hown hN hK hP hD hS hA (c_X3_isKing l D (by first | assumption | omega) a nk mi ro ch (nI k) (by first | assumption | omega)) gX3_fact_X3_isKing rfl ⟨rfl, rfl⟩ hdX3_isKing ⟨Nat.le_of_ble_eq_true rfl, Nat.le_of_ble_eq_true rfl⟩ [0] [] rfl rfl rfl (ci := 3) rfl rfl rfl rfl rfl hl.1 (Nat.le_of_ble_eq_true rfl) dX3_fact_9 ⟨Nat.zero_le _, Nat.zero_le _⟩ (fun H locs hP hS => ?_)
  refine kb_top (nI 1) (kIs_1 hk (by omega)) ?_
  refine kb_nif_eq (tgt := 37) hx hb dX3_fact_12 (by decide) (by decide) (fun c => absurd c (by decide)) (fun _ => ?_)
  refine lv_iload_n hx hb dX3_fact_15 rfl (lv_at hl 0 rfl) ?_
  refine kb_nif_lt (tgt := 37) hx hb dX3_fact_16 (by decide) (by omega) ?_
  refine lv_iload_n hx hb dX3_fact_19 rfl (lv_at hl 0 rfl) ?_
  refine lv_aload_n hx hb dX3_fact_20 rfl (lv_at hl 1 rfl) ?_
  refine va_get (D := D) (ci := 3) (v := .ref (a 1)) (C := RX3) (T := TX3) (N := 9) hx hb hts inwX3_fact_X3 hown hK hP 0 rfl rfl 0 (by decide) fl9 (fun _ h9 => h9) rfl dX3_fact_21 ?_
  refine va_alen hx hb hK hP 1 0 rfl (ty := .int) rfl (v := nI 216) rfl dX3_fact_24 ?_
  refine kb_icmp_ge (tgt := 37) hx hb dX3_fact_25 (by decide) (by omega) (by omega) (fun c25 => ?_) (fun c25 => ?_)
  · exfalso; omega
  · refine lv_aload_n hx hb dX3_fact_28 rfl (lv_at hl 1 rfl) ?_
    refine va_get (D := D) (ci := 3) (v := .ref (a 1)) (C := RX3) (T := TX3) (N := 9) hx hb hts inwX3_fact_X3 hown hK hP 0 rfl rfl 0 (by decide) fl9 (fun _ h9 => h9) rfl dX3_fact_29 ?_
    refine lv_iload_n hx hb dX3_fact_32 rfl (lv_at hl 0 rfl) ?_
    refine kb_iald hx hb hK hP 1 0 rfl rfl (by decide) (by omega) dX3_fact_33 ?_
    refine lv_goto (tgt := 38) hx hb dX3_fact_34 (by decide) ?_
    exact kb_iret (D := D) hQ hx hb hr hlocks hK hP hD hS dX3_fact_38 () rfl (Nat.le_refl _) (Nat.le_refl _) (show F (k * 9 + w) = F (k * 9 + w) from rfl)
abbrev rmX3_setFact : Room := { frames := 1, cells := 0, slots := 0, locals := 21 }
theorem hdX3_setFact : yX3_setFact.cls = RX3 ∧ yX3_setFact.cls ≠ "java/lang/invoke/MethodHandle" ∧ yX3_setFact.cls ≠ "java/lang/invoke/VarHandle" ∧ (parseMethodDescriptor yX3_setFact.desc).map (fun d => d.parameters.length) = some 3 := by decide +kernel
theorem inwX3_setFact_X3 : ∀ w ∈ wsX30, w ∈ wsX3_setFact := fun w h => List.mem_cons_of_mem _ (List.mem_append_right _ h)
set_option maxHeartbeats 4000000 in
set_option maxRecDepth 100000 in
theorem c_X3_setFact (l : Launch) (D : va_G) (cI : ClassId) (a : Nat → Nat) (nk : Nat) (mi : Int32) (ro : Int32) (ch : Int32) (F : Nat → Int32) (k : Nat) (w : Nat) (v : Int32) (hk : k < nk) (hw : w < 9) (hn : nk ≤ 24) : kb_V (S := Unit) D [(cI, .int)] l yX3_setFact wsX3_setFact rmX3_setFact [.ref (a 0), .int (nI k), .int (nI w), .int (v)] [((a 0), .inr (3, [.ref (a 1), .ref (a 2), .ref (a 3), .ref (a 4), .ref (a 6), .int (nI nk), .int (mi), .int (ro), .int (ch)])), ((a 1), .inl (cI, 216, .inl F))] (fun (u : Unit) => True) (fun (u : Unit) => [((a 0), .inr (3, [.ref (a 1), .ref (a 2), .ref (a 3), .ref (a 4), .ref (a 6), .int (nI nk), .int (mi), .int (ro), .int (ch)])), ((a 1), .inl (cI, 216, .inl (upd F (k * 9 + w) v)))]) 0 0 := by
  refine kb_V_of (cc := cX3_setFact) (maxL := 5) (ret := none) (by decide) rfl (Nat.le_of_ble_eq_true rfl) ?_
  intro p e s mm args below meth c A hx hb hml hr hts hown hlocks hnm hA hN hK hP hD hS ls hl Q hQ
  have hl : lv_has ls 5 [(0, .ref (a 0)), (1, .int (nI k)), (2, .int (nI w)), (3, .int (v))] := hl
  have hP : va_P D vwCl [((a 0), .inr (3, [.ref (a 1), .ref (a 2), .ref (a 3), .ref (a 4), .ref (a 6), .int (nI nk), .int (mi), .int (ro), .int (ch)])), ((a 1), .inl (cI, 216, .inl F))] s.heap := hP
  have hD : va_D A [((a 0), .inr (3, [.ref (a 1), .ref (a 2), .ref (a 3), .ref (a 4), .ref (a 6), .int (nI nk), .int (mi), .int (ro), .int (ch)])), ((a 1), .inl (cI, 216, .inl F))] := hD
  have fl9 := hts (.fieldLink RX3 9 "KingsBanquet$State" "facts" "[I") (by decide +kernel)
  refine lv_iload_n hx hb dX3_setFact_0 rfl (lv_at hl 1 rfl) ?_
  refine lv_bipush (v := nI 9) hx hb dX3_setFact_1 (by decide) ?_
  refine lv_imul hx hb dX3_setFact_3 ?_
  refine kb_top (nI (k * 9)) (pk_mul k 9) ?_
  refine lv_iload_n hx hb dX3_setFact_4 rfl (lv_at hl 2 rfl) ?_
  refine lv_iadd hx hb dX3_setFact_5 ?_
  refine kb_top (nI (k * 9 + w)) (nI_add (k * 9) w) ?_
  refine lv_istore (lv' := [(4, .int (nI (k * 9 + w))), (0, .ref (a 0)), (1, .int (nI k)), (2, .int (nI w)), (3, .int (v))]) hx hb dX3_setFact_6 hl (by decide) rfl (fun ls hl => ?_)
  refine lv_aload_n hx hb dX3_setFact_8 rfl (lv_at hl 1 rfl) ?_
  refine lv_iload_n hx hb dX3_setFact_9 rfl (lv_at hl 2 rfl) ?_
  refine kb_vR (As := [.int (nI k)]) (rest := []) hx hb hml hts hown hN hK hP hD hS hA (c_X3_isKing l D (by first | assumption | omega) a nk mi ro ch (nI k) (by first | assumption | omega)) gX3_setFact_X3_isKing rfl ⟨rfl, rfl⟩ hdX3_isKing ⟨Nat.le_of_ble_eq_true rfl, Nat.le_of_ble_eq_true rfl⟩ [0] [] rfl rfl rfl (ci := 3) rfl rfl rfl rfl rfl hl.1 (Nat.le_of_ble_eq_true rfl) dX3_setFact_10 ⟨Nat.zero_le _, Nat.zero_le _⟩ (fun H locs hP hS => ?_)
  refine kb_top (nI 1) (kIs_1 hk (by omega)) ?_
  refine kb_nif_eq (tgt := 39) hx hb dX3_setFact_13 (by decide) (by decide) (fun c => absurd c (by decide)) (fun _ => ?_)
  refine lv_iload hx hb dX3_setFact_16 (lv_at hl 0 rfl) ?_
  refine kb_nif_lt (tgt := 39) hx hb dX3_setFact_18 (by decide) (by omega) ?_
  refine lv_iload hx hb dX3_setFact_21 (lv_at hl 0 rfl) ?_
  refine lv_aload_n hx hb dX3_setFact_23 rfl (lv_at hl 1 rfl) ?_
  refine va_get (D := D) (ci := 3) (v := .ref (a 1)) (C := RX3) (T := TX3) (N := 9) hx hb hts inwX3_setFact_X3 hown hK hP 0 rfl rfl 0 (by decide) fl9 (fun _ h9 => h9) rfl dX3_setFact_24 ?_
  refine va_alen hx hb hK hP 1 0 rfl (ty := .int) rfl (v := nI 216) rfl dX3_setFact_27 ?_
  refine kb_icmp_ge (tgt := 39) hx hb dX3_setFact_28 (by decide) (by omega) (by omega) (fun c28 => ?_) (fun c28 => ?_)
  · exfalso; omega
  · refine lv_aload_n hx hb dX3_setFact_31 rfl (lv_at hl 1 rfl) ?_
    refine va_get (D := D) (ci := 3) (v := .ref (a 1)) (C := RX3) (T := TX3) (N := 9) hx hb hts inwX3_setFact_X3 hown hK hP 0 rfl rfl 0 (by decide) fl9 (fun _ h9 => h9) rfl dX3_setFact_32 ?_
    refine lv_iload hx hb dX3_setFact_35 (lv_at hl 0 rfl) ?_
    refine lv_iload_n hx hb dX3_setFact_37 rfl (lv_at hl 4 rfl) ?_
    refine kb_iast hx hb hK hP hD hS 1 0 rfl rfl (by decide) (by omega) dX3_setFact_38 (fun H locs hP hD hS => ?_)
    have hP : va_P D vwCl [((a 0), .inr (3, [.ref (a 1), .ref (a 2), .ref (a 3), .ref (a 4), .ref (a 6), .int (nI nk), .int (mi), .int (ro), .int (ch)])), ((a 1), .inl (cI, 216, .inl (upd F (k * 9 + w) v)))] H := hP
    have hD : va_D A [((a 0), .inr (3, [.ref (a 1), .ref (a 2), .ref (a 3), .ref (a 4), .ref (a 6), .int (nI nk), .int (mi), .int (ro), .int (ch)])), ((a 1), .inl (cI, 216, .inl (upd F (k * 9 + w) v)))] := hD
    exact kb_vret (D := D) hQ hx hb hr hlocks hK hP hD hS dX3_setFact_39 () rfl (Nat.le_refl _) (Nat.le_refl _) (show True from trivial)
abbrev rmX3_isGreater : Room := { frames := 0, cells := 0, slots := 0, locals := 0 }
theorem hdX3_isGreater : yX3_isGreater.cls = RX3 ∧ yX3_isGreater.cls ≠ "java/lang/invoke/MethodHandle" ∧ yX3_isGreater.cls ≠ "java/lang/invoke/VarHandle" ∧ (parseMethodDescriptor yX3_isGreater.desc).map (fun d => d.parameters.length) = some 2 := by decide +kernel
theorem inwX3_isGreater_X3 : ∀ w ∈ wsX30, w ∈ wsX3_isGreater := fun w h => List.mem_cons_of_mem _ (List.mem_append_right _ h)
set_option maxHeartbeats 4000000 in
set_option maxRecDepth 100000 in
theorem c_X3_isGreater (l : Launch) (D : va_G) (cI : ClassId) (a : Nat → Nat) (nk : Nat) (mi : Int32) (ro : Int32) (ch : Int32) (Wf : Nat → Int32) (i : Nat) (j : Nat) (x : Nat) (y : Nat) (hi : i < 24) (hj : j < 24) (hgx : Wf i = nI x) (hgy : Wf j = nI y) (hx2 : x < 2 ^ 30) (hy2 : y < 2 ^ 30) : kb_R D [(cI, .int)] l yX3_isGreater wsX3_isGreater rmX3_isGreater [.ref (a 0), .int (nI i), .int (nI j)] [((a 0), .inr (3, [.ref (a 1), .ref (a 2), .ref (a 3), .ref (a 4), .ref (a 6), .int (nI nk), .int (mi), .int (ro), .int (ch)])), ((a 2), .inl (cI, 24, .inl Wf))] (kb_b (decide (y < x))) := by
  refine kb_I_of (cc := cX3_isGreater) (maxL := 3) (ret := (some .boolean)) (by decide) rfl (Nat.le_of_ble_eq_true rfl) ?_
  intro p e s mm args below meth c A hx hb hml hr hts hown hlocks hnm hA hN hK hP hD hS ls hl Q hQ
  have hl : lv_has ls 3 [(0, .ref (a 0)), (1, .int (nI i)), (2, .int (nI j))] := hl
  have hP : va_P D vwCl [((a 0), .inr (3, [.ref (a 1), .ref (a 2), .ref (a 3), .ref (a 4), .ref (a 6), .int (nI nk), .int (mi), .int (ro), .int (ch)])), ((a 2), .inl (cI, 24, .inl Wf))] s.heap := hP
  have hD : va_D A [((a 0), .inr (3, [.ref (a 1), .ref (a 2), .ref (a 3), .ref (a 4), .ref (a 6), .int (nI nk), .int (mi), .int (ro), .int (ch)])), ((a 2), .inl (cI, 24, .inl Wf))] := hD
  have fl15 := hts (.fieldLink RX3 15 "KingsBanquet$State" "worths" "[I") (by decide +kernel)
  refine lv_iload_n hx hb dX3_isGreater_0 rfl (lv_at hl 1 rfl) ?_
  refine kb_nif_lt (tgt := 45) hx hb dX3_isGreater_1 (by decide) (by omega) ?_
  refine lv_iload_n hx hb dX3_isGreater_4 rfl (lv_at hl 1 rfl) ?_
  refine lv_aload_n hx hb dX3_isGreater_5 rfl (lv_at hl 0 rfl) ?_
  refine va_get (D := D) (ci := 3) (v := .ref (a 2)) (C := RX3) (T := TX3) (N := 9) hx hb hts inwX3_isGreater_X3 hown hK hP 0 rfl rfl 1 (by decide) fl15 (fun _ h9 => h9) rfl dX3_isGreater_6 ?_
  refine va_alen hx hb hK hP 1 0 rfl (ty := .int) rfl (v := nI 24) rfl dX3_isGreater_9 ?_
  refine kb_icmp_ge (tgt := 45) hx hb dX3_isGreater_10 (by decide) (by omega) (by omega) (fun c10 => ?_) (fun c10 => ?_)
  · exfalso; omega
  · refine lv_iload_n hx hb dX3_isGreater_13 rfl (lv_at hl 2 rfl) ?_
    refine kb_nif_lt (tgt := 45) hx hb dX3_isGreater_14 (by decide) (by omega) ?_
    refine lv_iload_n hx hb dX3_isGreater_17 rfl (lv_at hl 2 rfl) ?_
    refine lv_aload_n hx hb dX3_isGreater_18 rfl (lv_at hl 0 rfl) ?_
    refine va_get (D := D) (ci := 3) (v := .ref (a 2)) (C := RX3) (T := TX3) (N := 9) hx hb hts inwX3_isGreater_X3 hown hK hP 0 rfl rfl 1 (by decide) fl15 (fun _ h9 => h9) rfl dX3_isGreater_19 ?_
    refine va_alen hx hb hK hP 1 0 rfl (ty := .int) rfl (v := nI 24) rfl dX3_isGreater_22 ?_
    refine kb_icmp_ge (tgt := 45) hx hb dX3_isGreater_23 (by decide) (by omega) (by omega) (fun c23 => ?_) (fun c23 => ?_)
    · exfalso; omega
    · refine lv_aload_n hx hb dX3_isGreater_26 rfl (lv_at hl 0 rfl) ?_
      refine va_get (D := D) (ci := 3) (v := .ref (a 2)) (C := RX3) (T := TX3) (N := 9) hx hb hts inwX3_isGreater_X3 hown hK hP 0 rfl rfl 1 (by decide) fl15 (fun _ h9 => h9) rfl dX3_isGreater_27 ?_
      refine lv_iload_n hx hb dX3_isGreater_30 rfl (lv_at hl 1 rfl) ?_
      refine kb_iald hx hb hK hP 1 0 rfl rfl (by decide) (by omega) dX3_isGreater_31 ?_
      refine kb_top (nI x) hgx ?_
      refine lv_aload_n hx hb dX3_isGreater_32 rfl (lv_at hl 0 rfl) ?_
      refine va_get (D := D) (ci := 3) (v := .ref (a 2)) (C := RX3) (T := TX3) (N := 9) hx hb hts inwX3_isGreater_X3 hown hK hP 0 rfl rfl 1 (by decide) fl15 (fun _ h9 => h9) rfl dX3_isGreater_33 ?_
      refine lv_iload_n hx hb dX3_isGreater_36 rfl (lv_at hl 2 rfl) ?_
      refine kb_iald hx hb hK hP 1 0 rfl rfl (by decide) (by omega) dX3_isGreater_37 ?_
      refine kb_top (nI y) hgy ?_
      refine kb_icmp_le (tgt := 45) hx hb dX3_isGreater_38 (by decide) (by omega) (by omega) (fun c38 => ?_) (fun c38 => ?_)
      · refine lv_iconst (v := nI 0) hx hb dX3_isGreater_45 (by decide) ?_
        exact kb_zret (D := D) hQ hx hb hr hlocks hK hP hD hS dX3_isGreater_46 rfl () rfl (Nat.le_refl _) (Nat.le_refl _) (show nI 0 = kb_b (decide (y < x)) from kb_d0 (by omega))
      · refine lv_iconst (v := nI 1) hx hb dX3_isGreater_41 (by decide) ?_
        refine lv_goto (tgt := 46) hx hb dX3_isGreater_42 (by decide) ?_
        exact kb_zret (D := D) hQ hx hb hr hlocks hK hP hD hS dX3_isGreater_46 rfl () rfl (Nat.le_refl _) (Nat.le_refl _) (show nI 1 = kb_b (decide (y < x)) from kb_d1 c38)
abbrev rmX3_setting : Room := { frames := 0, cells := 0, slots := 0, locals := 0 }
theorem hdX3_setting : yX3_setting.cls = RX3 ∧ yX3_setting.cls ≠ "java/lang/invoke/MethodHandle" ∧ yX3_setting.cls ≠ "java/lang/invoke/VarHandle" ∧ (parseMethodDescriptor yX3_setting.desc).map (fun d => d.parameters.length) = some 1 := by decide +kernel
theorem inwX3_setting_X3 : ∀ w ∈ wsX30, w ∈ wsX3_setting := fun w h => List.mem_cons_of_mem _ (List.mem_append_right _ h)
set_option maxHeartbeats 4000000 in
set_option maxRecDepth 100000 in
theorem c_X3_setting (l : Launch) (D : va_G) (cI : ClassId) (a : Nat → Nat) (nk : Nat) (mi : Int32) (ro : Int32) (ch : Int32) (S : Nat → Int32) (i : Nat) (hi : i < 4) : kb_R D [(cI, .int)] l yX3_setting wsX3_setting rmX3_setting [.ref (a 0), .int (nI i)] [((a 0), .inr (3, [.ref (a 1), .ref (a 2), .ref (a 3), .ref (a 4), .ref (a 6), .int (nI nk), .int (mi), .int (ro), .int (ch)])), ((a 3), .inl (cI, 4, .inl S))] (S i) := by
  refine kb_I_of (cc := cX3_setting) (maxL := 2) (ret := (some .int)) (by decide) rfl (Nat.le_of_ble_eq_true rfl) ?_
  intro p e s mm args below meth c A hx hb hml hr hts hown hlocks hnm hA hN hK hP hD hS ls hl Q hQ
  have hl : lv_has ls 2 [(0, .ref (a 0)), (1, .int (nI i))] := hl
  have hP : va_P D vwCl [((a 0), .inr (3, [.ref (a 1), .ref (a 2), .ref (a 3), .ref (a 4), .ref (a 6), .int (nI nk), .int (mi), .int (ro), .int (ch)])), ((a 3), .inl (cI, 4, .inl S))] s.heap := hP
  have hD : va_D A [((a 0), .inr (3, [.ref (a 1), .ref (a 2), .ref (a 3), .ref (a 4), .ref (a 6), .int (nI nk), .int (mi), .int (ro), .int (ch)])), ((a 3), .inl (cI, 4, .inl S))] := hD
  have fl18 := hts (.fieldLink RX3 18 "KingsBanquet$State" "settings" "[I") (by decide +kernel)
  refine lv_iload_n hx hb dX3_setting_0 rfl (lv_at hl 1 rfl) ?_
  refine kb_nif_lt (tgt := 22) hx hb dX3_setting_1 (by decide) (by omega) ?_
  refine lv_iload_n hx hb dX3_setting_4 rfl (lv_at hl 1 rfl) ?_
  refine lv_aload_n hx hb dX3_setting_5 rfl (lv_at hl 0 rfl) ?_
  refine va_get (D := D) (ci := 3) (v := .ref (a 3)) (C := RX3) (T := TX3) (N := 9) hx hb hts inwX3_setting_X3 hown hK hP 0 rfl rfl 2 (by decide) fl18 (fun _ h9 => h9) rfl dX3_setting_6 ?_
  refine va_alen hx hb hK hP 1 0 rfl (ty := .int) rfl (v := nI 4) rfl dX3_setting_9 ?_
  refine kb_icmp_ge (tgt := 22) hx hb dX3_setting_10 (by decide) (by omega) (by omega) (fun c10 => ?_) (fun c10 => ?_)
  · exfalso; omega
  · refine lv_aload_n hx hb dX3_setting_13 rfl (lv_at hl 0 rfl) ?_
    refine va_get (D := D) (ci := 3) (v := .ref (a 3)) (C := RX3) (T := TX3) (N := 9) hx hb hts inwX3_setting_X3 hown hK hP 0 rfl rfl 2 (by decide) fl18 (fun _ h9 => h9) rfl dX3_setting_14 ?_
    refine lv_iload_n hx hb dX3_setting_17 rfl (lv_at hl 1 rfl) ?_
    refine kb_iald hx hb hK hP 1 0 rfl rfl (by decide) (by omega) dX3_setting_18 ?_
    refine lv_goto (tgt := 23) hx hb dX3_setting_19 (by decide) ?_
    exact kb_iret (D := D) hQ hx hb hr hlocks hK hP hD hS dX3_setting_23 () rfl (Nat.le_refl _) (Nat.le_refl _) (show S i = S i from rfl)
abbrev rmX3_changeSeats : Room := { frames := 1, cells := 0, slots := 0, locals := 22 }
theorem hdX3_changeSeats : yX3_changeSeats.cls = RX3 ∧ yX3_changeSeats.cls ≠ "java/lang/invoke/MethodHandle" ∧ yX3_changeSeats.cls ≠ "java/lang/invoke/VarHandle" ∧ (parseMethodDescriptor yX3_changeSeats.desc).map (fun d => d.parameters.length) = some 1 := by decide +kernel
theorem inwX3_changeSeats_X3 : ∀ w ∈ wsX30, w ∈ wsX3_changeSeats := fun w h => List.mem_cons_of_mem _ (List.mem_append_left _ (List.mem_append_right _ h))
theorem inwX3_changeSeats_X2 : ∀ w ∈ wsX20, w ∈ wsX3_changeSeats := fun w h => List.mem_cons_of_mem _ (List.mem_append_right _ h)
set_option maxHeartbeats 4000000 in
set_option maxRecDepth 100000 in
theorem c_X3_changeSeats (l : Launch) (D : va_G) (cI : ClassId) (a : Nat → Nat) (nk : Nat) (mi : Int32) (ro : Int32) (ch : Int32) (T : Nat → Int32) (nt : Nat) (i : Nat) (hi : i + 1 < nt) (hn : nt ≤ 12) : kb_V (S := Unit) D [(cI, .int)] l yX3_changeSeats wsX3_changeSeats rmX3_changeSeats [.ref (a 0), .int (nI i)] [((a 0), .inr (3, [.ref (a 1), .ref (a 2), .ref (a 3), .ref (a 4), .ref (a 6), .int (nI nk), .int (mi), .int (ro), .int (ch)])), ((a 4), .inr (2, [.ref (a 5), .int (nI nt)])), ((a 5), .inl (cI, 12, .inl T))] (fun (u : Unit) => True) (fun (u : Unit) => [((a 0), .inr (3, [.ref (a 1), .ref (a 2), .ref (a 3), .ref (a 4), .ref (a 6), .int (nI nk), .int (mi), .int (ro), .int (ch + nI 1)])), ((a 4), .inr (2, [.ref (a 5), .int (nI nt)])), ((a 5), .inl (cI, 12, .inl (rSw T i)))]) 0 0 := by
  refine kb_V_of (cc := cX3_changeSeats) (maxL := 2) (ret := none) (by decide) rfl (Nat.le_of_ble_eq_true rfl) ?_
  intro p e s mm args below meth c A hx hb hml hr hts hown hlocks hnm hA hN hK hP hD hS ls hl Q hQ
  have hl : lv_has ls 2 [(0, .ref (a 0)), (1, .int (nI i))] := hl
  have hP : va_P D vwCl [((a 0), .inr (3, [.ref (a 1), .ref (a 2), .ref (a 3), .ref (a 4), .ref (a 6), .int (nI nk), .int (mi), .int (ro), .int (ch)])), ((a 4), .inr (2, [.ref (a 5), .int (nI nt)])), ((a 5), .inl (cI, 12, .inl T))] s.heap := hP
  have hD : va_D A [((a 0), .inr (3, [.ref (a 1), .ref (a 2), .ref (a 3), .ref (a 4), .ref (a 6), .int (nI nk), .int (mi), .int (ro), .int (ch)])), ((a 4), .inr (2, [.ref (a 5), .int (nI nt)])), ((a 5), .inl (cI, 12, .inl T))] := hD
  have fl26 := hts (.fieldLink RX3 26 "KingsBanquet$State" "table" "LKingsBanquet$Row;") (by decide +kernel)
  have fl43 := hts (.fieldLink RX3 43 "KingsBanquet$State" "changes" "I") (by decide +kernel)
  refine lv_aload_n hx hb dX3_changeSeats_0 rfl (lv_at hl 0 rfl) ?_
  refine va_get (D := D) (ci := 3) (v := .ref (a 4)) (C := RX3) (T := TX3) (N := 9) hx hb hts inwX3_changeSeats_X3 hown hK hP 0 rfl rfl 3 (by decide) fl26 (fun _ h9 => h9) rfl dX3_changeSeats_1 ?_
  refine lv_iload_n hx hb dX3_changeSeats_4 rfl (lv_at hl 1 rfl) ?_
  refine kb_vV (As := [.int (nI i)]) (rest := []) hx hb hml hts hown hN hK hP hD hS hA (c_X2_changeNeighbours l D cI (fun i => a (4 + i)) 12 T nt i hi hn (by decide)) gX3_changeSeats_X2_changeNeighbours rfl ⟨rfl, rfl⟩ hdX2_changeNeighbours ⟨Nat.le_of_ble_eq_true rfl, Nat.le_of_ble_eq_true rfl⟩ [1, 2] [0] rfl rfl rfl (ci := 2) rfl rfl rfl (fun _ => rfl) rfl rfl hl.1 (Nat.le_of_ble_eq_true rfl) dX3_changeSeats_5 ⟨Nat.zero_le _, Nat.zero_le _⟩ (fun u H locs hw_5 hP hD hS => ?_)
  have hw_5 : True := hw_5
  have hP : va_P D vwCl [((a 0), .inr (3, [.ref (a 1), .ref (a 2), .ref (a 3), .ref (a 4), .ref (a 6), .int (nI nk), .int (mi), .int (ro), .int (ch)])), ((a 4), .inr (2, [.ref (a 5), .int (nI nt)])), ((a 5), .inl (cI, 12, .inl (rSw T i)))] H := hP
  have hD : va_D A [((a 0), .inr (3, [.ref (a 1), .ref (a 2), .ref (a 3), .ref (a 4), .ref (a 6), .int (nI nk), .int (mi), .int (ro), .int (ch)])), ((a 4), .inr (2, [.ref (a 5), .int (nI nt)])), ((a 5), .inl (cI, 12, .inl (rSw T i)))] := hD
  refine lv_aload_n hx hb dX3_changeSeats_8 rfl (lv_at hl 0 rfl) ?_
  refine lv_dup hx hb dX3_changeSeats_9 rfl ?_
  refine va_get (D := D) (ci := 3) (v := .int (ch)) (C := RX3) (T := TX3) (N := 9) hx hb hts inwX3_changeSeats_X3 hown hK hP 0 rfl rfl 8 (by decide) fl43 (fun _ h9 => h9) rfl dX3_changeSeats_10 ?_
  refine lv_iconst (v := nI 1) hx hb dX3_changeSeats_13 (by decide) ?_
  refine lv_iadd hx hb dX3_changeSeats_14 ?_
  refine va_put (D := D) (ci := 3) (v := .int (ch + nI 1)) (ty := .int) (C := RX3) (T := TX3) (N := 9) hx hb hts inwX3_changeSeats_X3 tyX3 tyX3_ok nmX3 hown hK hP hD hS 0 rfl rfl 8 (by decide) fl43 (fun _ h9 => h9) rfl (by decide +kernel) rfl rfl (Nat.le_of_ble_eq_true rfl) dX3_changeSeats_15 (fun H locs hP hD hS => ?_)
  have hP : va_P D vwCl [((a 0), .inr (3, [.ref (a 1), .ref (a 2), .ref (a 3), .ref (a 4), .ref (a 6), .int (nI nk), .int (mi), .int (ro), .int (ch + nI 1)])), ((a 4), .inr (2, [.ref (a 5), .int (nI nt)])), ((a 5), .inl (cI, 12, .inl (rSw T i)))] H := hP
  have hD : va_D A [((a 0), .inr (3, [.ref (a 1), .ref (a 2), .ref (a 3), .ref (a 4), .ref (a 6), .int (nI nk), .int (mi), .int (ro), .int (ch + nI 1)])), ((a 4), .inr (2, [.ref (a 5), .int (nI nt)])), ((a 5), .inl (cI, 12, .inl (rSw T i)))] := hD
  exact kb_vret (D := D) hQ hx hb hr hlocks hK hP hD hS dX3_changeSeats_18 () rfl (Nat.le_refl _) (Nat.le_refl _) (show True from trivial)
abbrev rmX3_firstWrongSeat : Room := { frames := 1, cells := 0, slots := 0, locals := 22 }
theorem hdX3_firstWrongSeat : yX3_firstWrongSeat.cls = RX3 ∧ yX3_firstWrongSeat.cls ≠ "java/lang/invoke/MethodHandle" ∧ yX3_firstWrongSeat.cls ≠ "java/lang/invoke/VarHandle" ∧ (parseMethodDescriptor yX3_firstWrongSeat.desc).map (fun d => d.parameters.length) = some 0 := by decide +kernel
theorem inwX3_firstWrongSeat_X3 : ∀ w ∈ wsX30, w ∈ wsX3_firstWrongSeat := fun w h => List.mem_cons_of_mem _ (List.mem_append_left _ (List.mem_append_right _ h))
theorem inwX3_firstWrongSeat_X2 : ∀ w ∈ wsX20, w ∈ wsX3_firstWrongSeat := fun w h => List.mem_cons_of_mem _ (List.mem_append_right _ h)
set_option maxHeartbeats 4000000 in
set_option maxRecDepth 100000 in
theorem c_X3_firstWrongSeat (l : Launch) (D : va_G) (cI : ClassId) (a : Nat → Nat) (nk : Nat) (mi : Int32) (ro : Int32) (ch : Int32) (Wf : Nat → Int32) (T : Nat → Int32) (g : Sg) (hW : rW Wf g) (hT : rT T g) (ho : Ok g) : kb_R D [(cI, .int)] l yX3_firstWrongSeat wsX3_firstWrongSeat rmX3_firstWrongSeat [.ref (a 0)] [((a 0), .inr (3, [.ref (a 1), .ref (a 2), .ref (a 3), .ref (a 4), .ref (a 6), .int (nI nk), .int (mi), .int (ro), .int (ch)])), ((a 2), .inl (cI, 24, .inl Wf)), ((a 4), .inr (2, [.ref (a 5), .int (nI (nT g))])), ((a 5), .inl (cI, 12, .inl T))] (fwI g) := by
  refine kb_I_of (cc := cX3_firstWrongSeat) (maxL := 2) (ret := (some .int)) (by decide) rfl (Nat.le_of_ble_eq_true rfl) ?_
  intro p e s mm args below meth c A hx hb hml hr hts hown hlocks hnm hA hN hK hP hD hS ls hl Q hQ
  have hl : lv_has ls 2 [(0, .ref (a 0))] := hl
  have hP : va_P D vwCl [((a 0), .inr (3, [.ref (a 1), .ref (a 2), .ref (a 3), .ref (a 4), .ref (a 6), .int (nI nk), .int (mi), .int (ro), .int (ch)])), ((a 2), .inl (cI, 24, .inl Wf)), ((a 4), .inr (2, [.ref (a 5), .int (nI (nT g))])), ((a 5), .inl (cI, 12, .inl T))] s.heap := hP
  have hD : va_D A [((a 0), .inr (3, [.ref (a 1), .ref (a 2), .ref (a 3), .ref (a 4), .ref (a 6), .int (nI nk), .int (mi), .int (ro), .int (ch)])), ((a 2), .inl (cI, 24, .inl Wf)), ((a 4), .inr (2, [.ref (a 5), .int (nI (nT g))])), ((a 5), .inl (cI, 12, .inl T))] := hD
  have fl26 := hts (.fieldLink RX3 26 "KingsBanquet$State" "table" "LKingsBanquet$Row;") (by decide +kernel)
  have hn := ho.n
  refine lv_iconst (v := nI 0) hx hb dX3_firstWrongSeat_0 (by decide) ?_
  refine lv_istore_n (lv' := [(1, .int (nI 0)), (0, .ref (a 0))]) hx hb dX3_firstWrongSeat_1 rfl hl (by decide) rfl (fun ls hl => ?_)
  have L_2 : ∀ (z : Nat) (i : Nat), (i ≤ nT g) → (∀ j, j < i → wrg g j = false) → (nT g - i) < z → ∀ (H : Heap) (locs : List Loc), va_P D vwCl [((a 0), .inr (3, [.ref (a 1), .ref (a 2), .ref (a 3), .ref (a 4), .ref (a 6), .int (nI nk), .int (mi), .int (ro), .int (ch)])), ((a 2), .inl (cI, 24, .inl Wf)), ((a 4), .inr (2, [.ref (a 5), .int (nI (nT g))])), ((a 5), .inl (cI, 12, .inl T))] H → va_D A [((a 0), .inr (3, [.ref (a 1), .ref (a 2), .ref (a 3), .ref (a 4), .ref (a 6), .int (nI nk), .int (mi), .int (ro), .int (ch)])), ((a 2), .inl (cI, 24, .inl Wf)), ((a 4), .inr (2, [.ref (a 5), .int (nI (nT g))])), ((a 5), .inl (cI, 12, .inl T))] → va_S A s.heap H locs → ∀ ls : Array Slot, lv_has ls 2 [(1, .int (nI i)), (0, .ref (a 0))] → W p l e rmX3_firstWrongSeat s mm args below meth c H locs 0 0 Q (F0 mm 2 ls []) := by
    intro z
    induction z with
    | zero =>
      intro i _ _ hz
      exact absurd hz (Nat.not_lt_zero _)
    | succ z ih_2 =>
      intro i hi hm hz H locs hP hD hS ls hl
      refine lv_iload_n hx hb dX3_firstWrongSeat_2 rfl (lv_at hl 0 rfl) ?_
      refine lv_aload_n hx hb dX3_firstWrongSeat_3 rfl (lv_at hl 1 rfl) ?_
      refine va_get (D := D) (ci := 3) (v := .ref (a 4)) (C := RX3) (T := TX3) (N := 9) hx hb hts inwX3_firstWrongSeat_X3 hown hK hP 0 rfl rfl 3 (by decide) fl26 (fun _ h9 => h9) rfl dX3_firstWrongSeat_4 ?_
      refine kb_vR (As := []) (rest := [.int (nI i)]) hx hb hml hts hown hN hK hP hD hS hA (c_X2_size l D cI (fun i => a (4 + i)) 12 T (nT g)) gX3_firstWrongSeat_X2_size rfl ⟨rfl, rfl⟩ hdX2_size ⟨Nat.le_of_ble_eq_true rfl, Nat.le_of_ble_eq_true rfl⟩ [2, 3] [0] rfl rfl rfl (ci := 2) rfl rfl rfl rfl rfl hl.1 (Nat.le_of_ble_eq_true rfl) dX3_firstWrongSeat_7 ⟨Nat.zero_le _, Nat.zero_le _⟩ (fun H locs hP hS => ?_)
      refine lv_iconst (v := nI 1) hx hb dX3_firstWrongSeat_10 (by decide) ?_
      refine lv_isub hx hb dX3_firstWrongSeat_11 ?_
      refine kb_pcmp_ge (tgt := 48) hx hb dX3_firstWrongSeat_12 (by decide) (by omega) (by omega) (fun c12 => ?_) (fun c12 => ?_)
      · refine lv_bipush (v := (-5)) hx hb dX3_firstWrongSeat_48 (by decide) ?_
        exact kb_iret (D := D) hQ hx hb hr hlocks hK hP hD hS dX3_firstWrongSeat_50 () rfl (Nat.le_refl _) (Nat.le_refl _) (show (-5) = fwI g from (fwI_0 (fun q => by have := fw_wrg q; rw [hm _ (by omega)] at this; cases this)).symm)
      · refine lv_aload_n hx hb dX3_firstWrongSeat_15 rfl (lv_at hl 1 rfl) ?_
        refine lv_aload_n hx hb dX3_firstWrongSeat_16 rfl (lv_at hl 1 rfl) ?_
        refine va_get (D := D) (ci := 3) (v := .ref (a 4)) (C := RX3) (T := TX3) (N := 9) hx hb hts inwX3_firstWrongSeat_X3 hown hK hP 0 rfl rfl 3 (by decide) fl26 (fun _ h9 => h9) rfl dX3_firstWrongSeat_17 ?_
        refine lv_iload_n hx hb dX3_firstWrongSeat_20 rfl (lv_at hl 0 rfl) ?_
        refine lv_iconst (v := nI 1) hx hb dX3_firstWrongSeat_21 (by decide) ?_
        refine lv_iadd hx hb dX3_firstWrongSeat_22 ?_
        refine kb_top (nI (i + 1)) (nI_add i 1) ?_
        refine kb_vR (As := [.int (nI (i + 1))]) (rest := [.ref (a 0)]) hx hb hml hts hown hN hK hP hD hS hA (c_X2_at l D cI (fun i => a (4 + i)) 12 T (nT g) (nI (i + 1)) hn.2.1 (by decide)) gX3_firstWrongSeat_X2_at rfl ⟨rfl, rfl⟩ hdX2_at ⟨Nat.le_of_ble_eq_true rfl, Nat.le_of_ble_eq_true rfl⟩ [2, 3] [0] rfl rfl rfl (ci := 2) rfl rfl rfl rfl rfl hl.1 (Nat.le_of_ble_eq_true rfl) dX3_firstWrongSeat_23 ⟨Nat.zero_le _, Nat.zero_le _⟩ (fun H locs hP hS => ?_)
        refine kb_top (nI (gT g (i + 1))) ((rAt_in (by omega) (by omega)).trans (hT _ (by omega))) ?_
        refine lv_aload_n hx hb dX3_firstWrongSeat_26 rfl (lv_at hl 1 rfl) ?_
        refine va_get (D := D) (ci := 3) (v := .ref (a 4)) (C := RX3) (T := TX3) (N := 9) hx hb hts inwX3_firstWrongSeat_X3 hown hK hP 0 rfl rfl 3 (by decide) fl26 (fun _ h9 => h9) rfl dX3_firstWrongSeat_27 ?_
        refine lv_iload_n hx hb dX3_firstWrongSeat_30 rfl (lv_at hl 0 rfl) ?_
        refine kb_vR (As := [.int (nI i)]) (rest := [.int (nI (gT g (i + 1))), .ref (a 0)]) hx hb hml hts hown hN hK hP hD hS hA (c_X2_at l D cI (fun i => a (4 + i)) 12 T (nT g) (nI i) hn.2.1 (by decide)) gX3_firstWrongSeat_X2_at rfl ⟨rfl, rfl⟩ hdX2_at ⟨Nat.le_of_ble_eq_true rfl, Nat.le_of_ble_eq_true rfl⟩ [2, 3] [0] rfl rfl rfl (ci := 2) rfl rfl rfl rfl rfl hl.1 (Nat.le_of_ble_eq_true rfl) dX3_firstWrongSeat_31 ⟨Nat.zero_le _, Nat.zero_le _⟩ (fun H locs hP hS => ?_)
        refine kb_top (nI (gT g i)) ((rAt_in (by omega) (by omega)).trans (hT _ (by omega))) ?_
        refine kb_vR (As := [.int (nI (gT g (i + 1))), .int (nI (gT g i))]) (rest := []) hx hb hml hts hown hN hK hP hD hS hA (c_X3_isGreater l D cI a nk mi ro ch Wf (gT g (i + 1)) (gT g i) (key g (gT g (i + 1))) (key g (gT g i)) (ok_t ho (by omega)) (ok_t ho (by omega)) (hW _ (ho.t _ (by omega)).1) (hW _ (ho.t _ (by omega)).1) (key_lt ho (ho.t _ (by omega)).1) (key_lt ho (ho.t _ (by omega)).1)) gX3_firstWrongSeat_X3_isGreater rfl ⟨rfl, rfl⟩ hdX3_isGreater ⟨Nat.le_of_ble_eq_true rfl, Nat.le_of_ble_eq_true rfl⟩ [0, 1] [0] rfl rfl rfl (ci := 3) rfl rfl rfl rfl rfl hl.1 (Nat.le_of_ble_eq_true rfl) dX3_firstWrongSeat_34 ⟨Nat.zero_le _, Nat.zero_le _⟩ (fun H locs hP hS => ?_)
        refine kb_bif_eq (tgt := 42) hx hb dX3_firstWrongSeat_37 (by decide) (fun c37 => ?_) (fun c37 => ?_)
        · refine lv_iinc (v := nI (i + 1)) (lv' := [(1, .int (nI (i + 1))), (0, .ref (a 0))]) hx hb dX3_firstWrongSeat_42 hl (k := 0) rfl (kb_inc1 i) (by decide) rfl (fun ls hl => ?_)
          refine lv_goto (tgt := 2) hx hb dX3_firstWrongSeat_45 (by decide) ?_
          exact ih_2 (i + 1) (by omega) (lt_s hm c37) (by omega) _ _ hP hD hS _ (lv_sub hl [0, 1] rfl)
        · refine lv_iload_n hx hb dX3_firstWrongSeat_40 rfl (lv_at hl 0 rfl) ?_
          exact kb_iret (D := D) hQ hx hb hr hlocks hK hP hD hS dX3_firstWrongSeat_41 () rfl (Nat.le_refl _) (Nat.le_refl _) (show nI i = fwI g from ((congrArg (fun b => oI b i) (decide_eq_true (by omega))).symm.trans (congrArg (fun z => oI (decide (z < nT g - 1)) z) (ff_eq hm c37 (by omega)).symm) : nI i = fwI g))
  exact L_2 ((nT g - 0) + 1) 0 (by omega) (fun j h => absurd h (Nat.not_lt_zero j)) (Nat.lt_succ_self _) _ _ hP hD hS _ (lv_sub hl [0, 1] rfl)
