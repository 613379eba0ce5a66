def rAt (m : Nat → Int32) (n : Nat) (x : Int32) : Int32 := if ¬ x < nI 0 ∧ x < nI n then m x.toNatClampNeg else -5
theorem rAt_in {m : Nat → Int32} {n j : Nat} (h : j < n) (hn : n < 2 ^ 31) : rAt m n (nI j) = m j := by
  unfold rAt
  rw [if_pos ⟨nI_nlt (Nat.zero_le j) (by omega), nI_lt h hn⟩, nI_clamp (by omega)]
theorem rAt_neg {m : Nat → Int32} {n : Nat} {x : Int32} (h : x < 0) : rAt m n x = -5 := by
  unfold rAt
  rw [if_neg (fun q => q.1 h)]
theorem rAt_out {m : Nat → Int32} {n j : Nat} (h : n ≤ j) (hj : j < 2 ^ 31) : rAt m n (nI j) = -5 := by
  unfold rAt
  rw [if_neg (fun q => nI_nlt h hj q.2)]
def rPl (m : Nat → Int32) (n : Nat) (x : Int32) : Nat := ff (fun j => decide (m j = x)) n
def rFind (m : Nat → Int32) (n : Nat) (x : Int32) : Int32 := if rPl m n x < n then nI (rPl m n x) else -5
theorem rPl_in {m : Nat → Int32} {n : Nat} {x : Int32} {i : Nat} (h1 : ∀ j, j < i → m j ≠ x) (h2 : m i = x) (h3 : i < n) : rPl m n x = i := ff_eq (fun k hk => decide_eq_false (h1 k hk)) (decide_eq_true h2) h3
theorem rPl_out {m : Nat → Int32} {n : Nat} {x : Int32} (h1 : ∀ j, j < n → m j ≠ x) : rPl m n x = n := ff_none (fun k hk => decide_eq_false (h1 k hk))
theorem rFind_in {m : Nat → Int32} {n : Nat} {x : Int32} {i : Nat} (h1 : ∀ j, j < i → m j ≠ x) (h2 : m i = x) (h3 : i < n) : rFind m n x = nI i := by
  unfold rFind
  rw [rPl_in h1 h2 h3, if_pos h3]
theorem rFind_out {m : Nat → Int32} {n : Nat} {x : Int32} (h1 : ∀ j, j < n → m j ≠ x) : rFind m n x = -5 := by
  unfold rFind
  rw [rPl_out h1, if_neg (Nat.lt_irrefl n)]
def rDel (m : Nat → Int32) (i n : Nat) : Nat → Int32 := fun j => if i ≤ j ∧ j < n then m (j + 1) else m j
theorem rDel_0 (m : Nat → Int32) (i : Nat) : rDel m i i = m := by
  funext j
  unfold rDel
  rw [if_neg (by omega)]
theorem rDel_s (m : Nat → Int32) {i k : Nat} (h : i ≤ k) : upd (rDel m i k) k (rDel m i k (k + 1)) = rDel m i (k + 1) := by
  funext j
  unfold upd rDel
  by_cases h1 : j = k
  · subst h1
    rw [if_pos rfl, if_neg (by omega), if_pos (by omega)]
  · rw [if_neg h1]
    by_cases h2 : i ≤ j ∧ j < k
    · rw [if_pos h2, if_pos (by omega)]
    · rw [if_neg h2, if_neg (by omega)]
def rSw (m : Nat → Int32) (i : Nat) : Nat → Int32 := upd (upd m i (m (i + 1))) (i + 1) (m i)
abbrev rmX4_copyNumbers : Room := { frames := 1, cells := 0, slots := 0, locals := 40 }
theorem hdX4_copyNumbers : yX4_copyNumbers.cls = RX4 ∧ yX4_copyNumbers.cls ≠ "java/lang/invoke/MethodHandle" ∧ yX4_copyNumbers.cls ≠ "java/lang/invoke/VarHandle" ∧ (parseMethodDescriptor yX4_copyNumbers.desc).map (fun d => d.parameters.length) = some 2 := by decide +kernel
set_option maxHeartbeats 4000000 in
set_option maxRecDepth 100000 in
theorem c_X4_copyNumbers (l : Launch) (D : va_G) (cI : ClassId) (x : Nat) (y : Nat) (cap : Nat) (f : Nat → Int32) (g : Nat → Int32) (hc : cap ≤ 300) : kb_V (S := Unit) D [(cI, .int)] l yX4_copyNumbers wsX4_copyNumbers rmX4_copyNumbers [.ref x, .ref y] [(x, .inl (cI, cap, .inl f)), (y, .inl (cI, cap, .inl g))] (fun (u : Unit) => True) (fun (u : Unit) => [(x, .inl (cI, cap, .inl f)), (y, .inl (cI, cap, .inl f))]) 0 0 := by
  refine kb_V_of (cc := cX4_copyNumbers) (maxL := 2) (ret := none) (by decide) rfl (Nat.le_of_ble_eq_true rfl) ?_
  intro p e s mm args below meth c A hx hb hml hr hts hown hlocks hnm hA hN hK hP hD hS ls hl Q hQ
  have hl : lv_has ls 2 [(0, .ref x), (1, .ref y)] := hl
  have hP : va_P D vwCl [(x, .inl (cI, cap, .inl f)), (y, .inl (cI, cap, .inl g))] s.heap := hP
  have hD : va_D A [(x, .inl (cI, cap, .inl f)), (y, .inl (cI, cap, .inl g))] := hD
  refine lv_aload_n hx hb dX4_copyNumbers_0 rfl (lv_at hl 0 rfl) ?_
  refine lv_iconst (v := nI 0) hx hb dX4_copyNumbers_1 (by decide) ?_
  refine lv_aload_n hx hb dX4_copyNumbers_2 rfl (lv_at hl 1 rfl) ?_
  refine lv_iconst (v := nI 0) hx hb dX4_copyNumbers_3 (by decide) ?_
  refine lv_aload_n hx hb dX4_copyNumbers_4 rfl (lv_at hl 0 rfl) ?_
  refine va_alen hx hb hK hP 0 0 rfl (ty := .int) rfl (v := nI cap) rfl dX4_copyNumbers_5 ?_
  refine lv_aload_n hx hb dX4_copyNumbers_6 rfl (lv_at hl 1 rfl) ?_
  refine va_alen hx hb hK hP 1 0 rfl (ty := .int) rfl (v := nI cap) rfl dX4_copyNumbers_7 ?_
  refine va_mmin hx hb (hml.trans hl.1.symm) hown (hts (.methodLink RX4 178 Lib.Math.min.name) (by decide +kernel)) (hts (.static Lib.Math.min.name) (by decide +kernel)) (hts (.initialized "java/lang/Math") (by decide +kernel)) (hts (.code Lib.Math.min.name Lib.Math.min.code 2 (some .int)) (by decide +kernel)) (Nat.le_of_ble_eq_true rfl) (Nat.le_of_ble_eq_true rfl) (Nat.zero_le _) (Nat.zero_le _) dX4_copyNumbers_8 ?_
  refine kb_top (nI cap) (ite_self _) ?_
  refine kb_copy hx hb (hml.trans hl.1.symm) hown (hts (.methodLink RX4 183 arraycopyName) (by decide +kernel)) (hts (.native arraycopyName) (by decide +kernel)) (hts (.static arraycopyName) (by decide +kernel)) (hts (.initialized "java/lang/System") (by decide +kernel)) hK hP hD hS 0 1 0 rfl rfl rfl (by omega) (Nat.le_of_ble_eq_true rfl) (Nat.le_of_ble_eq_true rfl) dX4_copyNumbers_11 (fun H locs hP hD hS => ?_)
  have hP : va_P D vwCl [(x, .inl (cI, cap, .inl f)), (y, .inl (cI, cap, .inl f))] H := hP
  have hD : va_D A [(x, .inl (cI, cap, .inl f)), (y, .inl (cI, cap, .inl f))] := hD
  exact kb_vret (D := D) hQ hx hb hr hlocks hK hP hD hS dX4_copyNumbers_14 () rfl (Nat.le_refl _) (Nat.le_refl _) (show True from trivial)
abbrev rmX2_size : Room := { frames := 0, cells := 0, slots := 0, locals := 0 }
theorem hdX2_size : yX2_size.cls = RX2 ∧ yX2_size.cls ≠ "java/lang/invoke/MethodHandle" ∧ yX2_size.cls ≠ "java/lang/invoke/VarHandle" ∧ (parseMethodDescriptor yX2_size.desc).map (fun d => d.parameters.length) = some 0 := by decide +kernel
theorem inwX2_size_X2 : ∀ w ∈ wsX20, w ∈ wsX2_size := fun w h => List.mem_cons_of_mem _ (List.mem_append_right _ h)
set_option maxHeartbeats 4000000 in
set_option maxRecDepth 100000 in
theorem c_X2_size (l : Launch) (D : va_G) (cI : ClassId) (q : Nat → Nat) (cap : Nat) (m : Nat → Int32) (n : Nat) : kb_R D [(cI, .int)] l yX2_size wsX2_size rmX2_size [.ref (q 0)] [((q 0), .inr (2, [.ref (q 1), .int (nI n)])), ((q 1), .inl (cI, cap, .inl m))] (nI n) := by
  refine kb_I_of (cc := cX2_size) (maxL := 1) (ret := (some .int)) (by decide) rfl (Nat.le_of_ble_eq_true rfl) ?_
  intro p e s mm args below meth c A hx hb hml hr hts hown hlocks hnm hA hN hK hP hD hS ls hl Q hQ
  have hl : lv_has ls 1 [(0, .ref (q 0))] := hl
  have hP : va_P D vwCl [((q 0), .inr (2, [.ref (q 1), .int (nI n)])), ((q 1), .inl (cI, cap, .inl m))] s.heap := hP
  have hD : va_D A [((q 0), .inr (2, [.ref (q 1), .int (nI n)])), ((q 1), .inl (cI, cap, .inl m))] := hD
  have fl21 := hts (.fieldLink RX2 21 "KingsBanquet$Row" "size" "I") (by decide +kernel)
  refine lv_aload_n hx hb dX2_size_0 rfl (lv_at hl 0 rfl) ?_
  refine va_get (D := D) (ci := 2) (v := .int (nI n)) (C := RX2) (T := TX2) (N := 2) hx hb hts inwX2_size_X2 hown hK hP 0 rfl rfl 1 (by decide) fl21 (fun _ h9 => h9) rfl dX2_size_1 ?_
  exact kb_iret (D := D) hQ hx hb hr hlocks hK hP hD hS dX2_size_4 () rfl (Nat.le_refl _) (Nat.le_refl _) (show nI n = nI n from rfl)
abbrev rmX2_at : Room := { frames := 0, cells := 0, slots := 0, locals := 0 }
theorem hdX2_at : yX2_at.cls = RX2 ∧ yX2_at.cls ≠ "java/lang/invoke/MethodHandle" ∧ yX2_at.cls ≠ "java/lang/invoke/VarHandle" ∧ (parseMethodDescriptor yX2_at.desc).map (fun d => d.parameters.length) = some 1 := by decide +kernel
theorem inwX2_at_X2 : ∀ w ∈ wsX20, w ∈ wsX2_at := fun w h => List.mem_cons_of_mem _ (List.mem_append_right _ h)
set_option maxHeartbeats 4000000 in
set_option maxRecDepth 100000 in
theorem c_X2_at (l : Launch) (D : va_G) (cI : ClassId) (q : Nat → Nat) (cap : Nat) (m : Nat → Int32) (n : Nat) (x : Int32) (hn : n ≤ cap) (hc : cap ≤ 30) : kb_R D [(cI, .int)] l yX2_at wsX2_at rmX2_at [.ref (q 0), .int (x)] [((q 0), .inr (2, [.ref (q 1), .int (nI n)])), ((q 1), .inl (cI, cap, .inl m))] (rAt m n x) := by
  refine kb_I_of (cc := cX2_at) (maxL := 2) (ret := (some .int)) (by decide) rfl (Nat.le_of_ble_eq_true rfl) ?_
  intro p e s mm args below meth c A hx hb hml hr hts hown hlocks hnm hA hN hK hP hD hS ls hl Q hQ
  have hl : lv_has ls 2 [(0, .ref (q 0)), (1, .int (x))] := hl
  have hP : va_P D vwCl [((q 0), .inr (2, [.ref (q 1), .int (nI n)])), ((q 1), .inl (cI, cap, .inl m))] s.heap := hP
  have hD : va_D A [((q 0), .inr (2, [.ref (q 1), .int (nI n)])), ((q 1), .inl (cI, cap, .inl m))] := hD
  have fl21 := hts (.fieldLink RX2 21 "KingsBanquet$Row" "size" "I") (by decide +kernel)
  have fl15 := hts (.fieldLink RX2 15 "KingsBanquet$Row" "members" "[I") (by decide +kernel)
  rcases kb_sgn x with hneg_x | ⟨x', h_x, rfl⟩
  · refine lv_iload_n hx hb dX2_at_0 rfl (lv_at hl 1 rfl) ?_
    refine lv_if_lt (tgt := 30) hx hb dX2_at_1 (by decide) (fun _ => ?_) (fun c => absurd hneg_x c)
    refine lv_bipush (v := (-5)) hx hb dX2_at_30 (by decide) ?_
    exact kb_iret (D := D) hQ hx hb hr hlocks hK hP hD hS dX2_at_32 () rfl (Nat.le_refl _) (Nat.le_refl _) (show (-5) = rAt m n x from (rAt_neg hneg_x).symm)
  · refine lv_iload_n hx hb dX2_at_0 rfl (lv_at hl 1 rfl) ?_
    refine kb_nif_lt (tgt := 30) hx hb dX2_at_1 (by decide) (by omega) ?_
    refine lv_iload_n hx hb dX2_at_4 rfl (lv_at hl 1 rfl) ?_
    refine lv_aload_n hx hb dX2_at_5 rfl (lv_at hl 0 rfl) ?_
    refine va_get (D := D) (ci := 2) (v := .int (nI n)) (C := RX2) (T := TX2) (N := 2) hx hb hts inwX2_at_X2 hown hK hP 0 rfl rfl 1 (by decide) fl21 (fun _ h9 => h9) rfl dX2_at_6 ?_
    refine kb_icmp_ge (tgt := 30) hx hb dX2_at_9 (by decide) (by omega) (by omega) (fun c9 => ?_) (fun c9 => ?_)
    · refine lv_bipush (v := (-5)) hx hb dX2_at_30 (by decide) ?_
      exact kb_iret (D := D) hQ hx hb hr hlocks hK hP hD hS dX2_at_32 () rfl (Nat.le_refl _) (Nat.le_refl _) (show (-5) = rAt m n (nI x') from (rAt_out (by omega) h_x).symm)
    · refine lv_iload_n hx hb dX2_at_12 rfl (lv_at hl 1 rfl) ?_
      refine lv_aload_n hx hb dX2_at_13 rfl (lv_at hl 0 rfl) ?_
      refine va_get (D := D) (ci := 2) (v := .ref (q 1)) (C := RX2) (T := TX2) (N := 2) hx hb hts inwX2_at_X2 hown hK hP 0 rfl rfl 0 (by decide) fl15 (fun _ h9 => h9) rfl dX2_at_14 ?_
      refine va_alen hx hb hK hP 1 0 rfl (ty := .int) rfl (v := nI cap) rfl dX2_at_17 ?_
      refine kb_icmp_ge (tgt := 30) hx hb dX2_at_18 (by decide) (by omega) (by omega) (fun c18 => ?_) (fun c18 => ?_)
      · refine lv_bipush (v := (-5)) hx hb dX2_at_30 (by decide) ?_
        exact kb_iret (D := D) hQ hx hb hr hlocks hK hP hD hS dX2_at_32 () rfl (Nat.le_refl _) (Nat.le_refl _) (show (-5) = rAt m n (nI x') from (rAt_out (by omega) h_x).symm)
      · refine lv_aload_n hx hb dX2_at_21 rfl (lv_at hl 0 rfl) ?_
        refine va_get (D := D) (ci := 2) (v := .ref (q 1)) (C := RX2) (T := TX2) (N := 2) hx hb hts inwX2_at_X2 hown hK hP 0 rfl rfl 0 (by decide) fl15 (fun _ h9 => h9) rfl dX2_at_22 ?_
        refine lv_iload_n hx hb dX2_at_25 rfl (lv_at hl 1 rfl) ?_
        refine kb_iald hx hb hK hP 1 0 rfl rfl (by omega) (by omega) dX2_at_26 ?_
        refine lv_goto (tgt := 32) hx hb dX2_at_27 (by decide) ?_
        exact kb_iret (D := D) hQ hx hb hr hlocks hK hP hD hS dX2_at_32 () rfl (Nat.le_refl _) (Nat.le_refl _) (show m x' = rAt m n (nI x') from (rAt_in c9 (by omega)).symm)
abbrev rmX2_placeOf : Room := { frames := 0, cells := 0, slots := 0, locals := 0 }
theorem hdX2_placeOf : yX2_placeOf.cls = RX2 ∧ yX2_placeOf.cls ≠ "java/lang/invoke/MethodHandle" ∧ yX2_placeOf.cls ≠ "java/lang/invoke/VarHandle" ∧ (parseMethodDescriptor yX2_placeOf.desc).map (fun d => d.parameters.length) = some 1 := by decide +kernel
theorem inwX2_placeOf_X2 : ∀ w ∈ wsX20, w ∈ wsX2_placeOf := fun w h => List.mem_cons_of_mem _ (List.mem_append_right _ h)
set_option maxHeartbeats 4000000 in
set_option maxRecDepth 100000 in
theorem c_X2_placeOf (l : Launch) (D : va_G) (cI : ClassId) (q : Nat → Nat) (cap : Nat) (m : Nat → Int32) (n : Nat) (x : Int32) (hn : n ≤ cap) (hc : cap ≤ 30) : kb_R D [(cI, .int)] l yX2_placeOf wsX2_placeOf rmX2_placeOf [.ref (q 0), .int (x)] [((q 0), .inr (2, [.ref (q 1), .int (nI n)])), ((q 1), .inl (cI, cap, .inl m))] (rFind m n x) := by
  refine kb_I_of (cc := cX2_placeOf) (maxL := 3) (ret := (some .int)) (by decide) rfl (Nat.le_of_ble_eq_true rfl) ?_
  intro p e s mm args below meth c A hx hb hml hr hts hown hlocks hnm hA hN hK hP hD hS ls hl Q hQ
  have hl : lv_has ls 3 [(0, .ref (q 0)), (1, .int (x))] := hl
  have hP : va_P D vwCl [((q 0), .inr (2, [.ref (q 1), .int (nI n)])), ((q 1), .inl (cI, cap, .inl m))] s.heap := hP
  have hD : va_D A [((q 0), .inr (2, [.ref (q 1), .int (nI n)])), ((q 1), .inl (cI, cap, .inl m))] := hD
  have fl21 := hts (.fieldLink RX2 21 "KingsBanquet$Row" "size" "I") (by decide +kernel)
  have fl15 := hts (.fieldLink RX2 15 "KingsBanquet$Row" "members" "[I") (by decide +kernel)
  refine lv_iconst (v := nI 0) hx hb dX2_placeOf_0 (by decide) ?_
  refine lv_istore_n (lv' := [(2, .int (nI 0)), (0, .ref (q 0)), (1, .int (x))]) hx hb dX2_placeOf_1 rfl hl (by decide) rfl (fun ls hl => ?_)
  have L_2 : ∀ (z : Nat) (i : Nat), (i ≤ n) → (∀ j, j < i → m j ≠ x) → (n - i) < z → ∀ (H : Heap) (locs : List Loc), va_P D vwCl [((q 0), .inr (2, [.ref (q 1), .int (nI n)])), ((q 1), .inl (cI, cap, .inl m))] H → va_D A [((q 0), .inr (2, [.ref (q 1), .int (nI n)])), ((q 1), .inl (cI, cap, .inl m))] → va_S A s.heap H locs → ∀ ls : Array Slot, lv_has ls 3 [(2, .int (nI i)), (0, .ref (q 0)), (1, .int (x))] → W p l e rmX2_placeOf s mm args below meth c H locs 0 0 Q (F0 mm 2 ls []) := by
    intro z
    induction z with
    | zero =>
      intro i _ _ hz
      exact absurd hz (Nat.not_lt_zero _)
    | succ z ih_2 =>
      intro i hi hm hz H locs hP hD hS ls hl
      refine lv_iload_n hx hb dX2_placeOf_2 rfl (lv_at hl 0 rfl) ?_
      refine lv_aload_n hx hb dX2_placeOf_3 rfl (lv_at hl 1 rfl) ?_
      refine va_get (D := D) (ci := 2) (v := .int (nI n)) (C := RX2) (T := TX2) (N := 2) hx hb hts inwX2_placeOf_X2 hown hK hP 0 rfl rfl 1 (by decide) fl21 (fun _ h9 => h9) rfl dX2_placeOf_4 ?_
      refine kb_icmp_ge (tgt := 37) hx hb dX2_placeOf_7 (by decide) (by omega) (by omega) (fun c7 => ?_) (fun c7 => ?_)
      · refine lv_bipush (v := (-5)) hx hb dX2_placeOf_37 (by decide) ?_
        exact kb_iret (D := D) hQ hx hb hr hlocks hK hP hD hS dX2_placeOf_39 () rfl (Nat.le_refl _) (Nat.le_refl _) (show (-5) = rFind m n x from (rFind_out (fun j h => hm j (by omega))).symm)
      · refine lv_iload_n hx hb dX2_placeOf_10 rfl (lv_at hl 0 rfl) ?_
        refine lv_aload_n hx hb dX2_placeOf_11 rfl (lv_at hl 1 rfl) ?_
        refine va_get (D := D) (ci := 2) (v := .ref (q 1)) (C := RX2) (T := TX2) (N := 2) hx hb hts inwX2_placeOf_X2 hown hK hP 0 rfl rfl 0 (by decide) fl15 (fun _ h9 => h9) rfl dX2_placeOf_12 ?_
        refine va_alen hx hb hK hP 1 0 rfl (ty := .int) rfl (v := nI cap) rfl dX2_placeOf_15 ?_
        refine kb_icmp_ge (tgt := 37) hx hb dX2_placeOf_16 (by decide) (by omega) (by omega) (fun c16 => ?_) (fun c16 => ?_)
        · exfalso; omega
        · refine lv_aload_n hx hb dX2_placeOf_19 rfl (lv_at hl 1 rfl) ?_
          refine va_get (D := D) (ci := 2) (v := .ref (q 1)) (C := RX2) (T := TX2) (N := 2) hx hb hts inwX2_placeOf_X2 hown hK hP 0 rfl rfl 0 (by decide) fl15 (fun _ h9 => h9) rfl dX2_placeOf_20 ?_
          refine lv_iload_n hx hb dX2_placeOf_23 rfl (lv_at hl 0 rfl) ?_
          refine kb_iald hx hb hK hP 1 0 rfl rfl (by omega) (by omega) dX2_placeOf_24 ?_
          refine lv_iload_n hx hb dX2_placeOf_25 rfl (lv_at hl 2 rfl) ?_
          refine lv_icmp_ne (tgt := 31) hx hb dX2_placeOf_26 (by decide) (fun c26 => ?_) (fun c26 => ?_)
          · refine lv_iinc (v := nI (i + 1)) (lv' := [(2, .int (nI (i + 1))), (0, .ref (q 0)), (1, .int (x))]) hx hb dX2_placeOf_31 hl (k := 0) rfl (kb_inc1 i) (by decide) rfl (fun ls hl => ?_)
            refine lv_goto (tgt := 2) hx hb dX2_placeOf_34 (by decide) ?_
            exact ih_2 (i + 1) (by omega) (lt_s hm c26) (by omega) _ _ hP hD hS _ (lv_sub hl [0, 1, 2] rfl)
          · refine lv_iload_n hx hb dX2_placeOf_29 rfl (lv_at hl 0 rfl) ?_
            exact kb_iret (D := D) hQ hx hb hr hlocks hK hP hD hS dX2_placeOf_30 () rfl (Nat.le_refl _) (Nat.le_refl _) (show nI i = rFind m n x from (rFind_in hm c26 c7).symm)
  exact L_2 ((n - 0) + 1) 0 (by omega) (fun j h => absurd h (Nat.not_lt_zero j)) (Nat.lt_succ_self _) _ _ hP hD hS _ (lv_sub hl [0, 1, 2] rfl)
abbrev rmX2_add : Room := { frames := 0, cells := 0, slots := 0, locals := 0 }
theorem hdX2_add : yX2_add.cls = RX2 ∧ yX2_add.cls ≠ "java/lang/invoke/MethodHandle" ∧ yX2_add.cls ≠ "java/lang/invoke/VarHandle" ∧ (parseMethodDescriptor yX2_add.desc).map (fun d => d.parameters.length) = some 1 := by decide +kernel
theorem inwX2_add_X2 : ∀ w ∈ wsX20, w ∈ wsX2_add := fun w h => List.mem_cons_of_mem _ (List.mem_append_right _ h)
set_option maxHeartbeats 4000000 in
set_option maxRecDepth 100000 in
theorem c_X2_add (l : Launch) (D : va_G) (cI : ClassId) (q : Nat → Nat) (cap : Nat) (m : Nat → Int32) (n : Nat) (x : Int32) (hn : n < cap) (hc : cap ≤ 30) : kb_V (S := Unit) D [(cI, .int)] l yX2_add wsX2_add rmX2_add [.ref (q 0), .int (x)] [((q 0), .inr (2, [.ref (q 1), .int (nI n)])), ((q 1), .inl (cI, cap, .inl m))] (fun (u : Unit) => True) (fun (u : Unit) => [((q 0), .inr (2, [.ref (q 1), .int (nI (n + 1))])), ((q 1), .inl (cI, cap, .inl (upd m n x)))]) 0 0 := by
  refine kb_V_of (cc := cX2_add) (maxL := 2) (ret := none) (by decide) rfl (Nat.le_of_ble_eq_true rfl) ?_
  intro p e s mm args below meth c A hx hb hml hr hts hown hlocks hnm hA hN hK hP hD hS ls hl Q hQ
  have hl : lv_has ls 2 [(0, .ref (q 0)), (1, .int (x))] := hl
  have hP : va_P D vwCl [((q 0), .inr (2, [.ref (q 1), .int (nI n)])), ((q 1), .inl (cI, cap, .inl m))] s.heap := hP
  have hD : va_D A [((q 0), .inr (2, [.ref (q 1), .int (nI n)])), ((q 1), .inl (cI, cap, .inl m))] := hD
  have fl21 := hts (.fieldLink RX2 21 "KingsBanquet$Row" "size" "I") (by decide +kernel)
  have fl15 := hts (.fieldLink RX2 15 "KingsBanquet$Row" "members" "[I") (by decide +kernel)
  refine lv_aload_n hx hb dX2_add_0 rfl (lv_at hl 0 rfl) ?_
  refine va_get (D := D) (ci := 2) (v := .int (nI n)) (C := RX2) (T := TX2) (N := 2) hx hb hts inwX2_add_X2 hown hK hP 0 rfl rfl 1 (by decide) fl21 (fun _ h9 => h9) rfl dX2_add_1 ?_
  refine kb_nif_lt (tgt := 39) hx hb dX2_add_4 (by decide) (by omega) ?_
  refine lv_aload_n hx hb dX2_add_7 rfl (lv_at hl 0 rfl) ?_
  refine va_get (D := D) (ci := 2) (v := .int (nI n)) (C := RX2) (T := TX2) (N := 2) hx hb hts inwX2_add_X2 hown hK hP 0 rfl rfl 1 (by decide) fl21 (fun _ h9 => h9) rfl dX2_add_8 ?_
  refine lv_aload_n hx hb dX2_add_11 rfl (lv_at hl 0 rfl) ?_
  refine va_get (D := D) (ci := 2) (v := .ref (q 1)) (C := RX2) (T := TX2) (N := 2) hx hb hts inwX2_add_X2 hown hK hP 0 rfl rfl 0 (by decide) fl15 (fun _ h9 => h9) rfl dX2_add_12 ?_
  refine va_alen hx hb hK hP 1 0 rfl (ty := .int) rfl (v := nI cap) rfl dX2_add_15 ?_
  refine kb_icmp_ge (tgt := 39) hx hb dX2_add_16 (by decide) (by omega) (by omega) (fun c16 => ?_) (fun c16 => ?_)
  · exfalso; omega
  · refine lv_aload_n hx hb dX2_add_19 rfl (lv_at hl 0 rfl) ?_
    refine va_get (D := D) (ci := 2) (v := .ref (q 1)) (C := RX2) (T := TX2) (N := 2) hx hb hts inwX2_add_X2 hown hK hP 0 rfl rfl 0 (by decide) fl15 (fun _ h9 => h9) rfl dX2_add_20 ?_
    refine lv_aload_n hx hb dX2_add_23 rfl (lv_at hl 0 rfl) ?_
    refine va_get (D := D) (ci := 2) (v := .int (nI n)) (C := RX2) (T := TX2) (N := 2) hx hb hts inwX2_add_X2 hown hK hP 0 rfl rfl 1 (by decide) fl21 (fun _ h9 => h9) rfl dX2_add_24 ?_
    refine lv_iload_n hx hb dX2_add_27 rfl (lv_at hl 1 rfl) ?_
    refine kb_iast hx hb hK hP hD hS 1 0 rfl rfl (by omega) (by omega) dX2_add_28 (fun H locs hP hD hS => ?_)
    have hP : va_P D vwCl [((q 0), .inr (2, [.ref (q 1), .int (nI n)])), ((q 1), .inl (cI, cap, .inl (upd m n x)))] H := hP
    have hD : va_D A [((q 0), .inr (2, [.ref (q 1), .int (nI n)])), ((q 1), .inl (cI, cap, .inl (upd m n x)))] := hD
    refine lv_aload_n hx hb dX2_add_29 rfl (lv_at hl 0 rfl) ?_
    refine lv_dup hx hb dX2_add_30 rfl ?_
    refine va_get (D := D) (ci := 2) (v := .int (nI n)) (C := RX2) (T := TX2) (N := 2) hx hb hts inwX2_add_X2 hown hK hP 0 rfl rfl 1 (by decide) fl21 (fun _ h9 => h9) rfl dX2_add_31 ?_
    refine lv_iconst (v := nI 1) hx hb dX2_add_34 (by decide) ?_
    refine lv_iadd hx hb dX2_add_35 ?_
    refine kb_top (nI (n + 1)) (nI_add n 1) ?_
    refine va_put (D := D) (ci := 2) (v := .int (nI (n + 1))) (ty := .int) (C := RX2) (T := TX2) (N := 2) hx hb hts inwX2_add_X2 tyX2 tyX2_ok nmX2 hown hK hP hD hS 0 rfl rfl 1 (by decide) fl21 (fun _ h9 => h9) rfl (by decide +kernel) rfl rfl (Nat.le_of_ble_eq_true rfl) dX2_add_36 (fun H locs hP hD hS => ?_)
    have hP : va_P D vwCl [((q 0), .inr (2, [.ref (q 1), .int (nI (n + 1))])), ((q 1), .inl (cI, cap, .inl (upd m n x)))] H := hP
    have hD : va_D A [((q 0), .inr (2, [.ref (q 1), .int (nI (n + 1))])), ((q 1), .inl (cI, cap, .inl (upd m n x)))] := hD
    exact kb_vret (D := D) hQ hx hb hr hlocks hK hP hD hS dX2_add_39 () rfl (Nat.le_refl _) (Nat.le_refl _) (show True from trivial)
abbrev rmX2_remove : Room := { frames := 1, cells := 0, slots := 0, locals := 22 }
theorem hdX2_remove : yX2_remove.cls = RX2 ∧ yX2_remove.cls ≠ "java/lang/invoke/MethodHandle" ∧ yX2_remove.cls ≠ "java/lang/invoke/VarHandle" ∧ (parseMethodDescriptor yX2_remove.desc).map (fun d => d.parameters.length) = some 1 := by decide +kernel
theorem inwX2_remove_X2 : ∀ w ∈ wsX20, w ∈ wsX2_remove := fun w h => List.mem_cons_of_mem _ (List.mem_append_right _ h)
set_option maxHeartbeats 4000000 in
set_option maxRecDepth 100000 in
theorem c_X2_remove (l : Launch) (D : va_G) (cI : ClassId) (q : Nat → Nat) (cap : Nat) (m : Nat → Int32) (n : Nat) (x : Int32) (i : Nat) (hi : i < n) (hm : m i = x) (hu : ∀ j, j < i → m j ≠ x) (hn : n ≤ cap) (hc : cap ≤ 30) : kb_V (S := Unit) D [(cI, .int)] l yX2_remove wsX2_remove rmX2_remove [.ref (q 0), .int (x)] [((q 0), .inr (2, [.ref (q 1), .int (nI n)])), ((q 1), .inl (cI, cap, .inl m))] (fun (u : Unit) => True) (fun (u : Unit) => [((q 0), .inr (2, [.ref (q 1), .int (nI (n - 1))])), ((q 1), .inl (cI, cap, .inl (rDel m i (n - 1))))]) 0 0 := by
  refine kb_V_of (cc := cX2_remove) (maxL := 4) (ret := none) (by decide) rfl (Nat.le_of_ble_eq_true rfl) ?_
  intro p e s mm args below meth c A hx hb hml hr hts hown hlocks hnm hA hN hK hP hD hS ls hl Q hQ
  have hl : lv_has ls 4 [(0, .ref (q 0)), (1, .int (x))] := hl
  have hP : va_P D vwCl [((q 0), .inr (2, [.ref (q 1), .int (nI n)])), ((q 1), .inl (cI, cap, .inl m))] s.heap := hP
  have hD : va_D A [((q 0), .inr (2, [.ref (q 1), .int (nI n)])), ((q 1), .inl (cI, cap, .inl m))] := hD
  have fl21 := hts (.fieldLink RX2 21 "KingsBanquet$Row" "size" "I") (by decide +kernel)
  have fl15 := hts (.fieldLink RX2 15 "KingsBanquet$Row" "members" "[I") (by decide +kernel)
  refine lv_aload_n hx hb dX2_remove_0 rfl (lv_at hl 0 rfl) ?_
  refine lv_iload_n hx hb dX2_remove_1 rfl (lv_at hl 1 rfl) ?_
  refine kb_vR (As := [.int (x)]) (rest := []) hx hb hml hts hown hN hK hP hD hS hA (c_X2_placeOf l D cI q cap m n x (by first | assumption | omega) (by first | assumption | omega)) gX2_remove_X2_placeOf rfl ⟨rfl, rfl⟩ hdX2_placeOf ⟨Nat.le_of_ble_eq_true rfl, Nat.le_of_ble_eq_true rfl⟩ [0, 1] [0] rfl rfl rfl (ci := 2) rfl rfl rfl rfl rfl hl.1 (Nat.le_of_ble_eq_true rfl) dX2_remove_2 ⟨Nat.zero_le _, Nat.zero_le _⟩ (fun H locs hP hS => ?_)
  refine kb_top (nI i) (rFind_in hu hm hi) ?_
  refine lv_istore_n (lv' := [(2, .int (nI i)), (0, .ref (q 0)), (1, .int (x))]) hx hb dX2_remove_5 rfl hl (by decide) rfl (fun ls hl => ?_)
  refine lv_iload_n hx hb dX2_remove_6 rfl (lv_at hl 0 rfl) ?_
  refine kb_nif_ge (tgt := 11) hx hb dX2_remove_7 (by decide) (by omega) ?_
  refine lv_iload_n hx hb dX2_remove_11 rfl (lv_at hl 0 rfl) ?_
  refine lv_istore_n (lv' := [(3, .int (nI i)), (2, .int (nI i)), (0, .ref (q 0)), (1, .int (x))]) hx hb dX2_remove_12 rfl hl (by decide) rfl (fun ls hl => ?_)
  have L_13 : ∀ (z : Nat) (k : Nat) (f : Nat → Int32), (i ≤ k ∧ k ≤ n - 1) → (f = rDel m i k) → (n - k) < z → ∀ (H : Heap) (locs : List Loc), va_P D vwCl [((q 0), .inr (2, [.ref (q 1), .int (nI n)])), ((q 1), .inl (cI, cap, .inl f))] H → va_D A [((q 0), .inr (2, [.ref (q 1), .int (nI n)])), ((q 1), .inl (cI, cap, .inl f))] → va_S A s.heap H locs → ∀ ls : Array Slot, lv_has ls 4 [(3, .int (nI k)), (2, .int (nI i)), (0, .ref (q 0)), (1, .int (x))] → W p l e rmX2_remove s mm args below meth c H locs 0 0 Q (F0 mm 13 ls []) := by
    intro z
    induction z with
    | zero =>
      intro k f _ _ hz
      exact absurd hz (Nat.not_lt_zero _)
    | succ z ih_13 =>
      intro k f hk hf hz H locs hP hD hS ls hl
      refine lv_iload_n hx hb dX2_remove_13 rfl (lv_at hl 0 rfl) ?_
      refine lv_aload_n hx hb dX2_remove_14 rfl (lv_at hl 2 rfl) ?_
      refine va_get (D := D) (ci := 2) (v := .int (nI n)) (C := RX2) (T := TX2) (N := 2) hx hb hts inwX2_remove_X2 hown hK hP 0 rfl rfl 1 (by decide) fl21 (fun _ h9 => h9) rfl dX2_remove_15 ?_
      refine lv_iconst (v := nI 1) hx hb dX2_remove_18 (by decide) ?_
      refine lv_isub hx hb dX2_remove_19 ?_
      refine kb_top (nI (n - 1)) (pk_sub (by omega)) ?_
      refine kb_icmp_ge (tgt := 54) hx hb dX2_remove_20 (by decide) (by omega) (by omega) (fun c20 => ?_) (fun c20 => ?_)
      · have hf : f = rDel m i (n - 1) := by rw [hf, show k = n - 1 by omega]
        subst hf
        refine lv_aload_n hx hb dX2_remove_54 rfl (lv_at hl 2 rfl) ?_
        refine lv_dup hx hb dX2_remove_55 rfl ?_
        refine va_get (D := D) (ci := 2) (v := .int (nI n)) (C := RX2) (T := TX2) (N := 2) hx hb hts inwX2_remove_X2 hown hK hP 0 rfl rfl 1 (by decide) fl21 (fun _ h9 => h9) rfl dX2_remove_56 ?_
        refine lv_iconst (v := nI 1) hx hb dX2_remove_59 (by decide) ?_
        refine lv_isub hx hb dX2_remove_60 ?_
        refine kb_top (nI (n - 1)) (pk_sub (by omega)) ?_
        refine va_put (D := D) (ci := 2) (v := .int (nI (n - 1))) (ty := .int) (C := RX2) (T := TX2) (N := 2) hx hb hts inwX2_remove_X2 tyX2 tyX2_ok nmX2 hown hK hP hD hS 0 rfl rfl 1 (by decide) fl21 (fun _ h9 => h9) rfl (by decide +kernel) rfl rfl (Nat.le_of_ble_eq_true rfl) dX2_remove_61 (fun H locs hP hD hS => ?_)
        have hP : va_P D vwCl [((q 0), .inr (2, [.ref (q 1), .int (nI (n - 1))])), ((q 1), .inl (cI, cap, .inl (rDel m i (n - 1))))] H := hP
        have hD : va_D A [((q 0), .inr (2, [.ref (q 1), .int (nI (n - 1))])), ((q 1), .inl (cI, cap, .inl (rDel m i (n - 1))))] := hD
        exact kb_vret (D := D) hQ hx hb hr hlocks hK hP hD hS dX2_remove_64 () rfl (Nat.le_refl _) (Nat.le_refl _) (show True from trivial)
      · refine lv_iload_n hx hb dX2_remove_23 rfl (lv_at hl 0 rfl) ?_
        refine lv_aload_n hx hb dX2_remove_24 rfl (lv_at hl 2 rfl) ?_
        refine va_get (D := D) (ci := 2) (v := .ref (q 1)) (C := RX2) (T := TX2) (N := 2) hx hb hts inwX2_remove_X2 hown hK hP 0 rfl rfl 0 (by decide) fl15 (fun _ h9 => h9) rfl dX2_remove_25 ?_
        refine va_alen hx hb hK hP 1 0 rfl (ty := .int) rfl (v := nI cap) rfl dX2_remove_28 ?_
        refine lv_iconst (v := nI 1) hx hb dX2_remove_29 (by decide) ?_
        refine lv_isub hx hb dX2_remove_30 ?_
        refine kb_top (nI (cap - 1)) (pk_sub (by omega)) ?_
        refine kb_icmp_ge (tgt := 54) hx hb dX2_remove_31 (by decide) (by omega) (by omega) (fun c31 => ?_) (fun c31 => ?_)
        · exfalso; omega
        · refine lv_aload_n hx hb dX2_remove_34 rfl (lv_at hl 2 rfl) ?_
          refine va_get (D := D) (ci := 2) (v := .ref (q 1)) (C := RX2) (T := TX2) (N := 2) hx hb hts inwX2_remove_X2 hown hK hP 0 rfl rfl 0 (by decide) fl15 (fun _ h9 => h9) rfl dX2_remove_35 ?_
          refine lv_iload_n hx hb dX2_remove_38 rfl (lv_at hl 0 rfl) ?_
          refine lv_aload_n hx hb dX2_remove_39 rfl (lv_at hl 2 rfl) ?_
          refine va_get (D := D) (ci := 2) (v := .ref (q 1)) (C := RX2) (T := TX2) (N := 2) hx hb hts inwX2_remove_X2 hown hK hP 0 rfl rfl 0 (by decide) fl15 (fun _ h9 => h9) rfl dX2_remove_40 ?_
          refine lv_iload_n hx hb dX2_remove_43 rfl (lv_at hl 0 rfl) ?_
          refine lv_iconst (v := nI 1) hx hb dX2_remove_44 (by decide) ?_
          refine lv_iadd hx hb dX2_remove_45 ?_
          refine kb_top (nI (k + 1)) (nI_add k 1) ?_
          refine kb_iald hx hb hK hP 1 0 rfl rfl (by omega) (by omega) dX2_remove_46 ?_
          refine kb_iast hx hb hK hP hD hS 1 0 rfl rfl (by omega) (by omega) dX2_remove_47 (fun H locs hP hD hS => ?_)
          have hP : va_P D vwCl [((q 0), .inr (2, [.ref (q 1), .int (nI n)])), ((q 1), .inl (cI, cap, .inl (upd f k (f (k + 1)))))] H := hP
          have hD : va_D A [((q 0), .inr (2, [.ref (q 1), .int (nI n)])), ((q 1), .inl (cI, cap, .inl (upd f k (f (k + 1)))))] := hD
          refine lv_iinc (v := nI (k + 1)) (lv' := [(3, .int (nI (k + 1))), (2, .int (nI i)), (0, .ref (q 0)), (1, .int (x))]) hx hb dX2_remove_48 hl (k := 0) rfl (kb_inc1 k) (by decide) rfl (fun ls hl => ?_)
          refine lv_goto (tgt := 13) hx hb dX2_remove_51 (by decide) ?_
          exact ih_13 (k + 1) (upd f k (f (k + 1))) (by omega) (by rw [hf]; exact rDel_s m hk.1) (by omega) _ _ hP hD hS _ (lv_sub hl [0, 1, 2, 3] rfl)
  exact L_13 ((n - i) + 1) i m (by omega) (rDel_0 m i).symm (Nat.lt_succ_self _) _ _ hP hD hS _ (lv_sub hl [0, 1, 2, 3] rfl)
set_option maxHeartbeats 4000000 in
set_option maxRecDepth 100000 in
theorem c_X2_remove0 (l : Launch) (D : va_G) (cI : ClassId) (q : Nat → Nat) (cap : Nat) (m : Nat → Int32) (n : Nat) (x : Int32) (hu : ∀ j, j < n → m j ≠ x) (hn : n ≤ cap) (hc : cap ≤ 30) : kb_V (S := Unit) D [(cI, .int)] l yX2_remove wsX2_remove rmX2_remove [.ref (q 0), .int (x)] [((q 0), .inr (2, [.ref (q 1), .int (nI n)])), ((q 1), .inl (cI, cap, .inl m))] (fun (u : Unit) => True) (fun (u : Unit) => [((q 0), .inr (2, [.ref (q 1), .int (nI n)])), ((q 1), .inl (cI, cap, .inl m))]) 0 0 := by
  refine kb_V_of (cc := cX2_remove) (maxL := 4) (ret := none) (by decide) rfl (Nat.le_of_ble_eq_true rfl) ?_
  intro p e s mm args below meth c A hx hb hml hr hts hown hlocks hnm hA hN hK hP hD hS ls hl Q hQ
  have hl : lv_has ls 4 [(0, .ref (q 0)), (1, .int (x))] := hl
  have hP : va_P D vwCl [((q 0), .inr (2, [.ref (q 1), .int (nI n)])), ((q 1), .inl (cI, cap, .inl m))] s.heap := hP
  have hD : va_D A [((q 0), .inr (2, [.ref (q 1), .int (nI n)])), ((q 1), .inl (cI, cap, .inl m))] := hD
  have fl21 := hts (.fieldLink RX2 21 "KingsBanquet$Row" "size" "I") (by decide +kernel)
  have fl15 := hts (.fieldLink RX2 15 "KingsBanquet$Row" "members" "[I") (by decide +kernel)
  refine lv_aload_n hx hb dX2_remove_0 rfl (lv_at hl 0 rfl) ?_
  refine lv_iload_n hx hb dX2_remove_1 rfl (lv_at hl 1 rfl) ?_
  refine kb_vR (As := [.int (x)]) (rest := []) hx hb hml hts hown hN hK hP hD hS hA (c_X2_placeOf l D cI q cap m n x (by first | assumption | omega) (by first | assumption | omega)) gX2_remove_X2_placeOf rfl ⟨rfl, rfl⟩ hdX2_placeOf ⟨Nat.le_of_ble_eq_true rfl, Nat.le_of_ble_eq_true rfl⟩ [0, 1] [0] rfl rfl rfl (ci := 2) rfl rfl rfl rfl rfl hl.1 (Nat.le_of_ble_eq_true rfl) dX2_remove_2 ⟨Nat.zero_le _, Nat.zero_le _⟩ (fun H locs hP hS => ?_)
  refine kb_top ((-5)) (rFind_out hu) ?_
  refine lv_istore_n (lv' := [(2, .int ((-5))), (0, .ref (q 0)), (1, .int (x))]) hx hb dX2_remove_5 rfl hl (by decide) rfl (fun ls hl => ?_)
  refine lv_iload_n hx hb dX2_remove_6 rfl (lv_at hl 0 rfl) ?_
  refine lv_if_ge (tgt := 11) hx hb dX2_remove_7 (by decide) (fun c => absurd c (by decide)) (fun _ => ?_)
  exact kb_vret (D := D) hQ hx hb hr hlocks hK hP hD hS dX2_remove_10 () rfl (Nat.le_refl _) (Nat.le_refl _) (show True from trivial)
abbrev rmX2_changeNeighbours : Room := { frames := 0, cells := 0, slots := 0, locals := 0 }
theorem hdX2_changeNeighbours : yX2_changeNeighbours.cls = RX2 ∧ yX2_changeNeighbours.cls ≠ "java/lang/invoke/MethodHandle" ∧ yX2_changeNeighbours.cls ≠ "java/lang/invoke/VarHandle" ∧ (parseMethodDescriptor yX2_changeNeighbours.desc).map (fun d => d.parameters.length) = some 1 := by decide +kernel
theorem inwX2_changeNeighbours_X2 : ∀ w ∈ wsX20, w ∈ wsX2_changeNeighbours := fun w h => List.mem_cons_of_mem _ (List.mem_append_right _ h)
set_option maxHeartbeats 4000000 in
set_option maxRecDepth 100000 in
theorem c_X2_changeNeighbours (l : Launch) (D : va_G) (cI : ClassId) (q : Nat → Nat) (cap : Nat) (m : Nat → Int32) (n : Nat) (i : Nat) (hi : i + 1 < n) (hn : n ≤ cap) (hc : cap ≤ 30) : kb_V (S := Unit) D [(cI, .int)] l yX2_changeNeighbours wsX2_changeNeighbours rmX2_changeNeighbours [.ref (q 0), .int (nI i)] [((q 0), .inr (2, [.ref (q 1), .int (nI n)])), ((q 1), .inl (cI, cap, .inl m))] (fun (u : Unit) => True) (fun (u : Unit) => [((q 0), .inr (2, [.ref (q 1), .int (nI n)])), ((q 1), .inl (cI, cap, .inl (rSw m i)))]) 0 0 := by
  refine kb_V_of (cc := cX2_changeNeighbours) (maxL := 3) (ret := none) (by decide) rfl (Nat.le_of_ble_eq_true rfl) ?_
  intro p e s mm args below meth c A hx hb hml hr hts hown hlocks hnm hA hN hK hP hD hS ls hl Q hQ
  have hl : lv_has ls 3 [(0, .ref (q 0)), (1, .int (nI i))] := hl
  have hP : va_P D vwCl [((q 0), .inr (2, [.ref (q 1), .int (nI n)])), ((q 1), .inl (cI, cap, .inl m))] s.heap := hP
  have hD : va_D A [((q 0), .inr (2, [.ref (q 1), .int (nI n)])), ((q 1), .inl (cI, cap, .inl m))] := hD
  have fl21 := hts (.fieldLink RX2 21 "KingsBanquet$Row" "size" "I") (by decide +kernel)
  have fl15 := hts (.fieldLink RX2 15 "KingsBanquet$Row" "members" "[I") (by decide +kernel)
  refine lv_iload_n hx hb dX2_changeNeighbours_0 rfl (lv_at hl 1 rfl) ?_
  refine kb_nif_lt (tgt := 25) hx hb dX2_changeNeighbours_1 (by decide) (by omega) ?_
  refine lv_iload_n hx hb dX2_changeNeighbours_4 rfl (lv_at hl 1 rfl) ?_
  refine lv_aload_n hx hb dX2_changeNeighbours_5 rfl (lv_at hl 0 rfl) ?_
  refine va_get (D := D) (ci := 2) (v := .int (nI n)) (C := RX2) (T := TX2) (N := 2) hx hb hts inwX2_changeNeighbours_X2 hown hK hP 0 rfl rfl 1 (by decide) fl21 (fun _ h9 => h9) rfl dX2_changeNeighbours_6 ?_
  refine lv_iconst (v := nI 1) hx hb dX2_changeNeighbours_9 (by decide) ?_
  refine lv_isub hx hb dX2_changeNeighbours_10 ?_
  refine kb_top (nI (n - 1)) (pk_sub (by omega)) ?_
  refine kb_icmp_ge (tgt := 25) hx hb dX2_changeNeighbours_11 (by decide) (by omega) (by omega) (fun c11 => ?_) (fun c11 => ?_)
  · exfalso; omega
  · refine lv_iload_n hx hb dX2_changeNeighbours_14 rfl (lv_at hl 1 rfl) ?_
    refine lv_aload_n hx hb dX2_changeNeighbours_15 rfl (lv_at hl 0 rfl) ?_
    refine va_get (D := D) (ci := 2) (v := .ref (q 1)) (C := RX2) (T := TX2) (N := 2) hx hb hts inwX2_changeNeighbours_X2 hown hK hP 0 rfl rfl 0 (by decide) fl15 (fun _ h9 => h9) rfl dX2_changeNeighbours_16 ?_
    refine va_alen hx hb hK hP 1 0 rfl (ty := .int) rfl (v := nI cap) rfl dX2_changeNeighbours_19 ?_
    refine lv_iconst (v := nI 1) hx hb dX2_changeNeighbours_20 (by decide) ?_
    refine lv_isub hx hb dX2_changeNeighbours_21 ?_
    refine kb_top (nI (cap - 1)) (pk_sub (by omega)) ?_
    refine kb_icmp_lt (tgt := 26) hx hb dX2_changeNeighbours_22 (by decide) (by omega) (by omega) (fun c22 => ?_) (fun c22 => ?_)
    · refine lv_aload_n hx hb dX2_changeNeighbours_26 rfl (lv_at hl 0 rfl) ?_
      refine va_get (D := D) (ci := 2) (v := .ref (q 1)) (C := RX2) (T := TX2) (N := 2) hx hb hts inwX2_changeNeighbours_X2 hown hK hP 0 rfl rfl 0 (by decide) fl15 (fun _ h9 => h9) rfl dX2_changeNeighbours_27 ?_
      refine lv_iload_n hx hb dX2_changeNeighbours_30 rfl (lv_at hl 1 rfl) ?_
      refine kb_iald hx hb hK hP 1 0 rfl rfl (by omega) (by omega) dX2_changeNeighbours_31 ?_
      refine lv_istore_n (lv' := [(2, .int (m i)), (0, .ref (q 0)), (1, .int (nI i))]) hx hb dX2_changeNeighbours_32 rfl hl (by decide) rfl (fun ls hl => ?_)
      refine lv_aload_n hx hb dX2_changeNeighbours_33 rfl (lv_at hl 1 rfl) ?_
      refine va_get (D := D) (ci := 2) (v := .ref (q 1)) (C := RX2) (T := TX2) (N := 2) hx hb hts inwX2_changeNeighbours_X2 hown hK hP 0 rfl rfl 0 (by decide) fl15 (fun _ h9 => h9) rfl dX2_changeNeighbours_34 ?_
      refine lv_iload_n hx hb dX2_changeNeighbours_37 rfl (lv_at hl 2 rfl) ?_
      refine lv_aload_n hx hb dX2_changeNeighbours_38 rfl (lv_at hl 1 rfl) ?_
      refine va_get (D := D) (ci := 2) (v := .ref (q 1)) (C := RX2) (T := TX2) (N := 2) hx hb hts inwX2_changeNeighbours_X2 hown hK hP 0 rfl rfl 0 (by decide) fl15 (fun _ h9 => h9) rfl dX2_changeNeighbours_39 ?_
      refine lv_iload_n hx hb dX2_changeNeighbours_42 rfl (lv_at hl 2 rfl) ?_
      refine lv_iconst (v := nI 1) hx hb dX2_changeNeighbours_43 (by decide) ?_
      refine lv_iadd hx hb dX2_changeNeighbours_44 ?_
      refine kb_top (nI (i + 1)) (nI_add i 1) ?_
      refine kb_iald hx hb hK hP 1 0 rfl rfl (by omega) (by omega) dX2_changeNeighbours_45 ?_
      refine kb_iast hx hb hK hP hD hS 1 0 rfl rfl (by omega) (by omega) dX2_changeNeighbours_46 (fun H locs hP hD hS => ?_)
      have hP : va_P D vwCl [((q 0), .inr (2, [.ref (q 1), .int (nI n)])), ((q 1), .inl (cI, cap, .inl (upd m i (m (i + 1)))))] H := hP
      have hD : va_D A [((q 0), .inr (2, [.ref (q 1), .int (nI n)])), ((q 1), .inl (cI, cap, .inl (upd m i (m (i + 1)))))] := hD
      refine lv_aload_n hx hb dX2_changeNeighbours_47 rfl (lv_at hl 1 rfl) ?_
      refine va_get (D := D) (ci := 2) (v := .ref (q 1)) (C := RX2) (T := TX2) (N := 2) hx hb hts inwX2_changeNeighbours_X2 hown hK hP 0 rfl rfl 0 (by decide) fl15 (fun _ h9 => h9) rfl dX2_changeNeighbours_48 ?_
      refine lv_iload_n hx hb dX2_changeNeighbours_51 rfl (lv_at hl 2 rfl) ?_
      refine lv_iconst (v := nI 1) hx hb dX2_changeNeighbours_52 (by decide) ?_
      refine lv_iadd hx hb dX2_changeNeighbours_53 ?_
      refine kb_top (nI (i + 1)) (nI_add i 1) ?_
      refine lv_iload_n hx hb dX2_changeNeighbours_54 rfl (lv_at hl 0 rfl) ?_
      refine kb_iast hx hb hK hP hD hS 1 0 rfl rfl (by omega) (by omega) dX2_changeNeighbours_55 (fun H locs hP hD hS => ?_)
      have hP : va_P D vwCl [((q 0), .inr (2, [.ref (q 1), .int (nI n)])), ((q 1), .inl (cI, cap, .inl (upd (upd m i (m (i + 1))) (i + 1) (m i))))] H := hP
      have hD : va_D A [((q 0), .inr (2, [.ref (q 1), .int (nI n)])), ((q 1), .inl (cI, cap, .inl (upd (upd m i (m (i + 1))) (i + 1) (m i))))] := hD
      exact kb_vret (D := D) hQ hx hb hr hlocks hK hP hD hS dX2_changeNeighbours_56 () rfl (Nat.le_refl _) (Nat.le_refl _) (show True from trivial)
    · exfalso; omega
abbrev rmX2_copyFrom : Room := { frames := 2, cells := 0, slots := 0, locals := 61 }
theorem hdX2_copyFrom : yX2_copyFrom.cls = RX2 ∧ yX2_copyFrom.cls ≠ "java/lang/invoke/MethodHandle" ∧ yX2_copyFrom.cls ≠ "java/lang/invoke/VarHandle" ∧ (parseMethodDescriptor yX2_copyFrom.desc).map (fun d => d.parameters.length) = some 1 := by decide +kernel
theorem inwX2_copyFrom_X2 : ∀ w ∈ wsX20, w ∈ wsX2_copyFrom := fun w h => List.mem_cons_of_mem _ (List.mem_append_right _ h)
set_option maxHeartbeats 4000000 in
set_option maxRecDepth 100000 in
theorem c_X2_copyFrom (l : Launch) (D : va_G) (cI : ClassId) (q : Nat → Nat) (cap : Nat) (m : Nat → Int32) (n : Nat) (q2 : Nat → Nat) (m2 : Nat → Int32) (n2 : Nat) (hn : n2 ≤ cap) (hc : cap ≤ 30) : kb_V (S := Unit) D [(cI, .int)] l yX2_copyFrom wsX2_copyFrom rmX2_copyFrom [.ref (q 0), .ref (q2 0)] [((q 0), .inr (2, [.ref (q 1), .int (nI n)])), ((q 1), .inl (cI, cap, .inl m)), ((q2 0), .inr (2, [.ref (q2 1), .int (nI n2)])), ((q2 1), .inl (cI, cap, .inl m2))] (fun (u : Unit) => True) (fun (u : Unit) => [((q 0), .inr (2, [.ref (q 1), .int (nI n2)])), ((q 1), .inl (cI, cap, .inl m2)), ((q2 0), .inr (2, [.ref (q2 1), .int (nI n2)])), ((q2 1), .inl (cI, cap, .inl m2))]) 0 0 := by
  refine kb_V_of (cc := cX2_copyFrom) (maxL := 2) (ret := none) (by decide) rfl (Nat.le_of_ble_eq_true rfl) ?_
  intro p e s mm args below meth c A hx hb hml hr hts hown hlocks hnm hA hN hK hP hD hS ls hl Q hQ
  have hl : lv_has ls 2 [(0, .ref (q 0)), (1, .ref (q2 0))] := hl
  have hP : va_P D vwCl [((q 0), .inr (2, [.ref (q 1), .int (nI n)])), ((q 1), .inl (cI, cap, .inl m)), ((q2 0), .inr (2, [.ref (q2 1), .int (nI n2)])), ((q2 1), .inl (cI, cap, .inl m2))] s.heap := hP
  have hD : va_D A [((q 0), .inr (2, [.ref (q 1), .int (nI n)])), ((q 1), .inl (cI, cap, .inl m)), ((q2 0), .inr (2, [.ref (q2 1), .int (nI n2)])), ((q2 1), .inl (cI, cap, .inl m2))] := hD
  have fl15 := hts (.fieldLink RX2 15 "KingsBanquet$Row" "members" "[I") (by decide +kernel)
  have fl21 := hts (.fieldLink RX2 21 "KingsBanquet$Row" "size" "I") (by decide +kernel)
  refine lv_aload_n hx hb dX2_copyFrom_0 rfl (lv_at hl 1 rfl) ?_
  refine va_get (D := D) (ci := 2) (v := .ref (q2 1)) (C := RX2) (T := TX2) (N := 2) hx hb hts inwX2_copyFrom_X2 hown hK hP 2 rfl rfl 0 (by decide) fl15 (fun _ h9 => h9) rfl dX2_copyFrom_1 ?_
  refine lv_aload_n hx hb dX2_copyFrom_4 rfl (lv_at hl 0 rfl) ?_
  refine va_get (D := D) (ci := 2) (v := .ref (q 1)) (C := RX2) (T := TX2) (N := 2) hx hb hts inwX2_copyFrom_X2 hown hK hP 0 rfl rfl 0 (by decide) fl15 (fun _ h9 => h9) rfl dX2_copyFrom_5 ?_
  refine kb_nV (As := [.ref (q2 1), .ref (q 1)]) (rest := []) hx hb hml hts hown hN hK hP hD hS hA (c_X4_copyNumbers l D cI (q2 1) (q 1) cap m2 m (by first | assumption | omega)) gX2_copyFrom_X4_copyNumbers_n25 rfl ⟨rfl, rfl⟩ hN.1 (hts (.initialized RX4) (by decide +kernel)) (hts (.static yX4_copyNumbers) (by decide +kernel)) hdX4_copyNumbers.2 ⟨Nat.le_of_ble_eq_true rfl, Nat.le_of_ble_eq_true rfl⟩ [3, 1] [0] rfl rfl rfl (fun _ => rfl) rfl rfl hl.1 (Nat.le_of_ble_eq_true rfl) dX2_copyFrom_8 ⟨Nat.zero_le _, Nat.zero_le _⟩ (fun u H locs hw_8 hP hD hS => ?_)
  have hw_8 : True := hw_8
  have hP : va_P D vwCl [((q 0), .inr (2, [.ref (q 1), .int (nI n)])), ((q 1), .inl (cI, cap, .inl m2)), ((q2 0), .inr (2, [.ref (q2 1), .int (nI n2)])), ((q2 1), .inl (cI, cap, .inl m2))] H := hP
  have hD : va_D A [((q 0), .inr (2, [.ref (q 1), .int (nI n)])), ((q 1), .inl (cI, cap, .inl m2)), ((q2 0), .inr (2, [.ref (q2 1), .int (nI n2)])), ((q2 1), .inl (cI, cap, .inl m2))] := hD
  refine lv_aload_n hx hb dX2_copyFrom_11 rfl (lv_at hl 0 rfl) ?_
  refine lv_aload_n hx hb dX2_copyFrom_12 rfl (lv_at hl 1 rfl) ?_
  refine va_get (D := D) (ci := 2) (v := .int (nI n2)) (C := RX2) (T := TX2) (N := 2) hx hb hts inwX2_copyFrom_X2 hown hK hP 2 rfl rfl 1 (by decide) fl21 (fun _ h9 => h9) rfl dX2_copyFrom_13 ?_
  refine lv_aload_n hx hb dX2_copyFrom_16 rfl (lv_at hl 0 rfl) ?_
  refine va_get (D := D) (ci := 2) (v := .ref (q 1)) (C := RX2) (T := TX2) (N := 2) hx hb hts inwX2_copyFrom_X2 hown hK hP 0 rfl rfl 0 (by decide) fl15 (fun _ h9 => h9) rfl dX2_copyFrom_17 ?_
  refine va_alen hx hb hK hP 1 0 rfl (ty := .int) rfl (v := nI cap) rfl dX2_copyFrom_20 ?_
  refine va_mmin hx hb (hml.trans hl.1.symm) hown (hts (.methodLink RX2 29 Lib.Math.min.name) (by decide +kernel)) (hts (.static Lib.Math.min.name) (by decide +kernel)) (hts (.initialized "java/lang/Math") (by decide +kernel)) (hts (.code Lib.Math.min.name Lib.Math.min.code 2 (some .int)) (by decide +kernel)) (Nat.le_of_ble_eq_true rfl) (Nat.le_of_ble_eq_true rfl) (Nat.zero_le _) (Nat.zero_le _) dX2_copyFrom_21 ?_
  refine kb_top (nI n2) (if_neg (nI_nlt hn (by omega))) ?_
  refine va_put (D := D) (ci := 2) (v := .int (nI n2)) (ty := .int) (C := RX2) (T := TX2) (N := 2) hx hb hts inwX2_copyFrom_X2 tyX2 tyX2_ok nmX2 hown hK hP hD hS 0 rfl rfl 1 (by decide) fl21 (fun _ h9 => h9) rfl (by decide +kernel) rfl rfl (Nat.le_of_ble_eq_true rfl) dX2_copyFrom_24 (fun H locs hP hD hS => ?_)
  have hP : va_P D vwCl [((q 0), .inr (2, [.ref (q 1), .int (nI n2)])), ((q 1), .inl (cI, cap, .inl m2)), ((q2 0), .inr (2, [.ref (q2 1), .int (nI n2)])), ((q2 1), .inl (cI, cap, .inl m2))] H := hP
  have hD : va_D A [((q 0), .inr (2, [.ref (q 1), .int (nI n2)])), ((q 1), .inl (cI, cap, .inl m2)), ((q2 0), .inr (2, [.ref (q2 1), .int (nI n2)])), ((q2 1), .inl (cI, cap, .inl m2))] := hD
  exact kb_vret (D := D) hQ hx hb hr hlocks hK hP hD hS dX2_copyFrom_27 () rfl (Nat.le_refl _) (Nat.le_refl _) (show True from trivial)
