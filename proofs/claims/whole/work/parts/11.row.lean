def rAt (m : Nat → Int32) (n : Nat) (x : Int32) : Int32 := if ¬ x < nI 0 ∧ x < nI n then m x.toNatClampNeg else -5
theorem rAt_in {m : Nat → Int32} {n j : Nat} (h : j < n) (hn : n < 2 ^ 31) : rAt m n (nI j) = m j := by
  unfold rAt
  rw [if_pos ⟨nI_nlt (Nat.zero_le j) (by omega), nI_lt h hn⟩, nI_clamp (by omega)]
theorem rAt_neg {m : Nat → Int32} {n : Nat} {x : Int32} (h : x < 0) : rAt m n x = -5 := by
  unfold rAt
  rw [if_neg (fun q => q.1 h)]
theorem rAt_out {m : Nat → Int32} {n j : Nat} (h : n ≤ j) (hj : j < 2 ^ 31) : rAt m n (nI j) = -5 := by
  unfold rAt
  rw [if_neg (fun q => nI_nlt h hj q.2)]
abbrev rmX2_size : Room := { frames := 0, cells := 0, slots := 0, locals := 0 }
theorem hdX2_size : yX2_size.cls = RX2 ∧ yX2_size.cls ≠ "java/lang/invoke/MethodHandle" ∧ yX2_size.cls ≠ "java/lang/invoke/VarHandle" ∧ (parseMethodDescriptor yX2_size.desc).map (fun d => d.parameters.length) = some 0 := by decide +kernel
theorem inwX2_size_X2 : ∀ w ∈ wsX20, w ∈ wsX2_size := fun w h => List.mem_cons_of_mem _ (List.mem_append_right _ h)
set_option maxHeartbeats 4000000 in
set_option maxRecDepth 100000 in
theorem c_X2_size (l : Launch) (D : va_G) (cI : ClassId) (q : Nat → Nat) (cap : Nat) (m : Nat → Int32) (n : Nat) : kb_R D [(cI, .int)] l yX2_size wsX2_size rmX2_size [.ref (q 0)] [((q 0), .inr (2, [.ref (q 1), .int (nI n)])), ((q 1), .inl (cI, cap, .inl m))] (nI n) := by
  refine kb_I_of (cc := cX2_size) (maxL := 1) (ret := (some .int)) (by decide) rfl (Nat.le_of_ble_eq_true rfl) ?_
  intro p e s mm args below meth c A hx hb hml hr hts hown hlocks hnm hA hN hK hP hD hS ls hl Q hQ
  have hl : lv_has ls 1 [(0, .ref (q 0))] := hl
  have hP : va_P D vwCl [((q 0), .inr (2, [.ref (q 1), .int (nI n)])), ((q 1), .inl (cI, cap, .inl m))] s.heap := hP
  have hD : va_D A [((q 0), .inr (2, [.ref (q 1), .int (nI n)])), ((q 1), .inl (cI, cap, .inl m))] := hD
  have fl21 := hts (.fieldLink RX2 21 "KingsBanquet$Row" "size" "I") (by decide +kernel)
  refine lv_aload_n hx hb dX2_size_0 rfl (lv_at hl 0 rfl) ?_
  refine va_get (D := D) (ci := 2) (v := .int (nI n)) (C := RX2) (T := TX2) (N := 2) hx hb hts inwX2_size_X2 hown hK hP 0 rfl rfl 1 (by decide) fl21 (fun _ h9 => h9) rfl dX2_size_1 ?_
  exact kb_iret (D := D) hQ hx hb hr hlocks hK hP hD hS dX2_size_4 () rfl (Nat.le_refl _) (Nat.le_refl _) (show nI n = nI n from rfl)
abbrev rmX2_at : Room := { frames := 0, cells := 0, slots := 0, locals := 0 }
theorem hdX2_at : yX2_at.cls = RX2 ∧ yX2_at.cls ≠ "java/lang/invoke/MethodHandle" ∧ yX2_at.cls ≠ "java/lang/invoke/VarHandle" ∧ (parseMethodDescriptor yX2_at.desc).map (fun d => d.parameters.length) = some 1 := by decide +kernel
theorem inwX2_at_X2 : ∀ w ∈ wsX20, w ∈ wsX2_at := fun w h => List.mem_cons_of_mem _ (List.mem_append_right _ h)
set_option maxHeartbeats 4000000 in
set_option maxRecDepth 100000 in
theorem c_X2_at (l : Launch) (D : va_G) (cI : ClassId) (q : Nat → Nat) (cap : Nat) (m : Nat → Int32) (n : Nat) (x : Int32) (hn : n ≤ cap) (hc : cap ≤ 30) : kb_R D [(cI, .int)] l yX2_at wsX2_at rmX2_at [.ref (q 0), .int (x)] [((q 0), .inr (2, [.ref (q 1), .int (nI n)])), ((q 1), .inl (cI, cap, .inl m))] (rAt m n x) := by
  refine kb_I_of (cc := cX2_at) (maxL := 2) (ret := (some .int)) (by decide) rfl (Nat.le_of_ble_eq_true rfl) ?_
  intro p e s mm args below meth c A hx hb hml hr hts hown hlocks hnm hA hN hK hP hD hS ls hl Q hQ
  have hl : lv_has ls 2 [(0, .ref (q 0)), (1, .int (x))] := hl
  have hP : va_P D vwCl [((q 0), .inr (2, [.ref (q 1), .int (nI n)])), ((q 1), .inl (cI, cap, .inl m))] s.heap := hP
  have hD : va_D A [((q 0), .inr (2, [.ref (q 1), .int (nI n)])), ((q 1), .inl (cI, cap, .inl m))] := hD
  have fl21 := hts (.fieldLink RX2 21 "KingsBanquet$Row" "size" "I") (by decide +kernel)
  have fl15 := hts (.fieldLink RX2 15 "KingsBanquet$Row" "members" "[I") (by decide +kernel)
  rcases kb_sgn x with hneg_x | ⟨x', h_x, rfl⟩
  · refine lv_iload_n hx hb dX2_at_0 rfl (lv_at hl 1 rfl) ?_
    refine lv_if_lt (tgt := 30) hx hb dX2_at_1 (by decide) (fun _ => ?_) (fun c => absurd hneg_x c)
    refine lv_bipush (v := (-5)) hx hb dX2_at_30 (by decide) ?_
    exact kb_iret (D := D) hQ hx hb hr hlocks hK hP hD hS dX2_at_32 () rfl (Nat.le_refl _) (Nat.le_refl _) (show (-5) = rAt m n x from (rAt_neg hneg_x).symm)
  · refine lv_iload_n hx hb dX2_at_0 rfl (lv_at hl 1 rfl) ?_
    refine kb_nif_lt (tgt := 30) hx hb dX2_at_1 (by decide) (by omega) ?_
    refine lv_iload_n hx hb dX2_at_4 rfl (lv_at hl 1 rfl) ?_
    refine lv_aload_n hx hb dX2_at_5 rfl (lv_at hl 0 rfl) ?_
    refine va_get (D := D) (ci := 2) (v := .int (nI n)) (C := RX2) (T := TX2) (N := 2) hx hb hts inwX2_at_X2 hown hK hP 0 rfl rfl 1 (by decide) fl21 (fun _ h9 => h9) rfl dX2_at_6 ?_
    refine kb_icmp_ge (tgt := 30) hx hb dX2_at_9 (by decide) (by omega) (by omega) (fun c9 => ?_) (fun c9 => ?_)
    · refine lv_bipush (v := (-5)) hx hb dX2_at_30 (by decide) ?_
      exact kb_iret (D := D) hQ hx hb hr hlocks hK hP hD hS dX2_at_32 () rfl (Nat.le_refl _) (Nat.le_refl _) (show (-5) = rAt m n (nI x') from (rAt_out (by omega) h_x).symm)
    · refine lv_iload_n hx hb dX2_at_12 rfl (lv_at hl 1 rfl) ?_
      refine lv_aload_n hx hb dX2_at_13 rfl (lv_at hl 0 rfl) ?_
      refine va_get (D := D) (ci := 2) (v := .ref (q 1)) (C := RX2) (T := TX2) (N := 2) hx hb hts inwX2_at_X2 hown hK hP 0 rfl rfl 0 (by decide) fl15 (fun _ h9 => h9) rfl dX2_at_14 ?_
      refine va_alen hx hb hK hP 1 0 rfl (ty := .int) rfl (v := nI cap) rfl dX2_at_17 ?_
      refine kb_icmp_ge (tgt := 30) hx hb dX2_at_18 (by decide) (by omega) (by omega) (fun c18 => ?_) (fun c18 => ?_)
      · refine lv_bipush (v := (-5)) hx hb dX2_at_30 (by decide) ?_
        exact kb_iret (D := D) hQ hx hb hr hlocks hK hP hD hS dX2_at_32 () rfl (Nat.le_refl _) (Nat.le_refl _) (show (-5) = rAt m n (nI x') from (rAt_out (by omega) h_x).symm)
      · refine lv_aload_n hx hb dX2_at_21 rfl (lv_at hl 0 rfl) ?_
        refine va_get (D := D) (ci := 2) (v := .ref (q 1)) (C := RX2) (T := TX2) (N := 2) hx hb hts inwX2_at_X2 hown hK hP 0 rfl rfl 0 (by decide) fl15 (fun _ h9 => h9) rfl dX2_at_22 ?_
        refine lv_iload_n hx hb dX2_at_25 rfl (lv_at hl 1 rfl) ?_
        refine kb_iald hx hb hK hP 1 0 rfl rfl (by omega) (by omega) dX2_at_26 ?_
        refine lv_goto (tgt := 32) hx hb dX2_at_27 (by decide) ?_
        exact kb_iret (D := D) hQ hx hb hr hlocks hK hP hD hS dX2_at_32 () rfl (Nat.le_refl _) (Nat.le_refl _) (show m x' = rAt m n (nI x') from (rAt_in c9 (by omega)).symm)
def rPos (m : Nat → Int32) (n : Nat) (x : Int32) : Nat → Nat
  | 0 => n
  | k + 1 => if m (n - (k + 1)) = x then n - (k + 1) else rPos m n x k
