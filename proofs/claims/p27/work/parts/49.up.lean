theorem nI_nat {n : Nat} (h : n < 2 ^ 32) : (nI n).toBitVec.toNat = n := by
  show (BitVec.ofInt 32 ((n : Nat) : Int)).toNat = n
  rw [BitVec.toNat_ofInt]
  omega
theorem up_and (v : Int32) : v &&& nI 2147483647 = nI (v.toBitVec.toNat % 2 ^ 31) := by
  apply Int32.toBitVec_inj.mp
  apply BitVec.eq_of_toNat_eq
  have h := Nat.mod_lt v.toBitVec.toNat (show 0 < 2 ^ 31 by decide)
  rw [nI_nat (by omega)]
  show (v.toBitVec &&& (nI 2147483647).toBitVec).toNat = _
  rw [BitVec.toNat_and, nI_nat (by decide)]
  exact Nat.and_two_pow_sub_one_eq_mod _ 31
def upN (v : Int32) (n : Nat) : Nat := v.toBitVec.toNat % 2 ^ 31 % n
theorem upN_lt {v : Int32} {n : Nat} (h : 0 < n) : upN v n < n := Nat.mod_lt _ h
theorem i2c_n {y : Nat} (h : y < 65536) : ((nI y).toUInt32 % 65536).toInt32 = nI y := by
  apply Int32.toBitVec_inj.mp
  apply BitVec.eq_of_toNat_eq
  rw [nI_nat (by omega)]
  show ((nI y).toUInt32 % 65536).toNat = y
  rw [UInt32.toNat_mod]
  have e : (nI y).toUInt32.toNat = y := nI_nat (by omega)
  rw [e]
  exact Nat.mod_eq_of_lt h
theorem nI_n0 {n : Nat} (h : 0 < n) (h2 : n < 2 ^ 31) : ¬ nI n = 0 := fun z => by
  have := (nI_eq h2 (by decide)).mp (z.trans nI_0.symm)
  omega
abbrev rmL_up : Room := { frames := 0, cells := 0, slots := 0, locals := 0 }
theorem hdL_up : yL_up.cls = RL ∧ yL_up.cls ≠ "java/lang/invoke/MethodHandle" ∧ yL_up.cls ≠ "java/lang/invoke/VarHandle" ∧ (parseMethodDescriptor yL_up.desc).map (fun d => d.parameters.length) = some 2 := by decide +kernel
set_option maxHeartbeats 4000000 in
set_option maxRecDepth 100000 in
theorem c_L_up (l : Launch) (D : va_G) (v : Int32) (n : Nat) (h0 : 0 < n) (hn : n < 2 ^ 31) : kb_R D [] l yL_up wsL_up rmL_up [.int (v), .int (nI n)] [] (nI (upN v n)) := by
  refine kb_I_of (cc := cL_up) (maxL := 2) (ret := (some .int)) (by decide) rfl (Nat.le_of_ble_eq_true rfl) ?_
  intro p e s mm args below meth c A hx hb hml hr hts hown hlocks hnm hA hN hK hP hD hS ls hl Q hQ
  have hl : lv_has ls 2 [(0, .int (v)), (1, .int (nI n))] := hl
  have hP : va_P D vwCl [] s.heap := hP
  have hD : va_D A [] := hD
  refine lv_iload_n hx hb dL_up_0 rfl (lv_at hl 0 rfl) ?_
  refine lv_ldc (v := 2147483647) hx hb hown (hts (.constant RL 8 (2147483647)) (by decide +kernel)) dL_up_1 ?_
  refine kb_top (nI 2147483647) (by decide) ?_
  refine lv_iand hx hb dL_up_3 ?_
  refine kb_top (nI (v.toBitVec.toNat % 2 ^ 31)) (up_and v) ?_
  refine lv_iload_n hx hb dL_up_4 rfl (lv_at hl 1 rfl) ?_
  refine lv_irem hx hb dL_up_5 (nI_n0 h0 hn) ?_
  refine kb_top (nI (upN v n)) (pk_rem (Nat.mod_lt _ (by decide)) h0 hn) ?_
  exact kb_iret (D := D) hQ hx hb hr hlocks hK hP hD hS dL_up_6 () rfl (Nat.le_refl _) (Nat.le_refl _) (show nI (upN v n) = nI (upN v n) from rfl)
abbrev rmL_cell : Room := { frames := 0, cells := 0, slots := 0, locals := 0 }
theorem hdL_cell : yL_cell.cls = RL ∧ yL_cell.cls ≠ "java/lang/invoke/MethodHandle" ∧ yL_cell.cls ≠ "java/lang/invoke/VarHandle" ∧ (parseMethodDescriptor yL_cell.desc).map (fun d => d.parameters.length) = some 2 := by decide +kernel
def ce_P (b L : Nat) (xs : Nat → Int32) (sz : Nat) : State → Prop := fun U => U.heap.size = sz ∧ b < sz ∧ va_X b L xs U U.heap
theorem ce_blind {b L : Nat} {xs : Nat → Int32} {sz : Nat} {av : List Value} : FrameBlind (va_Pc av (ce_P b L xs sz)) := fun a U g mk q => by
  obtain ⟨q0, q1, q2, qX⟩ := q
  exact ⟨q0, q1, q2, va_X.moved (u := U) (U := U.calling g mk a) (Vm.Alike.refl U.vm) qX⟩
set_option maxHeartbeats 4000000 in
theorem c_L_cell (l : Launch) (b L : Nat) (xs : Nat → Int32) (hL : L ≤ 260) (k : Nat) (hk : k < 1000) (sz : Nat) : Met l yL_cell wsL_cell rmL_cell (va_Pc [.ref b, .int (nI k)] (ce_P b L xs sz)) (va_Qi (fun (_ : Int32) (_ : Unit) => True) (fun _ _ => True) (fun q => sz ≤ q)) 0 0 (fun q => sz ≤ q) := by
  refine Met.ofW (cc := cL_cell) (maxL := 2) (ret := some .int) (by decide) rfl ?_
  intro p e s m args below meth c s₁ B hml hv
  obtain ⟨rfl, hsz, hbs, hX⟩ := hv
  have hx := B.exec
  have hb := B.bytes
  have hr := B.returns
  have hlocks := B.notSynchronized
  have hts : ∀ w ∈ wsL_cell, w.before ([Value.ref b, Value.int (nI k)].toArray) s = true := atoms_spec (ws := wsL_cell) B.pre
  have hown := findClass_of_methodNamed B.named
  rw [lg_entry_eq]
  have hS : va_S (fun q => sz ≤ q) s.heap s.heap [] := va_S.rf
  have hbl : b < s.heap.size := by omega
  have hbA : ¬ sz ≤ b := by omega
  have fin : ∀ (ls : Array Slot) (v : Int32), W p l e (headSpec wsL_cell rmL_cell).room s m [Value.ref b, Value.int (nI k)].toArray below meth c s.heap [] 0 0 (MQ below (va_Qi (fun (_ : Int32) (_ : Unit) => True) (fun _ _ => True) (fun q => sz ≤ q)) [Value.ref b, Value.int (nI k)].toArray s 0 0 (fun q => sz ≤ q)) (F0 m 20 ls [.int v]) := fun ls v =>
    W.iret hx hb hr (fun t ht _ => ⟨⟨v, (), rfl, trivial, trivial⟩, by rw [ht]; exact Nat.le_refl _, fun q _ _ => by rw [ht]⟩) (fun q h => absurd h List.not_mem_nil) dL_cell_20 hlocks
  have body : ∀ ls : Array Slot, lv_has ls 2 (lv_args 0 [Value.ref b, Value.int (nI k)]) → W p l e (headSpec wsL_cell rmL_cell).room s m [Value.ref b, Value.int (nI k)].toArray below meth c s.heap [] 0 0 (MQ below (va_Qi (fun (_ : Int32) (_ : Unit) => True) (fun _ _ => True) (fun q => sz ≤ q)) [Value.ref b, Value.int (nI k)].toArray s 0 0 (fun q => sz ≤ q)) (F0 m 0 ls []) := by
    intro ls hl
    have hl : lv_has ls 2 [(0, .ref b), (1, .int (nI k))] := hl
    refine lv_iload_n hx hb dL_cell_0 rfl (lv_at hl 1 rfl) ?_
    refine lv_aload_n hx hb dL_cell_1 rfl (lv_at hl 0 rfl) ?_
    refine va_slen hx hb hX hbl hbA hS dL_cell_2 ?_
    refine kb_icmp_ge (tgt := 12) hx hb dL_cell_3 (by decide) (by omega) (by omega) (fun c3 => ?_) (fun c3 => ?_)
    · refine lv_ldc (v := 2144854985) hx hb hown (hts (.constant RL 7 (2144854985)) (by decide +kernel)) dL_cell_12 ?_
      refine lv_iload_n hx hb dL_cell_14 rfl (lv_at hl 1 rfl) ?_
      refine lv_sipush (v := nI 1433) hx hb dL_cell_15 (by decide) ?_
      refine lv_iadd hx hb dL_cell_18 ?_
      refine lv_imul hx hb dL_cell_19 ?_
      exact fin _ _
    · refine lv_aload_n hx hb dL_cell_6 rfl (lv_at hl 0 rfl) ?_
      refine lv_iload_n hx hb dL_cell_7 rfl (lv_at hl 1 rfl) ?_
      refine va_sld hx hb hX hbl hbA hS (vp_in_nI c3 (by omega)) dL_cell_8 ?_
      refine lv_goto (tgt := 20) hx hb dL_cell_9 (by decide) ?_
      exact fin _ _
  exact body _ (lv_entry _ (Nat.le_of_ble_eq_true rfl))
abbrev rmL_number : Room := { frames := 2, cells := 0, slots := 0, locals := 42 }
theorem hdL_number : yL_number.cls = RL ∧ yL_number.cls ≠ "java/lang/invoke/MethodHandle" ∧ yL_number.cls ≠ "java/lang/invoke/VarHandle" ∧ (parseMethodDescriptor yL_number.desc).map (fun d => d.parameters.length) = some 2 := by decide +kernel
theorem inwL_number_X4 : ∀ w ∈ wsX40, w ∈ wsL_number := fun w h => List.mem_cons_of_mem _ (List.mem_append_left _ (List.mem_append_right _ h))
theorem inwL_number_X0 : ∀ w ∈ wsX00, w ∈ wsL_number := fun w h => List.mem_cons_of_mem _ (List.mem_append_right _ h)
set_option maxHeartbeats 40000000 in
set_option maxRecDepth 100000 in
theorem c_L_number (l : Launch) (D : va_G) (cI cC cS : ClassId) (a : Nat → Nat) {u : KBS} {m : Mo} (hin : bI u m) (x : Nat) (hx9 : x ≤ 9999) (hn : mo_n m + dgN x ≤ 60) : kb_I (S := KBS) D [(cI, .int), (cC, .char), (cS, .object RX3)] l yL_number wsL_number rmL_number [.ref (a 0), .int (nI x)] (bW cI cC cS a u) (fun (r : Int32) (v : KBS) => r = nI 1 ∧ bI v (moTs m (dgs x))) (bW cI cC cS a) 0 0 := by
  refine kb_I_of (cc := cL_number) (maxL := 2) (ret := (some .boolean)) (by decide) rfl (Nat.le_of_ble_eq_true rfl) ?_
  intro p e s mm args below meth c A hx hb hml hr hts hown hlocks hnm hA hN hK hP hD hS ls hl Q hQ
  have hl : lv_has ls 2 [(0, .ref (a 0)), (1, .int (nI x))] := hl
  rcases (by omega : x < 10 ∨ (10 ≤ x ∧ x < 100) ∨ (100 ≤ x ∧ x < 1000) ∨ 1000 ≤ x) with h1 | ⟨h1, h2⟩ | ⟨h1, h2⟩ | h1
  · rw [dgN_1 h1] at hn
    refine lv_iload_n hx hb dL_number_0 rfl (lv_at hl 1 rfl) ?_
    refine lv_sipush (v := nI 1000) hx hb dL_number_1 (by decide) ?_
    refine kb_icmp_lt (tgt := 23) hx hb dL_number_4 (by decide) (by omega) (by omega) (fun c4 => ?_) (fun c4 => ?_)
    · refine lv_iload_n hx hb dL_number_23 rfl (lv_at hl 1 rfl) ?_
      refine lv_bipush (v := nI 100) hx hb dL_number_24 (by decide) ?_
      refine kb_icmp_lt (tgt := 47) hx hb dL_number_26 (by decide) (by omega) (by omega) (fun c26 => ?_) (fun c26 => ?_)
      · refine lv_iload_n hx hb dL_number_47 rfl (lv_at hl 1 rfl) ?_
        refine lv_bipush (v := nI 10) hx hb dL_number_48 (by decide) ?_
        refine kb_icmp_lt (tgt := 71) hx hb dL_number_50 (by decide) (by omega) (by omega) (fun c50 => ?_) (fun c50 => ?_)
        · refine lv_aload_n hx hb dL_number_71 rfl (lv_at hl 0 rfl) ?_
          refine lv_bipush (v := nI 48) hx hb dL_number_72 (by decide) ?_
          refine lv_iload_n hx hb dL_number_74 rfl (lv_at hl 1 rfl) ?_
          refine lv_bipush (v := nI 10) hx hb dL_number_75 (by decide) ?_
          refine lv_irem hx hb dL_number_77 (by decide) ?_
          refine kb_top (nI (x % 10)) (pk_rem (by omega) (by decide) (by decide)) ?_
          refine lv_iadd hx hb dL_number_78 ?_
          refine kb_top (nI (48 + (x % 10))) (nI_add 48 (x % 10)) ?_
          refine kb_top (nI (48 + x)) (congrArg nI (by omega)) ?_
          refine lv_i2c (v := ((nI (48 + x)).toUInt32 % 65536).toInt32) hx hb dL_number_79 rfl ?_
          refine kb_top (nI (48 + x)) (i2c_n (by omega)) ?_
          refine kb_bI1 (w := bW cI cC cS a) (As := [.int (nI (48 + x))]) (rest := []) hx hb hml hts hown hN hK hP hD hS hA (b_type l D cI cC cS a hin (48 + x) (by omega)) gL_number_X4_type rfl ⟨rfl, rfl⟩ hdX4_type ⟨(Nat.le_of_ble_eq_true rfl), (Nat.le_of_ble_eq_true rfl)⟩ [0, 1, 2] rfl (ci := 4) rfl rfl rfl (fun _ => kb_blk _ _) rfl rfl hl.1 (Nat.le_of_ble_eq_true rfl) dL_number_80 ⟨(Nat.le_of_ble_eq_true rfl), (Nat.le_of_ble_eq_true rfl)⟩ (fun r u_80 H locs hw hP hD hS => ?_)
          obtain ⟨hr_80, hin⟩ := hw
          subst hr_80
          have hz_80 : mo_n (moT m (48 + x)) = mo_n m + 1 := if_pos (by omega)
          refine kb_top (nI (mo_n m + 1)) (if_pos (by omega)) ?_
          refine kb_nif_le (tgt := 90) hx hb dL_number_83 (by decide) (by omega) (fun c83 => ?_) (fun c83 => ?_)
          · exfalso; omega
          · refine lv_iconst (v := nI 1) hx hb dL_number_86 (by decide) ?_
            refine lv_goto (tgt := 91) hx hb dL_number_87 (by decide) ?_
            have hd := dgs_1 h1
            exact kb_zret (D := D) (w := bW cI cC cS a) hQ hx hb hr hlocks hK hP hD hS dL_number_91 rfl u_80 rfl (Nat.le_refl _) (Nat.le_refl _) ⟨rfl, by rw [hd]; exact hin⟩
        · exfalso; omega
      · exfalso; omega
    · exfalso; omega
  · rw [dgN_2 h1 h2] at hn
    refine lv_iload_n hx hb dL_number_0 rfl (lv_at hl 1 rfl) ?_
    refine lv_sipush (v := nI 1000) hx hb dL_number_1 (by decide) ?_
    refine kb_icmp_lt (tgt := 23) hx hb dL_number_4 (by decide) (by omega) (by omega) (fun c4 => ?_) (fun c4 => ?_)
    · refine lv_iload_n hx hb dL_number_23 rfl (lv_at hl 1 rfl) ?_
      refine lv_bipush (v := nI 100) hx hb dL_number_24 (by decide) ?_
      refine kb_icmp_lt (tgt := 47) hx hb dL_number_26 (by decide) (by omega) (by omega) (fun c26 => ?_) (fun c26 => ?_)
      · refine lv_iload_n hx hb dL_number_47 rfl (lv_at hl 1 rfl) ?_
        refine lv_bipush (v := nI 10) hx hb dL_number_48 (by decide) ?_
        refine kb_icmp_lt (tgt := 71) hx hb dL_number_50 (by decide) (by omega) (by omega) (fun c50 => ?_) (fun c50 => ?_)
        · exfalso; omega
        · refine lv_aload_n hx hb dL_number_53 rfl (lv_at hl 0 rfl) ?_
          refine lv_bipush (v := nI 48) hx hb dL_number_54 (by decide) ?_
          refine lv_iload_n hx hb dL_number_56 rfl (lv_at hl 1 rfl) ?_
          refine lv_bipush (v := nI 10) hx hb dL_number_57 (by decide) ?_
          refine lv_idiv hx hb dL_number_59 (by decide) ?_
          refine kb_top (nI (x / 10)) (pk_div (by omega) (by decide) (by decide)) ?_
          refine lv_bipush (v := nI 10) hx hb dL_number_60 (by decide) ?_
          refine lv_irem hx hb dL_number_62 (by decide) ?_
          refine kb_top (nI (x / 10 % 10)) (pk_rem (by omega) (by decide) (by decide)) ?_
          refine lv_iadd hx hb dL_number_63 ?_
          refine kb_top (nI (48 + (x / 10 % 10))) (nI_add 48 (x / 10 % 10)) ?_
          refine kb_top (nI (48 + x / 10)) (congrArg nI (by omega)) ?_
          refine lv_i2c (v := ((nI (48 + x / 10)).toUInt32 % 65536).toInt32) hx hb dL_number_64 rfl ?_
          refine kb_top (nI (48 + x / 10)) (i2c_n (by omega)) ?_
          refine kb_bI1 (w := bW cI cC cS a) (As := [.int (nI (48 + x / 10))]) (rest := []) hx hb hml hts hown hN hK hP hD hS hA (b_type l D cI cC cS a hin (48 + x / 10) (by omega)) gL_number_X4_type rfl ⟨rfl, rfl⟩ hdX4_type ⟨(Nat.le_of_ble_eq_true rfl), (Nat.le_of_ble_eq_true rfl)⟩ [0, 1, 2] rfl (ci := 4) rfl rfl rfl (fun _ => kb_blk _ _) rfl rfl hl.1 (Nat.le_of_ble_eq_true rfl) dL_number_65 ⟨(Nat.le_of_ble_eq_true rfl), (Nat.le_of_ble_eq_true rfl)⟩ (fun r u_65 H locs hw hP hD hS => ?_)
          obtain ⟨hr_65, hin⟩ := hw
          subst hr_65
          have hz_65 : mo_n (moT m (48 + x / 10)) = mo_n m + 1 := if_pos (by omega)
          refine kb_top (nI (mo_n m + 1)) (if_pos (by omega)) ?_
          refine kb_nif_le (tgt := 90) hx hb dL_number_68 (by decide) (by omega) (fun c68 => ?_) (fun c68 => ?_)
          · exfalso; omega
          · refine lv_aload_n hx hb dL_number_71 rfl (lv_at hl 0 rfl) ?_
            refine lv_bipush (v := nI 48) hx hb dL_number_72 (by decide) ?_
            refine lv_iload_n hx hb dL_number_74 rfl (lv_at hl 1 rfl) ?_
            refine lv_bipush (v := nI 10) hx hb dL_number_75 (by decide) ?_
            refine lv_irem hx hb dL_number_77 (by decide) ?_
            refine kb_top (nI (x % 10)) (pk_rem (by omega) (by decide) (by decide)) ?_
            refine lv_iadd hx hb dL_number_78 ?_
            refine kb_top (nI (48 + (x % 10))) (nI_add 48 (x % 10)) ?_
            refine kb_top (nI (48 + x % 10)) (congrArg nI (by omega)) ?_
            refine lv_i2c (v := ((nI (48 + x % 10)).toUInt32 % 65536).toInt32) hx hb dL_number_79 rfl ?_
            refine kb_top (nI (48 + x % 10)) (i2c_n (by omega)) ?_
            refine kb_bI1 (w := bW cI cC cS a) (As := [.int (nI (48 + x % 10))]) (rest := []) hx hb hml hts hown hN hK hP hD hS hA (b_type l D cI cC cS a hin (48 + x % 10) (by omega)) gL_number_X4_type rfl ⟨rfl, rfl⟩ hdX4_type ⟨(Nat.le_of_ble_eq_true rfl), (Nat.le_of_ble_eq_true rfl)⟩ [0, 1, 2] rfl (ci := 4) rfl rfl rfl (fun _ => kb_blk _ _) rfl rfl hl.1 (Nat.le_of_ble_eq_true rfl) dL_number_80 ⟨(Nat.le_of_ble_eq_true rfl), (Nat.le_of_ble_eq_true rfl)⟩ (fun r u_80_1 H locs hw hP hD hS => ?_)
            obtain ⟨hr_80, hin⟩ := hw
            subst hr_80
            have hz_80 : mo_n (moT (moT m (48 + x / 10)) (48 + x % 10)) = mo_n (moT m (48 + x / 10)) + 1 := if_pos (by omega)
            refine kb_top (nI (mo_n (moT m (48 + x / 10)) + 1)) (if_pos (by omega)) ?_
            refine kb_nif_le (tgt := 90) hx hb dL_number_83 (by decide) (by omega) (fun c83 => ?_) (fun c83 => ?_)
            · exfalso; omega
            · refine lv_iconst (v := nI 1) hx hb dL_number_86 (by decide) ?_
              refine lv_goto (tgt := 91) hx hb dL_number_87 (by decide) ?_
              have hd := dgs_2 h1 h2
              exact kb_zret (D := D) (w := bW cI cC cS a) hQ hx hb hr hlocks hK hP hD hS dL_number_91 rfl u_80_1 rfl (Nat.le_refl _) (Nat.le_refl _) ⟨rfl, by rw [hd]; exact hin⟩
      · exfalso; omega
    · exfalso; omega
  · rw [dgN_3 h1 h2] at hn
    refine lv_iload_n hx hb dL_number_0 rfl (lv_at hl 1 rfl) ?_
    refine lv_sipush (v := nI 1000) hx hb dL_number_1 (by decide) ?_
    refine kb_icmp_lt (tgt := 23) hx hb dL_number_4 (by decide) (by omega) (by omega) (fun c4 => ?_) (fun c4 => ?_)
    · refine lv_iload_n hx hb dL_number_23 rfl (lv_at hl 1 rfl) ?_
      refine lv_bipush (v := nI 100) hx hb dL_number_24 (by decide) ?_
      refine kb_icmp_lt (tgt := 47) hx hb dL_number_26 (by decide) (by omega) (by omega) (fun c26 => ?_) (fun c26 => ?_)
      · exfalso; omega
      · refine lv_aload_n hx hb dL_number_29 rfl (lv_at hl 0 rfl) ?_
        refine lv_bipush (v := nI 48) hx hb dL_number_30 (by decide) ?_
        refine lv_iload_n hx hb dL_number_32 rfl (lv_at hl 1 rfl) ?_
        refine lv_bipush (v := nI 100) hx hb dL_number_33 (by decide) ?_
        refine lv_idiv hx hb dL_number_35 (by decide) ?_
        refine kb_top (nI (x / 100)) (pk_div (by omega) (by decide) (by decide)) ?_
        refine lv_bipush (v := nI 10) hx hb dL_number_36 (by decide) ?_
        refine lv_irem hx hb dL_number_38 (by decide) ?_
        refine kb_top (nI (x / 100 % 10)) (pk_rem (by omega) (by decide) (by decide)) ?_
        refine lv_iadd hx hb dL_number_39 ?_
        refine kb_top (nI (48 + (x / 100 % 10))) (nI_add 48 (x / 100 % 10)) ?_
        refine kb_top (nI (48 + x / 100)) (congrArg nI (by omega)) ?_
        refine lv_i2c (v := ((nI (48 + x / 100)).toUInt32 % 65536).toInt32) hx hb dL_number_40 rfl ?_
        refine kb_top (nI (48 + x / 100)) (i2c_n (by omega)) ?_
        refine kb_bI1 (w := bW cI cC cS a) (As := [.int (nI (48 + x / 100))]) (rest := []) hx hb hml hts hown hN hK hP hD hS hA (b_type l D cI cC cS a hin (48 + x / 100) (by omega)) gL_number_X4_type rfl ⟨rfl, rfl⟩ hdX4_type ⟨(Nat.le_of_ble_eq_true rfl), (Nat.le_of_ble_eq_true rfl)⟩ [0, 1, 2] rfl (ci := 4) rfl rfl rfl (fun _ => kb_blk _ _) rfl rfl hl.1 (Nat.le_of_ble_eq_true rfl) dL_number_41 ⟨(Nat.le_of_ble_eq_true rfl), (Nat.le_of_ble_eq_true rfl)⟩ (fun r u_41 H locs hw hP hD hS => ?_)
        obtain ⟨hr_41, hin⟩ := hw
        subst hr_41
        have hz_41 : mo_n (moT m (48 + x / 100)) = mo_n m + 1 := if_pos (by omega)
        refine kb_top (nI (mo_n m + 1)) (if_pos (by omega)) ?_
        refine kb_nif_le (tgt := 90) hx hb dL_number_44 (by decide) (by omega) (fun c44 => ?_) (fun c44 => ?_)
        · exfalso; omega
        · refine lv_iload_n hx hb dL_number_47 rfl (lv_at hl 1 rfl) ?_
          refine lv_bipush (v := nI 10) hx hb dL_number_48 (by decide) ?_
          refine kb_icmp_lt (tgt := 71) hx hb dL_number_50 (by decide) (by omega) (by omega) (fun c50 => ?_) (fun c50 => ?_)
          · exfalso; omega
          · refine lv_aload_n hx hb dL_number_53 rfl (lv_at hl 0 rfl) ?_
            refine lv_bipush (v := nI 48) hx hb dL_number_54 (by decide) ?_
            refine lv_iload_n hx hb dL_number_56 rfl (lv_at hl 1 rfl) ?_
            refine lv_bipush (v := nI 10) hx hb dL_number_57 (by decide) ?_
            refine lv_idiv hx hb dL_number_59 (by decide) ?_
            refine kb_top (nI (x / 10)) (pk_div (by omega) (by decide) (by decide)) ?_
            refine lv_bipush (v := nI 10) hx hb dL_number_60 (by decide) ?_
            refine lv_irem hx hb dL_number_62 (by decide) ?_
            refine kb_top (nI (x / 10 % 10)) (pk_rem (by omega) (by decide) (by decide)) ?_
            refine lv_iadd hx hb dL_number_63 ?_
            refine kb_top (nI (48 + (x / 10 % 10))) (nI_add 48 (x / 10 % 10)) ?_
            refine kb_top (nI (48 + x / 10 % 10)) (congrArg nI (by omega)) ?_
            refine lv_i2c (v := ((nI (48 + x / 10 % 10)).toUInt32 % 65536).toInt32) hx hb dL_number_64 rfl ?_
            refine kb_top (nI (48 + x / 10 % 10)) (i2c_n (by omega)) ?_
            refine kb_bI1 (w := bW cI cC cS a) (As := [.int (nI (48 + x / 10 % 10))]) (rest := []) hx hb hml hts hown hN hK hP hD hS hA (b_type l D cI cC cS a hin (48 + x / 10 % 10) (by omega)) gL_number_X4_type rfl ⟨rfl, rfl⟩ hdX4_type ⟨(Nat.le_of_ble_eq_true rfl), (Nat.le_of_ble_eq_true rfl)⟩ [0, 1, 2] rfl (ci := 4) rfl rfl rfl (fun _ => kb_blk _ _) rfl rfl hl.1 (Nat.le_of_ble_eq_true rfl) dL_number_65 ⟨(Nat.le_of_ble_eq_true rfl), (Nat.le_of_ble_eq_true rfl)⟩ (fun r u_65_1 H locs hw hP hD hS => ?_)
            obtain ⟨hr_65, hin⟩ := hw
            subst hr_65
            have hz_65 : mo_n (moT (moT m (48 + x / 100)) (48 + x / 10 % 10)) = mo_n (moT m (48 + x / 100)) + 1 := if_pos (by omega)
            refine kb_top (nI (mo_n (moT m (48 + x / 100)) + 1)) (if_pos (by omega)) ?_
            refine kb_nif_le (tgt := 90) hx hb dL_number_68 (by decide) (by omega) (fun c68 => ?_) (fun c68 => ?_)
            · exfalso; omega
            · refine lv_aload_n hx hb dL_number_71 rfl (lv_at hl 0 rfl) ?_
              refine lv_bipush (v := nI 48) hx hb dL_number_72 (by decide) ?_
              refine lv_iload_n hx hb dL_number_74 rfl (lv_at hl 1 rfl) ?_
              refine lv_bipush (v := nI 10) hx hb dL_number_75 (by decide) ?_
              refine lv_irem hx hb dL_number_77 (by decide) ?_
              refine kb_top (nI (x % 10)) (pk_rem (by omega) (by decide) (by decide)) ?_
              refine lv_iadd hx hb dL_number_78 ?_
              refine kb_top (nI (48 + (x % 10))) (nI_add 48 (x % 10)) ?_
              refine kb_top (nI (48 + x % 10)) (congrArg nI (by omega)) ?_
              refine lv_i2c (v := ((nI (48 + x % 10)).toUInt32 % 65536).toInt32) hx hb dL_number_79 rfl ?_
              refine kb_top (nI (48 + x % 10)) (i2c_n (by omega)) ?_
              refine kb_bI1 (w := bW cI cC cS a) (As := [.int (nI (48 + x % 10))]) (rest := []) hx hb hml hts hown hN hK hP hD hS hA (b_type l D cI cC cS a hin (48 + x % 10) (by omega)) gL_number_X4_type rfl ⟨rfl, rfl⟩ hdX4_type ⟨(Nat.le_of_ble_eq_true rfl), (Nat.le_of_ble_eq_true rfl)⟩ [0, 1, 2] rfl (ci := 4) rfl rfl rfl (fun _ => kb_blk _ _) rfl rfl hl.1 (Nat.le_of_ble_eq_true rfl) dL_number_80 ⟨(Nat.le_of_ble_eq_true rfl), (Nat.le_of_ble_eq_true rfl)⟩ (fun r u_80_2 H locs hw hP hD hS => ?_)
              obtain ⟨hr_80, hin⟩ := hw
              subst hr_80
              have hz_80 : mo_n (moT (moT (moT m (48 + x / 100)) (48 + x / 10 % 10)) (48 + x % 10)) = mo_n (moT (moT m (48 + x / 100)) (48 + x / 10 % 10)) + 1 := if_pos (by omega)
              refine kb_top (nI (mo_n (moT (moT m (48 + x / 100)) (48 + x / 10 % 10)) + 1)) (if_pos (by omega)) ?_
              refine kb_nif_le (tgt := 90) hx hb dL_number_83 (by decide) (by omega) (fun c83 => ?_) (fun c83 => ?_)
              · exfalso; omega
              · refine lv_iconst (v := nI 1) hx hb dL_number_86 (by decide) ?_
                refine lv_goto (tgt := 91) hx hb dL_number_87 (by decide) ?_
                have hd := dgs_3 h1 h2
                exact kb_zret (D := D) (w := bW cI cC cS a) hQ hx hb hr hlocks hK hP hD hS dL_number_91 rfl u_80_2 rfl (Nat.le_refl _) (Nat.le_refl _) ⟨rfl, by rw [hd]; exact hin⟩
    · exfalso; omega
  · rw [dgN_4 h1] at hn
    refine lv_iload_n hx hb dL_number_0 rfl (lv_at hl 1 rfl) ?_
    refine lv_sipush (v := nI 1000) hx hb dL_number_1 (by decide) ?_
    refine kb_icmp_lt (tgt := 23) hx hb dL_number_4 (by decide) (by omega) (by omega) (fun c4 => ?_) (fun c4 => ?_)
    · exfalso; omega
    · refine lv_aload_n hx hb dL_number_7 rfl (lv_at hl 0 rfl) ?_
      refine lv_bipush (v := nI 48) hx hb dL_number_8 (by decide) ?_
      refine lv_iload_n hx hb dL_number_10 rfl (lv_at hl 1 rfl) ?_
      refine lv_sipush (v := nI 1000) hx hb dL_number_11 (by decide) ?_
      refine lv_idiv hx hb dL_number_14 (by decide) ?_
      refine kb_top (nI (x / 1000)) (pk_div (by omega) (by decide) (by decide)) ?_
      refine lv_iadd hx hb dL_number_15 ?_
      refine kb_top (nI (48 + (x / 1000))) (nI_add 48 (x / 1000)) ?_
      refine kb_top (nI (48 + x / 1000)) (congrArg nI (by omega)) ?_
      refine lv_i2c (v := ((nI (48 + x / 1000)).toUInt32 % 65536).toInt32) hx hb dL_number_16 rfl ?_
      refine kb_top (nI (48 + x / 1000)) (i2c_n (by omega)) ?_
      refine kb_bI1 (w := bW cI cC cS a) (As := [.int (nI (48 + x / 1000))]) (rest := []) hx hb hml hts hown hN hK hP hD hS hA (b_type l D cI cC cS a hin (48 + x / 1000) (by omega)) gL_number_X4_type rfl ⟨rfl, rfl⟩ hdX4_type ⟨(Nat.le_of_ble_eq_true rfl), (Nat.le_of_ble_eq_true rfl)⟩ [0, 1, 2] rfl (ci := 4) rfl rfl rfl (fun _ => kb_blk _ _) rfl rfl hl.1 (Nat.le_of_ble_eq_true rfl) dL_number_17 ⟨(Nat.le_of_ble_eq_true rfl), (Nat.le_of_ble_eq_true rfl)⟩ (fun r u_17 H locs hw hP hD hS => ?_)
      obtain ⟨hr_17, hin⟩ := hw
      subst hr_17
      have hz_17 : mo_n (moT m (48 + x / 1000)) = mo_n m + 1 := if_pos (by omega)
      refine kb_top (nI (mo_n m + 1)) (if_pos (by omega)) ?_
      refine kb_nif_le (tgt := 90) hx hb dL_number_20 (by decide) (by omega) (fun c20 => ?_) (fun c20 => ?_)
      · exfalso; omega
      · refine lv_iload_n hx hb dL_number_23 rfl (lv_at hl 1 rfl) ?_
        refine lv_bipush (v := nI 100) hx hb dL_number_24 (by decide) ?_
        refine kb_icmp_lt (tgt := 47) hx hb dL_number_26 (by decide) (by omega) (by omega) (fun c26 => ?_) (fun c26 => ?_)
        · exfalso; omega
        · refine lv_aload_n hx hb dL_number_29 rfl (lv_at hl 0 rfl) ?_
          refine lv_bipush (v := nI 48) hx hb dL_number_30 (by decide) ?_
          refine lv_iload_n hx hb dL_number_32 rfl (lv_at hl 1 rfl) ?_
          refine lv_bipush (v := nI 100) hx hb dL_number_33 (by decide) ?_
          refine lv_idiv hx hb dL_number_35 (by decide) ?_
          refine kb_top (nI (x / 100)) (pk_div (by omega) (by decide) (by decide)) ?_
          refine lv_bipush (v := nI 10) hx hb dL_number_36 (by decide) ?_
          refine lv_irem hx hb dL_number_38 (by decide) ?_
          refine kb_top (nI (x / 100 % 10)) (pk_rem (by omega) (by decide) (by decide)) ?_
          refine lv_iadd hx hb dL_number_39 ?_
          refine kb_top (nI (48 + (x / 100 % 10))) (nI_add 48 (x / 100 % 10)) ?_
          refine kb_top (nI (48 + x / 100 % 10)) (congrArg nI (by omega)) ?_
          refine lv_i2c (v := ((nI (48 + x / 100 % 10)).toUInt32 % 65536).toInt32) hx hb dL_number_40 rfl ?_
          refine kb_top (nI (48 + x / 100 % 10)) (i2c_n (by omega)) ?_
          refine kb_bI1 (w := bW cI cC cS a) (As := [.int (nI (48 + x / 100 % 10))]) (rest := []) hx hb hml hts hown hN hK hP hD hS hA (b_type l D cI cC cS a hin (48 + x / 100 % 10) (by omega)) gL_number_X4_type rfl ⟨rfl, rfl⟩ hdX4_type ⟨(Nat.le_of_ble_eq_true rfl), (Nat.le_of_ble_eq_true rfl)⟩ [0, 1, 2] rfl (ci := 4) rfl rfl rfl (fun _ => kb_blk _ _) rfl rfl hl.1 (Nat.le_of_ble_eq_true rfl) dL_number_41 ⟨(Nat.le_of_ble_eq_true rfl), (Nat.le_of_ble_eq_true rfl)⟩ (fun r u_41_1 H locs hw hP hD hS => ?_)
          obtain ⟨hr_41, hin⟩ := hw
          subst hr_41
          have hz_41 : mo_n (moT (moT m (48 + x / 1000)) (48 + x / 100 % 10)) = mo_n (moT m (48 + x / 1000)) + 1 := if_pos (by omega)
          refine kb_top (nI (mo_n (moT m (48 + x / 1000)) + 1)) (if_pos (by omega)) ?_
          refine kb_nif_le (tgt := 90) hx hb dL_number_44 (by decide) (by omega) (fun c44 => ?_) (fun c44 => ?_)
          · exfalso; omega
          · refine lv_iload_n hx hb dL_number_47 rfl (lv_at hl 1 rfl) ?_
            refine lv_bipush (v := nI 10) hx hb dL_number_48 (by decide) ?_
            refine kb_icmp_lt (tgt := 71) hx hb dL_number_50 (by decide) (by omega) (by omega) (fun c50 => ?_) (fun c50 => ?_)
            · exfalso; omega
            · refine lv_aload_n hx hb dL_number_53 rfl (lv_at hl 0 rfl) ?_
              refine lv_bipush (v := nI 48) hx hb dL_number_54 (by decide) ?_
              refine lv_iload_n hx hb dL_number_56 rfl (lv_at hl 1 rfl) ?_
              refine lv_bipush (v := nI 10) hx hb dL_number_57 (by decide) ?_
              refine lv_idiv hx hb dL_number_59 (by decide) ?_
              refine kb_top (nI (x / 10)) (pk_div (by omega) (by decide) (by decide)) ?_
              refine lv_bipush (v := nI 10) hx hb dL_number_60 (by decide) ?_
              refine lv_irem hx hb dL_number_62 (by decide) ?_
              refine kb_top (nI (x / 10 % 10)) (pk_rem (by omega) (by decide) (by decide)) ?_
              refine lv_iadd hx hb dL_number_63 ?_
              refine kb_top (nI (48 + (x / 10 % 10))) (nI_add 48 (x / 10 % 10)) ?_
              refine kb_top (nI (48 + x / 10 % 10)) (congrArg nI (by omega)) ?_
              refine lv_i2c (v := ((nI (48 + x / 10 % 10)).toUInt32 % 65536).toInt32) hx hb dL_number_64 rfl ?_
              refine kb_top (nI (48 + x / 10 % 10)) (i2c_n (by omega)) ?_
              refine kb_bI1 (w := bW cI cC cS a) (As := [.int (nI (48 + x / 10 % 10))]) (rest := []) hx hb hml hts hown hN hK hP hD hS hA (b_type l D cI cC cS a hin (48 + x / 10 % 10) (by omega)) gL_number_X4_type rfl ⟨rfl, rfl⟩ hdX4_type ⟨(Nat.le_of_ble_eq_true rfl), (Nat.le_of_ble_eq_true rfl)⟩ [0, 1, 2] rfl (ci := 4) rfl rfl rfl (fun _ => kb_blk _ _) rfl rfl hl.1 (Nat.le_of_ble_eq_true rfl) dL_number_65 ⟨(Nat.le_of_ble_eq_true rfl), (Nat.le_of_ble_eq_true rfl)⟩ (fun r u_65_2 H locs hw hP hD hS => ?_)
              obtain ⟨hr_65, hin⟩ := hw
              subst hr_65
              have hz_65 : mo_n (moT (moT (moT m (48 + x / 1000)) (48 + x / 100 % 10)) (48 + x / 10 % 10)) = mo_n (moT (moT m (48 + x / 1000)) (48 + x / 100 % 10)) + 1 := if_pos (by omega)
              refine kb_top (nI (mo_n (moT (moT m (48 + x / 1000)) (48 + x / 100 % 10)) + 1)) (if_pos (by omega)) ?_
              refine kb_nif_le (tgt := 90) hx hb dL_number_68 (by decide) (by omega) (fun c68 => ?_) (fun c68 => ?_)
              · exfalso; omega
              · refine lv_aload_n hx hb dL_number_71 rfl (lv_at hl 0 rfl) ?_
                refine lv_bipush (v := nI 48) hx hb dL_number_72 (by decide) ?_
                refine lv_iload_n hx hb dL_number_74 rfl (lv_at hl 1 rfl) ?_
                refine lv_bipush (v := nI 10) hx hb dL_number_75 (by decide) ?_
                refine lv_irem hx hb dL_number_77 (by decide) ?_
                refine kb_top (nI (x % 10)) (pk_rem (by omega) (by decide) (by decide)) ?_
                refine lv_iadd hx hb dL_number_78 ?_
                refine kb_top (nI (48 + (x % 10))) (nI_add 48 (x % 10)) ?_
                refine kb_top (nI (48 + x % 10)) (congrArg nI (by omega)) ?_
                refine lv_i2c (v := ((nI (48 + x % 10)).toUInt32 % 65536).toInt32) hx hb dL_number_79 rfl ?_
                refine kb_top (nI (48 + x % 10)) (i2c_n (by omega)) ?_
                refine kb_bI1 (w := bW cI cC cS a) (As := [.int (nI (48 + x % 10))]) (rest := []) hx hb hml hts hown hN hK hP hD hS hA (b_type l D cI cC cS a hin (48 + x % 10) (by omega)) gL_number_X4_type rfl ⟨rfl, rfl⟩ hdX4_type ⟨(Nat.le_of_ble_eq_true rfl), (Nat.le_of_ble_eq_true rfl)⟩ [0, 1, 2] rfl (ci := 4) rfl rfl rfl (fun _ => kb_blk _ _) rfl rfl hl.1 (Nat.le_of_ble_eq_true rfl) dL_number_80 ⟨(Nat.le_of_ble_eq_true rfl), (Nat.le_of_ble_eq_true rfl)⟩ (fun r u_80_3 H locs hw hP hD hS => ?_)
                obtain ⟨hr_80, hin⟩ := hw
                subst hr_80
                have hz_80 : mo_n (moT (moT (moT (moT m (48 + x / 1000)) (48 + x / 100 % 10)) (48 + x / 10 % 10)) (48 + x % 10)) = mo_n (moT (moT (moT m (48 + x / 1000)) (48 + x / 100 % 10)) (48 + x / 10 % 10)) + 1 := if_pos (by omega)
                refine kb_top (nI (mo_n (moT (moT (moT m (48 + x / 1000)) (48 + x / 100 % 10)) (48 + x / 10 % 10)) + 1)) (if_pos (by omega)) ?_
                refine kb_nif_le (tgt := 90) hx hb dL_number_83 (by decide) (by omega) (fun c83 => ?_) (fun c83 => ?_)
                · exfalso; omega
                · refine lv_iconst (v := nI 1) hx hb dL_number_86 (by decide) ?_
                  refine lv_goto (tgt := 91) hx hb dL_number_87 (by decide) ?_
                  have hd := dgs_4 h1
                  exact kb_zret (D := D) (w := bW cI cC cS a) hQ hx hb hr hlocks hK hP hD hS dL_number_91 rfl u_80_3 rfl (Nat.le_refl _) (Nat.le_refl _) ⟨rfl, by rw [hd]; exact hin⟩
