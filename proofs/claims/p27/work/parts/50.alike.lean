abbrev rmL_areAlike : Room := { frames := 5, cells := 0, slots := 0, locals := 125 }
theorem hdL_areAlike : yL_areAlike.cls = RL ∧ yL_areAlike.cls ≠ "java/lang/invoke/MethodHandle" ∧ yL_areAlike.cls ≠ "java/lang/invoke/VarHandle" ∧ (parseMethodDescriptor yL_areAlike.desc).map (fun d => d.parameters.length) = some 3 := by decide +kernel
theorem inwL_areAlike_X4 : ∀ w ∈ wsX40, w ∈ wsL_areAlike := fun w h => List.mem_cons_of_mem _ (List.mem_append_left _ (List.mem_append_left _ (List.mem_append_left _ (List.mem_append_left _ (List.mem_append_right _ h)))))
theorem inwL_areAlike_X3 : ∀ w ∈ wsX30, w ∈ wsL_areAlike := fun w h => List.mem_cons_of_mem _ (List.mem_append_left _ (List.mem_append_left _ (List.mem_append_left _ (List.mem_append_right _ h))))
theorem inwL_areAlike_X2 : ∀ w ∈ wsX20, w ∈ wsL_areAlike := fun w h => List.mem_cons_of_mem _ (List.mem_append_left _ (List.mem_append_left _ (List.mem_append_right _ h)))
theorem inwL_areAlike_X1 : ∀ w ∈ wsX10, w ∈ wsL_areAlike := fun w h => List.mem_cons_of_mem _ (List.mem_append_left _ (List.mem_append_right _ h))
theorem inwL_areAlike_X0 : ∀ w ∈ wsX00, w ∈ wsL_areAlike := fun w h => List.mem_cons_of_mem _ (List.mem_append_right _ h)
set_option maxHeartbeats 40000000 in
set_option maxRecDepth 100000 in
theorem c_L_areAlike (l : Launch) (D : va_G) (cI cC cS : ClassId) (a b : Nat → Nat) {M : Nat} {u v : KBS} {m m2 : Mo} (hin : bI u m) (hip : bI v m2) (hR : PR M m m2) (x : Int32) : kb_I (S := KBS × KBS) D [(cI, .int), (cC, .char), (cS, .object RX3)] l yL_areAlike wsL_areAlike rmL_areAlike [.ref (a 0), .ref (b 0), .int x] (bW cI cC cS a u ++ bW cI cC cS b v) (fun (r : Int32) (z : KBS × KBS) => r = nI 1 ∧ bI z.1 m ∧ bI z.2 m2) (fun z : KBS × KBS => bW cI cC cS a z.1 ++ bW cI cC cS b z.2) 0 0 := by
  refine kb_I_of (cc := cL_areAlike) (maxL := 6) (ret := (some .boolean)) (by decide) rfl (Nat.le_of_ble_eq_true rfl) ?_
  intro p e s mm args below meth c A hx hb hml hr hts hown hlocks hnm hA hN hK hP hD hS ls hl Q hQ
  have hl : lv_has ls 6 [(0, .ref (a 0)), (1, .ref (b 0)), (2, .int (x))] := hl
  have hI := hR.1.1
  have ho : Ok (mo_g m) := hI.1
  have hy : yg (mo_g m) := hI.2.1
  have hg2 : mo_g m2 = dbl (mo_g m) := hR.2.1
  have h24 := ho.n.1
  have h12 := ho.n.2.1
  have hwp := wp_le ho
  refine lv_aload_n hx hb dL_areAlike_0 rfl (lv_at hl 0 rfl) ?_
  refine kb_bIa (w := bW cI cC cS a) (As := []) (rest := []) hx hb hml hts hown hN hK hP hD hS hA (b_wrongPairs l D cI cC cS a hin ) gL_areAlike_X4_wrongPairs rfl ⟨rfl, rfl⟩ hdX4_wrongPairs ⟨(Nat.le_of_ble_eq_true rfl), (Nat.le_of_ble_eq_true rfl)⟩ [0, 1, 2] rfl (ci := 4) rfl rfl rfl (fun _ => kb_blk _ _) rfl rfl hl.1 (Nat.le_of_ble_eq_true rfl) dL_areAlike_1 ⟨(Nat.le_of_ble_eq_true rfl), (Nat.le_of_ble_eq_true rfl)⟩ (fun r u_1 H locs hw hP hD hS => ?_)
  obtain ⟨hr_1, hin⟩ := hw
  subst hr_1
  refine lv_aload_n hx hb dL_areAlike_4 rfl (lv_at hl 1 rfl) ?_
  refine kb_bIb (w := bW cI cC cS b) (As := []) (rest := [.int (nI (wp (mo_g m)))]) hx hb hml hts hown hN hK hP hD hS hA (b_wrongPairs l D cI cC cS b hip ) gL_areAlike_X4_wrongPairs rfl ⟨rfl, rfl⟩ hdX4_wrongPairs ⟨(Nat.le_of_ble_eq_true rfl), (Nat.le_of_ble_eq_true rfl)⟩ [0, 1, 2] rfl (ci := 4) rfl rfl rfl (fun _ => kb_blk _ _) rfl rfl hl.1 (Nat.le_of_ble_eq_true rfl) dL_areAlike_5 ⟨(Nat.le_of_ble_eq_true rfl), (Nat.le_of_ble_eq_true rfl)⟩ (fun r u_5 H locs hw hP hD hS => ?_)
  obtain ⟨hr_5, hip⟩ := hw
  subst hr_5
  refine kb_top (nI (wp (mo_g m))) (congrArg nI (by rw [hg2]; exact wp_d ho hy)) ?_
  refine kb_icmp_ne (tgt := 75) hx hb dL_areAlike_8 (by decide) (by omega) (by omega) (fun c8 => ?_) (fun c8 => ?_)
  · exfalso; omega
  · refine lv_aload_n hx hb dL_areAlike_11 rfl (lv_at hl 0 rfl) ?_
    refine kb_bIa (w := bW cI cC cS a) (As := []) (rest := []) hx hb hml hts hown hN hK hP hD hS hA (b_changesNeeded l D cI cC cS a hin ) gL_areAlike_X4_changesNeeded rfl ⟨rfl, rfl⟩ hdX4_changesNeeded ⟨(Nat.le_of_ble_eq_true rfl), (Nat.le_of_ble_eq_true rfl)⟩ [0, 1, 2] rfl (ci := 4) rfl rfl rfl (fun _ => kb_blk _ _) rfl rfl hl.1 (Nat.le_of_ble_eq_true rfl) dL_areAlike_12 ⟨(Nat.le_of_ble_eq_true rfl), (Nat.le_of_ble_eq_true rfl)⟩ (fun r u_12 H locs hw hP hD hS => ?_)
    obtain ⟨hr_12, hin⟩ := hw
    subst hr_12
    refine lv_aload_n hx hb dL_areAlike_15 rfl (lv_at hl 1 rfl) ?_
    refine kb_bIb (w := bW cI cC cS b) (As := []) (rest := [.int (nI (wp (mo_g m)))]) hx hb hml hts hown hN hK hP hD hS hA (b_changesNeeded l D cI cC cS b hip ) gL_areAlike_X4_changesNeeded rfl ⟨rfl, rfl⟩ hdX4_changesNeeded ⟨(Nat.le_of_ble_eq_true rfl), (Nat.le_of_ble_eq_true rfl)⟩ [0, 1, 2] rfl (ci := 4) rfl rfl rfl (fun _ => kb_blk _ _) rfl rfl hl.1 (Nat.le_of_ble_eq_true rfl) dL_areAlike_16 ⟨(Nat.le_of_ble_eq_true rfl), (Nat.le_of_ble_eq_true rfl)⟩ (fun r u_16 H locs hw hP hD hS => ?_)
    obtain ⟨hr_16, hip⟩ := hw
    subst hr_16
    refine kb_top (nI (wp (mo_g m))) (congrArg nI (by rw [hg2]; exact wp_d ho hy)) ?_
    refine kb_icmp_ne (tgt := 75) hx hb dL_areAlike_19 (by decide) (by omega) (by omega) (fun c19 => ?_) (fun c19 => ?_)
    · exfalso; omega
    · refine lv_aload_n hx hb dL_areAlike_22 rfl (lv_at hl 0 rfl) ?_
      refine kb_bIa (w := bW cI cC cS a) (As := []) (rest := []) hx hb hml hts hown hN hK hP hD hS hA (b_mostSlighted l D cI cC cS a hin ) gL_areAlike_X4_mostSlighted rfl ⟨rfl, rfl⟩ hdX4_mostSlighted ⟨(Nat.le_of_ble_eq_true rfl), (Nat.le_of_ble_eq_true rfl)⟩ [0, 1, 2] rfl (ci := 4) rfl rfl rfl (fun _ => kb_blk _ _) rfl rfl hl.1 (Nat.le_of_ble_eq_true rfl) dL_areAlike_23 ⟨(Nat.le_of_ble_eq_true rfl), (Nat.le_of_ble_eq_true rfl)⟩ (fun r u_23 H locs hw hP hD hS => ?_)
      obtain ⟨hr_23, hin⟩ := hw
      subst hr_23
      refine lv_aload_n hx hb dL_areAlike_26 rfl (lv_at hl 1 rfl) ?_
      refine kb_bIb (w := bW cI cC cS b) (As := []) (rest := [.int ((msI (mo_g m) (nT (mo_g m))).2)]) hx hb hml hts hown hN hK hP hD hS hA (b_mostSlighted l D cI cC cS b hip ) gL_areAlike_X4_mostSlighted rfl ⟨rfl, rfl⟩ hdX4_mostSlighted ⟨(Nat.le_of_ble_eq_true rfl), (Nat.le_of_ble_eq_true rfl)⟩ [0, 1, 2] rfl (ci := 4) rfl rfl rfl (fun _ => kb_blk _ _) rfl rfl hl.1 (Nat.le_of_ble_eq_true rfl) dL_areAlike_27 ⟨(Nat.le_of_ble_eq_true rfl), (Nat.le_of_ble_eq_true rfl)⟩ (fun r u_27 H locs hw hP hD hS => ?_)
      obtain ⟨hr_27, hip⟩ := hw
      subst hr_27
      refine kb_top ((msI (mo_g m) (nT (mo_g m))).2) (by rw [hg2]; exact congrArg Prod.snd (msI_d (mo_g m) (nT (mo_g m)))) ?_
      refine lv_icmp_ne (tgt := 75) hx hb dL_areAlike_30 (by decide) (fun c30 => ?_) (fun c30 => ?_)
      · exfalso; exact c30 rfl
      · refine lv_aload_n hx hb dL_areAlike_33 rfl (lv_at hl 0 rfl) ?_
        refine kb_bIa (w := bW cI cC cS a) (As := []) (rest := []) hx hb hml hts hown hN hK hP hD hS hA (b_nextArrival l D cI cC cS a hin ) gL_areAlike_X4_nextArrival rfl ⟨rfl, rfl⟩ hdX4_nextArrival ⟨(Nat.le_of_ble_eq_true rfl), (Nat.le_of_ble_eq_true rfl)⟩ [0, 1, 2] rfl (ci := 4) rfl rfl rfl (fun _ => kb_blk _ _) rfl rfl hl.1 (Nat.le_of_ble_eq_true rfl) dL_areAlike_34 ⟨(Nat.le_of_ble_eq_true rfl), (Nat.le_of_ble_eq_true rfl)⟩ (fun r u_34 H locs hw hP hD hS => ?_)
        obtain ⟨hr_34, hin⟩ := hw
        subst hr_34
        refine lv_aload_n hx hb dL_areAlike_37 rfl (lv_at hl 1 rfl) ?_
        refine kb_bIb (w := bW cI cC cS b) (As := []) (rest := [.int (faI (mo_g m) (nK (mo_g m)))]) hx hb hml hts hown hN hK hP hD hS hA (b_nextArrival l D cI cC cS b hip ) gL_areAlike_X4_nextArrival rfl ⟨rfl, rfl⟩ hdX4_nextArrival ⟨(Nat.le_of_ble_eq_true rfl), (Nat.le_of_ble_eq_true rfl)⟩ [0, 1, 2] rfl (ci := 4) rfl rfl rfl (fun _ => kb_blk _ _) rfl rfl hl.1 (Nat.le_of_ble_eq_true rfl) dL_areAlike_38 ⟨(Nat.le_of_ble_eq_true rfl), (Nat.le_of_ble_eq_true rfl)⟩ (fun r u_38 H locs hw hP hD hS => ?_)
        obtain ⟨hr_38, hip⟩ := hw
        subst hr_38
        refine kb_top (faI (mo_g m) (nK (mo_g m))) (by rw [hg2]; exact faI_d2 (mo_g m) (nK (mo_g m))) ?_
        refine lv_icmp_ne (tgt := 75) hx hb dL_areAlike_41 (by decide) (fun c41 => ?_) (fun c41 => ?_)
        · exfalso; exact c41 rfl
        · refine lv_aload_n hx hb dL_areAlike_44 rfl (lv_at hl 0 rfl) ?_
          refine lv_iconst (v := nI 1) hx hb dL_areAlike_45 (by decide) ?_
          refine lv_iload_n hx hb dL_areAlike_46 rfl (lv_at hl 2 rfl) ?_
          refine lv_bipush (v := nI 30) hx hb dL_areAlike_47 (by decide) ?_
          refine kb_sR (As := [.int (x), .int (nI 30)]) (rest := [.int (nI 1), .ref (a 0)]) hx hb hml hts hown hN hK hP hD hS hA (c_L_up l D x 30 (by first | assumption | omega) (by first | assumption | omega)) gL_areAlike_L_up rfl ⟨rfl, rfl⟩ hdL_up.2 ⟨Nat.le_of_ble_eq_true rfl, Nat.le_of_ble_eq_true rfl⟩ [] [] rfl rfl rfl rfl rfl hl.1 (Nat.le_of_ble_eq_true rfl) dL_areAlike_49 ⟨Nat.zero_le _, Nat.zero_le _⟩ (fun H locs hP hS => ?_)
          have hu_49 : upN x 30 < 30 := upN_lt (by omega)
          refine lv_iadd hx hb dL_areAlike_52 ?_
          refine kb_top (nI (1 + (upN x 30))) (nI_add 1 (upN x 30)) ?_
          refine kb_bIa (w := bW cI cC cS a) (As := [.int (nI (1 + (upN x 30)))]) (rest := []) hx hb hml hts hown hN hK hP hD hS hA (b_ifRounds l D cI cC cS a hin (nI (1 + (upN x 30)))) gL_areAlike_X4_ifRounds rfl ⟨rfl, rfl⟩ hdX4_ifRounds ⟨(Nat.le_of_ble_eq_true rfl), (Nat.le_of_ble_eq_true rfl)⟩ [0, 1, 2] rfl (ci := 4) rfl rfl rfl (fun _ => kb_blk _ _) rfl rfl hl.1 (Nat.le_of_ble_eq_true rfl) dL_areAlike_53 ⟨(Nat.le_of_ble_eq_true rfl), (Nat.le_of_ble_eq_true rfl)⟩ (fun r u_53 H locs hw hP hD hS => ?_)
          obtain ⟨hr_53, hin⟩ := hw
          subst hr_53
          refine lv_aload_n hx hb dL_areAlike_56 rfl (lv_at hl 1 rfl) ?_
          refine lv_iconst (v := nI 1) hx hb dL_areAlike_57 (by decide) ?_
          refine lv_iload_n hx hb dL_areAlike_58 rfl (lv_at hl 2 rfl) ?_
          refine lv_bipush (v := nI 30) hx hb dL_areAlike_59 (by decide) ?_
          refine kb_sR (As := [.int (x), .int (nI 30)]) (rest := [.int (nI 1), .ref (b 0), .int (irA (mo_g m) (nI (1 + (upN x 30))))]) hx hb hml hts hown hN hK hP hD hS hA (c_L_up l D x 30 (by first | assumption | omega) (by first | assumption | omega)) gL_areAlike_L_up rfl ⟨rfl, rfl⟩ hdL_up.2 ⟨Nat.le_of_ble_eq_true rfl, Nat.le_of_ble_eq_true rfl⟩ [] [] rfl rfl rfl rfl rfl hl.1 (Nat.le_of_ble_eq_true rfl) dL_areAlike_61 ⟨Nat.zero_le _, Nat.zero_le _⟩ (fun H locs hP hS => ?_)
          have hu_61 : upN x 30 < 30 := upN_lt (by omega)
          refine lv_iadd hx hb dL_areAlike_64 ?_
          refine kb_top (nI (1 + (upN x 30))) (nI_add 1 (upN x 30)) ?_
          refine kb_bIb (w := bW cI cC cS b) (As := [.int (nI (1 + (upN x 30)))]) (rest := [.int (irA (mo_g m) (nI (1 + (upN x 30))))]) hx hb hml hts hown hN hK hP hD hS hA (b_ifRounds l D cI cC cS b hip (nI (1 + (upN x 30)))) gL_areAlike_X4_ifRounds rfl ⟨rfl, rfl⟩ hdX4_ifRounds ⟨(Nat.le_of_ble_eq_true rfl), (Nat.le_of_ble_eq_true rfl)⟩ [0, 1, 2] rfl (ci := 4) rfl rfl rfl (fun _ => kb_blk _ _) rfl rfl hl.1 (Nat.le_of_ble_eq_true rfl) dL_areAlike_65 ⟨(Nat.le_of_ble_eq_true rfl), (Nat.le_of_ble_eq_true rfl)⟩ (fun r u_65 H locs hw hP hD hS => ?_)
          obtain ⟨hr_65, hip⟩ := hw
          subst hr_65
          refine kb_top (irA (mo_g m) (nI (1 + upN x 30))) (by rw [hg2]; exact irA_d ho hy _) ?_
          refine lv_icmp_ne (tgt := 75) hx hb dL_areAlike_68 (by decide) (fun c68 => ?_) (fun c68 => ?_)
          · exfalso; exact c68 rfl
          · refine lv_iconst (v := nI 1) hx hb dL_areAlike_71 (by decide) ?_
            refine lv_goto (tgt := 76) hx hb dL_areAlike_72 (by decide) ?_
            refine lv_istore_n (lv' := [(3, .int (nI 1)), (0, .ref (a 0)), (1, .ref (b 0)), (2, .int (x))]) hx hb dL_areAlike_76 rfl hl (by decide) rfl (fun ls hl => ?_)
            refine lv_iconst (v := nI 0) hx hb dL_areAlike_77 (by decide) ?_
            refine lv_istore (lv' := [(4, .int (nI 0)), (3, .int (nI 1)), (0, .ref (a 0)), (1, .ref (b 0)), (2, .int (x))]) hx hb dL_areAlike_78 hl (by decide) rfl (fun ls hl => ?_)
            have L_80 : ∀ (z : Nat) (u : KBS) (v : KBS) (w : Nat), (bI u m) → (bI v m2) → (w ≤ 15) → (15 - w) < z → ∀ (H : Heap) (locs : List Loc), va_P D vwCl (bW cI cC cS a u ++ bW cI cC cS b v) H → va_D A (bW cI cC cS a u ++ bW cI cC cS b v) → va_S A s.heap H locs → ∀ ls : Array Slot, lv_has ls 6 [(4, .int (nI w)), (3, .int (nI 1)), (0, .ref (a 0)), (1, .ref (b 0)), (2, .int (x))] → W p l e rmL_areAlike s mm args below meth c H locs 0 0 Q (F0 mm 80 ls []) := by
              intro z
              induction z with
              | zero =>
                intro u v w _ _ _ hz
                exact absurd hz (Nat.not_lt_zero _)
              | succ z ih_80 =>
                intro u v w hin hip hw15 hz H locs hP hD hS ls hl
                refine lv_iload hx hb dL_areAlike_80 (lv_at hl 0 rfl) ?_
                refine lv_bipush (v := nI 15) hx hb dL_areAlike_82 (by decide) ?_
                refine kb_icmp_ge (tgt := 118) hx hb dL_areAlike_84 (by decide) (by omega) (by omega) (fun c84 => ?_) (fun c84 => ?_)
                · refine lv_iconst (v := nI 0) hx hb dL_areAlike_118 (by decide) ?_
                  refine lv_istore (lv' := [(4, .int (nI 0)), (3, .int (nI 1)), (0, .ref (a 0)), (1, .ref (b 0)), (2, .int (x))]) hx hb dL_areAlike_119 hl (by decide) rfl (fun ls hl => ?_)
                  have L_121 : ∀ (z : Nat) (u : KBS) (v : KBS) (k : Nat), (bI u m) → (bI v m2) → (k ≤ nK (mo_g m)) → (nK (mo_g m) - k) < z → ∀ (H : Heap) (locs : List Loc), va_P D vwCl (bW cI cC cS a u ++ bW cI cC cS b v) H → va_D A (bW cI cC cS a u ++ bW cI cC cS b v) → va_S A s.heap H locs → ∀ ls : Array Slot, lv_has ls 6 [(4, .int (nI k)), (3, .int (nI 1)), (0, .ref (a 0)), (1, .ref (b 0)), (2, .int (x))] → W p l e rmL_areAlike s mm args below meth c H locs 0 0 Q (F0 mm 121 ls []) := by
                    intro z
                    induction z with
                    | zero =>
                      intro u v k _ _ _ hz
                      exact absurd hz (Nat.not_lt_zero _)
                    | succ z ih_121 =>
                      intro u v k hin hip hk0 hz H locs hP hD hS ls hl
                      refine lv_iload hx hb dL_areAlike_121 (lv_at hl 0 rfl) ?_
                      refine lv_aload_n hx hb dL_areAlike_123 rfl (lv_at hl 2 rfl) ?_
                      refine lv_iconst (v := nI 1) hx hb dL_areAlike_124 (by decide) ?_
                      refine kb_bIa (w := bW cI cC cS a) (As := [.int (nI 1)]) (rest := [.int (nI k)]) hx hb hml hts hown hN hK hP hD hS hA (b_count l D cI cC cS a hin (nI 1)) gL_areAlike_X4_count rfl ⟨rfl, rfl⟩ hdX4_count ⟨(Nat.le_of_ble_eq_true rfl), (Nat.le_of_ble_eq_true rfl)⟩ [0, 1, 2] rfl (ci := 4) rfl rfl rfl (fun _ => kb_blk _ _) rfl rfl hl.1 (Nat.le_of_ble_eq_true rfl) dL_areAlike_125 ⟨(Nat.le_of_ble_eq_true rfl), (Nat.le_of_ble_eq_true rfl)⟩ (fun r u_125 H locs hw hP hD hS => ?_)
                      obtain ⟨hr_125, hin⟩ := hw
                      subst hr_125
                      refine kb_top (nI (nK (mo_g m))) (coA_k (by decide)) ?_
                      refine kb_icmp_ge (tgt := 278) hx hb dL_areAlike_128 (by decide) (by omega) (by omega) (fun c128 => ?_) (fun c128 => ?_)
                      · refine lv_iconst (v := nI 0) hx hb dL_areAlike_278 (by decide) ?_
                        refine lv_istore (lv' := [(4, .int (nI 0)), (3, .int (nI 1)), (0, .ref (a 0)), (1, .ref (b 0)), (2, .int (x))]) hx hb dL_areAlike_279 hl (by decide) rfl (fun ls hl => ?_)
                        have L_281 : ∀ (z : Nat) (u : KBS) (v : KBS) (k2 : Nat), (bI u m) → (bI v m2) → (k2 ≤ 12) → (12 - k2) < z → ∀ (H : Heap) (locs : List Loc), va_P D vwCl (bW cI cC cS a u ++ bW cI cC cS b v) H → va_D A (bW cI cC cS a u ++ bW cI cC cS b v) → va_S A s.heap H locs → ∀ ls : Array Slot, lv_has ls 6 [(4, .int (nI k2)), (3, .int (nI 1)), (0, .ref (a 0)), (1, .ref (b 0)), (2, .int (x))] → W p l e rmL_areAlike s mm args below meth c H locs 0 0 Q (F0 mm 281 ls []) := by
                          intro z
                          induction z with
                          | zero =>
                            intro u v k2 _ _ _ hz
                            exact absurd hz (Nat.not_lt_zero _)
                          | succ z ih_281 =>
                            intro u v k2 hin hip hk12 hz H locs hP hD hS ls hl
                            refine lv_iload hx hb dL_areAlike_281 (lv_at hl 0 rfl) ?_
                            refine lv_bipush (v := nI 12) hx hb dL_areAlike_283 (by decide) ?_
                            refine kb_icmp_ge (tgt := 334) hx hb dL_areAlike_285 (by decide) (by omega) (by omega) (fun c285 => ?_) (fun c285 => ?_)
                            · refine lv_iload_n hx hb dL_areAlike_334 rfl (lv_at hl 4 rfl) ?_
                              refine lv_iconst (v := nI 5) hx hb dL_areAlike_335 (by decide) ?_
                              refine lv_ishr hx hb dL_areAlike_336 ?_
                              refine lv_bipush (v := nI 61) hx hb dL_areAlike_337 (by decide) ?_
                              refine kb_sR (As := [.int (x >>> (nI 5 &&& 31)), .int (nI 61)]) (rest := []) hx hb hml hts hown hN hK hP hD hS hA (c_L_up l D (x >>> (nI 5 &&& 31)) 61 (by first | assumption | omega) (by first | assumption | omega)) gL_areAlike_L_up rfl ⟨rfl, rfl⟩ hdL_up.2 ⟨Nat.le_of_ble_eq_true rfl, Nat.le_of_ble_eq_true rfl⟩ [] [] rfl rfl rfl rfl rfl hl.1 (Nat.le_of_ble_eq_true rfl) dL_areAlike_339 ⟨Nat.zero_le _, Nat.zero_le _⟩ (fun H locs hP hS => ?_)
                              obtain ⟨j_339, hj_339, ej_339⟩ : ∃ j, j < 61 ∧ nI (upN (x >>> (nI 5 &&& 31)) 61) = nI j := ⟨_, upN_lt (by omega), rfl⟩
                              refine kb_top (nI j_339) ej_339 ?_
                              refine lv_istore (lv' := [(4, .int (nI j_339)), (3, .int (nI 1)), (0, .ref (a 0)), (1, .ref (b 0)), (2, .int (x))]) hx hb dL_areAlike_342 hl (by decide) rfl (fun ls hl => ?_)
                              refine lv_iload_n hx hb dL_areAlike_344 rfl (lv_at hl 1 rfl) ?_
                              refine kb_nif_eq (tgt := 385) hx hb dL_areAlike_345 (by decide) (by decide) (fun c => absurd c (by decide)) (fun _ => ?_)
                              refine lv_aload_n hx hb dL_areAlike_348 rfl (lv_at hl 2 rfl) ?_
                              refine lv_iconst (v := nI 1) hx hb dL_areAlike_349 (by decide) ?_
                              refine lv_iload_n hx hb dL_areAlike_350 rfl (lv_at hl 4 rfl) ?_
                              refine lv_bipush (v := nI 9) hx hb dL_areAlike_351 (by decide) ?_
                              refine kb_sR (As := [.int (x), .int (nI 9)]) (rest := [.int (nI 1), .ref (a 0)]) hx hb hml hts hown hN hK hP hD hS hA (c_L_up l D x 9 (by first | assumption | omega) (by first | assumption | omega)) gL_areAlike_L_up rfl ⟨rfl, rfl⟩ hdL_up.2 ⟨Nat.le_of_ble_eq_true rfl, Nat.le_of_ble_eq_true rfl⟩ [] [] rfl rfl rfl rfl rfl hl.1 (Nat.le_of_ble_eq_true rfl) dL_areAlike_353 ⟨Nat.zero_le _, Nat.zero_le _⟩ (fun H locs hP hS => ?_)
                              have hu_353 : upN x 9 < 9 := upN_lt (by omega)
                              refine lv_iadd hx hb dL_areAlike_356 ?_
                              refine kb_top (nI (1 + (upN x 9))) (nI_add 1 (upN x 9)) ?_
                              refine lv_iload hx hb dL_areAlike_357 (lv_at hl 0 rfl) ?_
                              refine kb_bIa (w := bW cI cC cS a) (As := [.int (nI (1 + (upN x 9))), .int (nI j_339)]) (rest := []) hx hb hml hts hown hN hK hP hD hS hA (b_dueSeat l D cI cC cS a hin (nI (1 + (upN x 9))) (nI j_339)) gL_areAlike_X4_dueSeat rfl ⟨rfl, rfl⟩ hdX4_dueSeat ⟨(Nat.le_of_ble_eq_true rfl), (Nat.le_of_ble_eq_true rfl)⟩ [0, 1, 2] rfl (ci := 4) rfl rfl rfl (fun _ => kb_blk _ _) rfl rfl hl.1 (Nat.le_of_ble_eq_true rfl) dL_areAlike_359 ⟨(Nat.le_of_ble_eq_true rfl), (Nat.le_of_ble_eq_true rfl)⟩ (fun r u_359 H locs hw hP hD hS => ?_)
                              obtain ⟨hr_359, hin⟩ := hw
                              subst hr_359
                              refine lv_aload_n hx hb dL_areAlike_362 rfl (lv_at hl 3 rfl) ?_
                              refine lv_iconst (v := nI 1) hx hb dL_areAlike_363 (by decide) ?_
                              refine lv_iload_n hx hb dL_areAlike_364 rfl (lv_at hl 4 rfl) ?_
                              refine lv_bipush (v := nI 9) hx hb dL_areAlike_365 (by decide) ?_
                              refine kb_sR (As := [.int (x), .int (nI 9)]) (rest := [.int (nI 1), .ref (b 0), .int (dsA (mo_g m) (nI (1 + (upN x 9))) (nI j_339))]) hx hb hml hts hown hN hK hP hD hS hA (c_L_up l D x 9 (by first | assumption | omega) (by first | assumption | omega)) gL_areAlike_L_up rfl ⟨rfl, rfl⟩ hdL_up.2 ⟨Nat.le_of_ble_eq_true rfl, Nat.le_of_ble_eq_true rfl⟩ [] [] rfl rfl rfl rfl rfl hl.1 (Nat.le_of_ble_eq_true rfl) dL_areAlike_367 ⟨Nat.zero_le _, Nat.zero_le _⟩ (fun H locs hP hS => ?_)
                              have hu_367 : upN x 9 < 9 := upN_lt (by omega)
                              refine lv_iadd hx hb dL_areAlike_370 ?_
                              refine kb_top (nI (1 + (upN x 9))) (nI_add 1 (upN x 9)) ?_
                              refine lv_iconst (v := nI 2) hx hb dL_areAlike_371 (by decide) ?_
                              refine lv_iload hx hb dL_areAlike_372 (lv_at hl 0 rfl) ?_
                              refine lv_imul hx hb dL_areAlike_374 ?_
                              refine kb_top (nI (2 * j_339)) (pk_mul 2 j_339) ?_
                              refine kb_bIb (w := bW cI cC cS b) (As := [.int (nI (1 + (upN x 9))), .int (nI (2 * j_339))]) (rest := [.int (dsA (mo_g m) (nI (1 + (upN x 9))) (nI j_339))]) hx hb hml hts hown hN hK hP hD hS hA (b_dueSeat l D cI cC cS b hip (nI (1 + (upN x 9))) (nI (2 * j_339))) gL_areAlike_X4_dueSeat rfl ⟨rfl, rfl⟩ hdX4_dueSeat ⟨(Nat.le_of_ble_eq_true rfl), (Nat.le_of_ble_eq_true rfl)⟩ [0, 1, 2] rfl (ci := 4) rfl rfl rfl (fun _ => kb_blk _ _) rfl rfl hl.1 (Nat.le_of_ble_eq_true rfl) dL_areAlike_375 ⟨(Nat.le_of_ble_eq_true rfl), (Nat.le_of_ble_eq_true rfl)⟩ (fun r u_375 H locs hw hP hD hS => ?_)
                              obtain ⟨hr_375, hip⟩ := hw
                              subst hr_375
                              refine kb_top (dsA (mo_g m) (nI (1 + upN x 9)) (nI j_339)) (by rw [hg2]; exact dsA_d ho hy ⟨by omega, by omega⟩ (by omega)) ?_
                              refine lv_icmp_ne (tgt := 385) hx hb dL_areAlike_378 (by decide) (fun c378 => ?_) (fun c378 => ?_)
                              · exfalso; exact c378 rfl
                              · refine lv_iconst (v := nI 1) hx hb dL_areAlike_381 (by decide) ?_
                                refine lv_goto (tgt := 386) hx hb dL_areAlike_382 (by decide) ?_
                                exact kb_zret (D := D) (w := fun z : KBS × KBS => bW cI cC cS a z.1 ++ bW cI cC cS b z.2) hQ hx hb hr hlocks hK hP hD hS dL_areAlike_386 rfl (u_359, u_375) rfl (Nat.le_refl _) (Nat.le_refl _) ⟨rfl, hin, hip⟩
                            · refine lv_iload_n hx hb dL_areAlike_288 rfl (lv_at hl 1 rfl) ?_
                              refine kb_nif_eq (tgt := 326) hx hb dL_areAlike_289 (by decide) (by decide) (fun c => absurd c (by decide)) (fun _ => ?_)
                              refine lv_aload_n hx hb dL_areAlike_292 rfl (lv_at hl 2 rfl) ?_
                              refine lv_iload hx hb dL_areAlike_293 (lv_at hl 0 rfl) ?_
                              refine kb_bIa (w := bW cI cC cS a) (As := [.int (nI k2)]) (rest := []) hx hb hml hts hown hN hK hP hD hS hA (b_seat l D cI cC cS a hin (nI k2)) gL_areAlike_X4_seat rfl ⟨rfl, rfl⟩ hdX4_seat ⟨(Nat.le_of_ble_eq_true rfl), (Nat.le_of_ble_eq_true rfl)⟩ [0, 1, 2] rfl (ci := 4) rfl rfl rfl (fun _ => kb_blk _ _) rfl rfl hl.1 (Nat.le_of_ble_eq_true rfl) dL_areAlike_295 ⟨(Nat.le_of_ble_eq_true rfl), (Nat.le_of_ble_eq_true rfl)⟩ (fun r u_295 H locs hw hP hD hS => ?_)
                              obtain ⟨hr_295, hin⟩ := hw
                              subst hr_295
                              refine lv_aload_n hx hb dL_areAlike_298 rfl (lv_at hl 3 rfl) ?_
                              refine lv_iload hx hb dL_areAlike_299 (lv_at hl 0 rfl) ?_
                              refine kb_bIb (w := bW cI cC cS b) (As := [.int (nI k2)]) (rest := [.int (seA (mo_g m) (nI k2))]) hx hb hml hts hown hN hK hP hD hS hA (b_seat l D cI cC cS b hip (nI k2)) gL_areAlike_X4_seat rfl ⟨rfl, rfl⟩ hdX4_seat ⟨(Nat.le_of_ble_eq_true rfl), (Nat.le_of_ble_eq_true rfl)⟩ [0, 1, 2] rfl (ci := 4) rfl rfl rfl (fun _ => kb_blk _ _) rfl rfl hl.1 (Nat.le_of_ble_eq_true rfl) dL_areAlike_301 ⟨(Nat.le_of_ble_eq_true rfl), (Nat.le_of_ble_eq_true rfl)⟩ (fun r u_301 H locs hw hP hD hS => ?_)
                              obtain ⟨hr_301, hip⟩ := hw
                              subst hr_301
                              refine kb_top (seA (mo_g m) (nI k2)) (by rw [hg2]; exact seA_d _ _) ?_
                              refine lv_icmp_ne (tgt := 326) hx hb dL_areAlike_304 (by decide) (fun c304 => ?_) (fun c304 => ?_)
                              · exfalso; exact c304 rfl
                              · refine lv_aload_n hx hb dL_areAlike_307 rfl (lv_at hl 2 rfl) ?_
                                refine lv_iload hx hb dL_areAlike_308 (lv_at hl 0 rfl) ?_
                                refine kb_bIa (w := bW cI cC cS a) (As := [.int (nI k2)]) (rest := []) hx hb hml hts hown hN hK hP hD hS hA (b_waits l D cI cC cS a hin (nI k2)) gL_areAlike_X4_waits rfl ⟨rfl, rfl⟩ hdX4_waits ⟨(Nat.le_of_ble_eq_true rfl), (Nat.le_of_ble_eq_true rfl)⟩ [0, 1, 2] rfl (ci := 4) rfl rfl rfl (fun _ => kb_blk _ _) rfl rfl hl.1 (Nat.le_of_ble_eq_true rfl) dL_areAlike_310 ⟨(Nat.le_of_ble_eq_true rfl), (Nat.le_of_ble_eq_true rfl)⟩ (fun r u_310 H locs hw hP hD hS => ?_)
                                obtain ⟨hr_310, hin⟩ := hw
                                subst hr_310
                                refine lv_aload_n hx hb dL_areAlike_313 rfl (lv_at hl 3 rfl) ?_
                                refine lv_iload hx hb dL_areAlike_314 (lv_at hl 0 rfl) ?_
                                refine kb_bIb (w := bW cI cC cS b) (As := [.int (nI k2)]) (rest := [.int (waA (mo_g m) (nI k2))]) hx hb hml hts hown hN hK hP hD hS hA (b_waits l D cI cC cS b hip (nI k2)) gL_areAlike_X4_waits rfl ⟨rfl, rfl⟩ hdX4_waits ⟨(Nat.le_of_ble_eq_true rfl), (Nat.le_of_ble_eq_true rfl)⟩ [0, 1, 2] rfl (ci := 4) rfl rfl rfl (fun _ => kb_blk _ _) rfl rfl hl.1 (Nat.le_of_ble_eq_true rfl) dL_areAlike_316 ⟨(Nat.le_of_ble_eq_true rfl), (Nat.le_of_ble_eq_true rfl)⟩ (fun r u_316 H locs hw hP hD hS => ?_)
                                obtain ⟨hr_316, hip⟩ := hw
                                subst hr_316
                                refine kb_top (waA (mo_g m) (nI k2)) (by rw [hg2]; exact waA_d _ _) ?_
                                refine lv_icmp_ne (tgt := 326) hx hb dL_areAlike_319 (by decide) (fun c319 => ?_) (fun c319 => ?_)
                                · exfalso; exact c319 rfl
                                · refine lv_iconst (v := nI 1) hx hb dL_areAlike_322 (by decide) ?_
                                  refine lv_goto (tgt := 327) hx hb dL_areAlike_323 (by decide) ?_
                                  refine lv_istore_n (lv' := [(3, .int (nI 1)), (4, .int (nI k2)), (0, .ref (a 0)), (1, .ref (b 0)), (2, .int (x))]) hx hb dL_areAlike_327 rfl hl (by decide) rfl (fun ls hl => ?_)
                                  refine lv_iinc (v := nI (k2 + 1)) (lv' := [(4, .int (nI (k2 + 1))), (3, .int (nI 1)), (0, .ref (a 0)), (1, .ref (b 0)), (2, .int (x))]) hx hb dL_areAlike_328 hl (k := 1) rfl (kb_inc1 k2) (by decide) rfl (fun ls hl => ?_)
                                  refine lv_goto (tgt := 281) hx hb dL_areAlike_331 (by decide) ?_
                                  exact ih_281 u_310 u_316 (k2 + 1) hin hip (by omega) (by omega) _ _ hP hD hS _ (lv_sub hl [0, 1, 2, 3, 4] rfl)
                        exact L_281 ((12 - 0) + 1) u_125 v 0 hin hip (by omega) (Nat.lt_succ_self _) _ _ hP hD hS _ (lv_sub hl [0, 1, 2, 3, 4] rfl)
                      · have hk : k < nK (mo_g m) := c128
                        refine lv_iconst (v := nI 0) hx hb dL_areAlike_131 (by decide) ?_
                        refine lv_istore (lv' := [(5, .int (nI 0)), (4, .int (nI k)), (3, .int (nI 1)), (0, .ref (a 0)), (1, .ref (b 0)), (2, .int (x))]) hx hb dL_areAlike_132 hl (by decide) rfl (fun ls hl => ?_)
                        have L_134 : ∀ (z : Nat) (u : KBS) (v : KBS) (w : Nat), (bI u m) → (bI v m2) → (w ≤ 9) → (9 - w) < z → ∀ (H : Heap) (locs : List Loc), va_P D vwCl (bW cI cC cS a u ++ bW cI cC cS b v) H → va_D A (bW cI cC cS a u ++ bW cI cC cS b v) → va_S A s.heap H locs → ∀ ls : Array Slot, lv_has ls 6 [(5, .int (nI w)), (4, .int (nI k)), (3, .int (nI 1)), (0, .ref (a 0)), (1, .ref (b 0)), (2, .int (x))] → W p l e rmL_areAlike s mm args below meth c H locs 0 0 Q (F0 mm 134 ls []) := by
                          intro z
                          induction z with
                          | zero =>
                            intro u v w _ _ _ hz
                            exact absurd hz (Nat.not_lt_zero _)
                          | succ z ih_134 =>
                            intro u v w hin hip hw9 hz H locs hP hD hS ls hl
                            refine lv_iload hx hb dL_areAlike_134 (lv_at hl 0 rfl) ?_
                            refine lv_bipush (v := nI 9) hx hb dL_areAlike_136 (by decide) ?_
                            refine kb_icmp_ge (tgt := 204) hx hb dL_areAlike_138 (by decide) (by omega) (by omega) (fun c138 => ?_) (fun c138 => ?_)
                            · refine lv_iload_n hx hb dL_areAlike_204 rfl (lv_at hl 2 rfl) ?_
                              refine kb_nif_eq (tgt := 227) hx hb dL_areAlike_205 (by decide) (by decide) (fun c => absurd c (by decide)) (fun _ => ?_)
                              refine lv_aload_n hx hb dL_areAlike_208 rfl (lv_at hl 3 rfl) ?_
                              refine lv_iload hx hb dL_areAlike_209 (lv_at hl 1 rfl) ?_
                              refine kb_bIa (w := bW cI cC cS a) (As := [.int (nI k)]) (rest := []) hx hb hml hts hown hN hK hP hD hS hA (b_dueIn l D cI cC cS a hin (nI k)) gL_areAlike_X4_dueIn rfl ⟨rfl, rfl⟩ hdX4_dueIn ⟨(Nat.le_of_ble_eq_true rfl), (Nat.le_of_ble_eq_true rfl)⟩ [0, 1, 2] rfl (ci := 4) rfl rfl rfl (fun _ => kb_blk _ _) rfl rfl hl.1 (Nat.le_of_ble_eq_true rfl) dL_areAlike_211 ⟨(Nat.le_of_ble_eq_true rfl), (Nat.le_of_ble_eq_true rfl)⟩ (fun r u_211 H locs hw hP hD hS => ?_)
                              obtain ⟨hr_211, hin⟩ := hw
                              subst hr_211
                              refine lv_aload_n hx hb dL_areAlike_214 rfl (lv_at hl 4 rfl) ?_
                              refine lv_iload hx hb dL_areAlike_215 (lv_at hl 1 rfl) ?_
                              refine kb_bIb (w := bW cI cC cS b) (As := [.int (nI k)]) (rest := [.int (diA (mo_g m) (nI k))]) hx hb hml hts hown hN hK hP hD hS hA (b_dueIn l D cI cC cS b hip (nI k)) gL_areAlike_X4_dueIn rfl ⟨rfl, rfl⟩ hdX4_dueIn ⟨(Nat.le_of_ble_eq_true rfl), (Nat.le_of_ble_eq_true rfl)⟩ [0, 1, 2] rfl (ci := 4) rfl rfl rfl (fun _ => kb_blk _ _) rfl rfl hl.1 (Nat.le_of_ble_eq_true rfl) dL_areAlike_217 ⟨(Nat.le_of_ble_eq_true rfl), (Nat.le_of_ble_eq_true rfl)⟩ (fun r u_217 H locs hw hP hD hS => ?_)
                              obtain ⟨hr_217, hip⟩ := hw
                              subst hr_217
                              refine kb_top (diA (mo_g m) (nI k)) (by rw [hg2]; exact diA_d2 ho hy _) ?_
                              refine lv_icmp_ne (tgt := 227) hx hb dL_areAlike_220 (by decide) (fun c220 => ?_) (fun c220 => ?_)
                              · exfalso; exact c220 rfl
                              · refine lv_iconst (v := nI 1) hx hb dL_areAlike_223 (by decide) ?_
                                refine lv_goto (tgt := 228) hx hb dL_areAlike_224 (by decide) ?_
                                refine lv_istore_n (lv' := [(3, .int (nI 1)), (5, .int (nI w)), (4, .int (nI k)), (0, .ref (a 0)), (1, .ref (b 0)), (2, .int (x))]) hx hb dL_areAlike_228 rfl hl (by decide) rfl (fun ls hl => ?_)
                                refine lv_iload_n hx hb dL_areAlike_229 rfl (lv_at hl 5 rfl) ?_
                                refine lv_iload hx hb dL_areAlike_230 (lv_at hl 2 rfl) ?_
                                refine lv_ishr hx hb dL_areAlike_232 ?_
                                refine lv_aload_n hx hb dL_areAlike_233 rfl (lv_at hl 3 rfl) ?_
                                refine lv_iconst (v := nI 1) hx hb dL_areAlike_234 (by decide) ?_
                                refine kb_bIa (w := bW cI cC cS a) (As := [.int (nI 1)]) (rest := [.int (x >>> (nI k &&& 31))]) hx hb hml hts hown hN hK hP hD hS hA (b_count l D cI cC cS a hin (nI 1)) gL_areAlike_X4_count rfl ⟨rfl, rfl⟩ hdX4_count ⟨(Nat.le_of_ble_eq_true rfl), (Nat.le_of_ble_eq_true rfl)⟩ [0, 1, 2] rfl (ci := 4) rfl rfl rfl (fun _ => kb_blk _ _) rfl rfl hl.1 (Nat.le_of_ble_eq_true rfl) dL_areAlike_235 ⟨(Nat.le_of_ble_eq_true rfl), (Nat.le_of_ble_eq_true rfl)⟩ (fun r u_235 H locs hw hP hD hS => ?_)
                                obtain ⟨hr_235, hin⟩ := hw
                                subst hr_235
                                refine kb_top (nI (nK (mo_g m))) (coA_k (by decide)) ?_
                                refine kb_sR (As := [.int (x >>> (nI k &&& 31)), .int (nI (nK (mo_g m)))]) (rest := []) hx hb hml hts hown hN hK hP hD hS hA (c_L_up l D (x >>> (nI k &&& 31)) (nK (mo_g m)) (by first | assumption | omega) (by first | assumption | omega)) gL_areAlike_L_up rfl ⟨rfl, rfl⟩ hdL_up.2 ⟨Nat.le_of_ble_eq_true rfl, Nat.le_of_ble_eq_true rfl⟩ [] [] rfl rfl rfl rfl rfl hl.1 (Nat.le_of_ble_eq_true rfl) dL_areAlike_238 ⟨Nat.zero_le _, Nat.zero_le _⟩ (fun H locs hP hS => ?_)
                                obtain ⟨j_238, hj_238, ej_238⟩ : ∃ j, j < (nK (mo_g m)) ∧ nI (upN (x >>> (nI k &&& 31)) (nK (mo_g m))) = nI j := ⟨_, upN_lt (by omega), rfl⟩
                                refine kb_top (nI j_238) ej_238 ?_
                                refine lv_istore (lv' := [(5, .int (nI j_238)), (3, .int (nI 1)), (4, .int (nI k)), (0, .ref (a 0)), (1, .ref (b 0)), (2, .int (x))]) hx hb dL_areAlike_241 hl (by decide) rfl (fun ls hl => ?_)
                                refine lv_iload_n hx hb dL_areAlike_243 rfl (lv_at hl 1 rfl) ?_
                                refine kb_nif_eq (tgt := 270) hx hb dL_areAlike_244 (by decide) (by decide) (fun c => absurd c (by decide)) (fun _ => ?_)
                                refine lv_aload_n hx hb dL_areAlike_247 rfl (lv_at hl 3 rfl) ?_
                                refine lv_iload hx hb dL_areAlike_248 (lv_at hl 2 rfl) ?_
                                refine lv_iload hx hb dL_areAlike_250 (lv_at hl 0 rfl) ?_
                                refine kb_bIa (w := bW cI cC cS a) (As := [.int (nI k), .int (nI j_238)]) (rest := []) hx hb hml hts hown hN hK hP hD hS hA (b_reason l D cI cC cS a hin (nI k) (nI j_238)) gL_areAlike_X4_reason rfl ⟨rfl, rfl⟩ hdX4_reason ⟨(Nat.le_of_ble_eq_true rfl), (Nat.le_of_ble_eq_true rfl)⟩ [0, 1, 2] rfl (ci := 4) rfl rfl rfl (fun _ => kb_blk _ _) rfl rfl hl.1 (Nat.le_of_ble_eq_true rfl) dL_areAlike_252 ⟨(Nat.le_of_ble_eq_true rfl), (Nat.le_of_ble_eq_true rfl)⟩ (fun r u_252 H locs hw hP hD hS => ?_)
                                obtain ⟨hr_252, hin⟩ := hw
                                subst hr_252
                                refine lv_aload_n hx hb dL_areAlike_255 rfl (lv_at hl 4 rfl) ?_
                                refine lv_iload hx hb dL_areAlike_256 (lv_at hl 2 rfl) ?_
                                refine lv_iload hx hb dL_areAlike_258 (lv_at hl 0 rfl) ?_
                                refine kb_bIb (w := bW cI cC cS b) (As := [.int (nI k), .int (nI j_238)]) (rest := [.int (reA (mo_g m) (nI k) (nI j_238))]) hx hb hml hts hown hN hK hP hD hS hA (b_reason l D cI cC cS b hip (nI k) (nI j_238)) gL_areAlike_X4_reason rfl ⟨rfl, rfl⟩ hdX4_reason ⟨(Nat.le_of_ble_eq_true rfl), (Nat.le_of_ble_eq_true rfl)⟩ [0, 1, 2] rfl (ci := 4) rfl rfl rfl (fun _ => kb_blk _ _) rfl rfl hl.1 (Nat.le_of_ble_eq_true rfl) dL_areAlike_260 ⟨(Nat.le_of_ble_eq_true rfl), (Nat.le_of_ble_eq_true rfl)⟩ (fun r u_260 H locs hw hP hD hS => ?_)
                                obtain ⟨hr_260, hip⟩ := hw
                                subst hr_260
                                refine kb_top (reA (mo_g m) (nI k) (nI j_238)) (by rw [hg2]; exact reA_d ho hy _ _) ?_
                                refine lv_icmp_ne (tgt := 270) hx hb dL_areAlike_263 (by decide) (fun c263 => ?_) (fun c263 => ?_)
                                · exfalso; exact c263 rfl
                                · refine lv_iconst (v := nI 1) hx hb dL_areAlike_266 (by decide) ?_
                                  refine lv_goto (tgt := 271) hx hb dL_areAlike_267 (by decide) ?_
                                  refine lv_istore_n (lv' := [(3, .int (nI 1)), (5, .int (nI j_238)), (4, .int (nI k)), (0, .ref (a 0)), (1, .ref (b 0)), (2, .int (x))]) hx hb dL_areAlike_271 rfl hl (by decide) rfl (fun ls hl => ?_)
                                  refine lv_iinc (v := nI (k + 1)) (lv' := [(4, .int (nI (k + 1))), (3, .int (nI 1)), (5, .int (nI j_238)), (0, .ref (a 0)), (1, .ref (b 0)), (2, .int (x))]) hx hb dL_areAlike_272 hl (k := 2) rfl (kb_inc1 k) (by decide) rfl (fun ls hl => ?_)
                                  refine lv_goto (tgt := 121) hx hb dL_areAlike_275 (by decide) ?_
                                  exact ih_121 u_252 u_260 (k + 1) hin hip (by omega) (by omega) _ _ hP hD hS _ (lv_sub hl [0, 1, 3, 4, 5] rfl)
                            · have hya := hy k
                              refine lv_iload_n hx hb dL_areAlike_141 rfl (lv_at hl 2 rfl) ?_
                              refine kb_nif_eq (tgt := 196) hx hb dL_areAlike_142 (by decide) (by decide) (fun c => absurd c (by decide)) (fun _ => ?_)
                              refine lv_iload hx hb dL_areAlike_145 (lv_at hl 0 rfl) ?_
                              refine lv_iconst (v := nI 1) hx hb dL_areAlike_147 (by decide) ?_
                              refine kb_icmp_ne (tgt := 173) hx hb dL_areAlike_148 (by decide) (by omega) (by omega) (fun c148 => ?_) (fun c148 => ?_)
                              · refine lv_aload_n hx hb dL_areAlike_173 rfl (lv_at hl 3 rfl) ?_
                                refine lv_iload hx hb dL_areAlike_174 (lv_at hl 1 rfl) ?_
                                refine lv_iload hx hb dL_areAlike_176 (lv_at hl 0 rfl) ?_
                                refine kb_bIa (w := bW cI cC cS a) (As := [.int (nI k), .int (nI w)]) (rest := []) hx hb hml hts hown hN hK hP hD hS hA (b_king l D cI cC cS a hin (nI k) (nI w)) gL_areAlike_X4_king rfl ⟨rfl, rfl⟩ hdX4_king ⟨(Nat.le_of_ble_eq_true rfl), (Nat.le_of_ble_eq_true rfl)⟩ [0, 1, 2] rfl (ci := 4) rfl rfl rfl (fun _ => kb_blk _ _) rfl rfl hl.1 (Nat.le_of_ble_eq_true rfl) dL_areAlike_178 ⟨(Nat.le_of_ble_eq_true rfl), (Nat.le_of_ble_eq_true rfl)⟩ (fun r u_178 H locs hw hP hD hS => ?_)
                                obtain ⟨hr_178, hin⟩ := hw
                                subst hr_178
                                refine kb_top (tellV (mo_g m) k w) (kA_k hk h24 (by omega)) ?_
                                refine lv_aload_n hx hb dL_areAlike_181 rfl (lv_at hl 4 rfl) ?_
                                refine lv_iload hx hb dL_areAlike_182 (lv_at hl 1 rfl) ?_
                                refine lv_iload hx hb dL_areAlike_184 (lv_at hl 0 rfl) ?_
                                refine kb_bIb (w := bW cI cC cS b) (As := [.int (nI k), .int (nI w)]) (rest := [.int (tellV (mo_g m) k w)]) hx hb hml hts hown hN hK hP hD hS hA (b_king l D cI cC cS b hip (nI k) (nI w)) gL_areAlike_X4_king rfl ⟨rfl, rfl⟩ hdX4_king ⟨(Nat.le_of_ble_eq_true rfl), (Nat.le_of_ble_eq_true rfl)⟩ [0, 1, 2] rfl (ci := 4) rfl rfl rfl (fun _ => kb_blk _ _) rfl rfl hl.1 (Nat.le_of_ble_eq_true rfl) dL_areAlike_186 ⟨(Nat.le_of_ble_eq_true rfl), (Nat.le_of_ble_eq_true rfl)⟩ (fun r u_186 H locs hw hP hD hS => ?_)
                                obtain ⟨hr_186, hip⟩ := hw
                                subst hr_186
                                refine kb_top (tellV (mo_g m) k w) (by rw [hg2]; exact (kA_d (by omega) (by omega)).trans (kA_k hk h24 (by omega))) ?_
                                refine lv_icmp_ne (tgt := 196) hx hb dL_areAlike_189 (by decide) (fun c189 => ?_) (fun c189 => ?_)
                                · exfalso; exact c189 rfl
                                · refine lv_iconst (v := nI 1) hx hb dL_areAlike_192 (by decide) ?_
                                  refine lv_goto (tgt := 197) hx hb dL_areAlike_193 (by decide) ?_
                                  refine lv_istore_n (lv' := [(3, .int (nI 1)), (5, .int (nI w)), (4, .int (nI k)), (0, .ref (a 0)), (1, .ref (b 0)), (2, .int (x))]) hx hb dL_areAlike_197 rfl hl (by decide) rfl (fun ls hl => ?_)
                                  refine lv_iinc (v := nI (w + 1)) (lv' := [(5, .int (nI (w + 1))), (3, .int (nI 1)), (4, .int (nI k)), (0, .ref (a 0)), (1, .ref (b 0)), (2, .int (x))]) hx hb dL_areAlike_198 hl (k := 1) rfl (kb_inc1 w) (by decide) rfl (fun ls hl => ?_)
                                  refine lv_goto (tgt := 134) hx hb dL_areAlike_201 (by decide) ?_
                                  exact ih_134 u_178 u_186 (w + 1) hin hip (by omega) (by omega) _ _ hP hD hS _ (lv_sub hl [0, 2, 1, 3, 4, 5] rfl)
                              · refine lv_iconst (v := nI 2) hx hb dL_areAlike_151 (by decide) ?_
                                refine lv_aload_n hx hb dL_areAlike_152 rfl (lv_at hl 3 rfl) ?_
                                refine lv_iload hx hb dL_areAlike_153 (lv_at hl 1 rfl) ?_
                                refine lv_iconst (v := nI 1) hx hb dL_areAlike_155 (by decide) ?_
                                refine kb_bIa (w := bW cI cC cS a) (As := [.int (nI k), .int (nI 1)]) (rest := [.int (nI 2)]) hx hb hml hts hown hN hK hP hD hS hA (b_king l D cI cC cS a hin (nI k) (nI 1)) gL_areAlike_X4_king rfl ⟨rfl, rfl⟩ hdX4_king ⟨(Nat.le_of_ble_eq_true rfl), (Nat.le_of_ble_eq_true rfl)⟩ [0, 1, 2] rfl (ci := 4) rfl rfl rfl (fun _ => kb_blk _ _) rfl rfl hl.1 (Nat.le_of_ble_eq_true rfl) dL_areAlike_156 ⟨(Nat.le_of_ble_eq_true rfl), (Nat.le_of_ble_eq_true rfl)⟩ (fun r u_156 H locs hw hP hD hS => ?_)
                                obtain ⟨hr_156, hin⟩ := hw
                                subst hr_156
                                refine kb_top (nI (gA (mo_g m) k)) (kA_k hk h24 (by decide)) ?_
                                refine lv_imul hx hb dL_areAlike_159 ?_
                                refine kb_top (nI (2 * (gA (mo_g m) k))) (pk_mul 2 (gA (mo_g m) k)) ?_
                                refine lv_aload_n hx hb dL_areAlike_160 rfl (lv_at hl 4 rfl) ?_
                                refine lv_iload hx hb dL_areAlike_161 (lv_at hl 1 rfl) ?_
                                refine lv_iconst (v := nI 1) hx hb dL_areAlike_163 (by decide) ?_
                                refine kb_bIb (w := bW cI cC cS b) (As := [.int (nI k), .int (nI 1)]) (rest := [.int (nI (2 * (gA (mo_g m) k)))]) hx hb hml hts hown hN hK hP hD hS hA (b_king l D cI cC cS b hip (nI k) (nI 1)) gL_areAlike_X4_king rfl ⟨rfl, rfl⟩ hdX4_king ⟨(Nat.le_of_ble_eq_true rfl), (Nat.le_of_ble_eq_true rfl)⟩ [0, 1, 2] rfl (ci := 4) rfl rfl rfl (fun _ => kb_blk _ _) rfl rfl hl.1 (Nat.le_of_ble_eq_true rfl) dL_areAlike_164 ⟨(Nat.le_of_ble_eq_true rfl), (Nat.le_of_ble_eq_true rfl)⟩ (fun r u_164 H locs hw hP hD hS => ?_)
                                obtain ⟨hr_164, hip⟩ := hw
                                subst hr_164
                                refine kb_top (nI (2 * gA (mo_g m) k)) (by rw [hg2]; exact kA_k (g := dbl (mo_g m)) hk h24 (by decide)) ?_
                                refine kb_icmp_ne (tgt := 196) hx hb dL_areAlike_167 (by decide) (by omega) (by omega) (fun c167 => ?_) (fun c167 => ?_)
                                · exfalso; omega
                                · refine lv_goto (tgt := 192) hx hb dL_areAlike_170 (by decide) ?_
                                  refine lv_iconst (v := nI 1) hx hb dL_areAlike_192 (by decide) ?_
                                  refine lv_goto (tgt := 197) hx hb dL_areAlike_193 (by decide) ?_
                                  refine lv_istore_n (lv' := [(3, .int (nI 1)), (5, .int (nI w)), (4, .int (nI k)), (0, .ref (a 0)), (1, .ref (b 0)), (2, .int (x))]) hx hb dL_areAlike_197 rfl hl (by decide) rfl (fun ls hl => ?_)
                                  refine lv_iinc (v := nI (w + 1)) (lv' := [(5, .int (nI (w + 1))), (3, .int (nI 1)), (4, .int (nI k)), (0, .ref (a 0)), (1, .ref (b 0)), (2, .int (x))]) hx hb dL_areAlike_198 hl (k := 1) rfl (kb_inc1 w) (by decide) rfl (fun ls hl => ?_)
                                  refine lv_goto (tgt := 134) hx hb dL_areAlike_201 (by decide) ?_
                                  exact ih_134 u_156 u_164 (w + 1) hin hip (by omega) (by omega) _ _ hP hD hS _ (lv_sub hl [0, 2, 1, 3, 4, 5] rfl)
                        exact L_134 ((9 - 0) + 1) u_125 v 0 hin hip (by omega) (Nat.lt_succ_self _) _ _ hP hD hS _ (lv_sub hl [0, 1, 2, 3, 4, 5] rfl)
                  exact L_121 ((nK (mo_g m) - 0) + 1) u v 0 hin hip (by omega) (Nat.lt_succ_self _) _ _ hP hD hS _ (lv_sub hl [0, 1, 2, 3, 4] rfl)
                · refine lv_iload_n hx hb dL_areAlike_87 rfl (lv_at hl 1 rfl) ?_
                  refine kb_nif_eq (tgt := 110) hx hb dL_areAlike_88 (by decide) (by decide) (fun c => absurd c (by decide)) (fun _ => ?_)
                  refine lv_aload_n hx hb dL_areAlike_91 rfl (lv_at hl 2 rfl) ?_
                  refine lv_iload hx hb dL_areAlike_92 (lv_at hl 0 rfl) ?_
                  refine kb_bIa (w := bW cI cC cS a) (As := [.int (nI w)]) (rest := []) hx hb hml hts hown hN hK hP hD hS hA (b_count l D cI cC cS a hin (nI w)) gL_areAlike_X4_count rfl ⟨rfl, rfl⟩ hdX4_count ⟨(Nat.le_of_ble_eq_true rfl), (Nat.le_of_ble_eq_true rfl)⟩ [0, 1, 2] rfl (ci := 4) rfl rfl rfl (fun _ => kb_blk _ _) rfl rfl hl.1 (Nat.le_of_ble_eq_true rfl) dL_areAlike_94 ⟨(Nat.le_of_ble_eq_true rfl), (Nat.le_of_ble_eq_true rfl)⟩ (fun r u_94 H locs hw hP hD hS => ?_)
                  obtain ⟨hr_94, hin⟩ := hw
                  subst hr_94
                  refine kb_top (acc (mo_g m) w) (coA_k (by omega)) ?_
                  refine lv_aload_n hx hb dL_areAlike_97 rfl (lv_at hl 3 rfl) ?_
                  refine lv_iload hx hb dL_areAlike_98 (lv_at hl 0 rfl) ?_
                  refine kb_bIb (w := bW cI cC cS b) (As := [.int (nI w)]) (rest := [.int (acc (mo_g m) w)]) hx hb hml hts hown hN hK hP hD hS hA (b_count l D cI cC cS b hip (nI w)) gL_areAlike_X4_count rfl ⟨rfl, rfl⟩ hdX4_count ⟨(Nat.le_of_ble_eq_true rfl), (Nat.le_of_ble_eq_true rfl)⟩ [0, 1, 2] rfl (ci := 4) rfl rfl rfl (fun _ => kb_blk _ _) rfl rfl hl.1 (Nat.le_of_ble_eq_true rfl) dL_areAlike_100 ⟨(Nat.le_of_ble_eq_true rfl), (Nat.le_of_ble_eq_true rfl)⟩ (fun r u_100 H locs hw hP hD hS => ?_)
                  obtain ⟨hr_100, hip⟩ := hw
                  subst hr_100
                  refine kb_top (acc (mo_g m) w) ((coA_k (by omega)).trans (by rw [hg2]; exact acc_d _ (by omega))) ?_
                  refine lv_icmp_ne (tgt := 110) hx hb dL_areAlike_103 (by decide) (fun c103 => ?_) (fun c103 => ?_)
                  · exfalso; exact c103 rfl
                  · refine lv_iconst (v := nI 1) hx hb dL_areAlike_106 (by decide) ?_
                    refine lv_goto (tgt := 111) hx hb dL_areAlike_107 (by decide) ?_
                    refine lv_istore_n (lv' := [(3, .int (nI 1)), (4, .int (nI w)), (0, .ref (a 0)), (1, .ref (b 0)), (2, .int (x))]) hx hb dL_areAlike_111 rfl hl (by decide) rfl (fun ls hl => ?_)
                    refine lv_iinc (v := nI (w + 1)) (lv' := [(4, .int (nI (w + 1))), (3, .int (nI 1)), (0, .ref (a 0)), (1, .ref (b 0)), (2, .int (x))]) hx hb dL_areAlike_112 hl (k := 1) rfl (kb_inc1 w) (by decide) rfl (fun ls hl => ?_)
                    refine lv_goto (tgt := 80) hx hb dL_areAlike_115 (by decide) ?_
                    exact ih_80 u_94 u_100 (w + 1) hin hip (by omega) (by omega) _ _ hP hD hS _ (lv_sub hl [0, 1, 2, 3, 4] rfl)
            exact L_80 ((15 - 0) + 1) u_53 u_65 0 hin hip (by omega) (Nat.lt_succ_self _) _ _ hP hD hS _ (lv_sub hl [0, 1, 2, 3, 4] rfl)
