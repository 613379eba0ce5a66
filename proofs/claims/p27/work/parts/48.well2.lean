abbrev rmL_isWell : Room := { frames := 5, cells := 1, slots := 4, locals := 125 }
theorem hdL_isWell : yL_isWell.cls = RL ∧ yL_isWell.cls ≠ "java/lang/invoke/MethodHandle" ∧ yL_isWell.cls ≠ "java/lang/invoke/VarHandle" ∧ (parseMethodDescriptor yL_isWell.desc).map (fun d => d.parameters.length) = some 1 := by decide +kernel
theorem inwL_isWell_X4 : ∀ w ∈ wsX40, w ∈ wsL_isWell := fun w h => List.mem_cons_of_mem _ (List.mem_append_left _ (List.mem_append_left _ (List.mem_append_left _ (List.mem_append_left _ (List.mem_append_right _ h)))))
theorem inwL_isWell_X1 : ∀ w ∈ wsX10, w ∈ wsL_isWell := fun w h => List.mem_cons_of_mem _ (List.mem_append_left _ (List.mem_append_left _ (List.mem_append_left _ (List.mem_append_right _ h))))
theorem inwL_isWell_X0 : ∀ w ∈ wsX00, w ∈ wsL_isWell := fun w h => List.mem_cons_of_mem _ (List.mem_append_left _ (List.mem_append_left _ (List.mem_append_right _ h)))
theorem inwL_isWell_X3 : ∀ w ∈ wsX30, w ∈ wsL_isWell := fun w h => List.mem_cons_of_mem _ (List.mem_append_left _ (List.mem_append_right _ h))
theorem inwL_isWell_X2 : ∀ w ∈ wsX20, w ∈ wsL_isWell := fun w h => List.mem_cons_of_mem _ (List.mem_append_right _ h)
set_option maxHeartbeats 40000000 in
set_option maxRecDepth 100000 in
theorem c_L_isWell (l : Launch) (D : va_G) (cI cC cS : ClassId) (a : Nat → Nat) {M : Nat} (hM : M < 2 ^ 29) {u : KBS} {m : Mo} (hin : bI u m) (hI : Iv M (mo_g m)) : kb_I (S := KBS) D [(cI, .int), (cC, .char), (cS, .object RX3)] l yL_isWell wsL_isWell rmL_isWell [.ref (a 0)] (bW cI cC cS a u) (fun (r : Int32) (v : KBS) => r = nI 1 ∧ bI v m) (bW cI cC cS a) 1 4 := by
  refine kb_I_of (cc := cL_isWell) (maxL := 13) (ret := (some .boolean)) (by decide) rfl (Nat.le_of_ble_eq_true rfl) ?_
  intro p e s mm args below meth c A hx hb hml hr hts hown hlocks hnm hA hN hK hP hD hS ls hl Q hQ
  have hl : lv_has ls 13 [(0, .ref (a 0))] := hl
  have ho : Ok (mo_g m) := hI.1
  have h24 := ho.n.1
  have h12 := ho.n.2.1
  have hw24 := ho.n.2.2
  have hwp := wp_le ho
  obtain ⟨e0, he0, -, he12, hte0⟩ := ho.c0
  have hkd : kdN (mo_g m) 1 ≤ nK (mo_g m) := cnt_le _ _
  refine lv_aload_n hx hb dL_isWell_0 rfl (lv_at hl 0 rfl) ?_
  refine lv_iconst (v := nI 1) hx hb dL_isWell_1 (by decide) ?_
  refine kb_bI1 (w := bW cI cC cS a) (As := [.int (nI 1)]) (rest := []) hx hb hml hts hown hN hK hP hD hS hA (b_count l D cI cC cS a hin (nI 1)) gL_isWell_X4_count rfl ⟨rfl, rfl⟩ hdX4_count ⟨(Nat.le_of_ble_eq_true rfl), (Nat.le_of_ble_eq_true rfl)⟩ [0, 1, 2] rfl (ci := 4) rfl rfl rfl (fun _ => kb_blk _ _) rfl rfl hl.1 (Nat.le_of_ble_eq_true rfl) dL_isWell_2 ⟨(Nat.le_of_ble_eq_true rfl), (Nat.le_of_ble_eq_true rfl)⟩ (fun r u_2 H locs hw hP hD hS => ?_)
  obtain ⟨hr_2, hin⟩ := hw
  subst hr_2
  refine kb_top (nI (nK (mo_g m))) (coA_k (by decide)) ?_
  refine lv_istore_n (lv' := [(1, .int (nI (nK (mo_g m)))), (0, .ref (a 0))]) hx hb dL_isWell_5 rfl hl (by decide) rfl (fun ls hl => ?_)
  refine lv_iconst (v := nI 0) hx hb dL_isWell_6 (by decide) ?_
  refine lv_istore_n (lv' := [(2, .int (nI 0)), (1, .int (nI (nK (mo_g m)))), (0, .ref (a 0))]) hx hb dL_isWell_7 rfl hl (by decide) rfl (fun ls hl => ?_)
  refine lv_iconst (v := nI 0) hx hb dL_isWell_8 (by decide) ?_
  refine lv_istore_n (lv' := [(3, .int (nI 0)), (2, .int (nI 0)), (1, .int (nI (nK (mo_g m)))), (0, .ref (a 0))]) hx hb dL_isWell_9 rfl hl (by decide) rfl (fun ls hl => ?_)
  refine lv_iconst (v := nI 0) hx hb dL_isWell_10 (by decide) ?_
  refine lv_istore (lv' := [(4, .int (nI 0)), (3, .int (nI 0)), (2, .int (nI 0)), (1, .int (nI (nK (mo_g m)))), (0, .ref (a 0))]) hx hb dL_isWell_11 hl (by decide) rfl (fun ls hl => ?_)
  refine lv_iconst (v := nI 4) hx hb dL_isWell_13 (by decide) ?_
  refine kb_newi hx hb (hts (.arrayClass .int) (by decide +kernel)) hK hP hD hS hA 0 rfl (N := 4) (by decide) (Nat.le_of_ble_eq_true rfl) (Nat.le_of_ble_eq_true rfl) dL_isWell_14 (fun q_14 H hP hD hS => ?_)
  have hP : va_P D vwCl (bW cI cC cS a u_2 ++ [(q_14, .inl (cI, 4, .inl (fun _ => nI 0)))]) H := hP
  have hD : va_D A (bW cI cC cS a u_2 ++ [(q_14, .inl (cI, 4, .inl (fun _ => nI 0)))]) := hD
  refine lv_astore (lv' := [(5, .ref q_14), (4, .int (nI 0)), (3, .int (nI 0)), (2, .int (nI 0)), (1, .int (nI (nK (mo_g m)))), (0, .ref (a 0))]) hx hb dL_isWell_16 hl (by decide) rfl (fun ls hl => ?_)
  refine lv_aload_n hx hb dL_isWell_18 rfl (lv_at hl 5 rfl) ?_
  refine kb_bIa (w := bW cI cC cS a) (As := []) (rest := []) hx hb hml hts hown hN hK hP hD hS hA (b_wrongPairs l D cI cC cS a hin ) gL_isWell_X4_wrongPairs rfl ⟨rfl, rfl⟩ hdX4_wrongPairs ⟨(Nat.le_of_ble_eq_true rfl), (Nat.le_of_ble_eq_true rfl)⟩ [0, 1, 2] rfl (ci := 4) rfl rfl rfl (fun _ => kb_blk _ _) rfl rfl hl.1 (Nat.le_of_ble_eq_true rfl) dL_isWell_19 ⟨(Nat.le_of_ble_eq_true rfl), (Nat.le_of_ble_eq_true rfl)⟩ (fun r u_19 H locs hw hP hD hS => ?_)
  obtain ⟨hr_19, hin⟩ := hw
  subst hr_19
  refine lv_aload_n hx hb dL_isWell_22 rfl (lv_at hl 5 rfl) ?_
  refine kb_bIa (w := bW cI cC cS a) (As := []) (rest := [.int (nI (wp (mo_g m)))]) hx hb hml hts hown hN hK hP hD hS hA (b_changesNeeded l D cI cC cS a hin ) gL_isWell_X4_changesNeeded rfl ⟨rfl, rfl⟩ hdX4_changesNeeded ⟨(Nat.le_of_ble_eq_true rfl), (Nat.le_of_ble_eq_true rfl)⟩ [0, 1, 2] rfl (ci := 4) rfl rfl rfl (fun _ => kb_blk _ _) rfl rfl hl.1 (Nat.le_of_ble_eq_true rfl) dL_isWell_23 ⟨(Nat.le_of_ble_eq_true rfl), (Nat.le_of_ble_eq_true rfl)⟩ (fun r u_23 H locs hw hP hD hS => ?_)
  obtain ⟨hr_23, hin⟩ := hw
  subst hr_23
  refine kb_icmp_ne (tgt := 47) hx hb dL_isWell_26 (by decide) (by omega) (by omega) (fun c26 => ?_) (fun c26 => ?_)
  · exfalso; omega
  · refine lv_aload_n hx hb dL_isWell_29 rfl (lv_at hl 5 rfl) ?_
    refine lv_iconst (v := nI 4) hx hb dL_isWell_30 (by decide) ?_
    refine kb_bIa (w := bW cI cC cS a) (As := [.int (nI 4)]) (rest := []) hx hb hml hts hown hN hK hP hD hS hA (b_count l D cI cC cS a hin (nI 4)) gL_isWell_X4_count rfl ⟨rfl, rfl⟩ hdX4_count ⟨(Nat.le_of_ble_eq_true rfl), (Nat.le_of_ble_eq_true rfl)⟩ [0, 1, 2] rfl (ci := 4) rfl rfl rfl (fun _ => kb_blk _ _) rfl rfl hl.1 (Nat.le_of_ble_eq_true rfl) dL_isWell_31 ⟨(Nat.le_of_ble_eq_true rfl), (Nat.le_of_ble_eq_true rfl)⟩ (fun r u_31 H locs hw hP hD hS => ?_)
    obtain ⟨hr_31, hin⟩ := hw
    subst hr_31
    refine kb_top (nI (nT (mo_g m))) ((coA_k (by decide)).trans (congrArg nI (kdN_2 ho))) ?_
    refine lv_aload_n hx hb dL_isWell_34 rfl (lv_at hl 5 rfl) ?_
    refine lv_bipush (v := nI 11) hx hb dL_isWell_35 (by decide) ?_
    refine kb_bIa (w := bW cI cC cS a) (As := [.int (nI 11)]) (rest := [.int (nI (nT (mo_g m)))]) hx hb hml hts hown hN hK hP hD hS hA (b_count l D cI cC cS a hin (nI 11)) gL_isWell_X4_count rfl ⟨rfl, rfl⟩ hdX4_count ⟨(Nat.le_of_ble_eq_true rfl), (Nat.le_of_ble_eq_true rfl)⟩ [0, 1, 2] rfl (ci := 4) rfl rfl rfl (fun _ => kb_blk _ _) rfl rfl hl.1 (Nat.le_of_ble_eq_true rfl) dL_isWell_37 ⟨(Nat.le_of_ble_eq_true rfl), (Nat.le_of_ble_eq_true rfl)⟩ (fun r u_37 H locs hw hP hD hS => ?_)
    obtain ⟨hr_37, hin⟩ := hw
    subst hr_37
    refine kb_top (nI e0) ((coA_k (by decide)).trans he0) ?_
    refine kb_icmp_gt (tgt := 47) hx hb dL_isWell_40 (by decide) (by omega) (by omega) (fun c40 => ?_) (fun c40 => ?_)
    · exfalso; omega
    · refine lv_iconst (v := nI 1) hx hb dL_isWell_43 (by decide) ?_
      refine lv_goto (tgt := 48) hx hb dL_isWell_44 (by decide) ?_
      refine lv_istore (lv' := [(6, .int (nI 1)), (5, .ref q_14), (4, .int (nI 0)), (3, .int (nI 0)), (2, .int (nI 0)), (1, .int (nI (nK (mo_g m)))), (0, .ref (a 0))]) hx hb dL_isWell_48 hl (by decide) rfl (fun ls hl => ?_)
      refine lv_iconst (v := nI 0) hx hb dL_isWell_50 (by decide) ?_
      refine lv_istore (lv' := [(7, .int (nI 0)), (6, .int (nI 1)), (5, .ref q_14), (4, .int (nI 0)), (3, .int (nI 0)), (2, .int (nI 0)), (1, .int (nI (nK (mo_g m)))), (0, .ref (a 0))]) hx hb dL_isWell_51 hl (by decide) rfl (fun ls hl => ?_)
      have L_53 : ∀ (z : Nat) (u : KBS) (k : Nat), (bI u m) → (k ≤ nK (mo_g m)) → (nK (mo_g m) - k) < z → ∀ (H : Heap) (locs : List Loc), va_P D vwCl (bW cI cC cS a u ++ [(q_14, .inl (cI, 4, .inl (dN (mo_g m) k)))]) H → va_D A (bW cI cC cS a u ++ [(q_14, .inl (cI, 4, .inl (dN (mo_g m) k)))]) → va_S A s.heap H locs → ∀ ls : Array Slot, lv_has ls 13 [(7, .int (nI k)), (6, .int (nI 1)), (5, .ref q_14), (4, .int (smI (gX (mo_g m) 3) k)), (3, .int (smI (gX (mo_g m) 2) k)), (2, .int (smI (gX (mo_g m) 1) k)), (1, .int (nI (nK (mo_g m)))), (0, .ref (a 0))] → W p l e rmL_isWell s mm args below meth c H locs 1 4 Q (F0 mm 53 ls []) := by
        intro z
        induction z with
        | zero =>
          intro u k _ _ hz
          exact absurd hz (Nat.not_lt_zero _)
        | succ z ih_53 =>
          intro u k hin hk0 hz H locs hP hD hS ls hl
          refine lv_iload hx hb dL_isWell_53 (lv_at hl 0 rfl) ?_
          refine lv_iload_n hx hb dL_isWell_55 rfl (lv_at hl 6 rfl) ?_
          refine kb_icmp_ge (tgt := 300) hx hb dL_isWell_56 (by decide) (by omega) (by omega) (fun c56 => ?_) (fun c56 => ?_)
          · have hz : k = nK (mo_g m) := by omega
            subst hz
            refine lv_iconst (v := nI 0) hx hb dL_isWell_300 (by decide) ?_
            refine lv_istore (lv' := [(7, .int (nI 0)), (6, .int (nI 1)), (5, .ref q_14), (4, .int (smI (gX (mo_g m) 3) (nK (mo_g m)))), (3, .int (smI (gX (mo_g m) 2) (nK (mo_g m)))), (2, .int (smI (gX (mo_g m) 1) (nK (mo_g m)))), (1, .int (nI (nK (mo_g m)))), (0, .ref (a 0))]) hx hb dL_isWell_301 hl (by decide) rfl (fun ls hl => ?_)
            have L_303 : ∀ (z : Nat) (u : KBS) (k2 : Nat), (bI u m) → (k2 ≤ 4) → (4 - k2) < z → ∀ (H : Heap) (locs : List Loc), va_P D vwCl (bW cI cC cS a u ++ [(q_14, .inl (cI, 4, .inl (dN (mo_g m) (nK (mo_g m)))))]) H → va_D A (bW cI cC cS a u ++ [(q_14, .inl (cI, 4, .inl (dN (mo_g m) (nK (mo_g m)))))]) → va_S A s.heap H locs → ∀ ls : Array Slot, lv_has ls 13 [(7, .int (nI k2)), (6, .int (nI 1)), (5, .ref q_14), (4, .int (smI (gX (mo_g m) 3) (nK (mo_g m)))), (3, .int (smI (gX (mo_g m) 2) (nK (mo_g m)))), (2, .int (smI (gX (mo_g m) 1) (nK (mo_g m)))), (1, .int (nI (nK (mo_g m)))), (0, .ref (a 0))] → W p l e rmL_isWell s mm args below meth c H locs 1 4 Q (F0 mm 303 ls []) := by
              intro z
              induction z with
              | zero =>
                intro u k2 _ _ hz
                exact absurd hz (Nat.not_lt_zero _)
              | succ z ih_303 =>
                intro u k2 hin hk2 hz H locs hP hD hS ls hl
                refine lv_iload hx hb dL_isWell_303 (lv_at hl 0 rfl) ?_
                refine lv_iconst (v := nI 4) hx hb dL_isWell_305 (by decide) ?_
                refine kb_icmp_ge (tgt := 343) hx hb dL_isWell_306 (by decide) (by omega) (by omega) (fun c306 => ?_) (fun c306 => ?_)
                · refine lv_aload_n hx hb dL_isWell_343 rfl (lv_at hl 7 rfl) ?_
                  refine lv_iconst (v := nI 4) hx hb dL_isWell_344 (by decide) ?_
                  refine kb_bIa (w := bW cI cC cS a) (As := [.int (nI 4)]) (rest := []) hx hb hml hts hown hN hK hP hD hS hA (b_count l D cI cC cS a hin (nI 4)) gL_isWell_X4_count rfl ⟨rfl, rfl⟩ hdX4_count ⟨(Nat.le_of_ble_eq_true rfl), (Nat.le_of_ble_eq_true rfl)⟩ [0, 1, 2] rfl (ci := 4) rfl rfl rfl (fun _ => kb_blk _ _) rfl rfl hl.1 (Nat.le_of_ble_eq_true rfl) dL_isWell_345 ⟨(Nat.le_of_ble_eq_true rfl), (Nat.le_of_ble_eq_true rfl)⟩ (fun r u_345 H locs hw hP hD hS => ?_)
                  obtain ⟨hr_345, hin⟩ := hw
                  subst hr_345
                  refine kb_top (nI (nT (mo_g m))) ((coA_k (by decide)).trans (congrArg nI (kdN_2 ho))) ?_
                  refine lv_istore (lv' := [(7, .int (nI (nT (mo_g m)))), (6, .int (nI 1)), (5, .ref q_14), (4, .int (smI (gX (mo_g m) 3) (nK (mo_g m)))), (3, .int (smI (gX (mo_g m) 2) (nK (mo_g m)))), (2, .int (smI (gX (mo_g m) 1) (nK (mo_g m)))), (1, .int (nI (nK (mo_g m)))), (0, .ref (a 0))]) hx hb dL_isWell_348 hl (by decide) rfl (fun ls hl => ?_)
                  refine lv_iconst (v := nI 0) hx hb dL_isWell_350 (by decide) ?_
                  refine lv_istore (lv' := [(8, .int (nI 0)), (7, .int (nI (nT (mo_g m)))), (6, .int (nI 1)), (5, .ref q_14), (4, .int (smI (gX (mo_g m) 3) (nK (mo_g m)))), (3, .int (smI (gX (mo_g m) 2) (nK (mo_g m)))), (2, .int (smI (gX (mo_g m) 1) (nK (mo_g m)))), (1, .int (nI (nK (mo_g m)))), (0, .ref (a 0))]) hx hb dL_isWell_351 hl (by decide) rfl (fun ls hl => ?_)
                  refine lv_iconst (v := nI 0) hx hb dL_isWell_353 (by decide) ?_
                  refine lv_istore (lv' := [(9, .int (nI 0)), (8, .int (nI 0)), (7, .int (nI (nT (mo_g m)))), (6, .int (nI 1)), (5, .ref q_14), (4, .int (smI (gX (mo_g m) 3) (nK (mo_g m)))), (3, .int (smI (gX (mo_g m) 2) (nK (mo_g m)))), (2, .int (smI (gX (mo_g m) 1) (nK (mo_g m)))), (1, .int (nI (nK (mo_g m)))), (0, .ref (a 0))]) hx hb dL_isWell_354 hl (by decide) rfl (fun ls hl => ?_)
                  have L_356 : ∀ (z : Nat) (u : KBS) (k3 : Nat), (bI u m) → (k3 ≤ nT (mo_g m)) → (nT (mo_g m) - k3) < z → ∀ (H : Heap) (locs : List Loc), va_P D vwCl (bW cI cC cS a u ++ [(q_14, .inl (cI, 4, .inl (dN (mo_g m) (nK (mo_g m)))))]) H → va_D A (bW cI cC cS a u ++ [(q_14, .inl (cI, 4, .inl (dN (mo_g m) (nK (mo_g m)))))]) → va_S A s.heap H locs → ∀ ls : Array Slot, lv_has ls 13 [(9, .int (nI k3)), (8, .int (nI (riN (mo_g m) k3))), (7, .int (nI (nT (mo_g m)))), (6, .int (nI 1)), (5, .ref q_14), (4, .int (smI (gX (mo_g m) 3) (nK (mo_g m)))), (3, .int (smI (gX (mo_g m) 2) (nK (mo_g m)))), (2, .int (smI (gX (mo_g m) 1) (nK (mo_g m)))), (1, .int (nI (nK (mo_g m)))), (0, .ref (a 0))] → W p l e rmL_isWell s mm args below meth c H locs 1 4 Q (F0 mm 356 ls []) := by
                    intro z
                    induction z with
                    | zero =>
                      intro u k3 _ _ hz
                      exact absurd hz (Nat.not_lt_zero _)
                    | succ z ih_356 =>
                      intro u k3 hin hk3 hz H locs hP hD hS ls hl
                      refine lv_iload hx hb dL_isWell_356 (lv_at hl 0 rfl) ?_
                      refine lv_iload hx hb dL_isWell_358 (lv_at hl 2 rfl) ?_
                      refine kb_icmp_ge (tgt := 530) hx hb dL_isWell_360 (by decide) (by omega) (by omega) (fun c360 => ?_) (fun c360 => ?_)
                      · have hz : k3 = nT (mo_g m) := by omega
                        subst hz
                        refine lv_iload hx hb dL_isWell_530 (lv_at hl 3 rfl) ?_
                        refine kb_nif_eq (tgt := 634) hx hb dL_isWell_532 (by decide) (by decide) (fun c => absurd c (by decide)) (fun _ => ?_)
                        refine lv_iload_n hx hb dL_isWell_535 rfl (lv_at hl 7 rfl) ?_
                        refine lv_aload_n hx hb dL_isWell_536 rfl (lv_at hl 9 rfl) ?_
                        refine lv_bipush (v := nI 8) hx hb dL_isWell_537 (by decide) ?_
                        refine kb_bIa (w := bW cI cC cS a) (As := [.int (nI 8)]) (rest := [.int (smI (gX (mo_g m) 1) (nK (mo_g m)))]) hx hb hml hts hown hN hK hP hD hS hA (b_count l D cI cC cS a hin (nI 8)) gL_isWell_X4_count rfl ⟨rfl, rfl⟩ hdX4_count ⟨(Nat.le_of_ble_eq_true rfl), (Nat.le_of_ble_eq_true rfl)⟩ [0, 1, 2] rfl (ci := 4) rfl rfl rfl (fun _ => kb_blk _ _) rfl rfl hl.1 (Nat.le_of_ble_eq_true rfl) dL_isWell_539 ⟨(Nat.le_of_ble_eq_true rfl), (Nat.le_of_ble_eq_true rfl)⟩ (fun r u_539 H locs hw hP hD hS => ?_)
                        obtain ⟨hr_539, hin⟩ := hw
                        subst hr_539
                        refine kb_top (smI (gX (mo_g m) 1) (nK (mo_g m))) ((coA_k (by decide)).trans ho.s.1) ?_
                        refine lv_icmp_ne (tgt := 634) hx hb dL_isWell_542 (by decide) (fun c542 => ?_) (fun c542 => ?_)
                        · exfalso; exact c542 rfl
                        · refine lv_iload_n hx hb dL_isWell_545 rfl (lv_at hl 6 rfl) ?_
                          refine lv_aload_n hx hb dL_isWell_546 rfl (lv_at hl 9 rfl) ?_
                          refine lv_bipush (v := nI 9) hx hb dL_isWell_547 (by decide) ?_
                          refine kb_bIa (w := bW cI cC cS a) (As := [.int (nI 9)]) (rest := [.int (smI (gX (mo_g m) 2) (nK (mo_g m)))]) hx hb hml hts hown hN hK hP hD hS hA (b_count l D cI cC cS a hin (nI 9)) gL_isWell_X4_count rfl ⟨rfl, rfl⟩ hdX4_count ⟨(Nat.le_of_ble_eq_true rfl), (Nat.le_of_ble_eq_true rfl)⟩ [0, 1, 2] rfl (ci := 4) rfl rfl rfl (fun _ => kb_blk _ _) rfl rfl hl.1 (Nat.le_of_ble_eq_true rfl) dL_isWell_549 ⟨(Nat.le_of_ble_eq_true rfl), (Nat.le_of_ble_eq_true rfl)⟩ (fun r u_549 H locs hw hP hD hS => ?_)
                          obtain ⟨hr_549, hin⟩ := hw
                          subst hr_549
                          refine kb_top (smI (gX (mo_g m) 2) (nK (mo_g m))) ((coA_k (by decide)).trans ho.s.2.1) ?_
                          refine lv_icmp_ne (tgt := 634) hx hb dL_isWell_552 (by decide) (fun c552 => ?_) (fun c552 => ?_)
                          · exfalso; exact c552 rfl
                          · refine lv_iload hx hb dL_isWell_555 (lv_at hl 5 rfl) ?_
                            refine lv_aload_n hx hb dL_isWell_557 rfl (lv_at hl 9 rfl) ?_
                            refine lv_bipush (v := nI 6) hx hb dL_isWell_558 (by decide) ?_
                            refine kb_bIa (w := bW cI cC cS a) (As := [.int (nI 6)]) (rest := [.int (smI (gX (mo_g m) 3) (nK (mo_g m)))]) hx hb hml hts hown hN hK hP hD hS hA (b_count l D cI cC cS a hin (nI 6)) gL_isWell_X4_count rfl ⟨rfl, rfl⟩ hdX4_count ⟨(Nat.le_of_ble_eq_true rfl), (Nat.le_of_ble_eq_true rfl)⟩ [0, 1, 2] rfl (ci := 4) rfl rfl rfl (fun _ => kb_blk _ _) rfl rfl hl.1 (Nat.le_of_ble_eq_true rfl) dL_isWell_560 ⟨(Nat.le_of_ble_eq_true rfl), (Nat.le_of_ble_eq_true rfl)⟩ (fun r u_560 H locs hw hP hD hS => ?_)
                            obtain ⟨hr_560, hin⟩ := hw
                            subst hr_560
                            refine kb_top (smI (gX (mo_g m) 3) (nK (mo_g m))) ((coA_k (by decide)).trans ho.s.2.2) ?_
                            refine lv_icmp_ne (tgt := 634) hx hb dL_isWell_563 (by decide) (fun c563 => ?_) (fun c563 => ?_)
                            · exfalso; exact c563 rfl
                            · have hri : riN (mo_g m) (nT (mo_g m)) ≤ nT (mo_g m) := cnt_le _ _
                              by_cases hw0 : wp (mo_g m) = 0
                              · refine lv_iload hx hb dL_isWell_566 (lv_at hl 1 rfl) ?_
                                refine lv_iload hx hb dL_isWell_568 (lv_at hl 2 rfl) ?_
                                refine kb_icmp_ne (tgt := 577) hx hb dL_isWell_570 (by decide) (by omega) (by omega) (fun c570 => ?_) (fun c570 => ?_)
                                · exfalso; exact c570 (riN_wp.mpr hw0)
                                · refine lv_iconst (v := nI 1) hx hb dL_isWell_573 (by decide) ?_
                                  refine lv_goto (tgt := 578) hx hb dL_isWell_574 (by decide) ?_
                                  refine lv_aload_n hx hb dL_isWell_578 rfl (lv_at hl 9 rfl) ?_
                                  refine kb_bIa (w := bW cI cC cS a) (As := []) (rest := [.int (nI 1)]) hx hb hml hts hown hN hK hP hD hS hA (b_wrongPairs l D cI cC cS a hin ) gL_isWell_X4_wrongPairs rfl ⟨rfl, rfl⟩ hdX4_wrongPairs ⟨(Nat.le_of_ble_eq_true rfl), (Nat.le_of_ble_eq_true rfl)⟩ [0, 1, 2] rfl (ci := 4) rfl rfl rfl (fun _ => kb_blk _ _) rfl rfl hl.1 (Nat.le_of_ble_eq_true rfl) dL_isWell_579 ⟨(Nat.le_of_ble_eq_true rfl), (Nat.le_of_ble_eq_true rfl)⟩ (fun r u_579 H locs hw hP hD hS => ?_)
                                  obtain ⟨hr_579, hin⟩ := hw
                                  subst hr_579
                                  refine kb_nif_ne (tgt := 589) hx hb dL_isWell_582 (by decide) (by omega) (fun c582 => ?_) (fun c582 => ?_)
                                  · exfalso; exact c582 hw0
                                  · refine lv_iconst (v := nI 1) hx hb dL_isWell_585 (by decide) ?_
                                    refine lv_goto (tgt := 590) hx hb dL_isWell_586 (by decide) ?_
                                    refine kb_icmp_ne (tgt := 634) hx hb dL_isWell_590 (by decide) (by decide) (by decide) (fun c => absurd c (by decide)) (fun _ => ?_)
                                    refine lv_aload_n hx hb dL_isWell_593 rfl (lv_at hl 9 rfl) ?_
                                    refine kb_bIa (w := bW cI cC cS a) (As := []) (rest := []) hx hb hml hts hown hN hK hP hD hS hA (b_wrongPairs l D cI cC cS a hin ) gL_isWell_X4_wrongPairs rfl ⟨rfl, rfl⟩ hdX4_wrongPairs ⟨(Nat.le_of_ble_eq_true rfl), (Nat.le_of_ble_eq_true rfl)⟩ [0, 1, 2] rfl (ci := 4) rfl rfl rfl (fun _ => kb_blk _ _) rfl rfl hl.1 (Nat.le_of_ble_eq_true rfl) dL_isWell_594 ⟨(Nat.le_of_ble_eq_true rfl), (Nat.le_of_ble_eq_true rfl)⟩ (fun r u_594 H locs hw hP hD hS => ?_)
                                    obtain ⟨hr_594, hin⟩ := hw
                                    subst hr_594
                                    refine kb_nif_gt (tgt := 608) hx hb dL_isWell_597 (by decide) (by omega) (fun c597 => ?_) (fun c597 => ?_)
                                    · exfalso; omega
                                    · refine lv_aload_n hx hb dL_isWell_600 rfl (lv_at hl 9 rfl) ?_
                                      refine lv_iconst (v := nI 5) hx hb dL_isWell_601 (by decide) ?_
                                      refine kb_bIa (w := bW cI cC cS a) (As := [.int (nI 5)]) (rest := []) hx hb hml hts hown hN hK hP hD hS hA (b_ifRounds l D cI cC cS a hin (nI 5)) gL_isWell_X4_ifRounds rfl ⟨rfl, rfl⟩ hdX4_ifRounds ⟨(Nat.le_of_ble_eq_true rfl), (Nat.le_of_ble_eq_true rfl)⟩ [0, 1, 2] rfl (ci := 4) rfl rfl rfl (fun _ => kb_blk _ _) rfl rfl hl.1 (Nat.le_of_ble_eq_true rfl) dL_isWell_602 ⟨(Nat.le_of_ble_eq_true rfl), (Nat.le_of_ble_eq_true rfl)⟩ (fun r u_602 H locs hw hP hD hS => ?_)
                                      obtain ⟨hr_602, hin⟩ := hw
                                      subst hr_602
                                      refine kb_top (nI 0) (irA_0 hw0) ?_
                                      refine kb_nif_ne (tgt := 634) hx hb dL_isWell_605 (by decide) (by decide) (fun c => absurd c (by decide)) (fun _ => ?_)
                                      refine lv_aload_n hx hb dL_isWell_608 rfl (lv_at hl 9 rfl) ?_
                                      refine lv_iconst (v := nI 3) hx hb dL_isWell_609 (by decide) ?_
                                      refine kb_bIa (w := bW cI cC cS a) (As := [.int (nI 3)]) (rest := []) hx hb hml hts hown hN hK hP hD hS hA (b_count l D cI cC cS a hin (nI 3)) gL_isWell_X4_count rfl ⟨rfl, rfl⟩ hdX4_count ⟨(Nat.le_of_ble_eq_true rfl), (Nat.le_of_ble_eq_true rfl)⟩ [0, 1, 2] rfl (ci := 4) rfl rfl rfl (fun _ => kb_blk _ _) rfl rfl hl.1 (Nat.le_of_ble_eq_true rfl) dL_isWell_610 ⟨(Nat.le_of_ble_eq_true rfl), (Nat.le_of_ble_eq_true rfl)⟩ (fun r u_610 H locs hw hP hD hS => ?_)
                                      obtain ⟨hr_610, hin⟩ := hw
                                      subst hr_610
                                      refine kb_top (nI (kdN (mo_g m) 1)) (coA_k (by decide)) ?_
                                      refine kb_nif_eq (tgt := 630) hx hb dL_isWell_613 (by decide) (by omega) (fun c613 => ?_) (fun c613 => ?_)
                                      · refine lv_iconst (v := nI 1) hx hb dL_isWell_630 (by decide) ?_
                                        refine lv_goto (tgt := 635) hx hb dL_isWell_631 (by decide) ?_
                                        have hP := kb_lfP hP
                                        have hD := kb_lfD hD
                                        exact kb_zret (D := D) (w := bW cI cC cS a) hQ hx hb hr hlocks hK hP hD hS dL_isWell_635 rfl u_610 rfl (Nat.le_of_ble_eq_true rfl) (Nat.le_of_ble_eq_true rfl) ⟨rfl, hin⟩
                                      · refine lv_aload_n hx hb dL_isWell_616 rfl (lv_at hl 9 rfl) ?_
                                        refine lv_iconst (v := nI 4) hx hb dL_isWell_617 (by decide) ?_
                                        refine kb_bIa (w := bW cI cC cS a) (As := [.int (nI 4)]) (rest := []) hx hb hml hts hown hN hK hP hD hS hA (b_count l D cI cC cS a hin (nI 4)) gL_isWell_X4_count rfl ⟨rfl, rfl⟩ hdX4_count ⟨(Nat.le_of_ble_eq_true rfl), (Nat.le_of_ble_eq_true rfl)⟩ [0, 1, 2] rfl (ci := 4) rfl rfl rfl (fun _ => kb_blk _ _) rfl rfl hl.1 (Nat.le_of_ble_eq_true rfl) dL_isWell_618 ⟨(Nat.le_of_ble_eq_true rfl), (Nat.le_of_ble_eq_true rfl)⟩ (fun r u_618 H locs hw hP hD hS => ?_)
                                        obtain ⟨hr_618, hin⟩ := hw
                                        subst hr_618
                                        refine kb_top (nI (nT (mo_g m))) ((coA_k (by decide)).trans (congrArg nI (kdN_2 ho))) ?_
                                        refine lv_aload_n hx hb dL_isWell_621 rfl (lv_at hl 9 rfl) ?_
                                        refine lv_bipush (v := nI 11) hx hb dL_isWell_622 (by decide) ?_
                                        refine kb_bIa (w := bW cI cC cS a) (As := [.int (nI 11)]) (rest := [.int (nI (nT (mo_g m)))]) hx hb hml hts hown hN hK hP hD hS hA (b_count l D cI cC cS a hin (nI 11)) gL_isWell_X4_count rfl ⟨rfl, rfl⟩ hdX4_count ⟨(Nat.le_of_ble_eq_true rfl), (Nat.le_of_ble_eq_true rfl)⟩ [0, 1, 2] rfl (ci := 4) rfl rfl rfl (fun _ => kb_blk _ _) rfl rfl hl.1 (Nat.le_of_ble_eq_true rfl) dL_isWell_624 ⟨(Nat.le_of_ble_eq_true rfl), (Nat.le_of_ble_eq_true rfl)⟩ (fun r u_624 H locs hw hP hD hS => ?_)
                                        obtain ⟨hr_624, hin⟩ := hw
                                        subst hr_624
                                        refine kb_top (nI e0) ((coA_k (by decide)).trans he0) ?_
                                        refine kb_icmp_gt (tgt := 634) hx hb dL_isWell_627 (by decide) (by omega) (by omega) (fun c627 => ?_) (fun c627 => ?_)
                                        · exfalso; omega
                                        · refine lv_iconst (v := nI 1) hx hb dL_isWell_630 (by decide) ?_
                                          refine lv_goto (tgt := 635) hx hb dL_isWell_631 (by decide) ?_
                                          have hP := kb_lfP hP
                                          have hD := kb_lfD hD
                                          exact kb_zret (D := D) (w := bW cI cC cS a) hQ hx hb hr hlocks hK hP hD hS dL_isWell_635 rfl u_624 rfl (Nat.le_of_ble_eq_true rfl) (Nat.le_of_ble_eq_true rfl) ⟨rfl, hin⟩
                              · have hw1 := hw0
                                refine lv_iload hx hb dL_isWell_566 (lv_at hl 1 rfl) ?_
                                refine lv_iload hx hb dL_isWell_568 (lv_at hl 2 rfl) ?_
                                refine kb_icmp_ne (tgt := 577) hx hb dL_isWell_570 (by decide) (by omega) (by omega) (fun c570 => ?_) (fun c570 => ?_)
                                · refine lv_iconst (v := nI 0) hx hb dL_isWell_577 (by decide) ?_
                                  refine lv_aload_n hx hb dL_isWell_578 rfl (lv_at hl 9 rfl) ?_
                                  refine kb_bIa (w := bW cI cC cS a) (As := []) (rest := [.int (nI 0)]) hx hb hml hts hown hN hK hP hD hS hA (b_wrongPairs l D cI cC cS a hin ) gL_isWell_X4_wrongPairs rfl ⟨rfl, rfl⟩ hdX4_wrongPairs ⟨(Nat.le_of_ble_eq_true rfl), (Nat.le_of_ble_eq_true rfl)⟩ [0, 1, 2] rfl (ci := 4) rfl rfl rfl (fun _ => kb_blk _ _) rfl rfl hl.1 (Nat.le_of_ble_eq_true rfl) dL_isWell_579 ⟨(Nat.le_of_ble_eq_true rfl), (Nat.le_of_ble_eq_true rfl)⟩ (fun r u_579_1 H locs hw hP hD hS => ?_)
                                  obtain ⟨hr_579, hin⟩ := hw
                                  subst hr_579
                                  refine kb_nif_ne (tgt := 589) hx hb dL_isWell_582 (by decide) (by omega) (fun c582 => ?_) (fun c582 => ?_)
                                  · refine lv_iconst (v := nI 0) hx hb dL_isWell_589 (by decide) ?_
                                    refine kb_icmp_ne (tgt := 634) hx hb dL_isWell_590 (by decide) (by decide) (by decide) (fun c => absurd c (by decide)) (fun _ => ?_)
                                    refine lv_aload_n hx hb dL_isWell_593 rfl (lv_at hl 9 rfl) ?_
                                    refine kb_bIa (w := bW cI cC cS a) (As := []) (rest := []) hx hb hml hts hown hN hK hP hD hS hA (b_wrongPairs l D cI cC cS a hin ) gL_isWell_X4_wrongPairs rfl ⟨rfl, rfl⟩ hdX4_wrongPairs ⟨(Nat.le_of_ble_eq_true rfl), (Nat.le_of_ble_eq_true rfl)⟩ [0, 1, 2] rfl (ci := 4) rfl rfl rfl (fun _ => kb_blk _ _) rfl rfl hl.1 (Nat.le_of_ble_eq_true rfl) dL_isWell_594 ⟨(Nat.le_of_ble_eq_true rfl), (Nat.le_of_ble_eq_true rfl)⟩ (fun r u_594_1 H locs hw hP hD hS => ?_)
                                    obtain ⟨hr_594, hin⟩ := hw
                                    subst hr_594
                                    refine kb_nif_gt (tgt := 608) hx hb dL_isWell_597 (by decide) (by omega) (fun c597 => ?_) (fun c597 => ?_)
                                    · refine lv_aload_n hx hb dL_isWell_608 rfl (lv_at hl 9 rfl) ?_
                                      refine lv_iconst (v := nI 3) hx hb dL_isWell_609 (by decide) ?_
                                      refine kb_bIa (w := bW cI cC cS a) (As := [.int (nI 3)]) (rest := []) hx hb hml hts hown hN hK hP hD hS hA (b_count l D cI cC cS a hin (nI 3)) gL_isWell_X4_count rfl ⟨rfl, rfl⟩ hdX4_count ⟨(Nat.le_of_ble_eq_true rfl), (Nat.le_of_ble_eq_true rfl)⟩ [0, 1, 2] rfl (ci := 4) rfl rfl rfl (fun _ => kb_blk _ _) rfl rfl hl.1 (Nat.le_of_ble_eq_true rfl) dL_isWell_610 ⟨(Nat.le_of_ble_eq_true rfl), (Nat.le_of_ble_eq_true rfl)⟩ (fun r u_610_1 H locs hw hP hD hS => ?_)
                                      obtain ⟨hr_610, hin⟩ := hw
                                      subst hr_610
                                      refine kb_top (nI (kdN (mo_g m) 1)) (coA_k (by decide)) ?_
                                      refine kb_nif_eq (tgt := 630) hx hb dL_isWell_613 (by decide) (by omega) (fun c613 => ?_) (fun c613 => ?_)
                                      · refine lv_iconst (v := nI 1) hx hb dL_isWell_630 (by decide) ?_
                                        refine lv_goto (tgt := 635) hx hb dL_isWell_631 (by decide) ?_
                                        have hP := kb_lfP hP
                                        have hD := kb_lfD hD
                                        exact kb_zret (D := D) (w := bW cI cC cS a) hQ hx hb hr hlocks hK hP hD hS dL_isWell_635 rfl u_610_1 rfl (Nat.le_of_ble_eq_true rfl) (Nat.le_of_ble_eq_true rfl) ⟨rfl, hin⟩
                                      · refine lv_aload_n hx hb dL_isWell_616 rfl (lv_at hl 9 rfl) ?_
                                        refine lv_iconst (v := nI 4) hx hb dL_isWell_617 (by decide) ?_
                                        refine kb_bIa (w := bW cI cC cS a) (As := [.int (nI 4)]) (rest := []) hx hb hml hts hown hN hK hP hD hS hA (b_count l D cI cC cS a hin (nI 4)) gL_isWell_X4_count rfl ⟨rfl, rfl⟩ hdX4_count ⟨(Nat.le_of_ble_eq_true rfl), (Nat.le_of_ble_eq_true rfl)⟩ [0, 1, 2] rfl (ci := 4) rfl rfl rfl (fun _ => kb_blk _ _) rfl rfl hl.1 (Nat.le_of_ble_eq_true rfl) dL_isWell_618 ⟨(Nat.le_of_ble_eq_true rfl), (Nat.le_of_ble_eq_true rfl)⟩ (fun r u_618_1 H locs hw hP hD hS => ?_)
                                        obtain ⟨hr_618, hin⟩ := hw
                                        subst hr_618
                                        refine kb_top (nI (nT (mo_g m))) ((coA_k (by decide)).trans (congrArg nI (kdN_2 ho))) ?_
                                        refine lv_aload_n hx hb dL_isWell_621 rfl (lv_at hl 9 rfl) ?_
                                        refine lv_bipush (v := nI 11) hx hb dL_isWell_622 (by decide) ?_
                                        refine kb_bIa (w := bW cI cC cS a) (As := [.int (nI 11)]) (rest := [.int (nI (nT (mo_g m)))]) hx hb hml hts hown hN hK hP hD hS hA (b_count l D cI cC cS a hin (nI 11)) gL_isWell_X4_count rfl ⟨rfl, rfl⟩ hdX4_count ⟨(Nat.le_of_ble_eq_true rfl), (Nat.le_of_ble_eq_true rfl)⟩ [0, 1, 2] rfl (ci := 4) rfl rfl rfl (fun _ => kb_blk _ _) rfl rfl hl.1 (Nat.le_of_ble_eq_true rfl) dL_isWell_624 ⟨(Nat.le_of_ble_eq_true rfl), (Nat.le_of_ble_eq_true rfl)⟩ (fun r u_624_1 H locs hw hP hD hS => ?_)
                                        obtain ⟨hr_624, hin⟩ := hw
                                        subst hr_624
                                        refine kb_top (nI e0) ((coA_k (by decide)).trans he0) ?_
                                        refine kb_icmp_gt (tgt := 634) hx hb dL_isWell_627 (by decide) (by omega) (by omega) (fun c627 => ?_) (fun c627 => ?_)
                                        · exfalso; omega
                                        · refine lv_iconst (v := nI 1) hx hb dL_isWell_630 (by decide) ?_
                                          refine lv_goto (tgt := 635) hx hb dL_isWell_631 (by decide) ?_
                                          have hP := kb_lfP hP
                                          have hD := kb_lfD hD
                                          exact kb_zret (D := D) (w := bW cI cC cS a) hQ hx hb hr hlocks hK hP hD hS dL_isWell_635 rfl u_624_1 rfl (Nat.le_of_ble_eq_true rfl) (Nat.le_of_ble_eq_true rfl) ⟨rfl, hin⟩
                                    · exfalso; omega
                                  · exfalso; exact hw1 c582
                                · exfalso; exact hw1 (riN_wp.mp c570)
                      · refine lv_iconst (v := nI 1) hx hb dL_isWell_363 (by decide) ?_
                        refine lv_istore (lv' := [(10, .int (nI 1)), (9, .int (nI k3)), (8, .int (nI (riN (mo_g m) k3))), (7, .int (nI (nT (mo_g m)))), (6, .int (nI 1)), (5, .ref q_14), (4, .int (smI (gX (mo_g m) 3) (nK (mo_g m)))), (3, .int (smI (gX (mo_g m) 2) (nK (mo_g m)))), (2, .int (smI (gX (mo_g m) 1) (nK (mo_g m)))), (1, .int (nI (nK (mo_g m)))), (0, .ref (a 0))]) hx hb dL_isWell_364 hl (by decide) rfl (fun ls hl => ?_)
                        refine lv_iconst (v := nI 0) hx hb dL_isWell_366 (by decide) ?_
                        refine lv_istore (lv' := [(11, .int (nI 0)), (10, .int (nI 1)), (9, .int (nI k3)), (8, .int (nI (riN (mo_g m) k3))), (7, .int (nI (nT (mo_g m)))), (6, .int (nI 1)), (5, .ref q_14), (4, .int (smI (gX (mo_g m) 3) (nK (mo_g m)))), (3, .int (smI (gX (mo_g m) 2) (nK (mo_g m)))), (2, .int (smI (gX (mo_g m) 1) (nK (mo_g m)))), (1, .int (nI (nK (mo_g m)))), (0, .ref (a 0))]) hx hb dL_isWell_367 hl (by decide) rfl (fun ls hl => ?_)
                        have L_369 : ∀ (z : Nat) (u : KBS) (j : Nat), (bI u m) → (j ≤ nT (mo_g m)) → (nT (mo_g m) - j) < z → ∀ (H : Heap) (locs : List Loc), va_P D vwCl (bW cI cC cS a u ++ [(q_14, .inl (cI, 4, .inl (dN (mo_g m) (nK (mo_g m)))))]) H → va_D A (bW cI cC cS a u ++ [(q_14, .inl (cI, 4, .inl (dN (mo_g m) (nK (mo_g m)))))]) → va_S A s.heap H locs → ∀ ls : Array Slot, lv_has ls 13 [(11, .int (nI j)), (10, .int (kb_b (dueB (mo_g m) k3 j))), (9, .int (nI k3)), (8, .int (nI (riN (mo_g m) k3))), (7, .int (nI (nT (mo_g m)))), (6, .int (nI 1)), (5, .ref q_14), (4, .int (smI (gX (mo_g m) 3) (nK (mo_g m)))), (3, .int (smI (gX (mo_g m) 2) (nK (mo_g m)))), (2, .int (smI (gX (mo_g m) 1) (nK (mo_g m)))), (1, .int (nI (nK (mo_g m)))), (0, .ref (a 0))] → W p l e rmL_isWell s mm args below meth c H locs 1 4 Q (F0 mm 369 ls []) := by
                          intro z
                          induction z with
                          | zero =>
                            intro u j _ _ hz
                            exact absurd hz (Nat.not_lt_zero _)
                          | succ z ih_369 =>
                            intro u j hin hj hz H locs hP hD hS ls hl
                            refine lv_iload hx hb dL_isWell_369 (lv_at hl 0 rfl) ?_
                            refine lv_iload hx hb dL_isWell_371 (lv_at hl 4 rfl) ?_
                            refine kb_icmp_ge (tgt := 474) hx hb dL_isWell_373 (by decide) (by omega) (by omega) (fun c373 => ?_) (fun c373 => ?_)
                            · have hz : j = nT (mo_g m) := by omega
                              subst hz
                              have hdb := dueB_e (g := (mo_g m)) (k := k3) (by omega)
                              rcases Bool.eq_false_or_eq_true (sl (mo_g m) k3) with hsl | hsl
                              · rw [hsl] at hdb
                                refine lv_iload hx hb dL_isWell_474 (lv_at hl 3 rfl) ?_
                                refine lv_iload hx hb dL_isWell_476 (lv_at hl 1 rfl) ?_
                                refine kb_bif_eq (tgt := 485) hx hb dL_isWell_478 (by decide) (fun c478 => ?_) (fun c478 => ?_)
                                · refine lv_iconst (v := nI 0) hx hb dL_isWell_485 (by decide) ?_
                                  refine lv_iadd hx hb dL_isWell_486 ?_
                                  refine kb_top (nI (riN (mo_g m) k3 + 0)) (nI_add (riN (mo_g m) k3) 0) ?_
                                  refine kb_top (nI (riN (mo_g m) (k3 + 1))) (congrArg nI (riN_0 hsl)) ?_
                                  refine lv_istore (lv' := [(8, .int (nI (riN (mo_g m) (k3 + 1)))), (11, .int (nI (nT (mo_g m)))), (10, .int (kb_b (dueB (mo_g m) k3 (nT (mo_g m))))), (9, .int (nI k3)), (7, .int (nI (nT (mo_g m)))), (6, .int (nI 1)), (5, .ref q_14), (4, .int (smI (gX (mo_g m) 3) (nK (mo_g m)))), (3, .int (smI (gX (mo_g m) 2) (nK (mo_g m)))), (2, .int (smI (gX (mo_g m) 1) (nK (mo_g m)))), (1, .int (nI (nK (mo_g m)))), (0, .ref (a 0))]) hx hb dL_isWell_487 hl (by decide) rfl (fun ls hl => ?_)
                                  refine lv_iload hx hb dL_isWell_489 (lv_at hl 5 rfl) ?_
                                  refine kb_nif_eq (tgt := 521) hx hb dL_isWell_491 (by decide) (by decide) (fun c => absurd c (by decide)) (fun _ => ?_)
                                  refine lv_aload_n hx hb dL_isWell_494 rfl (lv_at hl 11 rfl) ?_
                                  refine lv_aload_n hx hb dL_isWell_495 rfl (lv_at hl 11 rfl) ?_
                                  refine lv_iload hx hb dL_isWell_496 (lv_at hl 3 rfl) ?_
                                  refine kb_bIa (w := bW cI cC cS a) (As := [.int (nI k3)]) (rest := [.ref (a 0)]) hx hb hml hts hown hN hK hP hD hS hA (b_seat l D cI cC cS a hin (nI k3)) gL_isWell_X4_seat rfl ⟨rfl, rfl⟩ hdX4_seat ⟨(Nat.le_of_ble_eq_true rfl), (Nat.le_of_ble_eq_true rfl)⟩ [0, 1, 2] rfl (ci := 4) rfl rfl rfl (fun _ => kb_blk _ _) rfl rfl hl.1 (Nat.le_of_ble_eq_true rfl) dL_isWell_498 ⟨(Nat.le_of_ble_eq_true rfl), (Nat.le_of_ble_eq_true rfl)⟩ (fun r u_498 H locs hw hP hD hS => ?_)
                                  obtain ⟨hr_498, hin⟩ := hw
                                  subst hr_498
                                  refine kb_top (nI (gT (mo_g m) k3)) (seA_t ho (by omega)) ?_
                                  refine kb_bIa (w := bW cI cC cS a) (As := [.int (nI (gT (mo_g m) k3))]) (rest := []) hx hb hml hts hown hN hK hP hD hS hA (b_dueIn l D cI cC cS a hin (nI (gT (mo_g m) k3))) gL_isWell_X4_dueIn rfl ⟨rfl, rfl⟩ hdX4_dueIn ⟨(Nat.le_of_ble_eq_true rfl), (Nat.le_of_ble_eq_true rfl)⟩ [0, 1, 2] rfl (ci := 4) rfl rfl rfl (fun _ => kb_blk _ _) rfl rfl hl.1 (Nat.le_of_ble_eq_true rfl) dL_isWell_501 ⟨(Nat.le_of_ble_eq_true rfl), (Nat.le_of_ble_eq_true rfl)⟩ (fun r u_501 H locs hw hP hD hS => ?_)
                                  obtain ⟨hr_501, hin⟩ := hw
                                  subst hr_501
                                  refine lv_if_ne (tgt := 511) hx hb dL_isWell_504 (by decide) (fun c504 => ?_) (fun c504 => ?_)
                                  · refine lv_iconst (v := nI 0) hx hb dL_isWell_511 (by decide) ?_
                                    refine lv_iload hx hb dL_isWell_512 (lv_at hl 2 rfl) ?_
                                    refine lv_icmp_ne (tgt := 521) hx hb dL_isWell_514 (by decide) (fun c514 => ?_) (fun c514 => ?_)
                                    · exfalso; rw [hdb] at c514; exact c514 rfl
                                    · refine lv_iconst (v := nI 1) hx hb dL_isWell_517 (by decide) ?_
                                      refine lv_goto (tgt := 522) hx hb dL_isWell_518 (by decide) ?_
                                      refine lv_istore (lv' := [(6, .int (nI 1)), (8, .int (nI (riN (mo_g m) (k3 + 1)))), (11, .int (nI (nT (mo_g m)))), (10, .int (kb_b (dueB (mo_g m) k3 (nT (mo_g m))))), (9, .int (nI k3)), (7, .int (nI (nT (mo_g m)))), (5, .ref q_14), (4, .int (smI (gX (mo_g m) 3) (nK (mo_g m)))), (3, .int (smI (gX (mo_g m) 2) (nK (mo_g m)))), (2, .int (smI (gX (mo_g m) 1) (nK (mo_g m)))), (1, .int (nI (nK (mo_g m)))), (0, .ref (a 0))]) hx hb dL_isWell_522 hl (by decide) rfl (fun ls hl => ?_)
                                      refine lv_iinc (v := nI (k3 + 1)) (lv' := [(9, .int (nI (k3 + 1))), (6, .int (nI 1)), (8, .int (nI (riN (mo_g m) (k3 + 1)))), (11, .int (nI (nT (mo_g m)))), (10, .int (kb_b (dueB (mo_g m) k3 (nT (mo_g m))))), (7, .int (nI (nT (mo_g m)))), (5, .ref q_14), (4, .int (smI (gX (mo_g m) 3) (nK (mo_g m)))), (3, .int (smI (gX (mo_g m) 2) (nK (mo_g m)))), (2, .int (smI (gX (mo_g m) 1) (nK (mo_g m)))), (1, .int (nI (nK (mo_g m)))), (0, .ref (a 0))]) hx hb dL_isWell_524 hl (k := 4) rfl (kb_inc1 k3) (by decide) rfl (fun ls hl => ?_)
                                      refine lv_goto (tgt := 356) hx hb dL_isWell_527 (by decide) ?_
                                      exact ih_356 u_501 (k3 + 1) hin (by omega) (by omega) _ _ hP hD hS _ (lv_sub hl [0, 2, 5, 1, 6, 7, 8, 9, 10, 11] rfl)
                                  · exfalso; exact (diA_t ho (by omega)).2 hsl (c504.trans nI_0.symm)
                                · exfalso; rw [hdb] at c478; cases c478
                              · rw [hsl] at hdb
                                refine lv_iload hx hb dL_isWell_474 (lv_at hl 3 rfl) ?_
                                refine lv_iload hx hb dL_isWell_476 (lv_at hl 1 rfl) ?_
                                refine kb_bif_eq (tgt := 485) hx hb dL_isWell_478 (by decide) (fun c478 => ?_) (fun c478 => ?_)
                                · exfalso; rw [hdb] at c478; cases c478
                                · refine lv_iconst (v := nI 1) hx hb dL_isWell_481 (by decide) ?_
                                  refine lv_goto (tgt := 486) hx hb dL_isWell_482 (by decide) ?_
                                  refine lv_iadd hx hb dL_isWell_486 ?_
                                  refine kb_top (nI (riN (mo_g m) k3 + 1)) (nI_add (riN (mo_g m) k3) 1) ?_
                                  refine kb_top (nI (riN (mo_g m) (k3 + 1))) (congrArg nI (riN_1 hsl)) ?_
                                  refine lv_istore (lv' := [(8, .int (nI (riN (mo_g m) (k3 + 1)))), (11, .int (nI (nT (mo_g m)))), (10, .int (kb_b (dueB (mo_g m) k3 (nT (mo_g m))))), (9, .int (nI k3)), (7, .int (nI (nT (mo_g m)))), (6, .int (nI 1)), (5, .ref q_14), (4, .int (smI (gX (mo_g m) 3) (nK (mo_g m)))), (3, .int (smI (gX (mo_g m) 2) (nK (mo_g m)))), (2, .int (smI (gX (mo_g m) 1) (nK (mo_g m)))), (1, .int (nI (nK (mo_g m)))), (0, .ref (a 0))]) hx hb dL_isWell_487 hl (by decide) rfl (fun ls hl => ?_)
                                  refine lv_iload hx hb dL_isWell_489 (lv_at hl 5 rfl) ?_
                                  refine kb_nif_eq (tgt := 521) hx hb dL_isWell_491 (by decide) (by decide) (fun c => absurd c (by decide)) (fun _ => ?_)
                                  refine lv_aload_n hx hb dL_isWell_494 rfl (lv_at hl 11 rfl) ?_
                                  refine lv_aload_n hx hb dL_isWell_495 rfl (lv_at hl 11 rfl) ?_
                                  refine lv_iload hx hb dL_isWell_496 (lv_at hl 3 rfl) ?_
                                  refine kb_bIa (w := bW cI cC cS a) (As := [.int (nI k3)]) (rest := [.ref (a 0)]) hx hb hml hts hown hN hK hP hD hS hA (b_seat l D cI cC cS a hin (nI k3)) gL_isWell_X4_seat rfl ⟨rfl, rfl⟩ hdX4_seat ⟨(Nat.le_of_ble_eq_true rfl), (Nat.le_of_ble_eq_true rfl)⟩ [0, 1, 2] rfl (ci := 4) rfl rfl rfl (fun _ => kb_blk _ _) rfl rfl hl.1 (Nat.le_of_ble_eq_true rfl) dL_isWell_498 ⟨(Nat.le_of_ble_eq_true rfl), (Nat.le_of_ble_eq_true rfl)⟩ (fun r u_498_1 H locs hw hP hD hS => ?_)
                                  obtain ⟨hr_498, hin⟩ := hw
                                  subst hr_498
                                  refine kb_top (nI (gT (mo_g m) k3)) (seA_t ho (by omega)) ?_
                                  refine kb_bIa (w := bW cI cC cS a) (As := [.int (nI (gT (mo_g m) k3))]) (rest := []) hx hb hml hts hown hN hK hP hD hS hA (b_dueIn l D cI cC cS a hin (nI (gT (mo_g m) k3))) gL_isWell_X4_dueIn rfl ⟨rfl, rfl⟩ hdX4_dueIn ⟨(Nat.le_of_ble_eq_true rfl), (Nat.le_of_ble_eq_true rfl)⟩ [0, 1, 2] rfl (ci := 4) rfl rfl rfl (fun _ => kb_blk _ _) rfl rfl hl.1 (Nat.le_of_ble_eq_true rfl) dL_isWell_501 ⟨(Nat.le_of_ble_eq_true rfl), (Nat.le_of_ble_eq_true rfl)⟩ (fun r u_501_1 H locs hw hP hD hS => ?_)
                                  obtain ⟨hr_501, hin⟩ := hw
                                  subst hr_501
                                  refine kb_top (nI 0) ((diA_t ho (by omega)).1 hsl) ?_
                                  refine kb_nif_ne (tgt := 511) hx hb dL_isWell_504 (by decide) (by decide) (fun c => absurd c (by decide)) (fun _ => ?_)
                                  refine lv_iconst (v := nI 1) hx hb dL_isWell_507 (by decide) ?_
                                  refine lv_goto (tgt := 512) hx hb dL_isWell_508 (by decide) ?_
                                  refine lv_iload hx hb dL_isWell_512 (lv_at hl 2 rfl) ?_
                                  refine lv_icmp_ne (tgt := 521) hx hb dL_isWell_514 (by decide) (fun c514 => ?_) (fun c514 => ?_)
                                  · exfalso; rw [hdb] at c514; exact c514 rfl
                                  · refine lv_iconst (v := nI 1) hx hb dL_isWell_517 (by decide) ?_
                                    refine lv_goto (tgt := 522) hx hb dL_isWell_518 (by decide) ?_
                                    refine lv_istore (lv' := [(6, .int (nI 1)), (8, .int (nI (riN (mo_g m) (k3 + 1)))), (11, .int (nI (nT (mo_g m)))), (10, .int (kb_b (dueB (mo_g m) k3 (nT (mo_g m))))), (9, .int (nI k3)), (7, .int (nI (nT (mo_g m)))), (5, .ref q_14), (4, .int (smI (gX (mo_g m) 3) (nK (mo_g m)))), (3, .int (smI (gX (mo_g m) 2) (nK (mo_g m)))), (2, .int (smI (gX (mo_g m) 1) (nK (mo_g m)))), (1, .int (nI (nK (mo_g m)))), (0, .ref (a 0))]) hx hb dL_isWell_522 hl (by decide) rfl (fun ls hl => ?_)
                                    refine lv_iinc (v := nI (k3 + 1)) (lv' := [(9, .int (nI (k3 + 1))), (6, .int (nI 1)), (8, .int (nI (riN (mo_g m) (k3 + 1)))), (11, .int (nI (nT (mo_g m)))), (10, .int (kb_b (dueB (mo_g m) k3 (nT (mo_g m))))), (7, .int (nI (nT (mo_g m)))), (5, .ref q_14), (4, .int (smI (gX (mo_g m) 3) (nK (mo_g m)))), (3, .int (smI (gX (mo_g m) 2) (nK (mo_g m)))), (2, .int (smI (gX (mo_g m) 1) (nK (mo_g m)))), (1, .int (nI (nK (mo_g m)))), (0, .ref (a 0))]) hx hb dL_isWell_524 hl (k := 4) rfl (kb_inc1 k3) (by decide) rfl (fun ls hl => ?_)
                                    refine lv_goto (tgt := 356) hx hb dL_isWell_527 (by decide) ?_
                                    exact ih_356 u_501_1 (k3 + 1) hin (by omega) (by omega) _ _ hP hD hS _ (lv_sub hl [0, 2, 5, 1, 6, 7, 8, 9, 10, 11] rfl)
                            · rcases Nat.lt_trichotomy j k3 with hj3 | hj3 | hj3
                              · by_cases hkey : key (mo_g m) (gT (mo_g m) j) < key (mo_g m) (gT (mo_g m) k3)
                                · have hnx := dueB_1 hj3 hkey
                                  refine lv_iload hx hb dL_isWell_376 (lv_at hl 0 rfl) ?_
                                  refine lv_iload hx hb dL_isWell_378 (lv_at hl 2 rfl) ?_
                                  refine kb_icmp_ne (tgt := 387) hx hb dL_isWell_380 (by decide) (by omega) (by omega) (fun c380 => ?_) (fun c380 => ?_)
                                  · refine lv_aload_n hx hb dL_isWell_387 rfl (lv_at hl 11 rfl) ?_
                                    refine lv_aload_n hx hb dL_isWell_388 rfl (lv_at hl 11 rfl) ?_
                                    refine lv_iload hx hb dL_isWell_389 (lv_at hl 0 rfl) ?_
                                    refine kb_bIa (w := bW cI cC cS a) (As := [.int (nI j)]) (rest := [.ref (a 0)]) hx hb hml hts hown hN hK hP hD hS hA (b_seat l D cI cC cS a hin (nI j)) gL_isWell_X4_seat rfl ⟨rfl, rfl⟩ hdX4_seat ⟨(Nat.le_of_ble_eq_true rfl), (Nat.le_of_ble_eq_true rfl)⟩ [0, 1, 2] rfl (ci := 4) rfl rfl rfl (fun _ => kb_blk _ _) rfl rfl hl.1 (Nat.le_of_ble_eq_true rfl) dL_isWell_391 ⟨(Nat.le_of_ble_eq_true rfl), (Nat.le_of_ble_eq_true rfl)⟩ (fun r u_391 H locs hw hP hD hS => ?_)
                                    obtain ⟨hr_391, hin⟩ := hw
                                    subst hr_391
                                    refine kb_top (nI (gT (mo_g m) j)) (seA_t ho (by omega)) ?_
                                    refine lv_aload_n hx hb dL_isWell_394 rfl (lv_at hl 11 rfl) ?_
                                    refine lv_iload hx hb dL_isWell_395 (lv_at hl 2 rfl) ?_
                                    refine kb_bIa (w := bW cI cC cS a) (As := [.int (nI k3)]) (rest := [.int (nI (gT (mo_g m) j)), .ref (a 0)]) hx hb hml hts hown hN hK hP hD hS hA (b_seat l D cI cC cS a hin (nI k3)) gL_isWell_X4_seat rfl ⟨rfl, rfl⟩ hdX4_seat ⟨(Nat.le_of_ble_eq_true rfl), (Nat.le_of_ble_eq_true rfl)⟩ [0, 1, 2] rfl (ci := 4) rfl rfl rfl (fun _ => kb_blk _ _) rfl rfl hl.1 (Nat.le_of_ble_eq_true rfl) dL_isWell_397 ⟨(Nat.le_of_ble_eq_true rfl), (Nat.le_of_ble_eq_true rfl)⟩ (fun r u_397 H locs hw hP hD hS => ?_)
                                    obtain ⟨hr_397, hin⟩ := hw
                                    subst hr_397
                                    refine kb_top (nI (gT (mo_g m) k3)) (seA_t ho (by omega)) ?_
                                    refine kb_bIa (w := bW cI cC cS a) (As := [.int (nI (gT (mo_g m) j)), .int (nI (gT (mo_g m) k3))]) (rest := []) hx hb hml hts hown hN hK hP hD hS hA (b_reason l D cI cC cS a hin (nI (gT (mo_g m) j)) (nI (gT (mo_g m) k3))) gL_isWell_X4_reason rfl ⟨rfl, rfl⟩ hdX4_reason ⟨(Nat.le_of_ble_eq_true rfl), (Nat.le_of_ble_eq_true rfl)⟩ [0, 1, 2] rfl (ci := 4) rfl rfl rfl (fun _ => kb_blk _ _) rfl rfl hl.1 (Nat.le_of_ble_eq_true rfl) dL_isWell_400 ⟨(Nat.le_of_ble_eq_true rfl), (Nat.le_of_ble_eq_true rfl)⟩ (fun r u_400 H locs hw hP hD hS => ?_)
                                    obtain ⟨hr_400, hin⟩ := hw
                                    subst hr_400
                                    refine kb_top (nI 2) ((reA_t ho (by omega) (by omega) (by omega)).trans (why_lt2 ho (by omega) (by omega) hj3 hkey)) ?_
                                    refine lv_istore (lv' := [(12, .int (nI 2)), (11, .int (nI j)), (10, .int (kb_b (dueB (mo_g m) k3 j))), (9, .int (nI k3)), (8, .int (nI (riN (mo_g m) k3))), (7, .int (nI (nT (mo_g m)))), (6, .int (nI 1)), (5, .ref q_14), (4, .int (smI (gX (mo_g m) 3) (nK (mo_g m)))), (3, .int (smI (gX (mo_g m) 2) (nK (mo_g m)))), (2, .int (smI (gX (mo_g m) 1) (nK (mo_g m)))), (1, .int (nI (nK (mo_g m)))), (0, .ref (a 0))]) hx hb dL_isWell_403 hl (by decide) rfl (fun ls hl => ?_)
                                    refine lv_iload hx hb dL_isWell_405 (lv_at hl 2 rfl) ?_
                                    refine kb_bif_eq (tgt := 420) hx hb dL_isWell_407 (by decide) (fun c407 => ?_) (fun c407 => ?_)
                                    · refine lv_iconst (v := nI 0) hx hb dL_isWell_420 (by decide) ?_
                                      refine kb_top (kb_b (dueB (mo_g m) k3 (j + 1))) (kb_t0 hnx) ?_
                                      refine lv_istore (lv' := [(10, .int (kb_b (dueB (mo_g m) k3 (j + 1)))), (12, .int (nI 2)), (11, .int (nI j)), (9, .int (nI k3)), (8, .int (nI (riN (mo_g m) k3))), (7, .int (nI (nT (mo_g m)))), (6, .int (nI 1)), (5, .ref q_14), (4, .int (smI (gX (mo_g m) 3) (nK (mo_g m)))), (3, .int (smI (gX (mo_g m) 2) (nK (mo_g m)))), (2, .int (smI (gX (mo_g m) 1) (nK (mo_g m)))), (1, .int (nI (nK (mo_g m)))), (0, .ref (a 0))]) hx hb dL_isWell_421 hl (by decide) rfl (fun ls hl => ?_)
                                      refine lv_iload hx hb dL_isWell_423 (lv_at hl 6 rfl) ?_
                                      refine kb_nif_eq (tgt := 465) hx hb dL_isWell_425 (by decide) (by decide) (fun c => absurd c (by decide)) (fun _ => ?_)
                                      refine lv_iload hx hb dL_isWell_428 (lv_at hl 2 rfl) ?_
                                      refine lv_iload hx hb dL_isWell_430 (lv_at hl 3 rfl) ?_
                                      refine kb_icmp_eq (tgt := 461) hx hb dL_isWell_432 (by decide) (by omega) (by omega) (fun c432 => ?_) (fun c432 => ?_)
                                      · exfalso; omega
                                      · refine lv_iload hx hb dL_isWell_435 (lv_at hl 1 rfl) ?_
                                        refine lv_iconst (v := nI 1) hx hb dL_isWell_437 (by decide) ?_
                                        refine kb_icmp_ne (tgt := 445) hx hb dL_isWell_438 (by decide) (by decide) (by decide) (fun _ => ?_) (fun c => absurd c (by decide))
                                        refine lv_iconst (v := nI 0) hx hb dL_isWell_445 (by decide) ?_
                                        refine lv_iload hx hb dL_isWell_446 (lv_at hl 2 rfl) ?_
                                        refine lv_iload hx hb dL_isWell_448 (lv_at hl 3 rfl) ?_
                                        refine kb_icmp_le (tgt := 457) hx hb dL_isWell_450 (by decide) (by omega) (by omega) (fun c450 => ?_) (fun c450 => ?_)
                                        · refine lv_iconst (v := nI 0) hx hb dL_isWell_457 (by decide) ?_
                                          refine kb_icmp_ne (tgt := 465) hx hb dL_isWell_458 (by decide) (by decide) (by decide) (fun c => absurd c (by decide)) (fun _ => ?_)
                                          refine lv_iconst (v := nI 1) hx hb dL_isWell_461 (by decide) ?_
                                          refine lv_goto (tgt := 466) hx hb dL_isWell_462 (by decide) ?_
                                          refine lv_istore (lv' := [(6, .int (nI 1)), (10, .int (kb_b (dueB (mo_g m) k3 (j + 1)))), (12, .int (nI 2)), (11, .int (nI j)), (9, .int (nI k3)), (8, .int (nI (riN (mo_g m) k3))), (7, .int (nI (nT (mo_g m)))), (5, .ref q_14), (4, .int (smI (gX (mo_g m) 3) (nK (mo_g m)))), (3, .int (smI (gX (mo_g m) 2) (nK (mo_g m)))), (2, .int (smI (gX (mo_g m) 1) (nK (mo_g m)))), (1, .int (nI (nK (mo_g m)))), (0, .ref (a 0))]) hx hb dL_isWell_466 hl (by decide) rfl (fun ls hl => ?_)
                                          refine lv_iinc (v := nI (j + 1)) (lv' := [(11, .int (nI (j + 1))), (6, .int (nI 1)), (10, .int (kb_b (dueB (mo_g m) k3 (j + 1)))), (12, .int (nI 2)), (9, .int (nI k3)), (8, .int (nI (riN (mo_g m) k3))), (7, .int (nI (nT (mo_g m)))), (5, .ref q_14), (4, .int (smI (gX (mo_g m) 3) (nK (mo_g m)))), (3, .int (smI (gX (mo_g m) 2) (nK (mo_g m)))), (2, .int (smI (gX (mo_g m) 1) (nK (mo_g m)))), (1, .int (nI (nK (mo_g m)))), (0, .ref (a 0))]) hx hb dL_isWell_468 hl (k := 3) rfl (kb_inc1 j) (by decide) rfl (fun ls hl => ?_)
                                          refine lv_goto (tgt := 369) hx hb dL_isWell_471 (by decide) ?_
                                          exact ih_369 u_400 (j + 1) hin (by omega) (by omega) _ _ hP hD hS _ (lv_sub hl [0, 2, 4, 5, 6, 1, 7, 8, 9, 10, 11, 12] rfl)
                                        · exfalso; omega
                                    · refine lv_iload hx hb dL_isWell_410 (lv_at hl 0 rfl) ?_
                                      refine lv_iconst (v := nI 2) hx hb dL_isWell_412 (by decide) ?_
                                      refine kb_icmp_eq (tgt := 420) hx hb dL_isWell_413 (by decide) (by decide) (by decide) (fun _ => ?_) (fun c => absurd c (by decide))
                                      refine lv_iconst (v := nI 0) hx hb dL_isWell_420 (by decide) ?_
                                      refine kb_top (kb_b (dueB (mo_g m) k3 (j + 1))) (kb_t0 hnx) ?_
                                      refine lv_istore (lv' := [(10, .int (kb_b (dueB (mo_g m) k3 (j + 1)))), (12, .int (nI 2)), (11, .int (nI j)), (9, .int (nI k3)), (8, .int (nI (riN (mo_g m) k3))), (7, .int (nI (nT (mo_g m)))), (6, .int (nI 1)), (5, .ref q_14), (4, .int (smI (gX (mo_g m) 3) (nK (mo_g m)))), (3, .int (smI (gX (mo_g m) 2) (nK (mo_g m)))), (2, .int (smI (gX (mo_g m) 1) (nK (mo_g m)))), (1, .int (nI (nK (mo_g m)))), (0, .ref (a 0))]) hx hb dL_isWell_421 hl (by decide) rfl (fun ls hl => ?_)
                                      refine lv_iload hx hb dL_isWell_423 (lv_at hl 6 rfl) ?_
                                      refine kb_nif_eq (tgt := 465) hx hb dL_isWell_425 (by decide) (by decide) (fun c => absurd c (by decide)) (fun _ => ?_)
                                      refine lv_iload hx hb dL_isWell_428 (lv_at hl 2 rfl) ?_
                                      refine lv_iload hx hb dL_isWell_430 (lv_at hl 3 rfl) ?_
                                      refine kb_icmp_eq (tgt := 461) hx hb dL_isWell_432 (by decide) (by omega) (by omega) (fun c432 => ?_) (fun c432 => ?_)
                                      · exfalso; omega
                                      · refine lv_iload hx hb dL_isWell_435 (lv_at hl 1 rfl) ?_
                                        refine lv_iconst (v := nI 1) hx hb dL_isWell_437 (by decide) ?_
                                        refine kb_icmp_ne (tgt := 445) hx hb dL_isWell_438 (by decide) (by decide) (by decide) (fun _ => ?_) (fun c => absurd c (by decide))
                                        refine lv_iconst (v := nI 0) hx hb dL_isWell_445 (by decide) ?_
                                        refine lv_iload hx hb dL_isWell_446 (lv_at hl 2 rfl) ?_
                                        refine lv_iload hx hb dL_isWell_448 (lv_at hl 3 rfl) ?_
                                        refine kb_icmp_le (tgt := 457) hx hb dL_isWell_450 (by decide) (by omega) (by omega) (fun c450 => ?_) (fun c450 => ?_)
                                        · refine lv_iconst (v := nI 0) hx hb dL_isWell_457 (by decide) ?_
                                          refine kb_icmp_ne (tgt := 465) hx hb dL_isWell_458 (by decide) (by decide) (by decide) (fun c => absurd c (by decide)) (fun _ => ?_)
                                          refine lv_iconst (v := nI 1) hx hb dL_isWell_461 (by decide) ?_
                                          refine lv_goto (tgt := 466) hx hb dL_isWell_462 (by decide) ?_
                                          refine lv_istore (lv' := [(6, .int (nI 1)), (10, .int (kb_b (dueB (mo_g m) k3 (j + 1)))), (12, .int (nI 2)), (11, .int (nI j)), (9, .int (nI k3)), (8, .int (nI (riN (mo_g m) k3))), (7, .int (nI (nT (mo_g m)))), (5, .ref q_14), (4, .int (smI (gX (mo_g m) 3) (nK (mo_g m)))), (3, .int (smI (gX (mo_g m) 2) (nK (mo_g m)))), (2, .int (smI (gX (mo_g m) 1) (nK (mo_g m)))), (1, .int (nI (nK (mo_g m)))), (0, .ref (a 0))]) hx hb dL_isWell_466 hl (by decide) rfl (fun ls hl => ?_)
                                          refine lv_iinc (v := nI (j + 1)) (lv' := [(11, .int (nI (j + 1))), (6, .int (nI 1)), (10, .int (kb_b (dueB (mo_g m) k3 (j + 1)))), (12, .int (nI 2)), (9, .int (nI k3)), (8, .int (nI (riN (mo_g m) k3))), (7, .int (nI (nT (mo_g m)))), (5, .ref q_14), (4, .int (smI (gX (mo_g m) 3) (nK (mo_g m)))), (3, .int (smI (gX (mo_g m) 2) (nK (mo_g m)))), (2, .int (smI (gX (mo_g m) 1) (nK (mo_g m)))), (1, .int (nI (nK (mo_g m)))), (0, .ref (a 0))]) hx hb dL_isWell_468 hl (k := 3) rfl (kb_inc1 j) (by decide) rfl (fun ls hl => ?_)
                                          refine lv_goto (tgt := 369) hx hb dL_isWell_471 (by decide) ?_
                                          exact ih_369 u_400 (j + 1) hin (by omega) (by omega) _ _ hP hD hS _ (lv_sub hl [0, 2, 4, 5, 6, 1, 7, 8, 9, 10, 11, 12] rfl)
                                        · exfalso; omega
                                  · exfalso; omega
                                · have hnx := dueB_2 (g := (mo_g m)) (k := k3) (j := j) (fun z => hkey z.2)
                                  refine lv_iload hx hb dL_isWell_376 (lv_at hl 0 rfl) ?_
                                  refine lv_iload hx hb dL_isWell_378 (lv_at hl 2 rfl) ?_
                                  refine kb_icmp_ne (tgt := 387) hx hb dL_isWell_380 (by decide) (by omega) (by omega) (fun c380 => ?_) (fun c380 => ?_)
                                  · refine lv_aload_n hx hb dL_isWell_387 rfl (lv_at hl 11 rfl) ?_
                                    refine lv_aload_n hx hb dL_isWell_388 rfl (lv_at hl 11 rfl) ?_
                                    refine lv_iload hx hb dL_isWell_389 (lv_at hl 0 rfl) ?_
                                    refine kb_bIa (w := bW cI cC cS a) (As := [.int (nI j)]) (rest := [.ref (a 0)]) hx hb hml hts hown hN hK hP hD hS hA (b_seat l D cI cC cS a hin (nI j)) gL_isWell_X4_seat rfl ⟨rfl, rfl⟩ hdX4_seat ⟨(Nat.le_of_ble_eq_true rfl), (Nat.le_of_ble_eq_true rfl)⟩ [0, 1, 2] rfl (ci := 4) rfl rfl rfl (fun _ => kb_blk _ _) rfl rfl hl.1 (Nat.le_of_ble_eq_true rfl) dL_isWell_391 ⟨(Nat.le_of_ble_eq_true rfl), (Nat.le_of_ble_eq_true rfl)⟩ (fun r u_391_1 H locs hw hP hD hS => ?_)
                                    obtain ⟨hr_391, hin⟩ := hw
                                    subst hr_391
                                    refine kb_top (nI (gT (mo_g m) j)) (seA_t ho (by omega)) ?_
                                    refine lv_aload_n hx hb dL_isWell_394 rfl (lv_at hl 11 rfl) ?_
                                    refine lv_iload hx hb dL_isWell_395 (lv_at hl 2 rfl) ?_
                                    refine kb_bIa (w := bW cI cC cS a) (As := [.int (nI k3)]) (rest := [.int (nI (gT (mo_g m) j)), .ref (a 0)]) hx hb hml hts hown hN hK hP hD hS hA (b_seat l D cI cC cS a hin (nI k3)) gL_isWell_X4_seat rfl ⟨rfl, rfl⟩ hdX4_seat ⟨(Nat.le_of_ble_eq_true rfl), (Nat.le_of_ble_eq_true rfl)⟩ [0, 1, 2] rfl (ci := 4) rfl rfl rfl (fun _ => kb_blk _ _) rfl rfl hl.1 (Nat.le_of_ble_eq_true rfl) dL_isWell_397 ⟨(Nat.le_of_ble_eq_true rfl), (Nat.le_of_ble_eq_true rfl)⟩ (fun r u_397_1 H locs hw hP hD hS => ?_)
                                    obtain ⟨hr_397, hin⟩ := hw
                                    subst hr_397
                                    refine kb_top (nI (gT (mo_g m) k3)) (seA_t ho (by omega)) ?_
                                    refine kb_bIa (w := bW cI cC cS a) (As := [.int (nI (gT (mo_g m) j)), .int (nI (gT (mo_g m) k3))]) (rest := []) hx hb hml hts hown hN hK hP hD hS hA (b_reason l D cI cC cS a hin (nI (gT (mo_g m) j)) (nI (gT (mo_g m) k3))) gL_isWell_X4_reason rfl ⟨rfl, rfl⟩ hdX4_reason ⟨(Nat.le_of_ble_eq_true rfl), (Nat.le_of_ble_eq_true rfl)⟩ [0, 1, 2] rfl (ci := 4) rfl rfl rfl (fun _ => kb_blk _ _) rfl rfl hl.1 (Nat.le_of_ble_eq_true rfl) dL_isWell_400 ⟨(Nat.le_of_ble_eq_true rfl), (Nat.le_of_ble_eq_true rfl)⟩ (fun r u_400_1 H locs hw hP hD hS => ?_)
                                    obtain ⟨hr_400, hin⟩ := hw
                                    subst hr_400
                                    refine kb_top (why (mo_g m) (gT (mo_g m) j) (gT (mo_g m) k3)) (reA_t ho (by omega) (by omega) (by omega)) ?_
                                    refine lv_istore (lv' := [(12, .int (why (mo_g m) (gT (mo_g m) j) (gT (mo_g m) k3))), (11, .int (nI j)), (10, .int (kb_b (dueB (mo_g m) k3 j))), (9, .int (nI k3)), (8, .int (nI (riN (mo_g m) k3))), (7, .int (nI (nT (mo_g m)))), (6, .int (nI 1)), (5, .ref q_14), (4, .int (smI (gX (mo_g m) 3) (nK (mo_g m)))), (3, .int (smI (gX (mo_g m) 2) (nK (mo_g m)))), (2, .int (smI (gX (mo_g m) 1) (nK (mo_g m)))), (1, .int (nI (nK (mo_g m)))), (0, .ref (a 0))]) hx hb dL_isWell_403 hl (by decide) rfl (fun ls hl => ?_)
                                    refine lv_iload hx hb dL_isWell_405 (lv_at hl 2 rfl) ?_
                                    refine kb_bif_eq (tgt := 420) hx hb dL_isWell_407 (by decide) (fun c407 => ?_) (fun c407 => ?_)
                                    · refine lv_iconst (v := nI 0) hx hb dL_isWell_420 (by decide) ?_
                                      refine kb_top (kb_b (dueB (mo_g m) k3 (j + 1))) (kb_t0 (hnx.trans c407)) ?_
                                      refine lv_istore (lv' := [(10, .int (kb_b (dueB (mo_g m) k3 (j + 1)))), (12, .int (why (mo_g m) (gT (mo_g m) j) (gT (mo_g m) k3))), (11, .int (nI j)), (9, .int (nI k3)), (8, .int (nI (riN (mo_g m) k3))), (7, .int (nI (nT (mo_g m)))), (6, .int (nI 1)), (5, .ref q_14), (4, .int (smI (gX (mo_g m) 3) (nK (mo_g m)))), (3, .int (smI (gX (mo_g m) 2) (nK (mo_g m)))), (2, .int (smI (gX (mo_g m) 1) (nK (mo_g m)))), (1, .int (nI (nK (mo_g m)))), (0, .ref (a 0))]) hx hb dL_isWell_421 hl (by decide) rfl (fun ls hl => ?_)
                                      refine lv_iload hx hb dL_isWell_423 (lv_at hl 6 rfl) ?_
                                      refine kb_nif_eq (tgt := 465) hx hb dL_isWell_425 (by decide) (by decide) (fun c => absurd c (by decide)) (fun _ => ?_)
                                      refine lv_iload hx hb dL_isWell_428 (lv_at hl 2 rfl) ?_
                                      refine lv_iload hx hb dL_isWell_430 (lv_at hl 3 rfl) ?_
                                      refine kb_icmp_eq (tgt := 461) hx hb dL_isWell_432 (by decide) (by omega) (by omega) (fun c432 => ?_) (fun c432 => ?_)
                                      · exfalso; omega
                                      · refine lv_iload hx hb dL_isWell_435 (lv_at hl 1 rfl) ?_
                                        refine lv_iconst (v := nI 1) hx hb dL_isWell_437 (by decide) ?_
                                        refine lv_icmp_ne (tgt := 445) hx hb dL_isWell_438 (by decide) (fun c438 => ?_) (fun c438 => ?_)
                                        · refine lv_iconst (v := nI 0) hx hb dL_isWell_445 (by decide) ?_
                                          refine lv_iload hx hb dL_isWell_446 (lv_at hl 2 rfl) ?_
                                          refine lv_iload hx hb dL_isWell_448 (lv_at hl 3 rfl) ?_
                                          refine kb_icmp_le (tgt := 457) hx hb dL_isWell_450 (by decide) (by omega) (by omega) (fun c450 => ?_) (fun c450 => ?_)
                                          · refine lv_iconst (v := nI 0) hx hb dL_isWell_457 (by decide) ?_
                                            refine kb_icmp_ne (tgt := 465) hx hb dL_isWell_458 (by decide) (by decide) (by decide) (fun c => absurd c (by decide)) (fun _ => ?_)
                                            refine lv_iconst (v := nI 1) hx hb dL_isWell_461 (by decide) ?_
                                            refine lv_goto (tgt := 466) hx hb dL_isWell_462 (by decide) ?_
                                            refine lv_istore (lv' := [(6, .int (nI 1)), (10, .int (kb_b (dueB (mo_g m) k3 (j + 1)))), (12, .int (why (mo_g m) (gT (mo_g m) j) (gT (mo_g m) k3))), (11, .int (nI j)), (9, .int (nI k3)), (8, .int (nI (riN (mo_g m) k3))), (7, .int (nI (nT (mo_g m)))), (5, .ref q_14), (4, .int (smI (gX (mo_g m) 3) (nK (mo_g m)))), (3, .int (smI (gX (mo_g m) 2) (nK (mo_g m)))), (2, .int (smI (gX (mo_g m) 1) (nK (mo_g m)))), (1, .int (nI (nK (mo_g m)))), (0, .ref (a 0))]) hx hb dL_isWell_466 hl (by decide) rfl (fun ls hl => ?_)
                                            refine lv_iinc (v := nI (j + 1)) (lv' := [(11, .int (nI (j + 1))), (6, .int (nI 1)), (10, .int (kb_b (dueB (mo_g m) k3 (j + 1)))), (12, .int (why (mo_g m) (gT (mo_g m) j) (gT (mo_g m) k3))), (9, .int (nI k3)), (8, .int (nI (riN (mo_g m) k3))), (7, .int (nI (nT (mo_g m)))), (5, .ref q_14), (4, .int (smI (gX (mo_g m) 3) (nK (mo_g m)))), (3, .int (smI (gX (mo_g m) 2) (nK (mo_g m)))), (2, .int (smI (gX (mo_g m) 1) (nK (mo_g m)))), (1, .int (nI (nK (mo_g m)))), (0, .ref (a 0))]) hx hb dL_isWell_468 hl (k := 3) rfl (kb_inc1 j) (by decide) rfl (fun ls hl => ?_)
                                            refine lv_goto (tgt := 369) hx hb dL_isWell_471 (by decide) ?_
                                            exact ih_369 u_400_1 (j + 1) hin (by omega) (by omega) _ _ hP hD hS _ (lv_sub hl [0, 2, 4, 5, 6, 1, 7, 8, 9, 10, 11, 12] rfl)
                                          · exfalso; omega
                                        · exfalso; exact (why_lt0 ho (by omega) (by omega) hj3 hkey).1 c438
                                    · refine lv_iload hx hb dL_isWell_410 (lv_at hl 0 rfl) ?_
                                      refine lv_iconst (v := nI 2) hx hb dL_isWell_412 (by decide) ?_
                                      refine lv_icmp_eq (tgt := 420) hx hb dL_isWell_413 (by decide) (fun c413 => ?_) (fun c413 => ?_)
                                      · exfalso; exact (why_lt0 ho (by omega) (by omega) hj3 hkey).2 c413
                                      · refine lv_iconst (v := nI 1) hx hb dL_isWell_416 (by decide) ?_
                                        refine lv_goto (tgt := 421) hx hb dL_isWell_417 (by decide) ?_
                                        refine kb_top (kb_b (dueB (mo_g m) k3 (j + 1))) (kb_t1 (hnx.trans c407)) ?_
                                        refine lv_istore (lv' := [(10, .int (kb_b (dueB (mo_g m) k3 (j + 1)))), (12, .int (why (mo_g m) (gT (mo_g m) j) (gT (mo_g m) k3))), (11, .int (nI j)), (9, .int (nI k3)), (8, .int (nI (riN (mo_g m) k3))), (7, .int (nI (nT (mo_g m)))), (6, .int (nI 1)), (5, .ref q_14), (4, .int (smI (gX (mo_g m) 3) (nK (mo_g m)))), (3, .int (smI (gX (mo_g m) 2) (nK (mo_g m)))), (2, .int (smI (gX (mo_g m) 1) (nK (mo_g m)))), (1, .int (nI (nK (mo_g m)))), (0, .ref (a 0))]) hx hb dL_isWell_421 hl (by decide) rfl (fun ls hl => ?_)
                                        refine lv_iload hx hb dL_isWell_423 (lv_at hl 6 rfl) ?_
                                        refine kb_nif_eq (tgt := 465) hx hb dL_isWell_425 (by decide) (by decide) (fun c => absurd c (by decide)) (fun _ => ?_)
                                        refine lv_iload hx hb dL_isWell_428 (lv_at hl 2 rfl) ?_
                                        refine lv_iload hx hb dL_isWell_430 (lv_at hl 3 rfl) ?_
                                        refine kb_icmp_eq (tgt := 461) hx hb dL_isWell_432 (by decide) (by omega) (by omega) (fun c432 => ?_) (fun c432 => ?_)
                                        · exfalso; omega
                                        · refine lv_iload hx hb dL_isWell_435 (lv_at hl 1 rfl) ?_
                                          refine lv_iconst (v := nI 1) hx hb dL_isWell_437 (by decide) ?_
                                          refine lv_icmp_ne (tgt := 445) hx hb dL_isWell_438 (by decide) (fun c438 => ?_) (fun c438 => ?_)
                                          · refine lv_iconst (v := nI 0) hx hb dL_isWell_445 (by decide) ?_
                                            refine lv_iload hx hb dL_isWell_446 (lv_at hl 2 rfl) ?_
                                            refine lv_iload hx hb dL_isWell_448 (lv_at hl 3 rfl) ?_
                                            refine kb_icmp_le (tgt := 457) hx hb dL_isWell_450 (by decide) (by omega) (by omega) (fun c450 => ?_) (fun c450 => ?_)
                                            · refine lv_iconst (v := nI 0) hx hb dL_isWell_457 (by decide) ?_
                                              refine kb_icmp_ne (tgt := 465) hx hb dL_isWell_458 (by decide) (by decide) (by decide) (fun c => absurd c (by decide)) (fun _ => ?_)
                                              refine lv_iconst (v := nI 1) hx hb dL_isWell_461 (by decide) ?_
                                              refine lv_goto (tgt := 466) hx hb dL_isWell_462 (by decide) ?_
                                              refine lv_istore (lv' := [(6, .int (nI 1)), (10, .int (kb_b (dueB (mo_g m) k3 (j + 1)))), (12, .int (why (mo_g m) (gT (mo_g m) j) (gT (mo_g m) k3))), (11, .int (nI j)), (9, .int (nI k3)), (8, .int (nI (riN (mo_g m) k3))), (7, .int (nI (nT (mo_g m)))), (5, .ref q_14), (4, .int (smI (gX (mo_g m) 3) (nK (mo_g m)))), (3, .int (smI (gX (mo_g m) 2) (nK (mo_g m)))), (2, .int (smI (gX (mo_g m) 1) (nK (mo_g m)))), (1, .int (nI (nK (mo_g m)))), (0, .ref (a 0))]) hx hb dL_isWell_466 hl (by decide) rfl (fun ls hl => ?_)
                                              refine lv_iinc (v := nI (j + 1)) (lv' := [(11, .int (nI (j + 1))), (6, .int (nI 1)), (10, .int (kb_b (dueB (mo_g m) k3 (j + 1)))), (12, .int (why (mo_g m) (gT (mo_g m) j) (gT (mo_g m) k3))), (9, .int (nI k3)), (8, .int (nI (riN (mo_g m) k3))), (7, .int (nI (nT (mo_g m)))), (5, .ref q_14), (4, .int (smI (gX (mo_g m) 3) (nK (mo_g m)))), (3, .int (smI (gX (mo_g m) 2) (nK (mo_g m)))), (2, .int (smI (gX (mo_g m) 1) (nK (mo_g m)))), (1, .int (nI (nK (mo_g m)))), (0, .ref (a 0))]) hx hb dL_isWell_468 hl (k := 3) rfl (kb_inc1 j) (by decide) rfl (fun ls hl => ?_)
                                              refine lv_goto (tgt := 369) hx hb dL_isWell_471 (by decide) ?_
                                              exact ih_369 u_400_1 (j + 1) hin (by omega) (by omega) _ _ hP hD hS _ (lv_sub hl [0, 2, 4, 5, 6, 1, 7, 8, 9, 10, 11, 12] rfl)
                                            · exfalso; omega
                                          · exfalso; exact (why_lt0 ho (by omega) (by omega) hj3 hkey).1 c438
                                  · exfalso; omega
                              · have hnx := dueB_2 (g := (mo_g m)) (k := k3) (j := j) (fun z => by omega)
                                refine lv_iload hx hb dL_isWell_376 (lv_at hl 0 rfl) ?_
                                refine lv_iload hx hb dL_isWell_378 (lv_at hl 2 rfl) ?_
                                refine kb_icmp_ne (tgt := 387) hx hb dL_isWell_380 (by decide) (by omega) (by omega) (fun c380 => ?_) (fun c380 => ?_)
                                · exfalso; omega
                                · refine lv_iconst (v := nI 1) hx hb dL_isWell_383 (by decide) ?_
                                  refine lv_goto (tgt := 403) hx hb dL_isWell_384 (by decide) ?_
                                  refine lv_istore (lv' := [(12, .int (nI 1)), (11, .int (nI j)), (10, .int (kb_b (dueB (mo_g m) k3 j))), (9, .int (nI k3)), (8, .int (nI (riN (mo_g m) k3))), (7, .int (nI (nT (mo_g m)))), (6, .int (nI 1)), (5, .ref q_14), (4, .int (smI (gX (mo_g m) 3) (nK (mo_g m)))), (3, .int (smI (gX (mo_g m) 2) (nK (mo_g m)))), (2, .int (smI (gX (mo_g m) 1) (nK (mo_g m)))), (1, .int (nI (nK (mo_g m)))), (0, .ref (a 0))]) hx hb dL_isWell_403 hl (by decide) rfl (fun ls hl => ?_)
                                  refine lv_iload hx hb dL_isWell_405 (lv_at hl 2 rfl) ?_
                                  refine kb_bif_eq (tgt := 420) hx hb dL_isWell_407 (by decide) (fun c407 => ?_) (fun c407 => ?_)
                                  · refine lv_iconst (v := nI 0) hx hb dL_isWell_420 (by decide) ?_
                                    refine kb_top (kb_b (dueB (mo_g m) k3 (j + 1))) (kb_t0 (hnx.trans c407)) ?_
                                    refine lv_istore (lv' := [(10, .int (kb_b (dueB (mo_g m) k3 (j + 1)))), (12, .int (nI 1)), (11, .int (nI j)), (9, .int (nI k3)), (8, .int (nI (riN (mo_g m) k3))), (7, .int (nI (nT (mo_g m)))), (6, .int (nI 1)), (5, .ref q_14), (4, .int (smI (gX (mo_g m) 3) (nK (mo_g m)))), (3, .int (smI (gX (mo_g m) 2) (nK (mo_g m)))), (2, .int (smI (gX (mo_g m) 1) (nK (mo_g m)))), (1, .int (nI (nK (mo_g m)))), (0, .ref (a 0))]) hx hb dL_isWell_421 hl (by decide) rfl (fun ls hl => ?_)
                                    refine lv_iload hx hb dL_isWell_423 (lv_at hl 6 rfl) ?_
                                    refine kb_nif_eq (tgt := 465) hx hb dL_isWell_425 (by decide) (by decide) (fun c => absurd c (by decide)) (fun _ => ?_)
                                    refine lv_iload hx hb dL_isWell_428 (lv_at hl 2 rfl) ?_
                                    refine lv_iload hx hb dL_isWell_430 (lv_at hl 3 rfl) ?_
                                    refine kb_icmp_eq (tgt := 461) hx hb dL_isWell_432 (by decide) (by omega) (by omega) (fun c432 => ?_) (fun c432 => ?_)
                                    · refine lv_iconst (v := nI 1) hx hb dL_isWell_461 (by decide) ?_
                                      refine lv_goto (tgt := 466) hx hb dL_isWell_462 (by decide) ?_
                                      refine lv_istore (lv' := [(6, .int (nI 1)), (10, .int (kb_b (dueB (mo_g m) k3 (j + 1)))), (12, .int (nI 1)), (11, .int (nI j)), (9, .int (nI k3)), (8, .int (nI (riN (mo_g m) k3))), (7, .int (nI (nT (mo_g m)))), (5, .ref q_14), (4, .int (smI (gX (mo_g m) 3) (nK (mo_g m)))), (3, .int (smI (gX (mo_g m) 2) (nK (mo_g m)))), (2, .int (smI (gX (mo_g m) 1) (nK (mo_g m)))), (1, .int (nI (nK (mo_g m)))), (0, .ref (a 0))]) hx hb dL_isWell_466 hl (by decide) rfl (fun ls hl => ?_)
                                      refine lv_iinc (v := nI (j + 1)) (lv' := [(11, .int (nI (j + 1))), (6, .int (nI 1)), (10, .int (kb_b (dueB (mo_g m) k3 (j + 1)))), (12, .int (nI 1)), (9, .int (nI k3)), (8, .int (nI (riN (mo_g m) k3))), (7, .int (nI (nT (mo_g m)))), (5, .ref q_14), (4, .int (smI (gX (mo_g m) 3) (nK (mo_g m)))), (3, .int (smI (gX (mo_g m) 2) (nK (mo_g m)))), (2, .int (smI (gX (mo_g m) 1) (nK (mo_g m)))), (1, .int (nI (nK (mo_g m)))), (0, .ref (a 0))]) hx hb dL_isWell_468 hl (k := 3) rfl (kb_inc1 j) (by decide) rfl (fun ls hl => ?_)
                                      refine lv_goto (tgt := 369) hx hb dL_isWell_471 (by decide) ?_
                                      exact ih_369 u (j + 1) hin (by omega) (by omega) _ _ hP hD hS _ (lv_sub hl [0, 2, 4, 5, 6, 1, 7, 8, 9, 10, 11, 12] rfl)
                                    · exfalso; omega
                                  · refine lv_iload hx hb dL_isWell_410 (lv_at hl 0 rfl) ?_
                                    refine lv_iconst (v := nI 2) hx hb dL_isWell_412 (by decide) ?_
                                    refine kb_icmp_eq (tgt := 420) hx hb dL_isWell_413 (by decide) (by decide) (by decide) (fun c => absurd c (by decide)) (fun _ => ?_)
                                    refine lv_iconst (v := nI 1) hx hb dL_isWell_416 (by decide) ?_
                                    refine lv_goto (tgt := 421) hx hb dL_isWell_417 (by decide) ?_
                                    refine kb_top (kb_b (dueB (mo_g m) k3 (j + 1))) (kb_t1 (hnx.trans c407)) ?_
                                    refine lv_istore (lv' := [(10, .int (kb_b (dueB (mo_g m) k3 (j + 1)))), (12, .int (nI 1)), (11, .int (nI j)), (9, .int (nI k3)), (8, .int (nI (riN (mo_g m) k3))), (7, .int (nI (nT (mo_g m)))), (6, .int (nI 1)), (5, .ref q_14), (4, .int (smI (gX (mo_g m) 3) (nK (mo_g m)))), (3, .int (smI (gX (mo_g m) 2) (nK (mo_g m)))), (2, .int (smI (gX (mo_g m) 1) (nK (mo_g m)))), (1, .int (nI (nK (mo_g m)))), (0, .ref (a 0))]) hx hb dL_isWell_421 hl (by decide) rfl (fun ls hl => ?_)
                                    refine lv_iload hx hb dL_isWell_423 (lv_at hl 6 rfl) ?_
                                    refine kb_nif_eq (tgt := 465) hx hb dL_isWell_425 (by decide) (by decide) (fun c => absurd c (by decide)) (fun _ => ?_)
                                    refine lv_iload hx hb dL_isWell_428 (lv_at hl 2 rfl) ?_
                                    refine lv_iload hx hb dL_isWell_430 (lv_at hl 3 rfl) ?_
                                    refine kb_icmp_eq (tgt := 461) hx hb dL_isWell_432 (by decide) (by omega) (by omega) (fun c432 => ?_) (fun c432 => ?_)
                                    · refine lv_iconst (v := nI 1) hx hb dL_isWell_461 (by decide) ?_
                                      refine lv_goto (tgt := 466) hx hb dL_isWell_462 (by decide) ?_
                                      refine lv_istore (lv' := [(6, .int (nI 1)), (10, .int (kb_b (dueB (mo_g m) k3 (j + 1)))), (12, .int (nI 1)), (11, .int (nI j)), (9, .int (nI k3)), (8, .int (nI (riN (mo_g m) k3))), (7, .int (nI (nT (mo_g m)))), (5, .ref q_14), (4, .int (smI (gX (mo_g m) 3) (nK (mo_g m)))), (3, .int (smI (gX (mo_g m) 2) (nK (mo_g m)))), (2, .int (smI (gX (mo_g m) 1) (nK (mo_g m)))), (1, .int (nI (nK (mo_g m)))), (0, .ref (a 0))]) hx hb dL_isWell_466 hl (by decide) rfl (fun ls hl => ?_)
                                      refine lv_iinc (v := nI (j + 1)) (lv' := [(11, .int (nI (j + 1))), (6, .int (nI 1)), (10, .int (kb_b (dueB (mo_g m) k3 (j + 1)))), (12, .int (nI 1)), (9, .int (nI k3)), (8, .int (nI (riN (mo_g m) k3))), (7, .int (nI (nT (mo_g m)))), (5, .ref q_14), (4, .int (smI (gX (mo_g m) 3) (nK (mo_g m)))), (3, .int (smI (gX (mo_g m) 2) (nK (mo_g m)))), (2, .int (smI (gX (mo_g m) 1) (nK (mo_g m)))), (1, .int (nI (nK (mo_g m)))), (0, .ref (a 0))]) hx hb dL_isWell_468 hl (k := 3) rfl (kb_inc1 j) (by decide) rfl (fun ls hl => ?_)
                                      refine lv_goto (tgt := 369) hx hb dL_isWell_471 (by decide) ?_
                                      exact ih_369 u (j + 1) hin (by omega) (by omega) _ _ hP hD hS _ (lv_sub hl [0, 2, 4, 5, 6, 1, 7, 8, 9, 10, 11, 12] rfl)
                                    · exfalso; omega
                              · have hnx := dueB_2 (g := (mo_g m)) (k := k3) (j := j) (fun z => by omega)
                                refine lv_iload hx hb dL_isWell_376 (lv_at hl 0 rfl) ?_
                                refine lv_iload hx hb dL_isWell_378 (lv_at hl 2 rfl) ?_
                                refine kb_icmp_ne (tgt := 387) hx hb dL_isWell_380 (by decide) (by omega) (by omega) (fun c380 => ?_) (fun c380 => ?_)
                                · refine lv_aload_n hx hb dL_isWell_387 rfl (lv_at hl 11 rfl) ?_
                                  refine lv_aload_n hx hb dL_isWell_388 rfl (lv_at hl 11 rfl) ?_
                                  refine lv_iload hx hb dL_isWell_389 (lv_at hl 0 rfl) ?_
                                  refine kb_bIa (w := bW cI cC cS a) (As := [.int (nI j)]) (rest := [.ref (a 0)]) hx hb hml hts hown hN hK hP hD hS hA (b_seat l D cI cC cS a hin (nI j)) gL_isWell_X4_seat rfl ⟨rfl, rfl⟩ hdX4_seat ⟨(Nat.le_of_ble_eq_true rfl), (Nat.le_of_ble_eq_true rfl)⟩ [0, 1, 2] rfl (ci := 4) rfl rfl rfl (fun _ => kb_blk _ _) rfl rfl hl.1 (Nat.le_of_ble_eq_true rfl) dL_isWell_391 ⟨(Nat.le_of_ble_eq_true rfl), (Nat.le_of_ble_eq_true rfl)⟩ (fun r u_391_2 H locs hw hP hD hS => ?_)
                                  obtain ⟨hr_391, hin⟩ := hw
                                  subst hr_391
                                  refine kb_top (nI (gT (mo_g m) j)) (seA_t ho (by omega)) ?_
                                  refine lv_aload_n hx hb dL_isWell_394 rfl (lv_at hl 11 rfl) ?_
                                  refine lv_iload hx hb dL_isWell_395 (lv_at hl 2 rfl) ?_
                                  refine kb_bIa (w := bW cI cC cS a) (As := [.int (nI k3)]) (rest := [.int (nI (gT (mo_g m) j)), .ref (a 0)]) hx hb hml hts hown hN hK hP hD hS hA (b_seat l D cI cC cS a hin (nI k3)) gL_isWell_X4_seat rfl ⟨rfl, rfl⟩ hdX4_seat ⟨(Nat.le_of_ble_eq_true rfl), (Nat.le_of_ble_eq_true rfl)⟩ [0, 1, 2] rfl (ci := 4) rfl rfl rfl (fun _ => kb_blk _ _) rfl rfl hl.1 (Nat.le_of_ble_eq_true rfl) dL_isWell_397 ⟨(Nat.le_of_ble_eq_true rfl), (Nat.le_of_ble_eq_true rfl)⟩ (fun r u_397_2 H locs hw hP hD hS => ?_)
                                  obtain ⟨hr_397, hin⟩ := hw
                                  subst hr_397
                                  refine kb_top (nI (gT (mo_g m) k3)) (seA_t ho (by omega)) ?_
                                  refine kb_bIa (w := bW cI cC cS a) (As := [.int (nI (gT (mo_g m) j)), .int (nI (gT (mo_g m) k3))]) (rest := []) hx hb hml hts hown hN hK hP hD hS hA (b_reason l D cI cC cS a hin (nI (gT (mo_g m) j)) (nI (gT (mo_g m) k3))) gL_isWell_X4_reason rfl ⟨rfl, rfl⟩ hdX4_reason ⟨(Nat.le_of_ble_eq_true rfl), (Nat.le_of_ble_eq_true rfl)⟩ [0, 1, 2] rfl (ci := 4) rfl rfl rfl (fun _ => kb_blk _ _) rfl rfl hl.1 (Nat.le_of_ble_eq_true rfl) dL_isWell_400 ⟨(Nat.le_of_ble_eq_true rfl), (Nat.le_of_ble_eq_true rfl)⟩ (fun r u_400_2 H locs hw hP hD hS => ?_)
                                  obtain ⟨hr_400, hin⟩ := hw
                                  subst hr_400
                                  refine kb_top (nI 1) ((reA_t ho (by omega) (by omega) (by omega)).trans (why_gt ho (by omega) (by omega) hj3)) ?_
                                  refine lv_istore (lv' := [(12, .int (nI 1)), (11, .int (nI j)), (10, .int (kb_b (dueB (mo_g m) k3 j))), (9, .int (nI k3)), (8, .int (nI (riN (mo_g m) k3))), (7, .int (nI (nT (mo_g m)))), (6, .int (nI 1)), (5, .ref q_14), (4, .int (smI (gX (mo_g m) 3) (nK (mo_g m)))), (3, .int (smI (gX (mo_g m) 2) (nK (mo_g m)))), (2, .int (smI (gX (mo_g m) 1) (nK (mo_g m)))), (1, .int (nI (nK (mo_g m)))), (0, .ref (a 0))]) hx hb dL_isWell_403 hl (by decide) rfl (fun ls hl => ?_)
                                  refine lv_iload hx hb dL_isWell_405 (lv_at hl 2 rfl) ?_
                                  refine kb_bif_eq (tgt := 420) hx hb dL_isWell_407 (by decide) (fun c407 => ?_) (fun c407 => ?_)
                                  · refine lv_iconst (v := nI 0) hx hb dL_isWell_420 (by decide) ?_
                                    refine kb_top (kb_b (dueB (mo_g m) k3 (j + 1))) (kb_t0 (hnx.trans c407)) ?_
                                    refine lv_istore (lv' := [(10, .int (kb_b (dueB (mo_g m) k3 (j + 1)))), (12, .int (nI 1)), (11, .int (nI j)), (9, .int (nI k3)), (8, .int (nI (riN (mo_g m) k3))), (7, .int (nI (nT (mo_g m)))), (6, .int (nI 1)), (5, .ref q_14), (4, .int (smI (gX (mo_g m) 3) (nK (mo_g m)))), (3, .int (smI (gX (mo_g m) 2) (nK (mo_g m)))), (2, .int (smI (gX (mo_g m) 1) (nK (mo_g m)))), (1, .int (nI (nK (mo_g m)))), (0, .ref (a 0))]) hx hb dL_isWell_421 hl (by decide) rfl (fun ls hl => ?_)
                                    refine lv_iload hx hb dL_isWell_423 (lv_at hl 6 rfl) ?_
                                    refine kb_nif_eq (tgt := 465) hx hb dL_isWell_425 (by decide) (by decide) (fun c => absurd c (by decide)) (fun _ => ?_)
                                    refine lv_iload hx hb dL_isWell_428 (lv_at hl 2 rfl) ?_
                                    refine lv_iload hx hb dL_isWell_430 (lv_at hl 3 rfl) ?_
                                    refine kb_icmp_eq (tgt := 461) hx hb dL_isWell_432 (by decide) (by omega) (by omega) (fun c432 => ?_) (fun c432 => ?_)
                                    · exfalso; omega
                                    · refine lv_iload hx hb dL_isWell_435 (lv_at hl 1 rfl) ?_
                                      refine lv_iconst (v := nI 1) hx hb dL_isWell_437 (by decide) ?_
                                      refine kb_icmp_ne (tgt := 445) hx hb dL_isWell_438 (by decide) (by decide) (by decide) (fun c => absurd c (by decide)) (fun _ => ?_)
                                      refine lv_iconst (v := nI 1) hx hb dL_isWell_441 (by decide) ?_
                                      refine lv_goto (tgt := 446) hx hb dL_isWell_442 (by decide) ?_
                                      refine lv_iload hx hb dL_isWell_446 (lv_at hl 2 rfl) ?_
                                      refine lv_iload hx hb dL_isWell_448 (lv_at hl 3 rfl) ?_
                                      refine kb_icmp_le (tgt := 457) hx hb dL_isWell_450 (by decide) (by omega) (by omega) (fun c450 => ?_) (fun c450 => ?_)
                                      · exfalso; omega
                                      · refine lv_iconst (v := nI 1) hx hb dL_isWell_453 (by decide) ?_
                                        refine lv_goto (tgt := 458) hx hb dL_isWell_454 (by decide) ?_
                                        refine kb_icmp_ne (tgt := 465) hx hb dL_isWell_458 (by decide) (by decide) (by decide) (fun c => absurd c (by decide)) (fun _ => ?_)
                                        refine lv_iconst (v := nI 1) hx hb dL_isWell_461 (by decide) ?_
                                        refine lv_goto (tgt := 466) hx hb dL_isWell_462 (by decide) ?_
                                        refine lv_istore (lv' := [(6, .int (nI 1)), (10, .int (kb_b (dueB (mo_g m) k3 (j + 1)))), (12, .int (nI 1)), (11, .int (nI j)), (9, .int (nI k3)), (8, .int (nI (riN (mo_g m) k3))), (7, .int (nI (nT (mo_g m)))), (5, .ref q_14), (4, .int (smI (gX (mo_g m) 3) (nK (mo_g m)))), (3, .int (smI (gX (mo_g m) 2) (nK (mo_g m)))), (2, .int (smI (gX (mo_g m) 1) (nK (mo_g m)))), (1, .int (nI (nK (mo_g m)))), (0, .ref (a 0))]) hx hb dL_isWell_466 hl (by decide) rfl (fun ls hl => ?_)
                                        refine lv_iinc (v := nI (j + 1)) (lv' := [(11, .int (nI (j + 1))), (6, .int (nI 1)), (10, .int (kb_b (dueB (mo_g m) k3 (j + 1)))), (12, .int (nI 1)), (9, .int (nI k3)), (8, .int (nI (riN (mo_g m) k3))), (7, .int (nI (nT (mo_g m)))), (5, .ref q_14), (4, .int (smI (gX (mo_g m) 3) (nK (mo_g m)))), (3, .int (smI (gX (mo_g m) 2) (nK (mo_g m)))), (2, .int (smI (gX (mo_g m) 1) (nK (mo_g m)))), (1, .int (nI (nK (mo_g m)))), (0, .ref (a 0))]) hx hb dL_isWell_468 hl (k := 3) rfl (kb_inc1 j) (by decide) rfl (fun ls hl => ?_)
                                        refine lv_goto (tgt := 369) hx hb dL_isWell_471 (by decide) ?_
                                        exact ih_369 u_400_2 (j + 1) hin (by omega) (by omega) _ _ hP hD hS _ (lv_sub hl [0, 2, 4, 5, 6, 1, 7, 8, 9, 10, 11, 12] rfl)
                                  · refine lv_iload hx hb dL_isWell_410 (lv_at hl 0 rfl) ?_
                                    refine lv_iconst (v := nI 2) hx hb dL_isWell_412 (by decide) ?_
                                    refine kb_icmp_eq (tgt := 420) hx hb dL_isWell_413 (by decide) (by decide) (by decide) (fun c => absurd c (by decide)) (fun _ => ?_)
                                    refine lv_iconst (v := nI 1) hx hb dL_isWell_416 (by decide) ?_
                                    refine lv_goto (tgt := 421) hx hb dL_isWell_417 (by decide) ?_
                                    refine kb_top (kb_b (dueB (mo_g m) k3 (j + 1))) (kb_t1 (hnx.trans c407)) ?_
                                    refine lv_istore (lv' := [(10, .int (kb_b (dueB (mo_g m) k3 (j + 1)))), (12, .int (nI 1)), (11, .int (nI j)), (9, .int (nI k3)), (8, .int (nI (riN (mo_g m) k3))), (7, .int (nI (nT (mo_g m)))), (6, .int (nI 1)), (5, .ref q_14), (4, .int (smI (gX (mo_g m) 3) (nK (mo_g m)))), (3, .int (smI (gX (mo_g m) 2) (nK (mo_g m)))), (2, .int (smI (gX (mo_g m) 1) (nK (mo_g m)))), (1, .int (nI (nK (mo_g m)))), (0, .ref (a 0))]) hx hb dL_isWell_421 hl (by decide) rfl (fun ls hl => ?_)
                                    refine lv_iload hx hb dL_isWell_423 (lv_at hl 6 rfl) ?_
                                    refine kb_nif_eq (tgt := 465) hx hb dL_isWell_425 (by decide) (by decide) (fun c => absurd c (by decide)) (fun _ => ?_)
                                    refine lv_iload hx hb dL_isWell_428 (lv_at hl 2 rfl) ?_
                                    refine lv_iload hx hb dL_isWell_430 (lv_at hl 3 rfl) ?_
                                    refine kb_icmp_eq (tgt := 461) hx hb dL_isWell_432 (by decide) (by omega) (by omega) (fun c432 => ?_) (fun c432 => ?_)
                                    · exfalso; omega
                                    · refine lv_iload hx hb dL_isWell_435 (lv_at hl 1 rfl) ?_
                                      refine lv_iconst (v := nI 1) hx hb dL_isWell_437 (by decide) ?_
                                      refine kb_icmp_ne (tgt := 445) hx hb dL_isWell_438 (by decide) (by decide) (by decide) (fun c => absurd c (by decide)) (fun _ => ?_)
                                      refine lv_iconst (v := nI 1) hx hb dL_isWell_441 (by decide) ?_
                                      refine lv_goto (tgt := 446) hx hb dL_isWell_442 (by decide) ?_
                                      refine lv_iload hx hb dL_isWell_446 (lv_at hl 2 rfl) ?_
                                      refine lv_iload hx hb dL_isWell_448 (lv_at hl 3 rfl) ?_
                                      refine kb_icmp_le (tgt := 457) hx hb dL_isWell_450 (by decide) (by omega) (by omega) (fun c450 => ?_) (fun c450 => ?_)
                                      · exfalso; omega
                                      · refine lv_iconst (v := nI 1) hx hb dL_isWell_453 (by decide) ?_
                                        refine lv_goto (tgt := 458) hx hb dL_isWell_454 (by decide) ?_
                                        refine kb_icmp_ne (tgt := 465) hx hb dL_isWell_458 (by decide) (by decide) (by decide) (fun c => absurd c (by decide)) (fun _ => ?_)
                                        refine lv_iconst (v := nI 1) hx hb dL_isWell_461 (by decide) ?_
                                        refine lv_goto (tgt := 466) hx hb dL_isWell_462 (by decide) ?_
                                        refine lv_istore (lv' := [(6, .int (nI 1)), (10, .int (kb_b (dueB (mo_g m) k3 (j + 1)))), (12, .int (nI 1)), (11, .int (nI j)), (9, .int (nI k3)), (8, .int (nI (riN (mo_g m) k3))), (7, .int (nI (nT (mo_g m)))), (5, .ref q_14), (4, .int (smI (gX (mo_g m) 3) (nK (mo_g m)))), (3, .int (smI (gX (mo_g m) 2) (nK (mo_g m)))), (2, .int (smI (gX (mo_g m) 1) (nK (mo_g m)))), (1, .int (nI (nK (mo_g m)))), (0, .ref (a 0))]) hx hb dL_isWell_466 hl (by decide) rfl (fun ls hl => ?_)
                                        refine lv_iinc (v := nI (j + 1)) (lv' := [(11, .int (nI (j + 1))), (6, .int (nI 1)), (10, .int (kb_b (dueB (mo_g m) k3 (j + 1)))), (12, .int (nI 1)), (9, .int (nI k3)), (8, .int (nI (riN (mo_g m) k3))), (7, .int (nI (nT (mo_g m)))), (5, .ref q_14), (4, .int (smI (gX (mo_g m) 3) (nK (mo_g m)))), (3, .int (smI (gX (mo_g m) 2) (nK (mo_g m)))), (2, .int (smI (gX (mo_g m) 1) (nK (mo_g m)))), (1, .int (nI (nK (mo_g m)))), (0, .ref (a 0))]) hx hb dL_isWell_468 hl (k := 3) rfl (kb_inc1 j) (by decide) rfl (fun ls hl => ?_)
                                        refine lv_goto (tgt := 369) hx hb dL_isWell_471 (by decide) ?_
                                        exact ih_369 u_400_2 (j + 1) hin (by omega) (by omega) _ _ hP hD hS _ (lv_sub hl [0, 2, 4, 5, 6, 1, 7, 8, 9, 10, 11, 12] rfl)
                                · exfalso; omega
                        exact L_369 ((nT (mo_g m) - 0) + 1) u 0 hin (by omega) (Nat.lt_succ_self _) _ _ hP hD hS _ (lv_sub hl [0, 1, 2, 3, 4, 5, 6, 7, 8, 9, 10, 11] rfl)
                  exact L_356 ((nT (mo_g m) - 0) + 1) u_345 0 hin (by omega) (Nat.lt_succ_self _) _ _ hP hD hS _ (lv_sub hl [0, 1, 2, 3, 4, 5, 6, 7, 8, 9] rfl)
                · refine lv_iload hx hb dL_isWell_309 (lv_at hl 1 rfl) ?_
                  refine kb_nif_eq (tgt := 334) hx hb dL_isWell_311 (by decide) (by decide) (fun c => absurd c (by decide)) (fun _ => ?_)
                  refine lv_aload hx hb dL_isWell_314 (lv_at hl 2 rfl) ?_
                  refine lv_iload hx hb dL_isWell_316 (lv_at hl 0 rfl) ?_
                  refine kb_iald hx hb hK hP 61 0 rfl rfl (by decide) (by omega) dL_isWell_318 ?_
                  refine lv_aload_n hx hb dL_isWell_319 rfl (lv_at hl 7 rfl) ?_
                  refine lv_iconst (v := nI 2) hx hb dL_isWell_320 (by decide) ?_
                  refine lv_iload hx hb dL_isWell_321 (lv_at hl 0 rfl) ?_
                  refine lv_iadd hx hb dL_isWell_323 ?_
                  refine kb_top (nI (2 + k2)) (nI_add 2 k2) ?_
                  refine kb_bIa (w := bW cI cC cS a) (As := [.int (nI (2 + k2))]) (rest := [.int ((dN (mo_g m) (nK (mo_g m))) k2)]) hx hb hml hts hown hN hK hP hD hS hA (b_count l D cI cC cS a hin (nI (2 + k2))) gL_isWell_X4_count rfl ⟨rfl, rfl⟩ hdX4_count ⟨(Nat.le_of_ble_eq_true rfl), (Nat.le_of_ble_eq_true rfl)⟩ [0, 1, 2] rfl (ci := 4) rfl rfl rfl (fun _ => kb_blk _ _) rfl rfl hl.1 (Nat.le_of_ble_eq_true rfl) dL_isWell_324 ⟨(Nat.le_of_ble_eq_true rfl), (Nat.le_of_ble_eq_true rfl)⟩ (fun r u_324 H locs hw hP hD hS => ?_)
                  obtain ⟨hr_324, hin⟩ := hw
                  subst hr_324
                  refine kb_top (nI (kdN (mo_g m) k2)) ((coA_k (by omega)).trans (acc_do (by omega))) ?_
                  refine lv_icmp_ne (tgt := 334) hx hb dL_isWell_327 (by decide) (fun c327 => ?_) (fun c327 => ?_)
                  · exfalso; exact c327 rfl
                  · refine lv_iconst (v := nI 1) hx hb dL_isWell_330 (by decide) ?_
                    refine lv_goto (tgt := 335) hx hb dL_isWell_331 (by decide) ?_
                    refine lv_istore (lv' := [(6, .int (nI 1)), (7, .int (nI k2)), (5, .ref q_14), (4, .int (smI (gX (mo_g m) 3) (nK (mo_g m)))), (3, .int (smI (gX (mo_g m) 2) (nK (mo_g m)))), (2, .int (smI (gX (mo_g m) 1) (nK (mo_g m)))), (1, .int (nI (nK (mo_g m)))), (0, .ref (a 0))]) hx hb dL_isWell_335 hl (by decide) rfl (fun ls hl => ?_)
                    refine lv_iinc (v := nI (k2 + 1)) (lv' := [(7, .int (nI (k2 + 1))), (6, .int (nI 1)), (5, .ref q_14), (4, .int (smI (gX (mo_g m) 3) (nK (mo_g m)))), (3, .int (smI (gX (mo_g m) 2) (nK (mo_g m)))), (2, .int (smI (gX (mo_g m) 1) (nK (mo_g m)))), (1, .int (nI (nK (mo_g m)))), (0, .ref (a 0))]) hx hb dL_isWell_337 hl (k := 1) rfl (kb_inc1 k2) (by decide) rfl (fun ls hl => ?_)
                    refine lv_goto (tgt := 303) hx hb dL_isWell_340 (by decide) ?_
                    exact ih_303 u_324 (k2 + 1) hin (by omega) (by omega) _ _ hP hD hS _ (lv_sub hl [0, 1, 2, 3, 4, 5, 6, 7] rfl)
            exact L_303 ((4 - 0) + 1) u 0 hin (by omega) (Nat.lt_succ_self _) _ _ hP hD hS _ (lv_sub hl [0, 1, 2, 3, 4, 5, 6, 7] rfl)
          · have hk : k < nK (mo_g m) := c56
            have hd4 := (ho.k k hk).1
            have hpl := plT_le (mo_g m) k
            have hpw := plW_le (mo_g m) k
            rcases (by omega : gD (mo_g m) k = 0 ∨ gD (mo_g m) k = 1 ∨ gD (mo_g m) k = 2 ∨ gD (mo_g m) k = 3) with hd | hd | hd | hd
            · refine lv_aload_n hx hb dL_isWell_59 rfl (lv_at hl 7 rfl) ?_
              refine lv_iload hx hb dL_isWell_60 (lv_at hl 0 rfl) ?_
              refine lv_iconst (v := nI 4) hx hb dL_isWell_62 (by decide) ?_
              refine kb_bIa (w := bW cI cC cS a) (As := [.int (nI k), .int (nI 4)]) (rest := []) hx hb hml hts hown hN hK hP hD hS hA (b_king l D cI cC cS a hin (nI k) (nI 4)) gL_isWell_X4_king rfl ⟨rfl, rfl⟩ hdX4_king ⟨(Nat.le_of_ble_eq_true rfl), (Nat.le_of_ble_eq_true rfl)⟩ [0, 1, 2] rfl (ci := 4) rfl rfl rfl (fun _ => kb_blk _ _) rfl rfl hl.1 (Nat.le_of_ble_eq_true rfl) dL_isWell_63 ⟨(Nat.le_of_ble_eq_true rfl), (Nat.le_of_ble_eq_true rfl)⟩ (fun r u_63 H locs hw hP hD hS => ?_)
              obtain ⟨hr_63, hin⟩ := hw
              subst hr_63
              refine kb_top ((-5)) ((kA_k hk h24 (by decide)).trans (tell_4n ho hk (by omega))) ?_
              refine lv_istore (lv' := [(8, .int ((-5))), (7, .int (nI k)), (6, .int (nI 1)), (5, .ref q_14), (4, .int (smI (gX (mo_g m) 3) k)), (3, .int (smI (gX (mo_g m) 2) k)), (2, .int (smI (gX (mo_g m) 1) k)), (1, .int (nI (nK (mo_g m)))), (0, .ref (a 0))]) hx hb dL_isWell_66 hl (by decide) rfl (fun ls hl => ?_)
              refine lv_aload_n hx hb dL_isWell_68 rfl (lv_at hl 8 rfl) ?_
              refine lv_iload hx hb dL_isWell_69 (lv_at hl 1 rfl) ?_
              refine lv_iconst (v := nI 5) hx hb dL_isWell_71 (by decide) ?_
              refine kb_bIa (w := bW cI cC cS a) (As := [.int (nI k), .int (nI 5)]) (rest := []) hx hb hml hts hown hN hK hP hD hS hA (b_king l D cI cC cS a hin (nI k) (nI 5)) gL_isWell_X4_king rfl ⟨rfl, rfl⟩ hdX4_king ⟨(Nat.le_of_ble_eq_true rfl), (Nat.le_of_ble_eq_true rfl)⟩ [0, 1, 2] rfl (ci := 4) rfl rfl rfl (fun _ => kb_blk _ _) rfl rfl hl.1 (Nat.le_of_ble_eq_true rfl) dL_isWell_72 ⟨(Nat.le_of_ble_eq_true rfl), (Nat.le_of_ble_eq_true rfl)⟩ (fun r u_72 H locs hw hP hD hS => ?_)
              obtain ⟨hr_72, hin⟩ := hw
              subst hr_72
              refine kb_top ((-5)) ((kA_k hk h24 (by decide)).trans (tell_5n ho hk (by omega))) ?_
              refine lv_istore (lv' := [(9, .int ((-5))), (8, .int ((-5))), (7, .int (nI k)), (6, .int (nI 1)), (5, .ref q_14), (4, .int (smI (gX (mo_g m) 3) k)), (3, .int (smI (gX (mo_g m) 2) k)), (2, .int (smI (gX (mo_g m) 1) k)), (1, .int (nI (nK (mo_g m)))), (0, .ref (a 0))]) hx hb dL_isWell_75 hl (by decide) rfl (fun ls hl => ?_)
              refine lv_iload_n hx hb dL_isWell_77 rfl (lv_at hl 7 rfl) ?_
              refine lv_aload_n hx hb dL_isWell_78 rfl (lv_at hl 9 rfl) ?_
              refine lv_iload hx hb dL_isWell_79 (lv_at hl 2 rfl) ?_
              refine lv_bipush (v := nI 6) hx hb dL_isWell_81 (by decide) ?_
              refine kb_bIa (w := bW cI cC cS a) (As := [.int (nI k), .int (nI 6)]) (rest := [.int (smI (gX (mo_g m) 1) k)]) hx hb hml hts hown hN hK hP hD hS hA (b_king l D cI cC cS a hin (nI k) (nI 6)) gL_isWell_X4_king rfl ⟨rfl, rfl⟩ hdX4_king ⟨(Nat.le_of_ble_eq_true rfl), (Nat.le_of_ble_eq_true rfl)⟩ [0, 1, 2] rfl (ci := 4) rfl rfl rfl (fun _ => kb_blk _ _) rfl rfl hl.1 (Nat.le_of_ble_eq_true rfl) dL_isWell_83 ⟨(Nat.le_of_ble_eq_true rfl), (Nat.le_of_ble_eq_true rfl)⟩ (fun r u_83 H locs hw hP hD hS => ?_)
              obtain ⟨hr_83, hin⟩ := hw
              subst hr_83
              refine kb_top (gX (mo_g m) 1 k) (kA_k hk h24 (by decide)) ?_
              refine lv_iadd hx hb dL_isWell_86 ?_
              refine lv_istore_n (lv' := [(2, .int (smI (gX (mo_g m) 1) k + (gX (mo_g m) 1 k))), (9, .int ((-5))), (8, .int ((-5))), (7, .int (nI k)), (6, .int (nI 1)), (5, .ref q_14), (4, .int (smI (gX (mo_g m) 3) k)), (3, .int (smI (gX (mo_g m) 2) k)), (1, .int (nI (nK (mo_g m)))), (0, .ref (a 0))]) hx hb dL_isWell_87 rfl hl (by decide) rfl (fun ls hl => ?_)
              refine lv_iload_n hx hb dL_isWell_88 rfl (lv_at hl 7 rfl) ?_
              refine lv_aload_n hx hb dL_isWell_89 rfl (lv_at hl 9 rfl) ?_
              refine lv_iload hx hb dL_isWell_90 (lv_at hl 3 rfl) ?_
              refine lv_bipush (v := nI 7) hx hb dL_isWell_92 (by decide) ?_
              refine kb_bIa (w := bW cI cC cS a) (As := [.int (nI k), .int (nI 7)]) (rest := [.int (smI (gX (mo_g m) 2) k)]) hx hb hml hts hown hN hK hP hD hS hA (b_king l D cI cC cS a hin (nI k) (nI 7)) gL_isWell_X4_king rfl ⟨rfl, rfl⟩ hdX4_king ⟨(Nat.le_of_ble_eq_true rfl), (Nat.le_of_ble_eq_true rfl)⟩ [0, 1, 2] rfl (ci := 4) rfl rfl rfl (fun _ => kb_blk _ _) rfl rfl hl.1 (Nat.le_of_ble_eq_true rfl) dL_isWell_94 ⟨(Nat.le_of_ble_eq_true rfl), (Nat.le_of_ble_eq_true rfl)⟩ (fun r u_94 H locs hw hP hD hS => ?_)
              obtain ⟨hr_94, hin⟩ := hw
              subst hr_94
              refine kb_top (gX (mo_g m) 2 k) (kA_k hk h24 (by decide)) ?_
              refine lv_iadd hx hb dL_isWell_97 ?_
              refine lv_istore_n (lv' := [(3, .int (smI (gX (mo_g m) 2) k + (gX (mo_g m) 2 k))), (2, .int (smI (gX (mo_g m) 1) k + (gX (mo_g m) 1 k))), (9, .int ((-5))), (8, .int ((-5))), (7, .int (nI k)), (6, .int (nI 1)), (5, .ref q_14), (4, .int (smI (gX (mo_g m) 3) k)), (1, .int (nI (nK (mo_g m)))), (0, .ref (a 0))]) hx hb dL_isWell_98 rfl hl (by decide) rfl (fun ls hl => ?_)
              refine lv_iload hx hb dL_isWell_99 (lv_at hl 7 rfl) ?_
              refine lv_aload_n hx hb dL_isWell_101 rfl (lv_at hl 9 rfl) ?_
              refine lv_iload hx hb dL_isWell_102 (lv_at hl 4 rfl) ?_
              refine lv_bipush (v := nI 8) hx hb dL_isWell_104 (by decide) ?_
              refine kb_bIa (w := bW cI cC cS a) (As := [.int (nI k), .int (nI 8)]) (rest := [.int (smI (gX (mo_g m) 3) k)]) hx hb hml hts hown hN hK hP hD hS hA (b_king l D cI cC cS a hin (nI k) (nI 8)) gL_isWell_X4_king rfl ⟨rfl, rfl⟩ hdX4_king ⟨(Nat.le_of_ble_eq_true rfl), (Nat.le_of_ble_eq_true rfl)⟩ [0, 1, 2] rfl (ci := 4) rfl rfl rfl (fun _ => kb_blk _ _) rfl rfl hl.1 (Nat.le_of_ble_eq_true rfl) dL_isWell_106 ⟨(Nat.le_of_ble_eq_true rfl), (Nat.le_of_ble_eq_true rfl)⟩ (fun r u_106 H locs hw hP hD hS => ?_)
              obtain ⟨hr_106, hin⟩ := hw
              subst hr_106
              refine kb_top (nI 0) ((kA_k hk h24 (by decide)).trans (ok_an ho hk (by omega))) ?_
              refine lv_iadd hx hb dL_isWell_109 ?_
              refine kb_top (smI (gX (mo_g m) 3) (k + 1)) (by rw [smI_s, ok_an ho hk (by omega)]) ?_
              refine lv_istore (lv' := [(4, .int (smI (gX (mo_g m) 3) (k + 1))), (3, .int (smI (gX (mo_g m) 2) k + (gX (mo_g m) 2 k))), (2, .int (smI (gX (mo_g m) 1) k + (gX (mo_g m) 1 k))), (9, .int ((-5))), (8, .int ((-5))), (7, .int (nI k)), (6, .int (nI 1)), (5, .ref q_14), (1, .int (nI (nK (mo_g m)))), (0, .ref (a 0))]) hx hb dL_isWell_110 hl (by decide) rfl (fun ls hl => ?_)
              refine lv_aload hx hb dL_isWell_112 (lv_at hl 7 rfl) ?_
              refine lv_aload_n hx hb dL_isWell_114 rfl (lv_at hl 9 rfl) ?_
              refine lv_iload hx hb dL_isWell_115 (lv_at hl 5 rfl) ?_
              refine lv_iconst (v := nI 3) hx hb dL_isWell_117 (by decide) ?_
              refine kb_bIa (w := bW cI cC cS a) (As := [.int (nI k), .int (nI 3)]) (rest := [.ref q_14]) hx hb hml hts hown hN hK hP hD hS hA (b_king l D cI cC cS a hin (nI k) (nI 3)) gL_isWell_X4_king rfl ⟨rfl, rfl⟩ hdX4_king ⟨(Nat.le_of_ble_eq_true rfl), (Nat.le_of_ble_eq_true rfl)⟩ [0, 1, 2] rfl (ci := 4) rfl rfl rfl (fun _ => kb_blk _ _) rfl rfl hl.1 (Nat.le_of_ble_eq_true rfl) dL_isWell_118 ⟨(Nat.le_of_ble_eq_true rfl), (Nat.le_of_ble_eq_true rfl)⟩ (fun r u_118 H locs hw hP hD hS => ?_)
              obtain ⟨hr_118, hin⟩ := hw
              subst hr_118
              refine kb_top (nI 0) ((kA_k hk h24 (by decide)).trans (congrArg nI hd)) ?_
              refine lv_dup2_11 hx hb dL_isWell_121 rfl rfl ?_
              refine kb_iald hx hb hK hP 61 0 rfl rfl (by decide) (by decide) dL_isWell_122 ?_
              refine lv_iconst (v := nI 1) hx hb dL_isWell_123 (by decide) ?_
              refine lv_iadd hx hb dL_isWell_124 ?_
              refine kb_iast hx hb hK hP hD hS 61 0 rfl rfl (by decide) (by decide) dL_isWell_125 (fun H locs hP hD hS => ?_)
              have hP : va_P D vwCl (bW cI cC cS a u_118 ++ [(q_14, .inl (cI, 4, .inl (upd (dN (mo_g m) k) 0 ((dN (mo_g m) k) 0 + nI 1))))]) H := hP
              have hD : va_D A (bW cI cC cS a u_118 ++ [(q_14, .inl (cI, 4, .inl (upd (dN (mo_g m) k) 0 ((dN (mo_g m) k) 0 + nI 1))))]) := hD
              have hP := kb_re (q0 := 61) (g := dN (mo_g m) (k + 1)) hP rfl (dN_s hd)
              have hD := hD.set (p := 61) (e := .inl (cI, 4, .inl (dN (mo_g m) (k + 1)))) rfl
              have hP : va_P D vwCl (bW cI cC cS a u_118 ++ [(q_14, .inl (cI, 4, .inl (dN (mo_g m) (k + 1))))]) H := hP
              have hD : va_D A (bW cI cC cS a u_118 ++ [(q_14, .inl (cI, 4, .inl (dN (mo_g m) (k + 1))))]) := hD
              refine lv_iload hx hb dL_isWell_126 (lv_at hl 6 rfl) ?_
              refine kb_nif_eq (tgt := 291) hx hb dL_isWell_128 (by decide) (by decide) (fun c => absurd c (by decide)) (fun _ => ?_)
              refine lv_iload hx hb dL_isWell_131 (lv_at hl 4 rfl) ?_
              refine lv_if_lt (tgt := 140) hx hb dL_isWell_133 (by decide) (fun _ => ?_) (fun c => absurd (by decide) c)
              refine lv_iconst (v := nI 0) hx hb dL_isWell_140 (by decide) ?_
              refine lv_aload_n hx hb dL_isWell_141 rfl (lv_at hl 9 rfl) ?_
              refine lv_iload hx hb dL_isWell_142 (lv_at hl 5 rfl) ?_
              refine lv_iconst (v := nI 3) hx hb dL_isWell_144 (by decide) ?_
              refine kb_bIa (w := bW cI cC cS a) (As := [.int (nI k), .int (nI 3)]) (rest := [.int (nI 0)]) hx hb hml hts hown hN hK hP hD hS hA (b_king l D cI cC cS a hin (nI k) (nI 3)) gL_isWell_X4_king rfl ⟨rfl, rfl⟩ hdX4_king ⟨(Nat.le_of_ble_eq_true rfl), (Nat.le_of_ble_eq_true rfl)⟩ [0, 1, 2] rfl (ci := 4) rfl rfl rfl (fun _ => kb_blk _ _) rfl rfl hl.1 (Nat.le_of_ble_eq_true rfl) dL_isWell_145 ⟨(Nat.le_of_ble_eq_true rfl), (Nat.le_of_ble_eq_true rfl)⟩ (fun r u_145 H locs hw hP hD hS => ?_)
              obtain ⟨hr_145, hin⟩ := hw
              subst hr_145
              refine kb_top (nI 0) ((kA_k hk h24 (by decide)).trans (congrArg nI hd)) ?_
              refine lv_iconst (v := nI 2) hx hb dL_isWell_148 (by decide) ?_
              refine kb_icmp_ne (tgt := 156) hx hb dL_isWell_149 (by decide) (by decide) (by decide) (fun _ => ?_) (fun c => absurd c (by decide))
              refine lv_iconst (v := nI 0) hx hb dL_isWell_156 (by decide) ?_
              refine kb_icmp_ne (tgt := 291) hx hb dL_isWell_157 (by decide) (by decide) (by decide) (fun c => absurd c (by decide)) (fun _ => ?_)
              refine lv_iload hx hb dL_isWell_160 (lv_at hl 3 rfl) ?_
              refine lv_if_lt (tgt := 169) hx hb dL_isWell_162 (by decide) (fun _ => ?_) (fun c => absurd (by decide) c)
              refine lv_iconst (v := nI 0) hx hb dL_isWell_169 (by decide) ?_
              refine lv_aload_n hx hb dL_isWell_170 rfl (lv_at hl 9 rfl) ?_
              refine lv_iload hx hb dL_isWell_171 (lv_at hl 5 rfl) ?_
              refine lv_iconst (v := nI 3) hx hb dL_isWell_173 (by decide) ?_
              refine kb_bIa (w := bW cI cC cS a) (As := [.int (nI k), .int (nI 3)]) (rest := [.int (nI 0)]) hx hb hml hts hown hN hK hP hD hS hA (b_king l D cI cC cS a hin (nI k) (nI 3)) gL_isWell_X4_king rfl ⟨rfl, rfl⟩ hdX4_king ⟨(Nat.le_of_ble_eq_true rfl), (Nat.le_of_ble_eq_true rfl)⟩ [0, 1, 2] rfl (ci := 4) rfl rfl rfl (fun _ => kb_blk _ _) rfl rfl hl.1 (Nat.le_of_ble_eq_true rfl) dL_isWell_174 ⟨(Nat.le_of_ble_eq_true rfl), (Nat.le_of_ble_eq_true rfl)⟩ (fun r u_174 H locs hw hP hD hS => ?_)
              obtain ⟨hr_174, hin⟩ := hw
              subst hr_174
              refine kb_top (nI 0) ((kA_k hk h24 (by decide)).trans (congrArg nI hd)) ?_
              refine lv_iconst (v := nI 1) hx hb dL_isWell_177 (by decide) ?_
              refine kb_icmp_ne (tgt := 185) hx hb dL_isWell_178 (by decide) (by decide) (by decide) (fun _ => ?_) (fun c => absurd c (by decide))
              refine lv_iconst (v := nI 0) hx hb dL_isWell_185 (by decide) ?_
              refine kb_icmp_ne (tgt := 291) hx hb dL_isWell_186 (by decide) (by decide) (by decide) (fun c => absurd c (by decide)) (fun _ => ?_)
              refine lv_iload hx hb dL_isWell_189 (lv_at hl 4 rfl) ?_
              refine lv_if_lt (tgt := 205) hx hb dL_isWell_191 (by decide) (fun _ => ?_) (fun c => absurd (by decide) c)
              refine lv_iload hx hb dL_isWell_205 (lv_at hl 3 rfl) ?_
              refine lv_if_lt (tgt := 221) hx hb dL_isWell_207 (by decide) (fun _ => ?_) (fun c => absurd (by decide) c)
              refine lv_aload_n hx hb dL_isWell_221 rfl (lv_at hl 9 rfl) ?_
              refine lv_iload hx hb dL_isWell_222 (lv_at hl 5 rfl) ?_
              refine lv_bipush (v := nI 7) hx hb dL_isWell_224 (by decide) ?_
              refine kb_bIa (w := bW cI cC cS a) (As := [.int (nI k), .int (nI 7)]) (rest := []) hx hb hml hts hown hN hK hP hD hS hA (b_king l D cI cC cS a hin (nI k) (nI 7)) gL_isWell_X4_king rfl ⟨rfl, rfl⟩ hdX4_king ⟨(Nat.le_of_ble_eq_true rfl), (Nat.le_of_ble_eq_true rfl)⟩ [0, 1, 2] rfl (ci := 4) rfl rfl rfl (fun _ => kb_blk _ _) rfl rfl hl.1 (Nat.le_of_ble_eq_true rfl) dL_isWell_226 ⟨(Nat.le_of_ble_eq_true rfl), (Nat.le_of_ble_eq_true rfl)⟩ (fun r u_226 H locs hw hP hD hS => ?_)
              obtain ⟨hr_226, hin⟩ := hw
              subst hr_226
              refine kb_top (gX (mo_g m) 2 k) (kA_k hk h24 (by decide)) ?_
              refine lv_aload_n hx hb dL_isWell_229 rfl (lv_at hl 9 rfl) ?_
              refine lv_iload hx hb dL_isWell_230 (lv_at hl 5 rfl) ?_
              refine lv_bipush (v := nI 6) hx hb dL_isWell_232 (by decide) ?_
              refine kb_bIa (w := bW cI cC cS a) (As := [.int (nI k), .int (nI 6)]) (rest := [.int (gX (mo_g m) 2 k)]) hx hb hml hts hown hN hK hP hD hS hA (b_king l D cI cC cS a hin (nI k) (nI 6)) gL_isWell_X4_king rfl ⟨rfl, rfl⟩ hdX4_king ⟨(Nat.le_of_ble_eq_true rfl), (Nat.le_of_ble_eq_true rfl)⟩ [0, 1, 2] rfl (ci := 4) rfl rfl rfl (fun _ => kb_blk _ _) rfl rfl hl.1 (Nat.le_of_ble_eq_true rfl) dL_isWell_234 ⟨(Nat.le_of_ble_eq_true rfl), (Nat.le_of_ble_eq_true rfl)⟩ (fun r u_234 H locs hw hP hD hS => ?_)
              obtain ⟨hr_234, hin⟩ := hw
              subst hr_234
              refine kb_top (gX (mo_g m) 1 k) (kA_k hk h24 (by decide)) ?_
              refine lv_icmp_gt (tgt := 291) hx hb dL_isWell_237 (by decide) (fun c237 => ?_) (fun c237 => ?_)
              · exfalso; exact Iv_ts hI hM hk c237
              · refine lv_aload_n hx hb dL_isWell_240 rfl (lv_at hl 9 rfl) ?_
                refine lv_iload hx hb dL_isWell_241 (lv_at hl 5 rfl) ?_
                refine lv_bipush (v := nI 8) hx hb dL_isWell_243 (by decide) ?_
                refine kb_bIa (w := bW cI cC cS a) (As := [.int (nI k), .int (nI 8)]) (rest := []) hx hb hml hts hown hN hK hP hD hS hA (b_king l D cI cC cS a hin (nI k) (nI 8)) gL_isWell_X4_king rfl ⟨rfl, rfl⟩ hdX4_king ⟨(Nat.le_of_ble_eq_true rfl), (Nat.le_of_ble_eq_true rfl)⟩ [0, 1, 2] rfl (ci := 4) rfl rfl rfl (fun _ => kb_blk _ _) rfl rfl hl.1 (Nat.le_of_ble_eq_true rfl) dL_isWell_245 ⟨(Nat.le_of_ble_eq_true rfl), (Nat.le_of_ble_eq_true rfl)⟩ (fun r u_245 H locs hw hP hD hS => ?_)
                obtain ⟨hr_245, hin⟩ := hw
                subst hr_245
                refine kb_top (nI 0) ((kA_k hk h24 (by decide)).trans (ok_an ho hk (by omega))) ?_
                refine kb_nif_eq (tgt := 262) hx hb dL_isWell_248 (by decide) (by decide) (fun _ => ?_) (fun c => absurd c (by decide))
                refine lv_aload_n hx hb dL_isWell_262 rfl (lv_at hl 9 rfl) ?_
                refine lv_iload hx hb dL_isWell_263 (lv_at hl 5 rfl) ?_
                refine lv_iconst (v := nI 3) hx hb dL_isWell_265 (by decide) ?_
                refine kb_bIa (w := bW cI cC cS a) (As := [.int (nI k), .int (nI 3)]) (rest := []) hx hb hml hts hown hN hK hP hD hS hA (b_king l D cI cC cS a hin (nI k) (nI 3)) gL_isWell_X4_king rfl ⟨rfl, rfl⟩ hdX4_king ⟨(Nat.le_of_ble_eq_true rfl), (Nat.le_of_ble_eq_true rfl)⟩ [0, 1, 2] rfl (ci := 4) rfl rfl rfl (fun _ => kb_blk _ _) rfl rfl hl.1 (Nat.le_of_ble_eq_true rfl) dL_isWell_266 ⟨(Nat.le_of_ble_eq_true rfl), (Nat.le_of_ble_eq_true rfl)⟩ (fun r u_266 H locs hw hP hD hS => ?_)
                obtain ⟨hr_266, hin⟩ := hw
                subst hr_266
                refine kb_top (nI 0) ((kA_k hk h24 (by decide)).trans (congrArg nI hd)) ?_
                refine kb_nif_gt (tgt := 287) hx hb dL_isWell_269 (by decide) (by decide) (fun c => absurd c (by decide)) (fun _ => ?_)
                refine lv_aload_n hx hb dL_isWell_272 rfl (lv_at hl 9 rfl) ?_
                refine lv_iload hx hb dL_isWell_273 (lv_at hl 5 rfl) ?_
                refine lv_iconst (v := nI 2) hx hb dL_isWell_275 (by decide) ?_
                refine kb_bIa (w := bW cI cC cS a) (As := [.int (nI k), .int (nI 2)]) (rest := []) hx hb hml hts hown hN hK hP hD hS hA (b_king l D cI cC cS a hin (nI k) (nI 2)) gL_isWell_X4_king rfl ⟨rfl, rfl⟩ hdX4_king ⟨(Nat.le_of_ble_eq_true rfl), (Nat.le_of_ble_eq_true rfl)⟩ [0, 1, 2] rfl (ci := 4) rfl rfl rfl (fun _ => kb_blk _ _) rfl rfl hl.1 (Nat.le_of_ble_eq_true rfl) dL_isWell_276 ⟨(Nat.le_of_ble_eq_true rfl), (Nat.le_of_ble_eq_true rfl)⟩ (fun r u_276 H locs hw hP hD hS => ?_)
                obtain ⟨hr_276, hin⟩ := hw
                subst hr_276
                refine kb_top (gX (mo_g m) 0 k) (kA_k hk h24 (by decide)) ?_
                refine lv_aload_n hx hb dL_isWell_279 rfl (lv_at hl 9 rfl) ?_
                refine lv_iconst (v := nI 0) hx hb dL_isWell_280 (by decide) ?_
                refine kb_bIa (w := bW cI cC cS a) (As := [.int (nI 0)]) (rest := [.int (gX (mo_g m) 0 k)]) hx hb hml hts hown hN hK hP hD hS hA (b_count l D cI cC cS a hin (nI 0)) gL_isWell_X4_count rfl ⟨rfl, rfl⟩ hdX4_count ⟨(Nat.le_of_ble_eq_true rfl), (Nat.le_of_ble_eq_true rfl)⟩ [0, 1, 2] rfl (ci := 4) rfl rfl rfl (fun _ => kb_blk _ _) rfl rfl hl.1 (Nat.le_of_ble_eq_true rfl) dL_isWell_281 ⟨(Nat.le_of_ble_eq_true rfl), (Nat.le_of_ble_eq_true rfl)⟩ (fun r u_281 H locs hw hP hD hS => ?_)
                obtain ⟨hr_281, hin⟩ := hw
                subst hr_281
                refine kb_top (gc (mo_g m) 4) (coA_k (by decide)) ?_
                refine lv_icmp_lt (tgt := 291) hx hb dL_isWell_284 (by decide) (fun c284 => ?_) (fun c284 => ?_)
                · exfalso; exact Iv_mi hI hM hk hd c284
                · refine lv_iconst (v := nI 1) hx hb dL_isWell_287 (by decide) ?_
                  refine lv_goto (tgt := 292) hx hb dL_isWell_288 (by decide) ?_
                  refine lv_istore (lv' := [(6, .int (nI 1)), (4, .int (smI (gX (mo_g m) 3) (k + 1))), (3, .int (smI (gX (mo_g m) 2) k + (gX (mo_g m) 2 k))), (2, .int (smI (gX (mo_g m) 1) k + (gX (mo_g m) 1 k))), (9, .int ((-5))), (8, .int ((-5))), (7, .int (nI k)), (5, .ref q_14), (1, .int (nI (nK (mo_g m)))), (0, .ref (a 0))]) hx hb dL_isWell_292 hl (by decide) rfl (fun ls hl => ?_)
                  refine lv_iinc (v := nI (k + 1)) (lv' := [(7, .int (nI (k + 1))), (6, .int (nI 1)), (4, .int (smI (gX (mo_g m) 3) (k + 1))), (3, .int (smI (gX (mo_g m) 2) k + (gX (mo_g m) 2 k))), (2, .int (smI (gX (mo_g m) 1) k + (gX (mo_g m) 1 k))), (9, .int ((-5))), (8, .int ((-5))), (5, .ref q_14), (1, .int (nI (nK (mo_g m)))), (0, .ref (a 0))]) hx hb dL_isWell_294 hl (k := 6) rfl (kb_inc1 k) (by decide) rfl (fun ls hl => ?_)
                  refine lv_goto (tgt := 53) hx hb dL_isWell_297 (by decide) ?_
                  exact ih_53 u_281 (k + 1) hin (by omega) (by omega) _ _ hP hD hS _ (lv_sub hl [0, 1, 7, 2, 3, 4, 8, 9] rfl)
            · refine lv_aload_n hx hb dL_isWell_59 rfl (lv_at hl 7 rfl) ?_
              refine lv_iload hx hb dL_isWell_60 (lv_at hl 0 rfl) ?_
              refine lv_iconst (v := nI 4) hx hb dL_isWell_62 (by decide) ?_
              refine kb_bIa (w := bW cI cC cS a) (As := [.int (nI k), .int (nI 4)]) (rest := []) hx hb hml hts hown hN hK hP hD hS hA (b_king l D cI cC cS a hin (nI k) (nI 4)) gL_isWell_X4_king rfl ⟨rfl, rfl⟩ hdX4_king ⟨(Nat.le_of_ble_eq_true rfl), (Nat.le_of_ble_eq_true rfl)⟩ [0, 1, 2] rfl (ci := 4) rfl rfl rfl (fun _ => kb_blk _ _) rfl rfl hl.1 (Nat.le_of_ble_eq_true rfl) dL_isWell_63 ⟨(Nat.le_of_ble_eq_true rfl), (Nat.le_of_ble_eq_true rfl)⟩ (fun r u_63_1 H locs hw hP hD hS => ?_)
              obtain ⟨hr_63, hin⟩ := hw
              subst hr_63
              refine kb_top ((-5)) ((kA_k hk h24 (by decide)).trans (tell_4n ho hk (by omega))) ?_
              refine lv_istore (lv' := [(8, .int ((-5))), (7, .int (nI k)), (6, .int (nI 1)), (5, .ref q_14), (4, .int (smI (gX (mo_g m) 3) k)), (3, .int (smI (gX (mo_g m) 2) k)), (2, .int (smI (gX (mo_g m) 1) k)), (1, .int (nI (nK (mo_g m)))), (0, .ref (a 0))]) hx hb dL_isWell_66 hl (by decide) rfl (fun ls hl => ?_)
              refine lv_aload_n hx hb dL_isWell_68 rfl (lv_at hl 8 rfl) ?_
              refine lv_iload hx hb dL_isWell_69 (lv_at hl 1 rfl) ?_
              refine lv_iconst (v := nI 5) hx hb dL_isWell_71 (by decide) ?_
              refine kb_bIa (w := bW cI cC cS a) (As := [.int (nI k), .int (nI 5)]) (rest := []) hx hb hml hts hown hN hK hP hD hS hA (b_king l D cI cC cS a hin (nI k) (nI 5)) gL_isWell_X4_king rfl ⟨rfl, rfl⟩ hdX4_king ⟨(Nat.le_of_ble_eq_true rfl), (Nat.le_of_ble_eq_true rfl)⟩ [0, 1, 2] rfl (ci := 4) rfl rfl rfl (fun _ => kb_blk _ _) rfl rfl hl.1 (Nat.le_of_ble_eq_true rfl) dL_isWell_72 ⟨(Nat.le_of_ble_eq_true rfl), (Nat.le_of_ble_eq_true rfl)⟩ (fun r u_72_1 H locs hw hP hD hS => ?_)
              obtain ⟨hr_72, hin⟩ := hw
              subst hr_72
              refine kb_top (nI (plW (mo_g m) k)) ((kA_k hk h24 (by decide)).trans (tell_5y ho hk hd)) ?_
              refine lv_istore (lv' := [(9, .int (nI (plW (mo_g m) k))), (8, .int ((-5))), (7, .int (nI k)), (6, .int (nI 1)), (5, .ref q_14), (4, .int (smI (gX (mo_g m) 3) k)), (3, .int (smI (gX (mo_g m) 2) k)), (2, .int (smI (gX (mo_g m) 1) k)), (1, .int (nI (nK (mo_g m)))), (0, .ref (a 0))]) hx hb dL_isWell_75 hl (by decide) rfl (fun ls hl => ?_)
              refine lv_iload_n hx hb dL_isWell_77 rfl (lv_at hl 7 rfl) ?_
              refine lv_aload_n hx hb dL_isWell_78 rfl (lv_at hl 9 rfl) ?_
              refine lv_iload hx hb dL_isWell_79 (lv_at hl 2 rfl) ?_
              refine lv_bipush (v := nI 6) hx hb dL_isWell_81 (by decide) ?_
              refine kb_bIa (w := bW cI cC cS a) (As := [.int (nI k), .int (nI 6)]) (rest := [.int (smI (gX (mo_g m) 1) k)]) hx hb hml hts hown hN hK hP hD hS hA (b_king l D cI cC cS a hin (nI k) (nI 6)) gL_isWell_X4_king rfl ⟨rfl, rfl⟩ hdX4_king ⟨(Nat.le_of_ble_eq_true rfl), (Nat.le_of_ble_eq_true rfl)⟩ [0, 1, 2] rfl (ci := 4) rfl rfl rfl (fun _ => kb_blk _ _) rfl rfl hl.1 (Nat.le_of_ble_eq_true rfl) dL_isWell_83 ⟨(Nat.le_of_ble_eq_true rfl), (Nat.le_of_ble_eq_true rfl)⟩ (fun r u_83_1 H locs hw hP hD hS => ?_)
              obtain ⟨hr_83, hin⟩ := hw
              subst hr_83
              refine kb_top (gX (mo_g m) 1 k) (kA_k hk h24 (by decide)) ?_
              refine lv_iadd hx hb dL_isWell_86 ?_
              refine lv_istore_n (lv' := [(2, .int (smI (gX (mo_g m) 1) k + (gX (mo_g m) 1 k))), (9, .int (nI (plW (mo_g m) k))), (8, .int ((-5))), (7, .int (nI k)), (6, .int (nI 1)), (5, .ref q_14), (4, .int (smI (gX (mo_g m) 3) k)), (3, .int (smI (gX (mo_g m) 2) k)), (1, .int (nI (nK (mo_g m)))), (0, .ref (a 0))]) hx hb dL_isWell_87 rfl hl (by decide) rfl (fun ls hl => ?_)
              refine lv_iload_n hx hb dL_isWell_88 rfl (lv_at hl 7 rfl) ?_
              refine lv_aload_n hx hb dL_isWell_89 rfl (lv_at hl 9 rfl) ?_
              refine lv_iload hx hb dL_isWell_90 (lv_at hl 3 rfl) ?_
              refine lv_bipush (v := nI 7) hx hb dL_isWell_92 (by decide) ?_
              refine kb_bIa (w := bW cI cC cS a) (As := [.int (nI k), .int (nI 7)]) (rest := [.int (smI (gX (mo_g m) 2) k)]) hx hb hml hts hown hN hK hP hD hS hA (b_king l D cI cC cS a hin (nI k) (nI 7)) gL_isWell_X4_king rfl ⟨rfl, rfl⟩ hdX4_king ⟨(Nat.le_of_ble_eq_true rfl), (Nat.le_of_ble_eq_true rfl)⟩ [0, 1, 2] rfl (ci := 4) rfl rfl rfl (fun _ => kb_blk _ _) rfl rfl hl.1 (Nat.le_of_ble_eq_true rfl) dL_isWell_94 ⟨(Nat.le_of_ble_eq_true rfl), (Nat.le_of_ble_eq_true rfl)⟩ (fun r u_94_1 H locs hw hP hD hS => ?_)
              obtain ⟨hr_94, hin⟩ := hw
              subst hr_94
              refine kb_top (gX (mo_g m) 2 k) (kA_k hk h24 (by decide)) ?_
              refine lv_iadd hx hb dL_isWell_97 ?_
              refine lv_istore_n (lv' := [(3, .int (smI (gX (mo_g m) 2) k + (gX (mo_g m) 2 k))), (2, .int (smI (gX (mo_g m) 1) k + (gX (mo_g m) 1 k))), (9, .int (nI (plW (mo_g m) k))), (8, .int ((-5))), (7, .int (nI k)), (6, .int (nI 1)), (5, .ref q_14), (4, .int (smI (gX (mo_g m) 3) k)), (1, .int (nI (nK (mo_g m)))), (0, .ref (a 0))]) hx hb dL_isWell_98 rfl hl (by decide) rfl (fun ls hl => ?_)
              refine lv_iload hx hb dL_isWell_99 (lv_at hl 7 rfl) ?_
              refine lv_aload_n hx hb dL_isWell_101 rfl (lv_at hl 9 rfl) ?_
              refine lv_iload hx hb dL_isWell_102 (lv_at hl 4 rfl) ?_
              refine lv_bipush (v := nI 8) hx hb dL_isWell_104 (by decide) ?_
              refine kb_bIa (w := bW cI cC cS a) (As := [.int (nI k), .int (nI 8)]) (rest := [.int (smI (gX (mo_g m) 3) k)]) hx hb hml hts hown hN hK hP hD hS hA (b_king l D cI cC cS a hin (nI k) (nI 8)) gL_isWell_X4_king rfl ⟨rfl, rfl⟩ hdX4_king ⟨(Nat.le_of_ble_eq_true rfl), (Nat.le_of_ble_eq_true rfl)⟩ [0, 1, 2] rfl (ci := 4) rfl rfl rfl (fun _ => kb_blk _ _) rfl rfl hl.1 (Nat.le_of_ble_eq_true rfl) dL_isWell_106 ⟨(Nat.le_of_ble_eq_true rfl), (Nat.le_of_ble_eq_true rfl)⟩ (fun r u_106_1 H locs hw hP hD hS => ?_)
              obtain ⟨hr_106, hin⟩ := hw
              subst hr_106
              refine kb_top (nI 0) ((kA_k hk h24 (by decide)).trans (ok_an ho hk (by omega))) ?_
              refine lv_iadd hx hb dL_isWell_109 ?_
              refine kb_top (smI (gX (mo_g m) 3) (k + 1)) (by rw [smI_s, ok_an ho hk (by omega)]) ?_
              refine lv_istore (lv' := [(4, .int (smI (gX (mo_g m) 3) (k + 1))), (3, .int (smI (gX (mo_g m) 2) k + (gX (mo_g m) 2 k))), (2, .int (smI (gX (mo_g m) 1) k + (gX (mo_g m) 1 k))), (9, .int (nI (plW (mo_g m) k))), (8, .int ((-5))), (7, .int (nI k)), (6, .int (nI 1)), (5, .ref q_14), (1, .int (nI (nK (mo_g m)))), (0, .ref (a 0))]) hx hb dL_isWell_110 hl (by decide) rfl (fun ls hl => ?_)
              refine lv_aload hx hb dL_isWell_112 (lv_at hl 7 rfl) ?_
              refine lv_aload_n hx hb dL_isWell_114 rfl (lv_at hl 9 rfl) ?_
              refine lv_iload hx hb dL_isWell_115 (lv_at hl 5 rfl) ?_
              refine lv_iconst (v := nI 3) hx hb dL_isWell_117 (by decide) ?_
              refine kb_bIa (w := bW cI cC cS a) (As := [.int (nI k), .int (nI 3)]) (rest := [.ref q_14]) hx hb hml hts hown hN hK hP hD hS hA (b_king l D cI cC cS a hin (nI k) (nI 3)) gL_isWell_X4_king rfl ⟨rfl, rfl⟩ hdX4_king ⟨(Nat.le_of_ble_eq_true rfl), (Nat.le_of_ble_eq_true rfl)⟩ [0, 1, 2] rfl (ci := 4) rfl rfl rfl (fun _ => kb_blk _ _) rfl rfl hl.1 (Nat.le_of_ble_eq_true rfl) dL_isWell_118 ⟨(Nat.le_of_ble_eq_true rfl), (Nat.le_of_ble_eq_true rfl)⟩ (fun r u_118_1 H locs hw hP hD hS => ?_)
              obtain ⟨hr_118, hin⟩ := hw
              subst hr_118
              refine kb_top (nI 1) ((kA_k hk h24 (by decide)).trans (congrArg nI hd)) ?_
              refine lv_dup2_11 hx hb dL_isWell_121 rfl rfl ?_
              refine kb_iald hx hb hK hP 61 0 rfl rfl (by decide) (by decide) dL_isWell_122 ?_
              refine lv_iconst (v := nI 1) hx hb dL_isWell_123 (by decide) ?_
              refine lv_iadd hx hb dL_isWell_124 ?_
              refine kb_iast hx hb hK hP hD hS 61 0 rfl rfl (by decide) (by decide) dL_isWell_125 (fun H locs hP hD hS => ?_)
              have hP : va_P D vwCl (bW cI cC cS a u_118_1 ++ [(q_14, .inl (cI, 4, .inl (upd (dN (mo_g m) k) 1 ((dN (mo_g m) k) 1 + nI 1))))]) H := hP
              have hD : va_D A (bW cI cC cS a u_118_1 ++ [(q_14, .inl (cI, 4, .inl (upd (dN (mo_g m) k) 1 ((dN (mo_g m) k) 1 + nI 1))))]) := hD
              have hP := kb_re (q0 := 61) (g := dN (mo_g m) (k + 1)) hP rfl (dN_s hd)
              have hD := hD.set (p := 61) (e := .inl (cI, 4, .inl (dN (mo_g m) (k + 1)))) rfl
              have hP : va_P D vwCl (bW cI cC cS a u_118_1 ++ [(q_14, .inl (cI, 4, .inl (dN (mo_g m) (k + 1))))]) H := hP
              have hD : va_D A (bW cI cC cS a u_118_1 ++ [(q_14, .inl (cI, 4, .inl (dN (mo_g m) (k + 1))))]) := hD
              refine lv_iload hx hb dL_isWell_126 (lv_at hl 6 rfl) ?_
              refine kb_nif_eq (tgt := 291) hx hb dL_isWell_128 (by decide) (by decide) (fun c => absurd c (by decide)) (fun _ => ?_)
              refine lv_iload hx hb dL_isWell_131 (lv_at hl 4 rfl) ?_
              refine lv_if_lt (tgt := 140) hx hb dL_isWell_133 (by decide) (fun _ => ?_) (fun c => absurd (by decide) c)
              refine lv_iconst (v := nI 0) hx hb dL_isWell_140 (by decide) ?_
              refine lv_aload_n hx hb dL_isWell_141 rfl (lv_at hl 9 rfl) ?_
              refine lv_iload hx hb dL_isWell_142 (lv_at hl 5 rfl) ?_
              refine lv_iconst (v := nI 3) hx hb dL_isWell_144 (by decide) ?_
              refine kb_bIa (w := bW cI cC cS a) (As := [.int (nI k), .int (nI 3)]) (rest := [.int (nI 0)]) hx hb hml hts hown hN hK hP hD hS hA (b_king l D cI cC cS a hin (nI k) (nI 3)) gL_isWell_X4_king rfl ⟨rfl, rfl⟩ hdX4_king ⟨(Nat.le_of_ble_eq_true rfl), (Nat.le_of_ble_eq_true rfl)⟩ [0, 1, 2] rfl (ci := 4) rfl rfl rfl (fun _ => kb_blk _ _) rfl rfl hl.1 (Nat.le_of_ble_eq_true rfl) dL_isWell_145 ⟨(Nat.le_of_ble_eq_true rfl), (Nat.le_of_ble_eq_true rfl)⟩ (fun r u_145_1 H locs hw hP hD hS => ?_)
              obtain ⟨hr_145, hin⟩ := hw
              subst hr_145
              refine kb_top (nI 1) ((kA_k hk h24 (by decide)).trans (congrArg nI hd)) ?_
              refine lv_iconst (v := nI 2) hx hb dL_isWell_148 (by decide) ?_
              refine kb_icmp_ne (tgt := 156) hx hb dL_isWell_149 (by decide) (by decide) (by decide) (fun _ => ?_) (fun c => absurd c (by decide))
              refine lv_iconst (v := nI 0) hx hb dL_isWell_156 (by decide) ?_
              refine kb_icmp_ne (tgt := 291) hx hb dL_isWell_157 (by decide) (by decide) (by decide) (fun c => absurd c (by decide)) (fun _ => ?_)
              refine lv_iload hx hb dL_isWell_160 (lv_at hl 3 rfl) ?_
              refine kb_nif_lt (tgt := 169) hx hb dL_isWell_162 (by decide) (by omega) ?_
              refine lv_iconst (v := nI 1) hx hb dL_isWell_165 (by decide) ?_
              refine lv_goto (tgt := 170) hx hb dL_isWell_166 (by decide) ?_
              refine lv_aload_n hx hb dL_isWell_170 rfl (lv_at hl 9 rfl) ?_
              refine lv_iload hx hb dL_isWell_171 (lv_at hl 5 rfl) ?_
              refine lv_iconst (v := nI 3) hx hb dL_isWell_173 (by decide) ?_
              refine kb_bIa (w := bW cI cC cS a) (As := [.int (nI k), .int (nI 3)]) (rest := [.int (nI 1)]) hx hb hml hts hown hN hK hP hD hS hA (b_king l D cI cC cS a hin (nI k) (nI 3)) gL_isWell_X4_king rfl ⟨rfl, rfl⟩ hdX4_king ⟨(Nat.le_of_ble_eq_true rfl), (Nat.le_of_ble_eq_true rfl)⟩ [0, 1, 2] rfl (ci := 4) rfl rfl rfl (fun _ => kb_blk _ _) rfl rfl hl.1 (Nat.le_of_ble_eq_true rfl) dL_isWell_174 ⟨(Nat.le_of_ble_eq_true rfl), (Nat.le_of_ble_eq_true rfl)⟩ (fun r u_174_1 H locs hw hP hD hS => ?_)
              obtain ⟨hr_174, hin⟩ := hw
              subst hr_174
              refine kb_top (nI 1) ((kA_k hk h24 (by decide)).trans (congrArg nI hd)) ?_
              refine lv_iconst (v := nI 1) hx hb dL_isWell_177 (by decide) ?_
              refine kb_icmp_ne (tgt := 185) hx hb dL_isWell_178 (by decide) (by decide) (by decide) (fun c => absurd c (by decide)) (fun _ => ?_)
              refine lv_iconst (v := nI 1) hx hb dL_isWell_181 (by decide) ?_
              refine lv_goto (tgt := 186) hx hb dL_isWell_182 (by decide) ?_
              refine kb_icmp_ne (tgt := 291) hx hb dL_isWell_186 (by decide) (by decide) (by decide) (fun c => absurd c (by decide)) (fun _ => ?_)
              refine lv_iload hx hb dL_isWell_189 (lv_at hl 4 rfl) ?_
              refine lv_if_lt (tgt := 205) hx hb dL_isWell_191 (by decide) (fun _ => ?_) (fun c => absurd (by decide) c)
              refine lv_iload hx hb dL_isWell_205 (lv_at hl 3 rfl) ?_
              refine kb_nif_lt (tgt := 221) hx hb dL_isWell_207 (by decide) (by omega) ?_
              refine lv_aload_n hx hb dL_isWell_210 rfl (lv_at hl 9 rfl) ?_
              refine lv_iload hx hb dL_isWell_211 (lv_at hl 3 rfl) ?_
              refine kb_bIa (w := bW cI cC cS a) (As := [.int (nI (plW (mo_g m) k))]) (rest := []) hx hb hml hts hown hN hK hP hD hS hA (b_waits l D cI cC cS a hin (nI (plW (mo_g m) k))) gL_isWell_X4_waits rfl ⟨rfl, rfl⟩ hdX4_waits ⟨(Nat.le_of_ble_eq_true rfl), (Nat.le_of_ble_eq_true rfl)⟩ [0, 1, 2] rfl (ci := 4) rfl rfl rfl (fun _ => kb_blk _ _) rfl rfl hl.1 (Nat.le_of_ble_eq_true rfl) dL_isWell_213 ⟨(Nat.le_of_ble_eq_true rfl), (Nat.le_of_ble_eq_true rfl)⟩ (fun r u_213 H locs hw hP hD hS => ?_)
              obtain ⟨hr_213, hin⟩ := hw
              subst hr_213
              refine kb_top (nI k) (waA_p ho hk hd) ?_
              refine lv_iload hx hb dL_isWell_216 (lv_at hl 5 rfl) ?_
              refine kb_icmp_ne (tgt := 291) hx hb dL_isWell_218 (by decide) (by omega) (by omega) (fun c218 => ?_) (fun c218 => ?_)
              · exfalso; omega
              · refine lv_aload_n hx hb dL_isWell_221 rfl (lv_at hl 9 rfl) ?_
                refine lv_iload hx hb dL_isWell_222 (lv_at hl 5 rfl) ?_
                refine lv_bipush (v := nI 7) hx hb dL_isWell_224 (by decide) ?_
                refine kb_bIa (w := bW cI cC cS a) (As := [.int (nI k), .int (nI 7)]) (rest := []) hx hb hml hts hown hN hK hP hD hS hA (b_king l D cI cC cS a hin (nI k) (nI 7)) gL_isWell_X4_king rfl ⟨rfl, rfl⟩ hdX4_king ⟨(Nat.le_of_ble_eq_true rfl), (Nat.le_of_ble_eq_true rfl)⟩ [0, 1, 2] rfl (ci := 4) rfl rfl rfl (fun _ => kb_blk _ _) rfl rfl hl.1 (Nat.le_of_ble_eq_true rfl) dL_isWell_226 ⟨(Nat.le_of_ble_eq_true rfl), (Nat.le_of_ble_eq_true rfl)⟩ (fun r u_226_1 H locs hw hP hD hS => ?_)
                obtain ⟨hr_226, hin⟩ := hw
                subst hr_226
                refine kb_top (gX (mo_g m) 2 k) (kA_k hk h24 (by decide)) ?_
                refine lv_aload_n hx hb dL_isWell_229 rfl (lv_at hl 9 rfl) ?_
                refine lv_iload hx hb dL_isWell_230 (lv_at hl 5 rfl) ?_
                refine lv_bipush (v := nI 6) hx hb dL_isWell_232 (by decide) ?_
                refine kb_bIa (w := bW cI cC cS a) (As := [.int (nI k), .int (nI 6)]) (rest := [.int (gX (mo_g m) 2 k)]) hx hb hml hts hown hN hK hP hD hS hA (b_king l D cI cC cS a hin (nI k) (nI 6)) gL_isWell_X4_king rfl ⟨rfl, rfl⟩ hdX4_king ⟨(Nat.le_of_ble_eq_true rfl), (Nat.le_of_ble_eq_true rfl)⟩ [0, 1, 2] rfl (ci := 4) rfl rfl rfl (fun _ => kb_blk _ _) rfl rfl hl.1 (Nat.le_of_ble_eq_true rfl) dL_isWell_234 ⟨(Nat.le_of_ble_eq_true rfl), (Nat.le_of_ble_eq_true rfl)⟩ (fun r u_234_1 H locs hw hP hD hS => ?_)
                obtain ⟨hr_234, hin⟩ := hw
                subst hr_234
                refine kb_top (gX (mo_g m) 1 k) (kA_k hk h24 (by decide)) ?_
                refine lv_icmp_gt (tgt := 291) hx hb dL_isWell_237 (by decide) (fun c237 => ?_) (fun c237 => ?_)
                · exfalso; exact Iv_ts hI hM hk c237
                · refine lv_aload_n hx hb dL_isWell_240 rfl (lv_at hl 9 rfl) ?_
                  refine lv_iload hx hb dL_isWell_241 (lv_at hl 5 rfl) ?_
                  refine lv_bipush (v := nI 8) hx hb dL_isWell_243 (by decide) ?_
                  refine kb_bIa (w := bW cI cC cS a) (As := [.int (nI k), .int (nI 8)]) (rest := []) hx hb hml hts hown hN hK hP hD hS hA (b_king l D cI cC cS a hin (nI k) (nI 8)) gL_isWell_X4_king rfl ⟨rfl, rfl⟩ hdX4_king ⟨(Nat.le_of_ble_eq_true rfl), (Nat.le_of_ble_eq_true rfl)⟩ [0, 1, 2] rfl (ci := 4) rfl rfl rfl (fun _ => kb_blk _ _) rfl rfl hl.1 (Nat.le_of_ble_eq_true rfl) dL_isWell_245 ⟨(Nat.le_of_ble_eq_true rfl), (Nat.le_of_ble_eq_true rfl)⟩ (fun r u_245_1 H locs hw hP hD hS => ?_)
                  obtain ⟨hr_245, hin⟩ := hw
                  subst hr_245
                  refine kb_top (nI 0) ((kA_k hk h24 (by decide)).trans (ok_an ho hk (by omega))) ?_
                  refine kb_nif_eq (tgt := 262) hx hb dL_isWell_248 (by decide) (by decide) (fun _ => ?_) (fun c => absurd c (by decide))
                  refine lv_aload_n hx hb dL_isWell_262 rfl (lv_at hl 9 rfl) ?_
                  refine lv_iload hx hb dL_isWell_263 (lv_at hl 5 rfl) ?_
                  refine lv_iconst (v := nI 3) hx hb dL_isWell_265 (by decide) ?_
                  refine kb_bIa (w := bW cI cC cS a) (As := [.int (nI k), .int (nI 3)]) (rest := []) hx hb hml hts hown hN hK hP hD hS hA (b_king l D cI cC cS a hin (nI k) (nI 3)) gL_isWell_X4_king rfl ⟨rfl, rfl⟩ hdX4_king ⟨(Nat.le_of_ble_eq_true rfl), (Nat.le_of_ble_eq_true rfl)⟩ [0, 1, 2] rfl (ci := 4) rfl rfl rfl (fun _ => kb_blk _ _) rfl rfl hl.1 (Nat.le_of_ble_eq_true rfl) dL_isWell_266 ⟨(Nat.le_of_ble_eq_true rfl), (Nat.le_of_ble_eq_true rfl)⟩ (fun r u_266_1 H locs hw hP hD hS => ?_)
                  obtain ⟨hr_266, hin⟩ := hw
                  subst hr_266
                  refine kb_top (nI 1) ((kA_k hk h24 (by decide)).trans (congrArg nI hd)) ?_
                  refine kb_nif_gt (tgt := 287) hx hb dL_isWell_269 (by decide) (by decide) (fun _ => ?_) (fun c => absurd c (by decide))
                  refine lv_iconst (v := nI 1) hx hb dL_isWell_287 (by decide) ?_
                  refine lv_goto (tgt := 292) hx hb dL_isWell_288 (by decide) ?_
                  refine lv_istore (lv' := [(6, .int (nI 1)), (4, .int (smI (gX (mo_g m) 3) (k + 1))), (3, .int (smI (gX (mo_g m) 2) k + (gX (mo_g m) 2 k))), (2, .int (smI (gX (mo_g m) 1) k + (gX (mo_g m) 1 k))), (9, .int (nI (plW (mo_g m) k))), (8, .int ((-5))), (7, .int (nI k)), (5, .ref q_14), (1, .int (nI (nK (mo_g m)))), (0, .ref (a 0))]) hx hb dL_isWell_292 hl (by decide) rfl (fun ls hl => ?_)
                  refine lv_iinc (v := nI (k + 1)) (lv' := [(7, .int (nI (k + 1))), (6, .int (nI 1)), (4, .int (smI (gX (mo_g m) 3) (k + 1))), (3, .int (smI (gX (mo_g m) 2) k + (gX (mo_g m) 2 k))), (2, .int (smI (gX (mo_g m) 1) k + (gX (mo_g m) 1 k))), (9, .int (nI (plW (mo_g m) k))), (8, .int ((-5))), (5, .ref q_14), (1, .int (nI (nK (mo_g m)))), (0, .ref (a 0))]) hx hb dL_isWell_294 hl (k := 6) rfl (kb_inc1 k) (by decide) rfl (fun ls hl => ?_)
                  refine lv_goto (tgt := 53) hx hb dL_isWell_297 (by decide) ?_
                  exact ih_53 u_266_1 (k + 1) hin (by omega) (by omega) _ _ hP hD hS _ (lv_sub hl [0, 1, 7, 2, 3, 4, 8, 9] rfl)
            · refine lv_aload_n hx hb dL_isWell_59 rfl (lv_at hl 7 rfl) ?_
              refine lv_iload hx hb dL_isWell_60 (lv_at hl 0 rfl) ?_
              refine lv_iconst (v := nI 4) hx hb dL_isWell_62 (by decide) ?_
              refine kb_bIa (w := bW cI cC cS a) (As := [.int (nI k), .int (nI 4)]) (rest := []) hx hb hml hts hown hN hK hP hD hS hA (b_king l D cI cC cS a hin (nI k) (nI 4)) gL_isWell_X4_king rfl ⟨rfl, rfl⟩ hdX4_king ⟨(Nat.le_of_ble_eq_true rfl), (Nat.le_of_ble_eq_true rfl)⟩ [0, 1, 2] rfl (ci := 4) rfl rfl rfl (fun _ => kb_blk _ _) rfl rfl hl.1 (Nat.le_of_ble_eq_true rfl) dL_isWell_63 ⟨(Nat.le_of_ble_eq_true rfl), (Nat.le_of_ble_eq_true rfl)⟩ (fun r u_63_2 H locs hw hP hD hS => ?_)
              obtain ⟨hr_63, hin⟩ := hw
              subst hr_63
              refine kb_top (nI (plT (mo_g m) k)) ((kA_k hk h24 (by decide)).trans (tell_4y ho hk hd)) ?_
              refine lv_istore (lv' := [(8, .int (nI (plT (mo_g m) k))), (7, .int (nI k)), (6, .int (nI 1)), (5, .ref q_14), (4, .int (smI (gX (mo_g m) 3) k)), (3, .int (smI (gX (mo_g m) 2) k)), (2, .int (smI (gX (mo_g m) 1) k)), (1, .int (nI (nK (mo_g m)))), (0, .ref (a 0))]) hx hb dL_isWell_66 hl (by decide) rfl (fun ls hl => ?_)
              refine lv_aload_n hx hb dL_isWell_68 rfl (lv_at hl 8 rfl) ?_
              refine lv_iload hx hb dL_isWell_69 (lv_at hl 1 rfl) ?_
              refine lv_iconst (v := nI 5) hx hb dL_isWell_71 (by decide) ?_
              refine kb_bIa (w := bW cI cC cS a) (As := [.int (nI k), .int (nI 5)]) (rest := []) hx hb hml hts hown hN hK hP hD hS hA (b_king l D cI cC cS a hin (nI k) (nI 5)) gL_isWell_X4_king rfl ⟨rfl, rfl⟩ hdX4_king ⟨(Nat.le_of_ble_eq_true rfl), (Nat.le_of_ble_eq_true rfl)⟩ [0, 1, 2] rfl (ci := 4) rfl rfl rfl (fun _ => kb_blk _ _) rfl rfl hl.1 (Nat.le_of_ble_eq_true rfl) dL_isWell_72 ⟨(Nat.le_of_ble_eq_true rfl), (Nat.le_of_ble_eq_true rfl)⟩ (fun r u_72_2 H locs hw hP hD hS => ?_)
              obtain ⟨hr_72, hin⟩ := hw
              subst hr_72
              refine kb_top ((-5)) ((kA_k hk h24 (by decide)).trans (tell_5n ho hk (by omega))) ?_
              refine lv_istore (lv' := [(9, .int ((-5))), (8, .int (nI (plT (mo_g m) k))), (7, .int (nI k)), (6, .int (nI 1)), (5, .ref q_14), (4, .int (smI (gX (mo_g m) 3) k)), (3, .int (smI (gX (mo_g m) 2) k)), (2, .int (smI (gX (mo_g m) 1) k)), (1, .int (nI (nK (mo_g m)))), (0, .ref (a 0))]) hx hb dL_isWell_75 hl (by decide) rfl (fun ls hl => ?_)
              refine lv_iload_n hx hb dL_isWell_77 rfl (lv_at hl 7 rfl) ?_
              refine lv_aload_n hx hb dL_isWell_78 rfl (lv_at hl 9 rfl) ?_
              refine lv_iload hx hb dL_isWell_79 (lv_at hl 2 rfl) ?_
              refine lv_bipush (v := nI 6) hx hb dL_isWell_81 (by decide) ?_
              refine kb_bIa (w := bW cI cC cS a) (As := [.int (nI k), .int (nI 6)]) (rest := [.int (smI (gX (mo_g m) 1) k)]) hx hb hml hts hown hN hK hP hD hS hA (b_king l D cI cC cS a hin (nI k) (nI 6)) gL_isWell_X4_king rfl ⟨rfl, rfl⟩ hdX4_king ⟨(Nat.le_of_ble_eq_true rfl), (Nat.le_of_ble_eq_true rfl)⟩ [0, 1, 2] rfl (ci := 4) rfl rfl rfl (fun _ => kb_blk _ _) rfl rfl hl.1 (Nat.le_of_ble_eq_true rfl) dL_isWell_83 ⟨(Nat.le_of_ble_eq_true rfl), (Nat.le_of_ble_eq_true rfl)⟩ (fun r u_83_2 H locs hw hP hD hS => ?_)
              obtain ⟨hr_83, hin⟩ := hw
              subst hr_83
              refine kb_top (gX (mo_g m) 1 k) (kA_k hk h24 (by decide)) ?_
              refine lv_iadd hx hb dL_isWell_86 ?_
              refine lv_istore_n (lv' := [(2, .int (smI (gX (mo_g m) 1) k + (gX (mo_g m) 1 k))), (9, .int ((-5))), (8, .int (nI (plT (mo_g m) k))), (7, .int (nI k)), (6, .int (nI 1)), (5, .ref q_14), (4, .int (smI (gX (mo_g m) 3) k)), (3, .int (smI (gX (mo_g m) 2) k)), (1, .int (nI (nK (mo_g m)))), (0, .ref (a 0))]) hx hb dL_isWell_87 rfl hl (by decide) rfl (fun ls hl => ?_)
              refine lv_iload_n hx hb dL_isWell_88 rfl (lv_at hl 7 rfl) ?_
              refine lv_aload_n hx hb dL_isWell_89 rfl (lv_at hl 9 rfl) ?_
              refine lv_iload hx hb dL_isWell_90 (lv_at hl 3 rfl) ?_
              refine lv_bipush (v := nI 7) hx hb dL_isWell_92 (by decide) ?_
              refine kb_bIa (w := bW cI cC cS a) (As := [.int (nI k), .int (nI 7)]) (rest := [.int (smI (gX (mo_g m) 2) k)]) hx hb hml hts hown hN hK hP hD hS hA (b_king l D cI cC cS a hin (nI k) (nI 7)) gL_isWell_X4_king rfl ⟨rfl, rfl⟩ hdX4_king ⟨(Nat.le_of_ble_eq_true rfl), (Nat.le_of_ble_eq_true rfl)⟩ [0, 1, 2] rfl (ci := 4) rfl rfl rfl (fun _ => kb_blk _ _) rfl rfl hl.1 (Nat.le_of_ble_eq_true rfl) dL_isWell_94 ⟨(Nat.le_of_ble_eq_true rfl), (Nat.le_of_ble_eq_true rfl)⟩ (fun r u_94_2 H locs hw hP hD hS => ?_)
              obtain ⟨hr_94, hin⟩ := hw
              subst hr_94
              refine kb_top (gX (mo_g m) 2 k) (kA_k hk h24 (by decide)) ?_
              refine lv_iadd hx hb dL_isWell_97 ?_
              refine lv_istore_n (lv' := [(3, .int (smI (gX (mo_g m) 2) k + (gX (mo_g m) 2 k))), (2, .int (smI (gX (mo_g m) 1) k + (gX (mo_g m) 1 k))), (9, .int ((-5))), (8, .int (nI (plT (mo_g m) k))), (7, .int (nI k)), (6, .int (nI 1)), (5, .ref q_14), (4, .int (smI (gX (mo_g m) 3) k)), (1, .int (nI (nK (mo_g m)))), (0, .ref (a 0))]) hx hb dL_isWell_98 rfl hl (by decide) rfl (fun ls hl => ?_)
              refine lv_iload hx hb dL_isWell_99 (lv_at hl 7 rfl) ?_
              refine lv_aload_n hx hb dL_isWell_101 rfl (lv_at hl 9 rfl) ?_
              refine lv_iload hx hb dL_isWell_102 (lv_at hl 4 rfl) ?_
              refine lv_bipush (v := nI 8) hx hb dL_isWell_104 (by decide) ?_
              refine kb_bIa (w := bW cI cC cS a) (As := [.int (nI k), .int (nI 8)]) (rest := [.int (smI (gX (mo_g m) 3) k)]) hx hb hml hts hown hN hK hP hD hS hA (b_king l D cI cC cS a hin (nI k) (nI 8)) gL_isWell_X4_king rfl ⟨rfl, rfl⟩ hdX4_king ⟨(Nat.le_of_ble_eq_true rfl), (Nat.le_of_ble_eq_true rfl)⟩ [0, 1, 2] rfl (ci := 4) rfl rfl rfl (fun _ => kb_blk _ _) rfl rfl hl.1 (Nat.le_of_ble_eq_true rfl) dL_isWell_106 ⟨(Nat.le_of_ble_eq_true rfl), (Nat.le_of_ble_eq_true rfl)⟩ (fun r u_106_2 H locs hw hP hD hS => ?_)
              obtain ⟨hr_106, hin⟩ := hw
              subst hr_106
              refine kb_top (nI 0) ((kA_k hk h24 (by decide)).trans (ok_an ho hk (by omega))) ?_
              refine lv_iadd hx hb dL_isWell_109 ?_
              refine kb_top (smI (gX (mo_g m) 3) (k + 1)) (by rw [smI_s, ok_an ho hk (by omega)]) ?_
              refine lv_istore (lv' := [(4, .int (smI (gX (mo_g m) 3) (k + 1))), (3, .int (smI (gX (mo_g m) 2) k + (gX (mo_g m) 2 k))), (2, .int (smI (gX (mo_g m) 1) k + (gX (mo_g m) 1 k))), (9, .int ((-5))), (8, .int (nI (plT (mo_g m) k))), (7, .int (nI k)), (6, .int (nI 1)), (5, .ref q_14), (1, .int (nI (nK (mo_g m)))), (0, .ref (a 0))]) hx hb dL_isWell_110 hl (by decide) rfl (fun ls hl => ?_)
              refine lv_aload hx hb dL_isWell_112 (lv_at hl 7 rfl) ?_
              refine lv_aload_n hx hb dL_isWell_114 rfl (lv_at hl 9 rfl) ?_
              refine lv_iload hx hb dL_isWell_115 (lv_at hl 5 rfl) ?_
              refine lv_iconst (v := nI 3) hx hb dL_isWell_117 (by decide) ?_
              refine kb_bIa (w := bW cI cC cS a) (As := [.int (nI k), .int (nI 3)]) (rest := [.ref q_14]) hx hb hml hts hown hN hK hP hD hS hA (b_king l D cI cC cS a hin (nI k) (nI 3)) gL_isWell_X4_king rfl ⟨rfl, rfl⟩ hdX4_king ⟨(Nat.le_of_ble_eq_true rfl), (Nat.le_of_ble_eq_true rfl)⟩ [0, 1, 2] rfl (ci := 4) rfl rfl rfl (fun _ => kb_blk _ _) rfl rfl hl.1 (Nat.le_of_ble_eq_true rfl) dL_isWell_118 ⟨(Nat.le_of_ble_eq_true rfl), (Nat.le_of_ble_eq_true rfl)⟩ (fun r u_118_2 H locs hw hP hD hS => ?_)
              obtain ⟨hr_118, hin⟩ := hw
              subst hr_118
              refine kb_top (nI 2) ((kA_k hk h24 (by decide)).trans (congrArg nI hd)) ?_
              refine lv_dup2_11 hx hb dL_isWell_121 rfl rfl ?_
              refine kb_iald hx hb hK hP 61 0 rfl rfl (by decide) (by decide) dL_isWell_122 ?_
              refine lv_iconst (v := nI 1) hx hb dL_isWell_123 (by decide) ?_
              refine lv_iadd hx hb dL_isWell_124 ?_
              refine kb_iast hx hb hK hP hD hS 61 0 rfl rfl (by decide) (by decide) dL_isWell_125 (fun H locs hP hD hS => ?_)
              have hP : va_P D vwCl (bW cI cC cS a u_118_2 ++ [(q_14, .inl (cI, 4, .inl (upd (dN (mo_g m) k) 2 ((dN (mo_g m) k) 2 + nI 1))))]) H := hP
              have hD : va_D A (bW cI cC cS a u_118_2 ++ [(q_14, .inl (cI, 4, .inl (upd (dN (mo_g m) k) 2 ((dN (mo_g m) k) 2 + nI 1))))]) := hD
              have hP := kb_re (q0 := 61) (g := dN (mo_g m) (k + 1)) hP rfl (dN_s hd)
              have hD := hD.set (p := 61) (e := .inl (cI, 4, .inl (dN (mo_g m) (k + 1)))) rfl
              have hP : va_P D vwCl (bW cI cC cS a u_118_2 ++ [(q_14, .inl (cI, 4, .inl (dN (mo_g m) (k + 1))))]) H := hP
              have hD : va_D A (bW cI cC cS a u_118_2 ++ [(q_14, .inl (cI, 4, .inl (dN (mo_g m) (k + 1))))]) := hD
              refine lv_iload hx hb dL_isWell_126 (lv_at hl 6 rfl) ?_
              refine kb_nif_eq (tgt := 291) hx hb dL_isWell_128 (by decide) (by decide) (fun c => absurd c (by decide)) (fun _ => ?_)
              refine lv_iload hx hb dL_isWell_131 (lv_at hl 4 rfl) ?_
              refine kb_nif_lt (tgt := 140) hx hb dL_isWell_133 (by decide) (by omega) ?_
              refine lv_iconst (v := nI 1) hx hb dL_isWell_136 (by decide) ?_
              refine lv_goto (tgt := 141) hx hb dL_isWell_137 (by decide) ?_
              refine lv_aload_n hx hb dL_isWell_141 rfl (lv_at hl 9 rfl) ?_
              refine lv_iload hx hb dL_isWell_142 (lv_at hl 5 rfl) ?_
              refine lv_iconst (v := nI 3) hx hb dL_isWell_144 (by decide) ?_
              refine kb_bIa (w := bW cI cC cS a) (As := [.int (nI k), .int (nI 3)]) (rest := [.int (nI 1)]) hx hb hml hts hown hN hK hP hD hS hA (b_king l D cI cC cS a hin (nI k) (nI 3)) gL_isWell_X4_king rfl ⟨rfl, rfl⟩ hdX4_king ⟨(Nat.le_of_ble_eq_true rfl), (Nat.le_of_ble_eq_true rfl)⟩ [0, 1, 2] rfl (ci := 4) rfl rfl rfl (fun _ => kb_blk _ _) rfl rfl hl.1 (Nat.le_of_ble_eq_true rfl) dL_isWell_145 ⟨(Nat.le_of_ble_eq_true rfl), (Nat.le_of_ble_eq_true rfl)⟩ (fun r u_145_2 H locs hw hP hD hS => ?_)
              obtain ⟨hr_145, hin⟩ := hw
              subst hr_145
              refine kb_top (nI 2) ((kA_k hk h24 (by decide)).trans (congrArg nI hd)) ?_
              refine lv_iconst (v := nI 2) hx hb dL_isWell_148 (by decide) ?_
              refine kb_icmp_ne (tgt := 156) hx hb dL_isWell_149 (by decide) (by decide) (by decide) (fun c => absurd c (by decide)) (fun _ => ?_)
              refine lv_iconst (v := nI 1) hx hb dL_isWell_152 (by decide) ?_
              refine lv_goto (tgt := 157) hx hb dL_isWell_153 (by decide) ?_
              refine kb_icmp_ne (tgt := 291) hx hb dL_isWell_157 (by decide) (by decide) (by decide) (fun c => absurd c (by decide)) (fun _ => ?_)
              refine lv_iload hx hb dL_isWell_160 (lv_at hl 3 rfl) ?_
              refine lv_if_lt (tgt := 169) hx hb dL_isWell_162 (by decide) (fun _ => ?_) (fun c => absurd (by decide) c)
              refine lv_iconst (v := nI 0) hx hb dL_isWell_169 (by decide) ?_
              refine lv_aload_n hx hb dL_isWell_170 rfl (lv_at hl 9 rfl) ?_
              refine lv_iload hx hb dL_isWell_171 (lv_at hl 5 rfl) ?_
              refine lv_iconst (v := nI 3) hx hb dL_isWell_173 (by decide) ?_
              refine kb_bIa (w := bW cI cC cS a) (As := [.int (nI k), .int (nI 3)]) (rest := [.int (nI 0)]) hx hb hml hts hown hN hK hP hD hS hA (b_king l D cI cC cS a hin (nI k) (nI 3)) gL_isWell_X4_king rfl ⟨rfl, rfl⟩ hdX4_king ⟨(Nat.le_of_ble_eq_true rfl), (Nat.le_of_ble_eq_true rfl)⟩ [0, 1, 2] rfl (ci := 4) rfl rfl rfl (fun _ => kb_blk _ _) rfl rfl hl.1 (Nat.le_of_ble_eq_true rfl) dL_isWell_174 ⟨(Nat.le_of_ble_eq_true rfl), (Nat.le_of_ble_eq_true rfl)⟩ (fun r u_174_2 H locs hw hP hD hS => ?_)
              obtain ⟨hr_174, hin⟩ := hw
              subst hr_174
              refine kb_top (nI 2) ((kA_k hk h24 (by decide)).trans (congrArg nI hd)) ?_
              refine lv_iconst (v := nI 1) hx hb dL_isWell_177 (by decide) ?_
              refine kb_icmp_ne (tgt := 185) hx hb dL_isWell_178 (by decide) (by decide) (by decide) (fun _ => ?_) (fun c => absurd c (by decide))
              refine lv_iconst (v := nI 0) hx hb dL_isWell_185 (by decide) ?_
              refine kb_icmp_ne (tgt := 291) hx hb dL_isWell_186 (by decide) (by decide) (by decide) (fun c => absurd c (by decide)) (fun _ => ?_)
              refine lv_iload hx hb dL_isWell_189 (lv_at hl 4 rfl) ?_
              refine kb_nif_lt (tgt := 205) hx hb dL_isWell_191 (by decide) (by omega) ?_
              refine lv_aload_n hx hb dL_isWell_194 rfl (lv_at hl 9 rfl) ?_
              refine lv_iload hx hb dL_isWell_195 (lv_at hl 4 rfl) ?_
              refine kb_bIa (w := bW cI cC cS a) (As := [.int (nI (plT (mo_g m) k))]) (rest := []) hx hb hml hts hown hN hK hP hD hS hA (b_seat l D cI cC cS a hin (nI (plT (mo_g m) k))) gL_isWell_X4_seat rfl ⟨rfl, rfl⟩ hdX4_seat ⟨(Nat.le_of_ble_eq_true rfl), (Nat.le_of_ble_eq_true rfl)⟩ [0, 1, 2] rfl (ci := 4) rfl rfl rfl (fun _ => kb_blk _ _) rfl rfl hl.1 (Nat.le_of_ble_eq_true rfl) dL_isWell_197 ⟨(Nat.le_of_ble_eq_true rfl), (Nat.le_of_ble_eq_true rfl)⟩ (fun r u_197 H locs hw hP hD hS => ?_)
              obtain ⟨hr_197, hin⟩ := hw
              subst hr_197
              refine kb_top (nI k) (seA_p ho hk hd) ?_
              refine lv_iload hx hb dL_isWell_200 (lv_at hl 5 rfl) ?_
              refine kb_icmp_ne (tgt := 291) hx hb dL_isWell_202 (by decide) (by omega) (by omega) (fun c202 => ?_) (fun c202 => ?_)
              · exfalso; omega
              · refine lv_iload hx hb dL_isWell_205 (lv_at hl 3 rfl) ?_
                refine lv_if_lt (tgt := 221) hx hb dL_isWell_207 (by decide) (fun _ => ?_) (fun c => absurd (by decide) c)
                refine lv_aload_n hx hb dL_isWell_221 rfl (lv_at hl 9 rfl) ?_
                refine lv_iload hx hb dL_isWell_222 (lv_at hl 5 rfl) ?_
                refine lv_bipush (v := nI 7) hx hb dL_isWell_224 (by decide) ?_
                refine kb_bIa (w := bW cI cC cS a) (As := [.int (nI k), .int (nI 7)]) (rest := []) hx hb hml hts hown hN hK hP hD hS hA (b_king l D cI cC cS a hin (nI k) (nI 7)) gL_isWell_X4_king rfl ⟨rfl, rfl⟩ hdX4_king ⟨(Nat.le_of_ble_eq_true rfl), (Nat.le_of_ble_eq_true rfl)⟩ [0, 1, 2] rfl (ci := 4) rfl rfl rfl (fun _ => kb_blk _ _) rfl rfl hl.1 (Nat.le_of_ble_eq_true rfl) dL_isWell_226 ⟨(Nat.le_of_ble_eq_true rfl), (Nat.le_of_ble_eq_true rfl)⟩ (fun r u_226_2 H locs hw hP hD hS => ?_)
                obtain ⟨hr_226, hin⟩ := hw
                subst hr_226
                refine kb_top (gX (mo_g m) 2 k) (kA_k hk h24 (by decide)) ?_
                refine lv_aload_n hx hb dL_isWell_229 rfl (lv_at hl 9 rfl) ?_
                refine lv_iload hx hb dL_isWell_230 (lv_at hl 5 rfl) ?_
                refine lv_bipush (v := nI 6) hx hb dL_isWell_232 (by decide) ?_
                refine kb_bIa (w := bW cI cC cS a) (As := [.int (nI k), .int (nI 6)]) (rest := [.int (gX (mo_g m) 2 k)]) hx hb hml hts hown hN hK hP hD hS hA (b_king l D cI cC cS a hin (nI k) (nI 6)) gL_isWell_X4_king rfl ⟨rfl, rfl⟩ hdX4_king ⟨(Nat.le_of_ble_eq_true rfl), (Nat.le_of_ble_eq_true rfl)⟩ [0, 1, 2] rfl (ci := 4) rfl rfl rfl (fun _ => kb_blk _ _) rfl rfl hl.1 (Nat.le_of_ble_eq_true rfl) dL_isWell_234 ⟨(Nat.le_of_ble_eq_true rfl), (Nat.le_of_ble_eq_true rfl)⟩ (fun r u_234_2 H locs hw hP hD hS => ?_)
                obtain ⟨hr_234, hin⟩ := hw
                subst hr_234
                refine kb_top (gX (mo_g m) 1 k) (kA_k hk h24 (by decide)) ?_
                refine lv_icmp_gt (tgt := 291) hx hb dL_isWell_237 (by decide) (fun c237 => ?_) (fun c237 => ?_)
                · exfalso; exact Iv_ts hI hM hk c237
                · refine lv_aload_n hx hb dL_isWell_240 rfl (lv_at hl 9 rfl) ?_
                  refine lv_iload hx hb dL_isWell_241 (lv_at hl 5 rfl) ?_
                  refine lv_bipush (v := nI 8) hx hb dL_isWell_243 (by decide) ?_
                  refine kb_bIa (w := bW cI cC cS a) (As := [.int (nI k), .int (nI 8)]) (rest := []) hx hb hml hts hown hN hK hP hD hS hA (b_king l D cI cC cS a hin (nI k) (nI 8)) gL_isWell_X4_king rfl ⟨rfl, rfl⟩ hdX4_king ⟨(Nat.le_of_ble_eq_true rfl), (Nat.le_of_ble_eq_true rfl)⟩ [0, 1, 2] rfl (ci := 4) rfl rfl rfl (fun _ => kb_blk _ _) rfl rfl hl.1 (Nat.le_of_ble_eq_true rfl) dL_isWell_245 ⟨(Nat.le_of_ble_eq_true rfl), (Nat.le_of_ble_eq_true rfl)⟩ (fun r u_245_2 H locs hw hP hD hS => ?_)
                  obtain ⟨hr_245, hin⟩ := hw
                  subst hr_245
                  refine kb_top (nI 0) ((kA_k hk h24 (by decide)).trans (ok_an ho hk (by omega))) ?_
                  refine kb_nif_eq (tgt := 262) hx hb dL_isWell_248 (by decide) (by decide) (fun _ => ?_) (fun c => absurd c (by decide))
                  refine lv_aload_n hx hb dL_isWell_262 rfl (lv_at hl 9 rfl) ?_
                  refine lv_iload hx hb dL_isWell_263 (lv_at hl 5 rfl) ?_
                  refine lv_iconst (v := nI 3) hx hb dL_isWell_265 (by decide) ?_
                  refine kb_bIa (w := bW cI cC cS a) (As := [.int (nI k), .int (nI 3)]) (rest := []) hx hb hml hts hown hN hK hP hD hS hA (b_king l D cI cC cS a hin (nI k) (nI 3)) gL_isWell_X4_king rfl ⟨rfl, rfl⟩ hdX4_king ⟨(Nat.le_of_ble_eq_true rfl), (Nat.le_of_ble_eq_true rfl)⟩ [0, 1, 2] rfl (ci := 4) rfl rfl rfl (fun _ => kb_blk _ _) rfl rfl hl.1 (Nat.le_of_ble_eq_true rfl) dL_isWell_266 ⟨(Nat.le_of_ble_eq_true rfl), (Nat.le_of_ble_eq_true rfl)⟩ (fun r u_266_2 H locs hw hP hD hS => ?_)
                  obtain ⟨hr_266, hin⟩ := hw
                  subst hr_266
                  refine kb_top (nI 2) ((kA_k hk h24 (by decide)).trans (congrArg nI hd)) ?_
                  refine kb_nif_gt (tgt := 287) hx hb dL_isWell_269 (by decide) (by decide) (fun _ => ?_) (fun c => absurd c (by decide))
                  refine lv_iconst (v := nI 1) hx hb dL_isWell_287 (by decide) ?_
                  refine lv_goto (tgt := 292) hx hb dL_isWell_288 (by decide) ?_
                  refine lv_istore (lv' := [(6, .int (nI 1)), (4, .int (smI (gX (mo_g m) 3) (k + 1))), (3, .int (smI (gX (mo_g m) 2) k + (gX (mo_g m) 2 k))), (2, .int (smI (gX (mo_g m) 1) k + (gX (mo_g m) 1 k))), (9, .int ((-5))), (8, .int (nI (plT (mo_g m) k))), (7, .int (nI k)), (5, .ref q_14), (1, .int (nI (nK (mo_g m)))), (0, .ref (a 0))]) hx hb dL_isWell_292 hl (by decide) rfl (fun ls hl => ?_)
                  refine lv_iinc (v := nI (k + 1)) (lv' := [(7, .int (nI (k + 1))), (6, .int (nI 1)), (4, .int (smI (gX (mo_g m) 3) (k + 1))), (3, .int (smI (gX (mo_g m) 2) k + (gX (mo_g m) 2 k))), (2, .int (smI (gX (mo_g m) 1) k + (gX (mo_g m) 1 k))), (9, .int ((-5))), (8, .int (nI (plT (mo_g m) k))), (5, .ref q_14), (1, .int (nI (nK (mo_g m)))), (0, .ref (a 0))]) hx hb dL_isWell_294 hl (k := 6) rfl (kb_inc1 k) (by decide) rfl (fun ls hl => ?_)
                  refine lv_goto (tgt := 53) hx hb dL_isWell_297 (by decide) ?_
                  exact ih_53 u_266_2 (k + 1) hin (by omega) (by omega) _ _ hP hD hS _ (lv_sub hl [0, 1, 7, 2, 3, 4, 8, 9] rfl)
            · refine lv_aload_n hx hb dL_isWell_59 rfl (lv_at hl 7 rfl) ?_
              refine lv_iload hx hb dL_isWell_60 (lv_at hl 0 rfl) ?_
              refine lv_iconst (v := nI 4) hx hb dL_isWell_62 (by decide) ?_
              refine kb_bIa (w := bW cI cC cS a) (As := [.int (nI k), .int (nI 4)]) (rest := []) hx hb hml hts hown hN hK hP hD hS hA (b_king l D cI cC cS a hin (nI k) (nI 4)) gL_isWell_X4_king rfl ⟨rfl, rfl⟩ hdX4_king ⟨(Nat.le_of_ble_eq_true rfl), (Nat.le_of_ble_eq_true rfl)⟩ [0, 1, 2] rfl (ci := 4) rfl rfl rfl (fun _ => kb_blk _ _) rfl rfl hl.1 (Nat.le_of_ble_eq_true rfl) dL_isWell_63 ⟨(Nat.le_of_ble_eq_true rfl), (Nat.le_of_ble_eq_true rfl)⟩ (fun r u_63_3 H locs hw hP hD hS => ?_)
              obtain ⟨hr_63, hin⟩ := hw
              subst hr_63
              refine kb_top ((-5)) ((kA_k hk h24 (by decide)).trans (tell_4n ho hk (by omega))) ?_
              refine lv_istore (lv' := [(8, .int ((-5))), (7, .int (nI k)), (6, .int (nI 1)), (5, .ref q_14), (4, .int (smI (gX (mo_g m) 3) k)), (3, .int (smI (gX (mo_g m) 2) k)), (2, .int (smI (gX (mo_g m) 1) k)), (1, .int (nI (nK (mo_g m)))), (0, .ref (a 0))]) hx hb dL_isWell_66 hl (by decide) rfl (fun ls hl => ?_)
              refine lv_aload_n hx hb dL_isWell_68 rfl (lv_at hl 8 rfl) ?_
              refine lv_iload hx hb dL_isWell_69 (lv_at hl 1 rfl) ?_
              refine lv_iconst (v := nI 5) hx hb dL_isWell_71 (by decide) ?_
              refine kb_bIa (w := bW cI cC cS a) (As := [.int (nI k), .int (nI 5)]) (rest := []) hx hb hml hts hown hN hK hP hD hS hA (b_king l D cI cC cS a hin (nI k) (nI 5)) gL_isWell_X4_king rfl ⟨rfl, rfl⟩ hdX4_king ⟨(Nat.le_of_ble_eq_true rfl), (Nat.le_of_ble_eq_true rfl)⟩ [0, 1, 2] rfl (ci := 4) rfl rfl rfl (fun _ => kb_blk _ _) rfl rfl hl.1 (Nat.le_of_ble_eq_true rfl) dL_isWell_72 ⟨(Nat.le_of_ble_eq_true rfl), (Nat.le_of_ble_eq_true rfl)⟩ (fun r u_72_3 H locs hw hP hD hS => ?_)
              obtain ⟨hr_72, hin⟩ := hw
              subst hr_72
              refine kb_top ((-5)) ((kA_k hk h24 (by decide)).trans (tell_5n ho hk (by omega))) ?_
              refine lv_istore (lv' := [(9, .int ((-5))), (8, .int ((-5))), (7, .int (nI k)), (6, .int (nI 1)), (5, .ref q_14), (4, .int (smI (gX (mo_g m) 3) k)), (3, .int (smI (gX (mo_g m) 2) k)), (2, .int (smI (gX (mo_g m) 1) k)), (1, .int (nI (nK (mo_g m)))), (0, .ref (a 0))]) hx hb dL_isWell_75 hl (by decide) rfl (fun ls hl => ?_)
              refine lv_iload_n hx hb dL_isWell_77 rfl (lv_at hl 7 rfl) ?_
              refine lv_aload_n hx hb dL_isWell_78 rfl (lv_at hl 9 rfl) ?_
              refine lv_iload hx hb dL_isWell_79 (lv_at hl 2 rfl) ?_
              refine lv_bipush (v := nI 6) hx hb dL_isWell_81 (by decide) ?_
              refine kb_bIa (w := bW cI cC cS a) (As := [.int (nI k), .int (nI 6)]) (rest := [.int (smI (gX (mo_g m) 1) k)]) hx hb hml hts hown hN hK hP hD hS hA (b_king l D cI cC cS a hin (nI k) (nI 6)) gL_isWell_X4_king rfl ⟨rfl, rfl⟩ hdX4_king ⟨(Nat.le_of_ble_eq_true rfl), (Nat.le_of_ble_eq_true rfl)⟩ [0, 1, 2] rfl (ci := 4) rfl rfl rfl (fun _ => kb_blk _ _) rfl rfl hl.1 (Nat.le_of_ble_eq_true rfl) dL_isWell_83 ⟨(Nat.le_of_ble_eq_true rfl), (Nat.le_of_ble_eq_true rfl)⟩ (fun r u_83_3 H locs hw hP hD hS => ?_)
              obtain ⟨hr_83, hin⟩ := hw
              subst hr_83
              refine kb_top (gX (mo_g m) 1 k) (kA_k hk h24 (by decide)) ?_
              refine lv_iadd hx hb dL_isWell_86 ?_
              refine lv_istore_n (lv' := [(2, .int (smI (gX (mo_g m) 1) k + (gX (mo_g m) 1 k))), (9, .int ((-5))), (8, .int ((-5))), (7, .int (nI k)), (6, .int (nI 1)), (5, .ref q_14), (4, .int (smI (gX (mo_g m) 3) k)), (3, .int (smI (gX (mo_g m) 2) k)), (1, .int (nI (nK (mo_g m)))), (0, .ref (a 0))]) hx hb dL_isWell_87 rfl hl (by decide) rfl (fun ls hl => ?_)
              refine lv_iload_n hx hb dL_isWell_88 rfl (lv_at hl 7 rfl) ?_
              refine lv_aload_n hx hb dL_isWell_89 rfl (lv_at hl 9 rfl) ?_
              refine lv_iload hx hb dL_isWell_90 (lv_at hl 3 rfl) ?_
              refine lv_bipush (v := nI 7) hx hb dL_isWell_92 (by decide) ?_
              refine kb_bIa (w := bW cI cC cS a) (As := [.int (nI k), .int (nI 7)]) (rest := [.int (smI (gX (mo_g m) 2) k)]) hx hb hml hts hown hN hK hP hD hS hA (b_king l D cI cC cS a hin (nI k) (nI 7)) gL_isWell_X4_king rfl ⟨rfl, rfl⟩ hdX4_king ⟨(Nat.le_of_ble_eq_true rfl), (Nat.le_of_ble_eq_true rfl)⟩ [0, 1, 2] rfl (ci := 4) rfl rfl rfl (fun _ => kb_blk _ _) rfl rfl hl.1 (Nat.le_of_ble_eq_true rfl) dL_isWell_94 ⟨(Nat.le_of_ble_eq_true rfl), (Nat.le_of_ble_eq_true rfl)⟩ (fun r u_94_3 H locs hw hP hD hS => ?_)
              obtain ⟨hr_94, hin⟩ := hw
              subst hr_94
              refine kb_top (gX (mo_g m) 2 k) (kA_k hk h24 (by decide)) ?_
              refine lv_iadd hx hb dL_isWell_97 ?_
              refine lv_istore_n (lv' := [(3, .int (smI (gX (mo_g m) 2) k + (gX (mo_g m) 2 k))), (2, .int (smI (gX (mo_g m) 1) k + (gX (mo_g m) 1 k))), (9, .int ((-5))), (8, .int ((-5))), (7, .int (nI k)), (6, .int (nI 1)), (5, .ref q_14), (4, .int (smI (gX (mo_g m) 3) k)), (1, .int (nI (nK (mo_g m)))), (0, .ref (a 0))]) hx hb dL_isWell_98 rfl hl (by decide) rfl (fun ls hl => ?_)
              refine lv_iload hx hb dL_isWell_99 (lv_at hl 7 rfl) ?_
              refine lv_aload_n hx hb dL_isWell_101 rfl (lv_at hl 9 rfl) ?_
              refine lv_iload hx hb dL_isWell_102 (lv_at hl 4 rfl) ?_
              refine lv_bipush (v := nI 8) hx hb dL_isWell_104 (by decide) ?_
              refine kb_bIa (w := bW cI cC cS a) (As := [.int (nI k), .int (nI 8)]) (rest := [.int (smI (gX (mo_g m) 3) k)]) hx hb hml hts hown hN hK hP hD hS hA (b_king l D cI cC cS a hin (nI k) (nI 8)) gL_isWell_X4_king rfl ⟨rfl, rfl⟩ hdX4_king ⟨(Nat.le_of_ble_eq_true rfl), (Nat.le_of_ble_eq_true rfl)⟩ [0, 1, 2] rfl (ci := 4) rfl rfl rfl (fun _ => kb_blk _ _) rfl rfl hl.1 (Nat.le_of_ble_eq_true rfl) dL_isWell_106 ⟨(Nat.le_of_ble_eq_true rfl), (Nat.le_of_ble_eq_true rfl)⟩ (fun r u_106_3 H locs hw hP hD hS => ?_)
              obtain ⟨hr_106, hin⟩ := hw
              subst hr_106
              refine kb_top (gX (mo_g m) 3 k) (kA_k hk h24 (by decide)) ?_
              refine lv_iadd hx hb dL_isWell_109 ?_
              refine lv_istore (lv' := [(4, .int (smI (gX (mo_g m) 3) k + (gX (mo_g m) 3 k))), (3, .int (smI (gX (mo_g m) 2) k + (gX (mo_g m) 2 k))), (2, .int (smI (gX (mo_g m) 1) k + (gX (mo_g m) 1 k))), (9, .int ((-5))), (8, .int ((-5))), (7, .int (nI k)), (6, .int (nI 1)), (5, .ref q_14), (1, .int (nI (nK (mo_g m)))), (0, .ref (a 0))]) hx hb dL_isWell_110 hl (by decide) rfl (fun ls hl => ?_)
              refine lv_aload hx hb dL_isWell_112 (lv_at hl 7 rfl) ?_
              refine lv_aload_n hx hb dL_isWell_114 rfl (lv_at hl 9 rfl) ?_
              refine lv_iload hx hb dL_isWell_115 (lv_at hl 5 rfl) ?_
              refine lv_iconst (v := nI 3) hx hb dL_isWell_117 (by decide) ?_
              refine kb_bIa (w := bW cI cC cS a) (As := [.int (nI k), .int (nI 3)]) (rest := [.ref q_14]) hx hb hml hts hown hN hK hP hD hS hA (b_king l D cI cC cS a hin (nI k) (nI 3)) gL_isWell_X4_king rfl ⟨rfl, rfl⟩ hdX4_king ⟨(Nat.le_of_ble_eq_true rfl), (Nat.le_of_ble_eq_true rfl)⟩ [0, 1, 2] rfl (ci := 4) rfl rfl rfl (fun _ => kb_blk _ _) rfl rfl hl.1 (Nat.le_of_ble_eq_true rfl) dL_isWell_118 ⟨(Nat.le_of_ble_eq_true rfl), (Nat.le_of_ble_eq_true rfl)⟩ (fun r u_118_3 H locs hw hP hD hS => ?_)
              obtain ⟨hr_118, hin⟩ := hw
              subst hr_118
              refine kb_top (nI 3) ((kA_k hk h24 (by decide)).trans (congrArg nI hd)) ?_
              refine lv_dup2_11 hx hb dL_isWell_121 rfl rfl ?_
              refine kb_iald hx hb hK hP 61 0 rfl rfl (by decide) (by decide) dL_isWell_122 ?_
              refine lv_iconst (v := nI 1) hx hb dL_isWell_123 (by decide) ?_
              refine lv_iadd hx hb dL_isWell_124 ?_
              refine kb_iast hx hb hK hP hD hS 61 0 rfl rfl (by decide) (by decide) dL_isWell_125 (fun H locs hP hD hS => ?_)
              have hP : va_P D vwCl (bW cI cC cS a u_118_3 ++ [(q_14, .inl (cI, 4, .inl (upd (dN (mo_g m) k) 3 ((dN (mo_g m) k) 3 + nI 1))))]) H := hP
              have hD : va_D A (bW cI cC cS a u_118_3 ++ [(q_14, .inl (cI, 4, .inl (upd (dN (mo_g m) k) 3 ((dN (mo_g m) k) 3 + nI 1))))]) := hD
              have hP := kb_re (q0 := 61) (g := dN (mo_g m) (k + 1)) hP rfl (dN_s hd)
              have hD := hD.set (p := 61) (e := .inl (cI, 4, .inl (dN (mo_g m) (k + 1)))) rfl
              have hP : va_P D vwCl (bW cI cC cS a u_118_3 ++ [(q_14, .inl (cI, 4, .inl (dN (mo_g m) (k + 1))))]) H := hP
              have hD : va_D A (bW cI cC cS a u_118_3 ++ [(q_14, .inl (cI, 4, .inl (dN (mo_g m) (k + 1))))]) := hD
              refine lv_iload hx hb dL_isWell_126 (lv_at hl 6 rfl) ?_
              refine kb_nif_eq (tgt := 291) hx hb dL_isWell_128 (by decide) (by decide) (fun c => absurd c (by decide)) (fun _ => ?_)
              refine lv_iload hx hb dL_isWell_131 (lv_at hl 4 rfl) ?_
              refine lv_if_lt (tgt := 140) hx hb dL_isWell_133 (by decide) (fun _ => ?_) (fun c => absurd (by decide) c)
              refine lv_iconst (v := nI 0) hx hb dL_isWell_140 (by decide) ?_
              refine lv_aload_n hx hb dL_isWell_141 rfl (lv_at hl 9 rfl) ?_
              refine lv_iload hx hb dL_isWell_142 (lv_at hl 5 rfl) ?_
              refine lv_iconst (v := nI 3) hx hb dL_isWell_144 (by decide) ?_
              refine kb_bIa (w := bW cI cC cS a) (As := [.int (nI k), .int (nI 3)]) (rest := [.int (nI 0)]) hx hb hml hts hown hN hK hP hD hS hA (b_king l D cI cC cS a hin (nI k) (nI 3)) gL_isWell_X4_king rfl ⟨rfl, rfl⟩ hdX4_king ⟨(Nat.le_of_ble_eq_true rfl), (Nat.le_of_ble_eq_true rfl)⟩ [0, 1, 2] rfl (ci := 4) rfl rfl rfl (fun _ => kb_blk _ _) rfl rfl hl.1 (Nat.le_of_ble_eq_true rfl) dL_isWell_145 ⟨(Nat.le_of_ble_eq_true rfl), (Nat.le_of_ble_eq_true rfl)⟩ (fun r u_145_3 H locs hw hP hD hS => ?_)
              obtain ⟨hr_145, hin⟩ := hw
              subst hr_145
              refine kb_top (nI 3) ((kA_k hk h24 (by decide)).trans (congrArg nI hd)) ?_
              refine lv_iconst (v := nI 2) hx hb dL_isWell_148 (by decide) ?_
              refine kb_icmp_ne (tgt := 156) hx hb dL_isWell_149 (by decide) (by decide) (by decide) (fun _ => ?_) (fun c => absurd c (by decide))
              refine lv_iconst (v := nI 0) hx hb dL_isWell_156 (by decide) ?_
              refine kb_icmp_ne (tgt := 291) hx hb dL_isWell_157 (by decide) (by decide) (by decide) (fun c => absurd c (by decide)) (fun _ => ?_)
              refine lv_iload hx hb dL_isWell_160 (lv_at hl 3 rfl) ?_
              refine lv_if_lt (tgt := 169) hx hb dL_isWell_162 (by decide) (fun _ => ?_) (fun c => absurd (by decide) c)
              refine lv_iconst (v := nI 0) hx hb dL_isWell_169 (by decide) ?_
              refine lv_aload_n hx hb dL_isWell_170 rfl (lv_at hl 9 rfl) ?_
              refine lv_iload hx hb dL_isWell_171 (lv_at hl 5 rfl) ?_
              refine lv_iconst (v := nI 3) hx hb dL_isWell_173 (by decide) ?_
              refine kb_bIa (w := bW cI cC cS a) (As := [.int (nI k), .int (nI 3)]) (rest := [.int (nI 0)]) hx hb hml hts hown hN hK hP hD hS hA (b_king l D cI cC cS a hin (nI k) (nI 3)) gL_isWell_X4_king rfl ⟨rfl, rfl⟩ hdX4_king ⟨(Nat.le_of_ble_eq_true rfl), (Nat.le_of_ble_eq_true rfl)⟩ [0, 1, 2] rfl (ci := 4) rfl rfl rfl (fun _ => kb_blk _ _) rfl rfl hl.1 (Nat.le_of_ble_eq_true rfl) dL_isWell_174 ⟨(Nat.le_of_ble_eq_true rfl), (Nat.le_of_ble_eq_true rfl)⟩ (fun r u_174_3 H locs hw hP hD hS => ?_)
              obtain ⟨hr_174, hin⟩ := hw
              subst hr_174
              refine kb_top (nI 3) ((kA_k hk h24 (by decide)).trans (congrArg nI hd)) ?_
              refine lv_iconst (v := nI 1) hx hb dL_isWell_177 (by decide) ?_
              refine kb_icmp_ne (tgt := 185) hx hb dL_isWell_178 (by decide) (by decide) (by decide) (fun _ => ?_) (fun c => absurd c (by decide))
              refine lv_iconst (v := nI 0) hx hb dL_isWell_185 (by decide) ?_
              refine kb_icmp_ne (tgt := 291) hx hb dL_isWell_186 (by decide) (by decide) (by decide) (fun c => absurd c (by decide)) (fun _ => ?_)
              refine lv_iload hx hb dL_isWell_189 (lv_at hl 4 rfl) ?_
              refine lv_if_lt (tgt := 205) hx hb dL_isWell_191 (by decide) (fun _ => ?_) (fun c => absurd (by decide) c)
              refine lv_iload hx hb dL_isWell_205 (lv_at hl 3 rfl) ?_
              refine lv_if_lt (tgt := 221) hx hb dL_isWell_207 (by decide) (fun _ => ?_) (fun c => absurd (by decide) c)
              refine lv_aload_n hx hb dL_isWell_221 rfl (lv_at hl 9 rfl) ?_
              refine lv_iload hx hb dL_isWell_222 (lv_at hl 5 rfl) ?_
              refine lv_bipush (v := nI 7) hx hb dL_isWell_224 (by decide) ?_
              refine kb_bIa (w := bW cI cC cS a) (As := [.int (nI k), .int (nI 7)]) (rest := []) hx hb hml hts hown hN hK hP hD hS hA (b_king l D cI cC cS a hin (nI k) (nI 7)) gL_isWell_X4_king rfl ⟨rfl, rfl⟩ hdX4_king ⟨(Nat.le_of_ble_eq_true rfl), (Nat.le_of_ble_eq_true rfl)⟩ [0, 1, 2] rfl (ci := 4) rfl rfl rfl (fun _ => kb_blk _ _) rfl rfl hl.1 (Nat.le_of_ble_eq_true rfl) dL_isWell_226 ⟨(Nat.le_of_ble_eq_true rfl), (Nat.le_of_ble_eq_true rfl)⟩ (fun r u_226_3 H locs hw hP hD hS => ?_)
              obtain ⟨hr_226, hin⟩ := hw
              subst hr_226
              refine kb_top (gX (mo_g m) 2 k) (kA_k hk h24 (by decide)) ?_
              refine lv_aload_n hx hb dL_isWell_229 rfl (lv_at hl 9 rfl) ?_
              refine lv_iload hx hb dL_isWell_230 (lv_at hl 5 rfl) ?_
              refine lv_bipush (v := nI 6) hx hb dL_isWell_232 (by decide) ?_
              refine kb_bIa (w := bW cI cC cS a) (As := [.int (nI k), .int (nI 6)]) (rest := [.int (gX (mo_g m) 2 k)]) hx hb hml hts hown hN hK hP hD hS hA (b_king l D cI cC cS a hin (nI k) (nI 6)) gL_isWell_X4_king rfl ⟨rfl, rfl⟩ hdX4_king ⟨(Nat.le_of_ble_eq_true rfl), (Nat.le_of_ble_eq_true rfl)⟩ [0, 1, 2] rfl (ci := 4) rfl rfl rfl (fun _ => kb_blk _ _) rfl rfl hl.1 (Nat.le_of_ble_eq_true rfl) dL_isWell_234 ⟨(Nat.le_of_ble_eq_true rfl), (Nat.le_of_ble_eq_true rfl)⟩ (fun r u_234_3 H locs hw hP hD hS => ?_)
              obtain ⟨hr_234, hin⟩ := hw
              subst hr_234
              refine kb_top (gX (mo_g m) 1 k) (kA_k hk h24 (by decide)) ?_
              refine lv_icmp_gt (tgt := 291) hx hb dL_isWell_237 (by decide) (fun c237 => ?_) (fun c237 => ?_)
              · exfalso; exact Iv_ts hI hM hk c237
              · refine lv_aload_n hx hb dL_isWell_240 rfl (lv_at hl 9 rfl) ?_
                refine lv_iload hx hb dL_isWell_241 (lv_at hl 5 rfl) ?_
                refine lv_bipush (v := nI 8) hx hb dL_isWell_243 (by decide) ?_
                refine kb_bIa (w := bW cI cC cS a) (As := [.int (nI k), .int (nI 8)]) (rest := []) hx hb hml hts hown hN hK hP hD hS hA (b_king l D cI cC cS a hin (nI k) (nI 8)) gL_isWell_X4_king rfl ⟨rfl, rfl⟩ hdX4_king ⟨(Nat.le_of_ble_eq_true rfl), (Nat.le_of_ble_eq_true rfl)⟩ [0, 1, 2] rfl (ci := 4) rfl rfl rfl (fun _ => kb_blk _ _) rfl rfl hl.1 (Nat.le_of_ble_eq_true rfl) dL_isWell_245 ⟨(Nat.le_of_ble_eq_true rfl), (Nat.le_of_ble_eq_true rfl)⟩ (fun r u_245_3 H locs hw hP hD hS => ?_)
                obtain ⟨hr_245, hin⟩ := hw
                subst hr_245
                refine kb_top (gX (mo_g m) 3 k) (kA_k hk h24 (by decide)) ?_
                refine lv_if_eq (tgt := 262) hx hb dL_isWell_248 (by decide) (fun c248 => ?_) (fun c248 => ?_)
                · refine lv_aload_n hx hb dL_isWell_262 rfl (lv_at hl 9 rfl) ?_
                  refine lv_iload hx hb dL_isWell_263 (lv_at hl 5 rfl) ?_
                  refine lv_iconst (v := nI 3) hx hb dL_isWell_265 (by decide) ?_
                  refine kb_bIa (w := bW cI cC cS a) (As := [.int (nI k), .int (nI 3)]) (rest := []) hx hb hml hts hown hN hK hP hD hS hA (b_king l D cI cC cS a hin (nI k) (nI 3)) gL_isWell_X4_king rfl ⟨rfl, rfl⟩ hdX4_king ⟨(Nat.le_of_ble_eq_true rfl), (Nat.le_of_ble_eq_true rfl)⟩ [0, 1, 2] rfl (ci := 4) rfl rfl rfl (fun _ => kb_blk _ _) rfl rfl hl.1 (Nat.le_of_ble_eq_true rfl) dL_isWell_266 ⟨(Nat.le_of_ble_eq_true rfl), (Nat.le_of_ble_eq_true rfl)⟩ (fun r u_266_3 H locs hw hP hD hS => ?_)
                  obtain ⟨hr_266, hin⟩ := hw
                  subst hr_266
                  refine kb_top (nI 3) ((kA_k hk h24 (by decide)).trans (congrArg nI hd)) ?_
                  refine kb_nif_gt (tgt := 287) hx hb dL_isWell_269 (by decide) (by decide) (fun _ => ?_) (fun c => absurd c (by decide))
                  refine lv_iconst (v := nI 1) hx hb dL_isWell_287 (by decide) ?_
                  refine lv_goto (tgt := 292) hx hb dL_isWell_288 (by decide) ?_
                  refine lv_istore (lv' := [(6, .int (nI 1)), (4, .int (smI (gX (mo_g m) 3) k + (gX (mo_g m) 3 k))), (3, .int (smI (gX (mo_g m) 2) k + (gX (mo_g m) 2 k))), (2, .int (smI (gX (mo_g m) 1) k + (gX (mo_g m) 1 k))), (9, .int ((-5))), (8, .int ((-5))), (7, .int (nI k)), (5, .ref q_14), (1, .int (nI (nK (mo_g m)))), (0, .ref (a 0))]) hx hb dL_isWell_292 hl (by decide) rfl (fun ls hl => ?_)
                  refine lv_iinc (v := nI (k + 1)) (lv' := [(7, .int (nI (k + 1))), (6, .int (nI 1)), (4, .int (smI (gX (mo_g m) 3) k + (gX (mo_g m) 3 k))), (3, .int (smI (gX (mo_g m) 2) k + (gX (mo_g m) 2 k))), (2, .int (smI (gX (mo_g m) 1) k + (gX (mo_g m) 1 k))), (9, .int ((-5))), (8, .int ((-5))), (5, .ref q_14), (1, .int (nI (nK (mo_g m)))), (0, .ref (a 0))]) hx hb dL_isWell_294 hl (k := 6) rfl (kb_inc1 k) (by decide) rfl (fun ls hl => ?_)
                  refine lv_goto (tgt := 53) hx hb dL_isWell_297 (by decide) ?_
                  exact ih_53 u_266_3 (k + 1) hin (by omega) (by omega) _ _ hP hD hS _ (lv_sub hl [0, 1, 7, 2, 3, 4, 8, 9] rfl)
                · refine lv_aload_n hx hb dL_isWell_251 rfl (lv_at hl 9 rfl) ?_
                  refine lv_iload hx hb dL_isWell_252 (lv_at hl 5 rfl) ?_
                  refine lv_iconst (v := nI 3) hx hb dL_isWell_254 (by decide) ?_
                  refine kb_bIa (w := bW cI cC cS a) (As := [.int (nI k), .int (nI 3)]) (rest := []) hx hb hml hts hown hN hK hP hD hS hA (b_king l D cI cC cS a hin (nI k) (nI 3)) gL_isWell_X4_king rfl ⟨rfl, rfl⟩ hdX4_king ⟨(Nat.le_of_ble_eq_true rfl), (Nat.le_of_ble_eq_true rfl)⟩ [0, 1, 2] rfl (ci := 4) rfl rfl rfl (fun _ => kb_blk _ _) rfl rfl hl.1 (Nat.le_of_ble_eq_true rfl) dL_isWell_255 ⟨(Nat.le_of_ble_eq_true rfl), (Nat.le_of_ble_eq_true rfl)⟩ (fun r u_255 H locs hw hP hD hS => ?_)
                  obtain ⟨hr_255, hin⟩ := hw
                  subst hr_255
                  refine kb_top (nI 3) ((kA_k hk h24 (by decide)).trans (congrArg nI hd)) ?_
                  refine lv_iconst (v := nI 3) hx hb dL_isWell_258 (by decide) ?_
                  refine kb_icmp_ne (tgt := 291) hx hb dL_isWell_259 (by decide) (by decide) (by decide) (fun c => absurd c (by decide)) (fun _ => ?_)
                  refine lv_aload_n hx hb dL_isWell_262 rfl (lv_at hl 9 rfl) ?_
                  refine lv_iload hx hb dL_isWell_263 (lv_at hl 5 rfl) ?_
                  refine lv_iconst (v := nI 3) hx hb dL_isWell_265 (by decide) ?_
                  refine kb_bIa (w := bW cI cC cS a) (As := [.int (nI k), .int (nI 3)]) (rest := []) hx hb hml hts hown hN hK hP hD hS hA (b_king l D cI cC cS a hin (nI k) (nI 3)) gL_isWell_X4_king rfl ⟨rfl, rfl⟩ hdX4_king ⟨(Nat.le_of_ble_eq_true rfl), (Nat.le_of_ble_eq_true rfl)⟩ [0, 1, 2] rfl (ci := 4) rfl rfl rfl (fun _ => kb_blk _ _) rfl rfl hl.1 (Nat.le_of_ble_eq_true rfl) dL_isWell_266 ⟨(Nat.le_of_ble_eq_true rfl), (Nat.le_of_ble_eq_true rfl)⟩ (fun r u_266_4 H locs hw hP hD hS => ?_)
                  obtain ⟨hr_266, hin⟩ := hw
                  subst hr_266
                  refine kb_top (nI 3) ((kA_k hk h24 (by decide)).trans (congrArg nI hd)) ?_
                  refine kb_nif_gt (tgt := 287) hx hb dL_isWell_269 (by decide) (by decide) (fun _ => ?_) (fun c => absurd c (by decide))
                  refine lv_iconst (v := nI 1) hx hb dL_isWell_287 (by decide) ?_
                  refine lv_goto (tgt := 292) hx hb dL_isWell_288 (by decide) ?_
                  refine lv_istore (lv' := [(6, .int (nI 1)), (4, .int (smI (gX (mo_g m) 3) k + (gX (mo_g m) 3 k))), (3, .int (smI (gX (mo_g m) 2) k + (gX (mo_g m) 2 k))), (2, .int (smI (gX (mo_g m) 1) k + (gX (mo_g m) 1 k))), (9, .int ((-5))), (8, .int ((-5))), (7, .int (nI k)), (5, .ref q_14), (1, .int (nI (nK (mo_g m)))), (0, .ref (a 0))]) hx hb dL_isWell_292 hl (by decide) rfl (fun ls hl => ?_)
                  refine lv_iinc (v := nI (k + 1)) (lv' := [(7, .int (nI (k + 1))), (6, .int (nI 1)), (4, .int (smI (gX (mo_g m) 3) k + (gX (mo_g m) 3 k))), (3, .int (smI (gX (mo_g m) 2) k + (gX (mo_g m) 2 k))), (2, .int (smI (gX (mo_g m) 1) k + (gX (mo_g m) 1 k))), (9, .int ((-5))), (8, .int ((-5))), (5, .ref q_14), (1, .int (nI (nK (mo_g m)))), (0, .ref (a 0))]) hx hb dL_isWell_294 hl (k := 6) rfl (kb_inc1 k) (by decide) rfl (fun ls hl => ?_)
                  refine lv_goto (tgt := 53) hx hb dL_isWell_297 (by decide) ?_
                  exact ih_53 u_266_4 (k + 1) hin (by omega) (by omega) _ _ hP hD hS _ (lv_sub hl [0, 1, 7, 2, 3, 4, 8, 9] rfl)
      exact L_53 ((nK (mo_g m) - 0) + 1) u_37 0 hin (by omega) (Nat.lt_succ_self _) _ _ hP hD hS _ (lv_sub hl [0, 1, 2, 3, 4, 5, 6, 7] rfl)
