abbrev rmL_isStep : Room := { frames := 7, cells := 0, slots := 0, locals := 169 }
theorem hdL_isStep : yL_isStep.cls = RL ∧ yL_isStep.cls ≠ "java/lang/invoke/MethodHandle" ∧ yL_isStep.cls ≠ "java/lang/invoke/VarHandle" ∧ (parseMethodDescriptor yL_isStep.desc).map (fun d => d.parameters.length) = some 4 := by decide +kernel
theorem inwL_isStep_X4 : ∀ w ∈ wsX40, w ∈ wsL_isStep := fun w h => List.mem_cons_of_mem _ (List.mem_append_left _ (List.mem_append_left _ (List.mem_append_left _ (List.mem_append_left _ (List.mem_append_right _ h)))))
theorem inwL_isStep_X1 : ∀ w ∈ wsX10, w ∈ wsL_isStep := fun w h => List.mem_cons_of_mem _ (List.mem_append_left _ (List.mem_append_left _ (List.mem_append_left _ (List.mem_append_right _ h))))
theorem inwL_isStep_X0 : ∀ w ∈ wsX00, w ∈ wsL_isStep := fun w h => List.mem_cons_of_mem _ (List.mem_append_left _ (List.mem_append_left _ (List.mem_append_right _ h)))
theorem inwL_isStep_X3 : ∀ w ∈ wsX30, w ∈ wsL_isStep := fun w h => List.mem_cons_of_mem _ (List.mem_append_left _ (List.mem_append_right _ h))
theorem inwL_isStep_X2 : ∀ w ∈ wsX20, w ∈ wsL_isStep := fun w h => List.mem_cons_of_mem _ (List.mem_append_right _ h)
theorem moT_n {m : Mo} {x : Nat} (h : mo_n m < 60) : mo_n (moT m x) = mo_n m + 1 := if_pos h
set_option maxHeartbeats 40000000 in
set_option maxRecDepth 100000 in
theorem c_L_isStep (l : Launch) (D : va_G) (cI cC cS : ClassId) (a b : Nat → Nat) {M : Nat} (hM : M ≤ 9000) {u v : KBS} {m m2 : Mo} (hin : bI u m) (hip : bI v m2) (hR : PR M m m2) (x y : Int32) : kb_I (S := KBS × KBS) D [(cI, .int), (cC, .char), (cS, .object RX3)] l yL_isStep wsL_isStep rmL_isStep [.ref (a 0), .ref (b 0), .int x, .int y] (bW cI cC cS a u ++ bW cI cC cS b v) (fun (r : Int32) (z : KBS × KBS) => r = nI 1 ∧ ∃ m3 m4, bI z.1 m3 ∧ bI z.2 m4 ∧ PR (M + 99) m3 m4) (fun z : KBS × KBS => bW cI cC cS a z.1 ++ bW cI cC cS b z.2) 0 0 := by
  refine kb_I_of (cc := cL_isStep) (maxL := 12) (ret := (some .boolean)) (by decide) rfl (Nat.le_of_ble_eq_true rfl) ?_
  intro p e s mm args below meth c A hx hb hml hr hts hown hlocks hnm hA hN hK hP hD hS ls hl Q hQ
  have hl : lv_has ls 12 [(0, .ref (a 0)), (1, .ref (b 0)), (2, .int (x)), (3, .int (y))] := hl
  have hI := hR.1.1
  have ho : Ok (mo_g m) := hI.1
  have hy : yg (mo_g m) := hI.2.1
  obtain ⟨mn, hmM, hEx⟩ := id hI.2.2
  have hmn : gc (mo_g m) 4 = nI mn := hEx.1
  have hg2 : mo_g m2 = dbl (mo_g m) := hR.2.1
  have h24 := ho.n.1
  have h12 := ho.n.2.1
  have hwp := wp_le ho
  have hn4 := hR.1.2.2.1
  obtain ⟨e0, he0, -, he12, hte0⟩ := ho.c0
  obtain ⟨e1, he1, he160⟩ := ho.c1
  refine lv_iload_n hx hb dL_isStep_0 rfl (lv_at hl 2 rfl) ?_
  refine lv_iconst (v := nI 4) hx hb dL_isStep_1 (by decide) ?_
  refine lv_ishr hx hb dL_isStep_2 ?_
  refine lv_istore (lv' := [(4, .int (x >>> (nI 4 &&& 31))), (0, .ref (a 0)), (1, .ref (b 0)), (2, .int (x)), (3, .int (y))]) hx hb dL_isStep_3 hl (by decide) rfl (fun ls hl => ?_)
  refine lv_aload_n hx hb dL_isStep_5 rfl (lv_at hl 1 rfl) ?_
  refine lv_iconst (v := nI 1) hx hb dL_isStep_6 (by decide) ?_
  refine kb_bIa (w := bW cI cC cS a) (As := [.int (nI 1)]) (rest := []) hx hb hml hts hown hN hK hP hD hS hA (b_count l D cI cC cS a hin (nI 1)) gL_isStep_X4_count rfl ⟨rfl, rfl⟩ hdX4_count ⟨(Nat.le_of_ble_eq_true rfl), (Nat.le_of_ble_eq_true rfl)⟩ [0, 1, 2] rfl (ci := 4) rfl rfl rfl (fun _ => kb_blk _ _) rfl rfl hl.1 (Nat.le_of_ble_eq_true rfl) dL_isStep_7 ⟨(Nat.le_of_ble_eq_true rfl), (Nat.le_of_ble_eq_true rfl)⟩ (fun r u_7 H locs hw hP hD hS => ?_)
  obtain ⟨hr_7, hin⟩ := hw
  subst hr_7
  refine kb_top (nI (nK (mo_g m))) (coA_k (by decide)) ?_
  refine lv_istore (lv' := [(5, .int (nI (nK (mo_g m)))), (4, .int (x >>> (nI 4 &&& 31))), (0, .ref (a 0)), (1, .ref (b 0)), (2, .int (x)), (3, .int (y))]) hx hb dL_isStep_10 hl (by decide) rfl (fun ls hl => ?_)
  refine lv_iload_n hx hb dL_isStep_12 rfl (lv_at hl 4 rfl) ?_
  refine lv_bipush (v := nI 16) hx hb dL_isStep_13 (by decide) ?_
  refine kb_sR (As := [.int (x), .int (nI 16)]) (rest := []) hx hb hml hts hown hN hK hP hD hS hA (c_L_up l D x 16 (by first | assumption | omega) (by first | assumption | omega)) gL_isStep_L_up rfl ⟨rfl, rfl⟩ hdL_up.2 ⟨Nat.le_of_ble_eq_true rfl, Nat.le_of_ble_eq_true rfl⟩ [] [] rfl rfl rfl rfl rfl hl.1 (Nat.le_of_ble_eq_true rfl) dL_isStep_15 ⟨Nat.zero_le _, Nat.zero_le _⟩ (fun H locs hP hS => ?_)
  obtain ⟨j_15, hj_15, ej_15⟩ : ∃ j, j < 16 ∧ nI (upN x 16) = nI j := ⟨_, upN_lt (by omega), rfl⟩
  refine kb_top (nI j_15) ej_15 ?_
  have k_76 : W p l e rmL_isStep s mm args below meth c H locs 0 0 Q (F0 mm 76 ls []) := by
    refine lv_iload hx hb dL_isStep_76 (lv_at hl 1 rfl) ?_
    refine lv_iconst (v := nI 4) hx hb dL_isStep_78 (by decide) ?_
    refine kb_sR (As := [.int (x >>> (nI 4 &&& 31)), .int (nI 4)]) (rest := []) hx hb hml hts hown hN hK hP hD hS hA (c_L_up l D (x >>> (nI 4 &&& 31)) 4 (by first | assumption | omega) (by first | assumption | omega)) gL_isStep_L_up rfl ⟨rfl, rfl⟩ hdL_up.2 ⟨Nat.le_of_ble_eq_true rfl, Nat.le_of_ble_eq_true rfl⟩ [] [] rfl rfl rfl rfl rfl hl.1 (Nat.le_of_ble_eq_true rfl) dL_isStep_79 ⟨Nat.zero_le _, Nat.zero_le _⟩ (fun H locs hP hS => ?_)
    obtain ⟨j_79, hj_79, ej_79⟩ : ∃ j, j < 4 ∧ nI (upN (x >>> (nI 4 &&& 31)) 4) = nI j := ⟨_, upN_lt (by omega), rfl⟩
    refine kb_top (nI j_79) ej_79 ?_
    refine lv_istore (lv' := [(6, .int (nI j_79)), (5, .int (nI (nK (mo_g m)))), (4, .int (x >>> (nI 4 &&& 31))), (0, .ref (a 0)), (1, .ref (b 0)), (2, .int (x)), (3, .int (y))]) hx hb dL_isStep_82 hl (by decide) rfl (fun ls hl => ?_)
    rcases (by omega : j_79 = 0 ∨ j_79 = 1 ∨ j_79 = 2 ∨ j_79 = 3) with rfl | rfl | rfl | rfl
    · refine lv_iload hx hb dL_isStep_84 (lv_at hl 0 rfl) ?_
      refine kb_nif_ne (tgt := 100) hx hb dL_isStep_86 (by decide) (by decide) (fun c => absurd c (by decide)) (fun _ => ?_)
      refine lv_iconst (v := nI 1) hx hb dL_isStep_89 (by decide) ?_
      refine lv_iload_n hx hb dL_isStep_90 rfl (lv_at hl 6 rfl) ?_
      refine lv_bipush (v := nI 12) hx hb dL_isStep_91 (by decide) ?_
      refine kb_sR (As := [.int (y), .int (nI 12)]) (rest := [.int (nI 1)]) hx hb hml hts hown hN hK hP hD hS hA (c_L_up l D y 12 (by first | assumption | omega) (by first | assumption | omega)) gL_isStep_L_up rfl ⟨rfl, rfl⟩ hdL_up.2 ⟨Nat.le_of_ble_eq_true rfl, Nat.le_of_ble_eq_true rfl⟩ [] [] rfl rfl rfl rfl rfl hl.1 (Nat.le_of_ble_eq_true rfl) dL_isStep_93 ⟨Nat.zero_le _, Nat.zero_le _⟩ (fun H locs hP hS => ?_)
      obtain ⟨j_93, hj_93, ej_93⟩ : ∃ j, j < 12 ∧ nI (upN y 12) = nI j := ⟨_, upN_lt (by omega), rfl⟩
      refine kb_top (nI j_93) ej_93 ?_
      refine lv_iadd hx hb dL_isStep_96 ?_
      refine kb_top (nI (1 + j_93)) (nI_add 1 j_93) ?_
      refine lv_goto (tgt := 179) hx hb dL_isStep_97 (by decide) ?_
      refine lv_istore (lv' := [(7, .int (nI (1 + j_93))), (6, .int (nI 0)), (5, .int (nI (nK (mo_g m)))), (4, .int (x >>> (nI 4 &&& 31))), (0, .ref (a 0)), (1, .ref (b 0)), (2, .int (x)), (3, .int (y))]) hx hb dL_isStep_179 hl (by decide) rfl (fun ls hl => ?_)
      have hvb : 1 ≤ 1 + j_93 ∧ 1 + j_93 ≤ 12 := by omega
      have hri : isR 0 (nI (1 + j_93)) = true := by show isIn _ 1 12 = true; exact isIn_i (nI_nlt (by omega) (by omega)) (nI_nlt (by omega) (by omega))
      by_cases hAq : 1 + j_93 < nT (mo_g m)
      · have hop : opS (mo_g m) (nI 0) (nI (1 + j_93)) = (-4, (mo_g m)) := opS_3 (by decide) hri rfl (nI_lt hAq (by omega))
        refine lv_aload_n hx hb dL_isStep_181 rfl (lv_at hl 4 rfl) ?_
        refine lv_bipush (v := nI 11) hx hb dL_isStep_182 (by decide) ?_
        refine lv_iload hx hb dL_isStep_184 (lv_at hl 1 rfl) ?_
        refine lv_iadd hx hb dL_isStep_186 ?_
        refine kb_top (nI 11) (nI_add 11 0) ?_
        refine kb_bIa (w := bW cI cC cS a) (As := [.int (nI 11)]) (rest := []) hx hb hml hts hown hN hK hP hD hS hA (b_count l D cI cC cS a hin (nI 11)) gL_isStep_X4_count rfl ⟨rfl, rfl⟩ hdX4_count ⟨(Nat.le_of_ble_eq_true rfl), (Nat.le_of_ble_eq_true rfl)⟩ [0, 1, 2] rfl (ci := 4) rfl rfl rfl (fun _ => kb_blk _ _) rfl rfl hl.1 (Nat.le_of_ble_eq_true rfl) dL_isStep_187 ⟨(Nat.le_of_ble_eq_true rfl), (Nat.le_of_ble_eq_true rfl)⟩ (fun r u_187 H locs hw hP hD hS => ?_)
        obtain ⟨hr_187, hin⟩ := hw
        subst hr_187
        refine kb_top (gc (mo_g m) 0) (coA_k (w := 11) (by decide)) ?_
        refine lv_istore (lv' := [(8, .int (gc (mo_g m) 0)), (7, .int (nI (1 + j_93))), (6, .int (nI 0)), (5, .int (nI (nK (mo_g m)))), (4, .int (x >>> (nI 4 &&& 31))), (0, .ref (a 0)), (1, .ref (b 0)), (2, .int (x)), (3, .int (y))]) hx hb dL_isStep_190 hl (by decide) rfl (fun ls hl => ?_)
        refine lv_aload_n hx hb dL_isStep_192 rfl (lv_at hl 5 rfl) ?_
        refine lv_iload hx hb dL_isStep_193 (lv_at hl 2 rfl) ?_
        refine lv_iload hx hb dL_isStep_195 (lv_at hl 1 rfl) ?_
        refine kb_bIa (w := bW cI cC cS a) (As := [.int (nI 0), .int (nI (1 + j_93))]) (rest := []) hx hb hml hts hown hN hK hP hD hS hA (b_set l D cI cC cS a hin (nI 0) (nI (1 + j_93))) gL_isStep_X4_set rfl ⟨rfl, rfl⟩ hdX4_set ⟨(Nat.le_of_ble_eq_true rfl), (Nat.le_of_ble_eq_true rfl)⟩ [0, 1, 2] rfl (ci := 4) rfl rfl rfl (fun _ => kb_blk _ _) rfl rfl hl.1 (Nat.le_of_ble_eq_true rfl) dL_isStep_197 ⟨(Nat.le_of_ble_eq_true rfl), (Nat.le_of_ble_eq_true rfl)⟩ (fun r u_197 H locs hw hP hD hS => ?_)
        obtain ⟨hr_197, hin⟩ := hw
        subst hr_197
        refine kb_top ((-4)) (congrArg Prod.fst hop) ?_
        refine lv_istore (lv' := [(9, .int ((-4))), (8, .int (gc (mo_g m) 0)), (7, .int (nI (1 + j_93))), (6, .int (nI 0)), (5, .int (nI (nK (mo_g m)))), (4, .int (x >>> (nI 4 &&& 31))), (0, .ref (a 0)), (1, .ref (b 0)), (2, .int (x)), (3, .int (y))]) hx hb dL_isStep_200 hl (by decide) rfl (fun ls hl => ?_)
        refine lv_iload hx hb dL_isStep_202 (lv_at hl 0 rfl) ?_
        refine lv_aload_n hx hb dL_isStep_204 rfl (lv_at hl 7 rfl) ?_
        refine lv_iload hx hb dL_isStep_205 (lv_at hl 3 rfl) ?_
        refine lv_iload hx hb dL_isStep_207 (lv_at hl 2 rfl) ?_
        refine kb_bIb (w := bW cI cC cS b) (As := [.int (nI 0), .int (nI (1 + j_93))]) (rest := [.int ((-4))]) hx hb hml hts hown hN hK hP hD hS hA (b_set l D cI cC cS b hip (nI 0) (nI (1 + j_93))) gL_isStep_X4_set rfl ⟨rfl, rfl⟩ hdX4_set ⟨(Nat.le_of_ble_eq_true rfl), (Nat.le_of_ble_eq_true rfl)⟩ [0, 1, 2] rfl (ci := 4) rfl rfl rfl (fun _ => kb_blk _ _) rfl rfl hl.1 (Nat.le_of_ble_eq_true rfl) dL_isStep_209 ⟨(Nat.le_of_ble_eq_true rfl), (Nat.le_of_ble_eq_true rfl)⟩ (fun r u_209 H locs hw hP hD hS => ?_)
        obtain ⟨hr_209, hip⟩ := hw
        subst hr_209
        refine kb_top ((-4)) (by rw [hg2, opS_d]; exact congrArg Prod.fst hop) ?_
        refine lv_icmp_ne (tgt := 258) hx hb dL_isStep_212 (by decide) (fun c212 => ?_) (fun c212 => ?_)
        · exfalso; exact c212 rfl
        · refine lv_iload hx hb dL_isStep_215 (lv_at hl 0 rfl) ?_
          refine lv_iload hx hb dL_isStep_217 (lv_at hl 3 rfl) ?_
          refine kb_nif_ne (tgt := 237) hx hb dL_isStep_219 (by decide) (by decide) (fun c => absurd c (by decide)) (fun _ => ?_)
          refine lv_aload_n hx hb dL_isStep_222 rfl (lv_at hl 6 rfl) ?_
          refine lv_iconst (v := nI 4) hx hb dL_isStep_223 (by decide) ?_
          refine kb_bIa (w := bW cI cC cS a) (As := [.int (nI 4)]) (rest := [.int ((-4))]) hx hb hml hts hown hN hK hP hD hS hA (b_count l D cI cC cS a hin (nI 4)) gL_isStep_X4_count rfl ⟨rfl, rfl⟩ hdX4_count ⟨(Nat.le_of_ble_eq_true rfl), (Nat.le_of_ble_eq_true rfl)⟩ [0, 1, 2] rfl (ci := 4) rfl rfl rfl (fun _ => kb_blk _ _) rfl rfl hl.1 (Nat.le_of_ble_eq_true rfl) dL_isStep_224 ⟨(Nat.le_of_ble_eq_true rfl), (Nat.le_of_ble_eq_true rfl)⟩ (fun r u_224 H locs hw hP hD hS => ?_)
          obtain ⟨hr_224, hin⟩ := hw
          subst hr_224
          refine kb_top (nI (nT (mo_g m))) (by rw [moA_gn hop (by decide)]; exact (coA_k (by decide)).trans (congrArg nI (kdN_2 ho))) ?_
          refine lv_iload hx hb dL_isStep_227 (lv_at hl 2 rfl) ?_
          refine kb_icmp_le (tgt := 237) hx hb dL_isStep_229 (by decide) (by omega) (by omega) (fun c229 => ?_) (fun c229 => ?_)
          · exfalso; omega
          · refine lv_bipush (v := (-4)) hx hb dL_isStep_232 (by decide) ?_
            refine lv_goto (tgt := 251) hx hb dL_isStep_234 (by decide) ?_
            refine lv_icmp_ne (tgt := 258) hx hb dL_isStep_251 (by decide) (fun c251 => ?_) (fun c251 => ?_)
            · exfalso; exact c251 rfl
            · refine lv_iconst (v := nI 1) hx hb dL_isStep_254 (by decide) ?_
              refine lv_goto (tgt := 259) hx hb dL_isStep_255 (by decide) ?_
              have hPR : PR (M + 99) (moA m (opS (mo_g m) (nI 0) (nI (1 + j_93))).1 (opS (mo_g m) (nI 0) (nI (1 + j_93))).2) (moA m2 (opS (mo_g m2) (nI 0) (nI (1 + j_93))).1 (opS (mo_g m2) (nI 0) (nI (1 + j_93))).2) := (PR_opS hR _ _).mono (by omega)
              exact kb_zret (D := D) (w := fun z : KBS × KBS => bW cI cC cS a z.1 ++ bW cI cC cS b z.2) hQ hx hb hr hlocks hK hP hD hS dL_isStep_259 rfl (u_224, u_209) rfl (Nat.le_refl _) (Nat.le_refl _) ⟨rfl, _, _, hin, hip, hPR⟩
      · have hnn : ¬ ((0 : Nat) = 0 ∧ nI (1 + j_93) < nI (nT (mo_g m))) := fun z => nI_nlt (by omega) (by omega) z.2
        by_cases hBq : gc (mo_g m) 0 = nI (1 + j_93)
        · have hop : opS (mo_g m) (nI 0) (nI (1 + j_93)) = (-5, (mo_g m)) := opS_4 (by decide) hri hnn hBq
          refine lv_aload_n hx hb dL_isStep_181 rfl (lv_at hl 4 rfl) ?_
          refine lv_bipush (v := nI 11) hx hb dL_isStep_182 (by decide) ?_
          refine lv_iload hx hb dL_isStep_184 (lv_at hl 1 rfl) ?_
          refine lv_iadd hx hb dL_isStep_186 ?_
          refine kb_top (nI 11) (nI_add 11 0) ?_
          refine kb_bIa (w := bW cI cC cS a) (As := [.int (nI 11)]) (rest := []) hx hb hml hts hown hN hK hP hD hS hA (b_count l D cI cC cS a hin (nI 11)) gL_isStep_X4_count rfl ⟨rfl, rfl⟩ hdX4_count ⟨(Nat.le_of_ble_eq_true rfl), (Nat.le_of_ble_eq_true rfl)⟩ [0, 1, 2] rfl (ci := 4) rfl rfl rfl (fun _ => kb_blk _ _) rfl rfl hl.1 (Nat.le_of_ble_eq_true rfl) dL_isStep_187 ⟨(Nat.le_of_ble_eq_true rfl), (Nat.le_of_ble_eq_true rfl)⟩ (fun r u_187_1 H locs hw hP hD hS => ?_)
          obtain ⟨hr_187, hin⟩ := hw
          subst hr_187
          refine kb_top (gc (mo_g m) 0) (coA_k (w := 11) (by decide)) ?_
          refine lv_istore (lv' := [(8, .int (gc (mo_g m) 0)), (7, .int (nI (1 + j_93))), (6, .int (nI 0)), (5, .int (nI (nK (mo_g m)))), (4, .int (x >>> (nI 4 &&& 31))), (0, .ref (a 0)), (1, .ref (b 0)), (2, .int (x)), (3, .int (y))]) hx hb dL_isStep_190 hl (by decide) rfl (fun ls hl => ?_)
          refine lv_aload_n hx hb dL_isStep_192 rfl (lv_at hl 5 rfl) ?_
          refine lv_iload hx hb dL_isStep_193 (lv_at hl 2 rfl) ?_
          refine lv_iload hx hb dL_isStep_195 (lv_at hl 1 rfl) ?_
          refine kb_bIa (w := bW cI cC cS a) (As := [.int (nI 0), .int (nI (1 + j_93))]) (rest := []) hx hb hml hts hown hN hK hP hD hS hA (b_set l D cI cC cS a hin (nI 0) (nI (1 + j_93))) gL_isStep_X4_set rfl ⟨rfl, rfl⟩ hdX4_set ⟨(Nat.le_of_ble_eq_true rfl), (Nat.le_of_ble_eq_true rfl)⟩ [0, 1, 2] rfl (ci := 4) rfl rfl rfl (fun _ => kb_blk _ _) rfl rfl hl.1 (Nat.le_of_ble_eq_true rfl) dL_isStep_197 ⟨(Nat.le_of_ble_eq_true rfl), (Nat.le_of_ble_eq_true rfl)⟩ (fun r u_197_1 H locs hw hP hD hS => ?_)
          obtain ⟨hr_197, hin⟩ := hw
          subst hr_197
          refine kb_top ((-5)) (congrArg Prod.fst hop) ?_
          refine lv_istore (lv' := [(9, .int ((-5))), (8, .int (gc (mo_g m) 0)), (7, .int (nI (1 + j_93))), (6, .int (nI 0)), (5, .int (nI (nK (mo_g m)))), (4, .int (x >>> (nI 4 &&& 31))), (0, .ref (a 0)), (1, .ref (b 0)), (2, .int (x)), (3, .int (y))]) hx hb dL_isStep_200 hl (by decide) rfl (fun ls hl => ?_)
          refine lv_iload hx hb dL_isStep_202 (lv_at hl 0 rfl) ?_
          refine lv_aload_n hx hb dL_isStep_204 rfl (lv_at hl 7 rfl) ?_
          refine lv_iload hx hb dL_isStep_205 (lv_at hl 3 rfl) ?_
          refine lv_iload hx hb dL_isStep_207 (lv_at hl 2 rfl) ?_
          refine kb_bIb (w := bW cI cC cS b) (As := [.int (nI 0), .int (nI (1 + j_93))]) (rest := [.int ((-5))]) hx hb hml hts hown hN hK hP hD hS hA (b_set l D cI cC cS b hip (nI 0) (nI (1 + j_93))) gL_isStep_X4_set rfl ⟨rfl, rfl⟩ hdX4_set ⟨(Nat.le_of_ble_eq_true rfl), (Nat.le_of_ble_eq_true rfl)⟩ [0, 1, 2] rfl (ci := 4) rfl rfl rfl (fun _ => kb_blk _ _) rfl rfl hl.1 (Nat.le_of_ble_eq_true rfl) dL_isStep_209 ⟨(Nat.le_of_ble_eq_true rfl), (Nat.le_of_ble_eq_true rfl)⟩ (fun r u_209_1 H locs hw hP hD hS => ?_)
          obtain ⟨hr_209, hip⟩ := hw
          subst hr_209
          refine kb_top ((-5)) (by rw [hg2, opS_d]; exact congrArg Prod.fst hop) ?_
          refine lv_icmp_ne (tgt := 258) hx hb dL_isStep_212 (by decide) (fun c212 => ?_) (fun c212 => ?_)
          · exfalso; exact c212 rfl
          · refine lv_iload hx hb dL_isStep_215 (lv_at hl 0 rfl) ?_
            refine lv_iload hx hb dL_isStep_217 (lv_at hl 3 rfl) ?_
            refine kb_nif_ne (tgt := 237) hx hb dL_isStep_219 (by decide) (by decide) (fun c => absurd c (by decide)) (fun _ => ?_)
            refine lv_aload_n hx hb dL_isStep_222 rfl (lv_at hl 6 rfl) ?_
            refine lv_iconst (v := nI 4) hx hb dL_isStep_223 (by decide) ?_
            refine kb_bIa (w := bW cI cC cS a) (As := [.int (nI 4)]) (rest := [.int ((-5))]) hx hb hml hts hown hN hK hP hD hS hA (b_count l D cI cC cS a hin (nI 4)) gL_isStep_X4_count rfl ⟨rfl, rfl⟩ hdX4_count ⟨(Nat.le_of_ble_eq_true rfl), (Nat.le_of_ble_eq_true rfl)⟩ [0, 1, 2] rfl (ci := 4) rfl rfl rfl (fun _ => kb_blk _ _) rfl rfl hl.1 (Nat.le_of_ble_eq_true rfl) dL_isStep_224 ⟨(Nat.le_of_ble_eq_true rfl), (Nat.le_of_ble_eq_true rfl)⟩ (fun r u_224_1 H locs hw hP hD hS => ?_)
            obtain ⟨hr_224, hin⟩ := hw
            subst hr_224
            refine kb_top (nI (nT (mo_g m))) (by rw [moA_gn hop (by decide)]; exact (coA_k (by decide)).trans (congrArg nI (kdN_2 ho))) ?_
            refine lv_iload hx hb dL_isStep_227 (lv_at hl 2 rfl) ?_
            refine kb_icmp_le (tgt := 237) hx hb dL_isStep_229 (by decide) (by omega) (by omega) (fun c229 => ?_) (fun c229 => ?_)
            · refine lv_iload hx hb dL_isStep_237 (lv_at hl 1 rfl) ?_
              refine lv_iload hx hb dL_isStep_239 (lv_at hl 2 rfl) ?_
              refine lv_icmp_ne (tgt := 249) hx hb dL_isStep_241 (by decide) (fun c241 => ?_) (fun c241 => ?_)
              · exfalso; exact c241 hBq
              · refine lv_bipush (v := (-5)) hx hb dL_isStep_244 (by decide) ?_
                refine lv_goto (tgt := 251) hx hb dL_isStep_246 (by decide) ?_
                refine lv_icmp_ne (tgt := 258) hx hb dL_isStep_251 (by decide) (fun c251 => ?_) (fun c251 => ?_)
                · exfalso; exact c251 rfl
                · refine lv_iconst (v := nI 1) hx hb dL_isStep_254 (by decide) ?_
                  refine lv_goto (tgt := 259) hx hb dL_isStep_255 (by decide) ?_
                  have hPR : PR (M + 99) (moA m (opS (mo_g m) (nI 0) (nI (1 + j_93))).1 (opS (mo_g m) (nI 0) (nI (1 + j_93))).2) (moA m2 (opS (mo_g m2) (nI 0) (nI (1 + j_93))).1 (opS (mo_g m2) (nI 0) (nI (1 + j_93))).2) := (PR_opS hR _ _).mono (by omega)
                  exact kb_zret (D := D) (w := fun z : KBS × KBS => bW cI cC cS a z.1 ++ bW cI cC cS b z.2) hQ hx hb hr hlocks hK hP hD hS dL_isStep_259 rfl (u_224_1, u_209_1) rfl (Nat.le_refl _) (Nat.le_refl _) ⟨rfl, _, _, hin, hip, hPR⟩
            · exfalso; omega
        · have hop : opS (mo_g m) (nI 0) (nI (1 + j_93)) = (gc (mo_g m) 0, oSet (mo_g m) 0 (nI (1 + j_93))) := opS_5 (by decide) hri hnn hBq
          refine lv_aload_n hx hb dL_isStep_181 rfl (lv_at hl 4 rfl) ?_
          refine lv_bipush (v := nI 11) hx hb dL_isStep_182 (by decide) ?_
          refine lv_iload hx hb dL_isStep_184 (lv_at hl 1 rfl) ?_
          refine lv_iadd hx hb dL_isStep_186 ?_
          refine kb_top (nI 11) (nI_add 11 0) ?_
          refine kb_bIa (w := bW cI cC cS a) (As := [.int (nI 11)]) (rest := []) hx hb hml hts hown hN hK hP hD hS hA (b_count l D cI cC cS a hin (nI 11)) gL_isStep_X4_count rfl ⟨rfl, rfl⟩ hdX4_count ⟨(Nat.le_of_ble_eq_true rfl), (Nat.le_of_ble_eq_true rfl)⟩ [0, 1, 2] rfl (ci := 4) rfl rfl rfl (fun _ => kb_blk _ _) rfl rfl hl.1 (Nat.le_of_ble_eq_true rfl) dL_isStep_187 ⟨(Nat.le_of_ble_eq_true rfl), (Nat.le_of_ble_eq_true rfl)⟩ (fun r u_187_2 H locs hw hP hD hS => ?_)
          obtain ⟨hr_187, hin⟩ := hw
          subst hr_187
          refine kb_top (gc (mo_g m) 0) (coA_k (w := 11) (by decide)) ?_
          refine lv_istore (lv' := [(8, .int (gc (mo_g m) 0)), (7, .int (nI (1 + j_93))), (6, .int (nI 0)), (5, .int (nI (nK (mo_g m)))), (4, .int (x >>> (nI 4 &&& 31))), (0, .ref (a 0)), (1, .ref (b 0)), (2, .int (x)), (3, .int (y))]) hx hb dL_isStep_190 hl (by decide) rfl (fun ls hl => ?_)
          refine lv_aload_n hx hb dL_isStep_192 rfl (lv_at hl 5 rfl) ?_
          refine lv_iload hx hb dL_isStep_193 (lv_at hl 2 rfl) ?_
          refine lv_iload hx hb dL_isStep_195 (lv_at hl 1 rfl) ?_
          refine kb_bIa (w := bW cI cC cS a) (As := [.int (nI 0), .int (nI (1 + j_93))]) (rest := []) hx hb hml hts hown hN hK hP hD hS hA (b_set l D cI cC cS a hin (nI 0) (nI (1 + j_93))) gL_isStep_X4_set rfl ⟨rfl, rfl⟩ hdX4_set ⟨(Nat.le_of_ble_eq_true rfl), (Nat.le_of_ble_eq_true rfl)⟩ [0, 1, 2] rfl (ci := 4) rfl rfl rfl (fun _ => kb_blk _ _) rfl rfl hl.1 (Nat.le_of_ble_eq_true rfl) dL_isStep_197 ⟨(Nat.le_of_ble_eq_true rfl), (Nat.le_of_ble_eq_true rfl)⟩ (fun r u_197_2 H locs hw hP hD hS => ?_)
          obtain ⟨hr_197, hin⟩ := hw
          subst hr_197
          refine kb_top (gc (mo_g m) 0) (congrArg Prod.fst hop) ?_
          refine lv_istore (lv' := [(9, .int (gc (mo_g m) 0)), (8, .int (gc (mo_g m) 0)), (7, .int (nI (1 + j_93))), (6, .int (nI 0)), (5, .int (nI (nK (mo_g m)))), (4, .int (x >>> (nI 4 &&& 31))), (0, .ref (a 0)), (1, .ref (b 0)), (2, .int (x)), (3, .int (y))]) hx hb dL_isStep_200 hl (by decide) rfl (fun ls hl => ?_)
          refine lv_iload hx hb dL_isStep_202 (lv_at hl 0 rfl) ?_
          refine lv_aload_n hx hb dL_isStep_204 rfl (lv_at hl 7 rfl) ?_
          refine lv_iload hx hb dL_isStep_205 (lv_at hl 3 rfl) ?_
          refine lv_iload hx hb dL_isStep_207 (lv_at hl 2 rfl) ?_
          refine kb_bIb (w := bW cI cC cS b) (As := [.int (nI 0), .int (nI (1 + j_93))]) (rest := [.int (gc (mo_g m) 0)]) hx hb hml hts hown hN hK hP hD hS hA (b_set l D cI cC cS b hip (nI 0) (nI (1 + j_93))) gL_isStep_X4_set rfl ⟨rfl, rfl⟩ hdX4_set ⟨(Nat.le_of_ble_eq_true rfl), (Nat.le_of_ble_eq_true rfl)⟩ [0, 1, 2] rfl (ci := 4) rfl rfl rfl (fun _ => kb_blk _ _) rfl rfl hl.1 (Nat.le_of_ble_eq_true rfl) dL_isStep_209 ⟨(Nat.le_of_ble_eq_true rfl), (Nat.le_of_ble_eq_true rfl)⟩ (fun r u_209_2 H locs hw hP hD hS => ?_)
          obtain ⟨hr_209, hip⟩ := hw
          subst hr_209
          refine kb_top (gc (mo_g m) 0) (by rw [hg2, opS_d]; exact congrArg Prod.fst hop) ?_
          refine lv_icmp_ne (tgt := 258) hx hb dL_isStep_212 (by decide) (fun c212 => ?_) (fun c212 => ?_)
          · exfalso; exact c212 rfl
          · refine lv_iload hx hb dL_isStep_215 (lv_at hl 0 rfl) ?_
            refine lv_iload hx hb dL_isStep_217 (lv_at hl 3 rfl) ?_
            refine kb_nif_ne (tgt := 237) hx hb dL_isStep_219 (by decide) (by decide) (fun c => absurd c (by decide)) (fun _ => ?_)
            refine lv_aload_n hx hb dL_isStep_222 rfl (lv_at hl 6 rfl) ?_
            refine lv_iconst (v := nI 4) hx hb dL_isStep_223 (by decide) ?_
            refine kb_bIa (w := bW cI cC cS a) (As := [.int (nI 4)]) (rest := [.int (gc (mo_g m) 0)]) hx hb hml hts hown hN hK hP hD hS hA (b_count l D cI cC cS a hin (nI 4)) gL_isStep_X4_count rfl ⟨rfl, rfl⟩ hdX4_count ⟨(Nat.le_of_ble_eq_true rfl), (Nat.le_of_ble_eq_true rfl)⟩ [0, 1, 2] rfl (ci := 4) rfl rfl rfl (fun _ => kb_blk _ _) rfl rfl hl.1 (Nat.le_of_ble_eq_true rfl) dL_isStep_224 ⟨(Nat.le_of_ble_eq_true rfl), (Nat.le_of_ble_eq_true rfl)⟩ (fun r u_224_2 H locs hw hP hD hS => ?_)
            obtain ⟨hr_224, hin⟩ := hw
            subst hr_224
            refine kb_top (nI (nT (mo_g m))) (by rw [moA_g hop (by rw [he0]; exact nI_pos (by omega))]; exact (coA_k (g := oSet (mo_g m) 0 (nI (1 + j_93))) (by decide)).trans (show nI (kdN (mo_g m) 2) = nI (nT (mo_g m)) from congrArg nI (kdN_2 ho))) ?_
            refine lv_iload hx hb dL_isStep_227 (lv_at hl 2 rfl) ?_
            refine kb_icmp_le (tgt := 237) hx hb dL_isStep_229 (by decide) (by omega) (by omega) (fun c229 => ?_) (fun c229 => ?_)
            · refine lv_iload hx hb dL_isStep_237 (lv_at hl 1 rfl) ?_
              refine lv_iload hx hb dL_isStep_239 (lv_at hl 2 rfl) ?_
              refine lv_icmp_ne (tgt := 249) hx hb dL_isStep_241 (by decide) (fun c241 => ?_) (fun c241 => ?_)
              · refine lv_iload hx hb dL_isStep_249 (lv_at hl 1 rfl) ?_
                refine lv_icmp_ne (tgt := 258) hx hb dL_isStep_251 (by decide) (fun c251 => ?_) (fun c251 => ?_)
                · exfalso; exact c251 rfl
                · refine lv_iconst (v := nI 1) hx hb dL_isStep_254 (by decide) ?_
                  refine lv_goto (tgt := 259) hx hb dL_isStep_255 (by decide) ?_
                  have hPR : PR (M + 99) (moA m (opS (mo_g m) (nI 0) (nI (1 + j_93))).1 (opS (mo_g m) (nI 0) (nI (1 + j_93))).2) (moA m2 (opS (mo_g m2) (nI 0) (nI (1 + j_93))).1 (opS (mo_g m2) (nI 0) (nI (1 + j_93))).2) := (PR_opS hR _ _).mono (by omega)
                  exact kb_zret (D := D) (w := fun z : KBS × KBS => bW cI cC cS a z.1 ++ bW cI cC cS b z.2) hQ hx hb hr hlocks hK hP hD hS dL_isStep_259 rfl (u_224_2, u_209_2) rfl (Nat.le_refl _) (Nat.le_refl _) ⟨rfl, _, _, hin, hip, hPR⟩
              · exfalso; exact hBq c241
            · exfalso; omega
    · refine lv_iload hx hb dL_isStep_84 (lv_at hl 0 rfl) ?_
      refine kb_nif_ne (tgt := 100) hx hb dL_isStep_86 (by decide) (by decide) (fun _ => ?_) (fun c => absurd c (by decide))
      refine lv_iload hx hb dL_isStep_100 (lv_at hl 0 rfl) ?_
      refine lv_iconst (v := nI 1) hx hb dL_isStep_102 (by decide) ?_
      refine kb_icmp_ne (tgt := 130) hx hb dL_isStep_103 (by decide) (by decide) (by decide) (fun c => absurd c (by decide)) (fun _ => ?_)
      refine lv_iconst (v := nI 1) hx hb dL_isStep_106 (by decide) ?_
      refine lv_iload_n hx hb dL_isStep_107 rfl (lv_at hl 6 rfl) ?_
      refine lv_iload hx hb dL_isStep_108 (lv_at hl 2 rfl) ?_
      refine lv_iconst (v := nI 3) hx hb dL_isStep_110 (by decide) ?_
      refine kb_sR (As := [.int (x >>> (nI 4 &&& 31)), .int (nI 3)]) (rest := [.int (y), .int (nI 1)]) hx hb hml hts hown hN hK hP hD hS hA (c_L_up l D (x >>> (nI 4 &&& 31)) 3 (by first | assumption | omega) (by first | assumption | omega)) gL_isStep_L_up rfl ⟨rfl, rfl⟩ hdL_up.2 ⟨Nat.le_of_ble_eq_true rfl, Nat.le_of_ble_eq_true rfl⟩ [] [] rfl rfl rfl rfl rfl hl.1 (Nat.le_of_ble_eq_true rfl) dL_isStep_111 ⟨Nat.zero_le _, Nat.zero_le _⟩ (fun H locs hP hS => ?_)
      obtain ⟨j_111, hj_111, ej_111⟩ : ∃ j, j < 3 ∧ nI (upN (x >>> (nI 4 &&& 31)) 3) = nI j := ⟨_, upN_lt (by omega), rfl⟩
      refine kb_top (nI j_111) ej_111 ?_
      refine kb_nif_ne (tgt := 122) hx hb dL_isStep_114 (by decide) (by omega) (fun c114 => ?_) (fun c114 => ?_)
      · refine lv_iconst (v := nI 5) hx hb dL_isStep_122 (by decide) ?_
        refine kb_sR (As := [.int (y), .int (nI 5)]) (rest := [.int (nI 1)]) hx hb hml hts hown hN hK hP hD hS hA (c_L_up l D y 5 (by first | assumption | omega) (by first | assumption | omega)) gL_isStep_L_up rfl ⟨rfl, rfl⟩ hdL_up.2 ⟨Nat.le_of_ble_eq_true rfl, Nat.le_of_ble_eq_true rfl⟩ [] [] rfl rfl rfl rfl rfl hl.1 (Nat.le_of_ble_eq_true rfl) dL_isStep_123 ⟨Nat.zero_le _, Nat.zero_le _⟩ (fun H locs hP hS => ?_)
        obtain ⟨j_123, hj_123, ej_123⟩ : ∃ j, j < 5 ∧ nI (upN y 5) = nI j := ⟨_, upN_lt (by omega), rfl⟩
        refine kb_top (nI j_123) ej_123 ?_
        refine lv_iadd hx hb dL_isStep_126 ?_
        refine kb_top (nI (1 + j_123)) (nI_add 1 j_123) ?_
        refine lv_goto (tgt := 179) hx hb dL_isStep_127 (by decide) ?_
        refine lv_istore (lv' := [(7, .int (nI (1 + j_123))), (6, .int (nI 1)), (5, .int (nI (nK (mo_g m)))), (4, .int (x >>> (nI 4 &&& 31))), (0, .ref (a 0)), (1, .ref (b 0)), (2, .int (x)), (3, .int (y))]) hx hb dL_isStep_179 hl (by decide) rfl (fun ls hl => ?_)
        have hvb : 1 ≤ 1 + j_123 ∧ 1 + j_123 ≤ 60 := by omega
        have hri : isR 1 (nI (1 + j_123)) = true := by show isIn _ 1 60 = true; exact isIn_i (nI_nlt (by omega) (by omega)) (nI_nlt (by omega) (by omega))
        have hnn : ¬ ((1 : Nat) = 0 ∧ nI (1 + j_123) < nI (nT (mo_g m))) := fun z => absurd z.1 (by decide)
        by_cases hBq : gc (mo_g m) 1 = nI (1 + j_123)
        · have hop : opS (mo_g m) (nI 1) (nI (1 + j_123)) = (-5, (mo_g m)) := opS_4 (by decide) hri hnn hBq
          refine lv_aload_n hx hb dL_isStep_181 rfl (lv_at hl 4 rfl) ?_
          refine lv_bipush (v := nI 11) hx hb dL_isStep_182 (by decide) ?_
          refine lv_iload hx hb dL_isStep_184 (lv_at hl 1 rfl) ?_
          refine lv_iadd hx hb dL_isStep_186 ?_
          refine kb_top (nI 12) (nI_add 11 1) ?_
          refine kb_bIa (w := bW cI cC cS a) (As := [.int (nI 12)]) (rest := []) hx hb hml hts hown hN hK hP hD hS hA (b_count l D cI cC cS a hin (nI 12)) gL_isStep_X4_count rfl ⟨rfl, rfl⟩ hdX4_count ⟨(Nat.le_of_ble_eq_true rfl), (Nat.le_of_ble_eq_true rfl)⟩ [0, 1, 2] rfl (ci := 4) rfl rfl rfl (fun _ => kb_blk _ _) rfl rfl hl.1 (Nat.le_of_ble_eq_true rfl) dL_isStep_187 ⟨(Nat.le_of_ble_eq_true rfl), (Nat.le_of_ble_eq_true rfl)⟩ (fun r u_187_3 H locs hw hP hD hS => ?_)
          obtain ⟨hr_187, hin⟩ := hw
          subst hr_187
          refine kb_top (gc (mo_g m) 1) (coA_k (w := 12) (by decide)) ?_
          refine lv_istore (lv' := [(8, .int (gc (mo_g m) 1)), (7, .int (nI (1 + j_123))), (6, .int (nI 1)), (5, .int (nI (nK (mo_g m)))), (4, .int (x >>> (nI 4 &&& 31))), (0, .ref (a 0)), (1, .ref (b 0)), (2, .int (x)), (3, .int (y))]) hx hb dL_isStep_190 hl (by decide) rfl (fun ls hl => ?_)
          refine lv_aload_n hx hb dL_isStep_192 rfl (lv_at hl 5 rfl) ?_
          refine lv_iload hx hb dL_isStep_193 (lv_at hl 2 rfl) ?_
          refine lv_iload hx hb dL_isStep_195 (lv_at hl 1 rfl) ?_
          refine kb_bIa (w := bW cI cC cS a) (As := [.int (nI 1), .int (nI (1 + j_123))]) (rest := []) hx hb hml hts hown hN hK hP hD hS hA (b_set l D cI cC cS a hin (nI 1) (nI (1 + j_123))) gL_isStep_X4_set rfl ⟨rfl, rfl⟩ hdX4_set ⟨(Nat.le_of_ble_eq_true rfl), (Nat.le_of_ble_eq_true rfl)⟩ [0, 1, 2] rfl (ci := 4) rfl rfl rfl (fun _ => kb_blk _ _) rfl rfl hl.1 (Nat.le_of_ble_eq_true rfl) dL_isStep_197 ⟨(Nat.le_of_ble_eq_true rfl), (Nat.le_of_ble_eq_true rfl)⟩ (fun r u_197_3 H locs hw hP hD hS => ?_)
          obtain ⟨hr_197, hin⟩ := hw
          subst hr_197
          refine kb_top ((-5)) (congrArg Prod.fst hop) ?_
          refine lv_istore (lv' := [(9, .int ((-5))), (8, .int (gc (mo_g m) 1)), (7, .int (nI (1 + j_123))), (6, .int (nI 1)), (5, .int (nI (nK (mo_g m)))), (4, .int (x >>> (nI 4 &&& 31))), (0, .ref (a 0)), (1, .ref (b 0)), (2, .int (x)), (3, .int (y))]) hx hb dL_isStep_200 hl (by decide) rfl (fun ls hl => ?_)
          refine lv_iload hx hb dL_isStep_202 (lv_at hl 0 rfl) ?_
          refine lv_aload_n hx hb dL_isStep_204 rfl (lv_at hl 7 rfl) ?_
          refine lv_iload hx hb dL_isStep_205 (lv_at hl 3 rfl) ?_
          refine lv_iload hx hb dL_isStep_207 (lv_at hl 2 rfl) ?_
          refine kb_bIb (w := bW cI cC cS b) (As := [.int (nI 1), .int (nI (1 + j_123))]) (rest := [.int ((-5))]) hx hb hml hts hown hN hK hP hD hS hA (b_set l D cI cC cS b hip (nI 1) (nI (1 + j_123))) gL_isStep_X4_set rfl ⟨rfl, rfl⟩ hdX4_set ⟨(Nat.le_of_ble_eq_true rfl), (Nat.le_of_ble_eq_true rfl)⟩ [0, 1, 2] rfl (ci := 4) rfl rfl rfl (fun _ => kb_blk _ _) rfl rfl hl.1 (Nat.le_of_ble_eq_true rfl) dL_isStep_209 ⟨(Nat.le_of_ble_eq_true rfl), (Nat.le_of_ble_eq_true rfl)⟩ (fun r u_209_3 H locs hw hP hD hS => ?_)
          obtain ⟨hr_209, hip⟩ := hw
          subst hr_209
          refine kb_top ((-5)) (by rw [hg2, opS_d]; exact congrArg Prod.fst hop) ?_
          refine lv_icmp_ne (tgt := 258) hx hb dL_isStep_212 (by decide) (fun c212 => ?_) (fun c212 => ?_)
          · exfalso; exact c212 rfl
          · refine lv_iload hx hb dL_isStep_215 (lv_at hl 0 rfl) ?_
            refine lv_iload hx hb dL_isStep_217 (lv_at hl 3 rfl) ?_
            refine kb_nif_ne (tgt := 237) hx hb dL_isStep_219 (by decide) (by decide) (fun _ => ?_) (fun c => absurd c (by decide))
            refine lv_iload hx hb dL_isStep_237 (lv_at hl 1 rfl) ?_
            refine lv_iload hx hb dL_isStep_239 (lv_at hl 2 rfl) ?_
            refine lv_icmp_ne (tgt := 249) hx hb dL_isStep_241 (by decide) (fun c241 => ?_) (fun c241 => ?_)
            · exfalso; exact c241 hBq
            · refine lv_bipush (v := (-5)) hx hb dL_isStep_244 (by decide) ?_
              refine lv_goto (tgt := 251) hx hb dL_isStep_246 (by decide) ?_
              refine lv_icmp_ne (tgt := 258) hx hb dL_isStep_251 (by decide) (fun c251 => ?_) (fun c251 => ?_)
              · exfalso; exact c251 rfl
              · refine lv_iconst (v := nI 1) hx hb dL_isStep_254 (by decide) ?_
                refine lv_goto (tgt := 259) hx hb dL_isStep_255 (by decide) ?_
                have hPR : PR (M + 99) (moA m (opS (mo_g m) (nI 1) (nI (1 + j_123))).1 (opS (mo_g m) (nI 1) (nI (1 + j_123))).2) (moA m2 (opS (mo_g m2) (nI 1) (nI (1 + j_123))).1 (opS (mo_g m2) (nI 1) (nI (1 + j_123))).2) := (PR_opS hR _ _).mono (by omega)
                exact kb_zret (D := D) (w := fun z : KBS × KBS => bW cI cC cS a z.1 ++ bW cI cC cS b z.2) hQ hx hb hr hlocks hK hP hD hS dL_isStep_259 rfl (u_197_3, u_209_3) rfl (Nat.le_refl _) (Nat.le_refl _) ⟨rfl, _, _, hin, hip, hPR⟩
        · have hop : opS (mo_g m) (nI 1) (nI (1 + j_123)) = (gc (mo_g m) 1, oSet (mo_g m) 1 (nI (1 + j_123))) := opS_5 (by decide) hri hnn hBq
          refine lv_aload_n hx hb dL_isStep_181 rfl (lv_at hl 4 rfl) ?_
          refine lv_bipush (v := nI 11) hx hb dL_isStep_182 (by decide) ?_
          refine lv_iload hx hb dL_isStep_184 (lv_at hl 1 rfl) ?_
          refine lv_iadd hx hb dL_isStep_186 ?_
          refine kb_top (nI 12) (nI_add 11 1) ?_
          refine kb_bIa (w := bW cI cC cS a) (As := [.int (nI 12)]) (rest := []) hx hb hml hts hown hN hK hP hD hS hA (b_count l D cI cC cS a hin (nI 12)) gL_isStep_X4_count rfl ⟨rfl, rfl⟩ hdX4_count ⟨(Nat.le_of_ble_eq_true rfl), (Nat.le_of_ble_eq_true rfl)⟩ [0, 1, 2] rfl (ci := 4) rfl rfl rfl (fun _ => kb_blk _ _) rfl rfl hl.1 (Nat.le_of_ble_eq_true rfl) dL_isStep_187 ⟨(Nat.le_of_ble_eq_true rfl), (Nat.le_of_ble_eq_true rfl)⟩ (fun r u_187_4 H locs hw hP hD hS => ?_)
          obtain ⟨hr_187, hin⟩ := hw
          subst hr_187
          refine kb_top (gc (mo_g m) 1) (coA_k (w := 12) (by decide)) ?_
          refine lv_istore (lv' := [(8, .int (gc (mo_g m) 1)), (7, .int (nI (1 + j_123))), (6, .int (nI 1)), (5, .int (nI (nK (mo_g m)))), (4, .int (x >>> (nI 4 &&& 31))), (0, .ref (a 0)), (1, .ref (b 0)), (2, .int (x)), (3, .int (y))]) hx hb dL_isStep_190 hl (by decide) rfl (fun ls hl => ?_)
          refine lv_aload_n hx hb dL_isStep_192 rfl (lv_at hl 5 rfl) ?_
          refine lv_iload hx hb dL_isStep_193 (lv_at hl 2 rfl) ?_
          refine lv_iload hx hb dL_isStep_195 (lv_at hl 1 rfl) ?_
          refine kb_bIa (w := bW cI cC cS a) (As := [.int (nI 1), .int (nI (1 + j_123))]) (rest := []) hx hb hml hts hown hN hK hP hD hS hA (b_set l D cI cC cS a hin (nI 1) (nI (1 + j_123))) gL_isStep_X4_set rfl ⟨rfl, rfl⟩ hdX4_set ⟨(Nat.le_of_ble_eq_true rfl), (Nat.le_of_ble_eq_true rfl)⟩ [0, 1, 2] rfl (ci := 4) rfl rfl rfl (fun _ => kb_blk _ _) rfl rfl hl.1 (Nat.le_of_ble_eq_true rfl) dL_isStep_197 ⟨(Nat.le_of_ble_eq_true rfl), (Nat.le_of_ble_eq_true rfl)⟩ (fun r u_197_4 H locs hw hP hD hS => ?_)
          obtain ⟨hr_197, hin⟩ := hw
          subst hr_197
          refine kb_top (gc (mo_g m) 1) (congrArg Prod.fst hop) ?_
          refine lv_istore (lv' := [(9, .int (gc (mo_g m) 1)), (8, .int (gc (mo_g m) 1)), (7, .int (nI (1 + j_123))), (6, .int (nI 1)), (5, .int (nI (nK (mo_g m)))), (4, .int (x >>> (nI 4 &&& 31))), (0, .ref (a 0)), (1, .ref (b 0)), (2, .int (x)), (3, .int (y))]) hx hb dL_isStep_200 hl (by decide) rfl (fun ls hl => ?_)
          refine lv_iload hx hb dL_isStep_202 (lv_at hl 0 rfl) ?_
          refine lv_aload_n hx hb dL_isStep_204 rfl (lv_at hl 7 rfl) ?_
          refine lv_iload hx hb dL_isStep_205 (lv_at hl 3 rfl) ?_
          refine lv_iload hx hb dL_isStep_207 (lv_at hl 2 rfl) ?_
          refine kb_bIb (w := bW cI cC cS b) (As := [.int (nI 1), .int (nI (1 + j_123))]) (rest := [.int (gc (mo_g m) 1)]) hx hb hml hts hown hN hK hP hD hS hA (b_set l D cI cC cS b hip (nI 1) (nI (1 + j_123))) gL_isStep_X4_set rfl ⟨rfl, rfl⟩ hdX4_set ⟨(Nat.le_of_ble_eq_true rfl), (Nat.le_of_ble_eq_true rfl)⟩ [0, 1, 2] rfl (ci := 4) rfl rfl rfl (fun _ => kb_blk _ _) rfl rfl hl.1 (Nat.le_of_ble_eq_true rfl) dL_isStep_209 ⟨(Nat.le_of_ble_eq_true rfl), (Nat.le_of_ble_eq_true rfl)⟩ (fun r u_209_4 H locs hw hP hD hS => ?_)
          obtain ⟨hr_209, hip⟩ := hw
          subst hr_209
          refine kb_top (gc (mo_g m) 1) (by rw [hg2, opS_d]; exact congrArg Prod.fst hop) ?_
          refine lv_icmp_ne (tgt := 258) hx hb dL_isStep_212 (by decide) (fun c212 => ?_) (fun c212 => ?_)
          · exfalso; exact c212 rfl
          · refine lv_iload hx hb dL_isStep_215 (lv_at hl 0 rfl) ?_
            refine lv_iload hx hb dL_isStep_217 (lv_at hl 3 rfl) ?_
            refine kb_nif_ne (tgt := 237) hx hb dL_isStep_219 (by decide) (by decide) (fun _ => ?_) (fun c => absurd c (by decide))
            refine lv_iload hx hb dL_isStep_237 (lv_at hl 1 rfl) ?_
            refine lv_iload hx hb dL_isStep_239 (lv_at hl 2 rfl) ?_
            refine lv_icmp_ne (tgt := 249) hx hb dL_isStep_241 (by decide) (fun c241 => ?_) (fun c241 => ?_)
            · refine lv_iload hx hb dL_isStep_249 (lv_at hl 1 rfl) ?_
              refine lv_icmp_ne (tgt := 258) hx hb dL_isStep_251 (by decide) (fun c251 => ?_) (fun c251 => ?_)
              · exfalso; exact c251 rfl
              · refine lv_iconst (v := nI 1) hx hb dL_isStep_254 (by decide) ?_
                refine lv_goto (tgt := 259) hx hb dL_isStep_255 (by decide) ?_
                have hPR : PR (M + 99) (moA m (opS (mo_g m) (nI 1) (nI (1 + j_123))).1 (opS (mo_g m) (nI 1) (nI (1 + j_123))).2) (moA m2 (opS (mo_g m2) (nI 1) (nI (1 + j_123))).1 (opS (mo_g m2) (nI 1) (nI (1 + j_123))).2) := (PR_opS hR _ _).mono (by omega)
                exact kb_zret (D := D) (w := fun z : KBS × KBS => bW cI cC cS a z.1 ++ bW cI cC cS b z.2) hQ hx hb hr hlocks hK hP hD hS dL_isStep_259 rfl (u_197_4, u_209_4) rfl (Nat.le_refl _) (Nat.le_refl _) ⟨rfl, _, _, hin, hip, hPR⟩
            · exfalso; exact hBq c241
      · refine lv_bipush (v := nI 60) hx hb dL_isStep_117 (by decide) ?_
        refine lv_goto (tgt := 123) hx hb dL_isStep_119 (by decide) ?_
        refine kb_sR (As := [.int (y), .int (nI 60)]) (rest := [.int (nI 1)]) hx hb hml hts hown hN hK hP hD hS hA (c_L_up l D y 60 (by first | assumption | omega) (by first | assumption | omega)) gL_isStep_L_up rfl ⟨rfl, rfl⟩ hdL_up.2 ⟨Nat.le_of_ble_eq_true rfl, Nat.le_of_ble_eq_true rfl⟩ [] [] rfl rfl rfl rfl rfl hl.1 (Nat.le_of_ble_eq_true rfl) dL_isStep_123 ⟨Nat.zero_le _, Nat.zero_le _⟩ (fun H locs hP hS => ?_)
        obtain ⟨j_123_1, hj_123_1, ej_123_1⟩ : ∃ j, j < 60 ∧ nI (upN y 60) = nI j := ⟨_, upN_lt (by omega), rfl⟩
        refine kb_top (nI j_123_1) ej_123_1 ?_
        refine lv_iadd hx hb dL_isStep_126 ?_
        refine kb_top (nI (1 + j_123_1)) (nI_add 1 j_123_1) ?_
        refine lv_goto (tgt := 179) hx hb dL_isStep_127 (by decide) ?_
        refine lv_istore (lv' := [(7, .int (nI (1 + j_123_1))), (6, .int (nI 1)), (5, .int (nI (nK (mo_g m)))), (4, .int (x >>> (nI 4 &&& 31))), (0, .ref (a 0)), (1, .ref (b 0)), (2, .int (x)), (3, .int (y))]) hx hb dL_isStep_179 hl (by decide) rfl (fun ls hl => ?_)
        have hvb : 1 ≤ 1 + j_123_1 ∧ 1 + j_123_1 ≤ 60 := by omega
        have hri : isR 1 (nI (1 + j_123_1)) = true := by show isIn _ 1 60 = true; exact isIn_i (nI_nlt (by omega) (by omega)) (nI_nlt (by omega) (by omega))
        have hnn : ¬ ((1 : Nat) = 0 ∧ nI (1 + j_123_1) < nI (nT (mo_g m))) := fun z => absurd z.1 (by decide)
        by_cases hBq : gc (mo_g m) 1 = nI (1 + j_123_1)
        · have hop : opS (mo_g m) (nI 1) (nI (1 + j_123_1)) = (-5, (mo_g m)) := opS_4 (by decide) hri hnn hBq
          refine lv_aload_n hx hb dL_isStep_181 rfl (lv_at hl 4 rfl) ?_
          refine lv_bipush (v := nI 11) hx hb dL_isStep_182 (by decide) ?_
          refine lv_iload hx hb dL_isStep_184 (lv_at hl 1 rfl) ?_
          refine lv_iadd hx hb dL_isStep_186 ?_
          refine kb_top (nI 12) (nI_add 11 1) ?_
          refine kb_bIa (w := bW cI cC cS a) (As := [.int (nI 12)]) (rest := []) hx hb hml hts hown hN hK hP hD hS hA (b_count l D cI cC cS a hin (nI 12)) gL_isStep_X4_count rfl ⟨rfl, rfl⟩ hdX4_count ⟨(Nat.le_of_ble_eq_true rfl), (Nat.le_of_ble_eq_true rfl)⟩ [0, 1, 2] rfl (ci := 4) rfl rfl rfl (fun _ => kb_blk _ _) rfl rfl hl.1 (Nat.le_of_ble_eq_true rfl) dL_isStep_187 ⟨(Nat.le_of_ble_eq_true rfl), (Nat.le_of_ble_eq_true rfl)⟩ (fun r u_187_5 H locs hw hP hD hS => ?_)
          obtain ⟨hr_187, hin⟩ := hw
          subst hr_187
          refine kb_top (gc (mo_g m) 1) (coA_k (w := 12) (by decide)) ?_
          refine lv_istore (lv' := [(8, .int (gc (mo_g m) 1)), (7, .int (nI (1 + j_123_1))), (6, .int (nI 1)), (5, .int (nI (nK (mo_g m)))), (4, .int (x >>> (nI 4 &&& 31))), (0, .ref (a 0)), (1, .ref (b 0)), (2, .int (x)), (3, .int (y))]) hx hb dL_isStep_190 hl (by decide) rfl (fun ls hl => ?_)
          refine lv_aload_n hx hb dL_isStep_192 rfl (lv_at hl 5 rfl) ?_
          refine lv_iload hx hb dL_isStep_193 (lv_at hl 2 rfl) ?_
          refine lv_iload hx hb dL_isStep_195 (lv_at hl 1 rfl) ?_
          refine kb_bIa (w := bW cI cC cS a) (As := [.int (nI 1), .int (nI (1 + j_123_1))]) (rest := []) hx hb hml hts hown hN hK hP hD hS hA (b_set l D cI cC cS a hin (nI 1) (nI (1 + j_123_1))) gL_isStep_X4_set rfl ⟨rfl, rfl⟩ hdX4_set ⟨(Nat.le_of_ble_eq_true rfl), (Nat.le_of_ble_eq_true rfl)⟩ [0, 1, 2] rfl (ci := 4) rfl rfl rfl (fun _ => kb_blk _ _) rfl rfl hl.1 (Nat.le_of_ble_eq_true rfl) dL_isStep_197 ⟨(Nat.le_of_ble_eq_true rfl), (Nat.le_of_ble_eq_true rfl)⟩ (fun r u_197_5 H locs hw hP hD hS => ?_)
          obtain ⟨hr_197, hin⟩ := hw
          subst hr_197
          refine kb_top ((-5)) (congrArg Prod.fst hop) ?_
          refine lv_istore (lv' := [(9, .int ((-5))), (8, .int (gc (mo_g m) 1)), (7, .int (nI (1 + j_123_1))), (6, .int (nI 1)), (5, .int (nI (nK (mo_g m)))), (4, .int (x >>> (nI 4 &&& 31))), (0, .ref (a 0)), (1, .ref (b 0)), (2, .int (x)), (3, .int (y))]) hx hb dL_isStep_200 hl (by decide) rfl (fun ls hl => ?_)
          refine lv_iload hx hb dL_isStep_202 (lv_at hl 0 rfl) ?_
          refine lv_aload_n hx hb dL_isStep_204 rfl (lv_at hl 7 rfl) ?_
          refine lv_iload hx hb dL_isStep_205 (lv_at hl 3 rfl) ?_
          refine lv_iload hx hb dL_isStep_207 (lv_at hl 2 rfl) ?_
          refine kb_bIb (w := bW cI cC cS b) (As := [.int (nI 1), .int (nI (1 + j_123_1))]) (rest := [.int ((-5))]) hx hb hml hts hown hN hK hP hD hS hA (b_set l D cI cC cS b hip (nI 1) (nI (1 + j_123_1))) gL_isStep_X4_set rfl ⟨rfl, rfl⟩ hdX4_set ⟨(Nat.le_of_ble_eq_true rfl), (Nat.le_of_ble_eq_true rfl)⟩ [0, 1, 2] rfl (ci := 4) rfl rfl rfl (fun _ => kb_blk _ _) rfl rfl hl.1 (Nat.le_of_ble_eq_true rfl) dL_isStep_209 ⟨(Nat.le_of_ble_eq_true rfl), (Nat.le_of_ble_eq_true rfl)⟩ (fun r u_209_5 H locs hw hP hD hS => ?_)
          obtain ⟨hr_209, hip⟩ := hw
          subst hr_209
          refine kb_top ((-5)) (by rw [hg2, opS_d]; exact congrArg Prod.fst hop) ?_
          refine lv_icmp_ne (tgt := 258) hx hb dL_isStep_212 (by decide) (fun c212 => ?_) (fun c212 => ?_)
          · exfalso; exact c212 rfl
          · refine lv_iload hx hb dL_isStep_215 (lv_at hl 0 rfl) ?_
            refine lv_iload hx hb dL_isStep_217 (lv_at hl 3 rfl) ?_
            refine kb_nif_ne (tgt := 237) hx hb dL_isStep_219 (by decide) (by decide) (fun _ => ?_) (fun c => absurd c (by decide))
            refine lv_iload hx hb dL_isStep_237 (lv_at hl 1 rfl) ?_
            refine lv_iload hx hb dL_isStep_239 (lv_at hl 2 rfl) ?_
            refine lv_icmp_ne (tgt := 249) hx hb dL_isStep_241 (by decide) (fun c241 => ?_) (fun c241 => ?_)
            · exfalso; exact c241 hBq
            · refine lv_bipush (v := (-5)) hx hb dL_isStep_244 (by decide) ?_
              refine lv_goto (tgt := 251) hx hb dL_isStep_246 (by decide) ?_
              refine lv_icmp_ne (tgt := 258) hx hb dL_isStep_251 (by decide) (fun c251 => ?_) (fun c251 => ?_)
              · exfalso; exact c251 rfl
              · refine lv_iconst (v := nI 1) hx hb dL_isStep_254 (by decide) ?_
                refine lv_goto (tgt := 259) hx hb dL_isStep_255 (by decide) ?_
                have hPR : PR (M + 99) (moA m (opS (mo_g m) (nI 1) (nI (1 + j_123_1))).1 (opS (mo_g m) (nI 1) (nI (1 + j_123_1))).2) (moA m2 (opS (mo_g m2) (nI 1) (nI (1 + j_123_1))).1 (opS (mo_g m2) (nI 1) (nI (1 + j_123_1))).2) := (PR_opS hR _ _).mono (by omega)
                exact kb_zret (D := D) (w := fun z : KBS × KBS => bW cI cC cS a z.1 ++ bW cI cC cS b z.2) hQ hx hb hr hlocks hK hP hD hS dL_isStep_259 rfl (u_197_5, u_209_5) rfl (Nat.le_refl _) (Nat.le_refl _) ⟨rfl, _, _, hin, hip, hPR⟩
        · have hop : opS (mo_g m) (nI 1) (nI (1 + j_123_1)) = (gc (mo_g m) 1, oSet (mo_g m) 1 (nI (1 + j_123_1))) := opS_5 (by decide) hri hnn hBq
          refine lv_aload_n hx hb dL_isStep_181 rfl (lv_at hl 4 rfl) ?_
          refine lv_bipush (v := nI 11) hx hb dL_isStep_182 (by decide) ?_
          refine lv_iload hx hb dL_isStep_184 (lv_at hl 1 rfl) ?_
          refine lv_iadd hx hb dL_isStep_186 ?_
          refine kb_top (nI 12) (nI_add 11 1) ?_
          refine kb_bIa (w := bW cI cC cS a) (As := [.int (nI 12)]) (rest := []) hx hb hml hts hown hN hK hP hD hS hA (b_count l D cI cC cS a hin (nI 12)) gL_isStep_X4_count rfl ⟨rfl, rfl⟩ hdX4_count ⟨(Nat.le_of_ble_eq_true rfl), (Nat.le_of_ble_eq_true rfl)⟩ [0, 1, 2] rfl (ci := 4) rfl rfl rfl (fun _ => kb_blk _ _) rfl rfl hl.1 (Nat.le_of_ble_eq_true rfl) dL_isStep_187 ⟨(Nat.le_of_ble_eq_true rfl), (Nat.le_of_ble_eq_true rfl)⟩ (fun r u_187_6 H locs hw hP hD hS => ?_)
          obtain ⟨hr_187, hin⟩ := hw
          subst hr_187
          refine kb_top (gc (mo_g m) 1) (coA_k (w := 12) (by decide)) ?_
          refine lv_istore (lv' := [(8, .int (gc (mo_g m) 1)), (7, .int (nI (1 + j_123_1))), (6, .int (nI 1)), (5, .int (nI (nK (mo_g m)))), (4, .int (x >>> (nI 4 &&& 31))), (0, .ref (a 0)), (1, .ref (b 0)), (2, .int (x)), (3, .int (y))]) hx hb dL_isStep_190 hl (by decide) rfl (fun ls hl => ?_)
          refine lv_aload_n hx hb dL_isStep_192 rfl (lv_at hl 5 rfl) ?_
          refine lv_iload hx hb dL_isStep_193 (lv_at hl 2 rfl) ?_
          refine lv_iload hx hb dL_isStep_195 (lv_at hl 1 rfl) ?_
          refine kb_bIa (w := bW cI cC cS a) (As := [.int (nI 1), .int (nI (1 + j_123_1))]) (rest := []) hx hb hml hts hown hN hK hP hD hS hA (b_set l D cI cC cS a hin (nI 1) (nI (1 + j_123_1))) gL_isStep_X4_set rfl ⟨rfl, rfl⟩ hdX4_set ⟨(Nat.le_of_ble_eq_true rfl), (Nat.le_of_ble_eq_true rfl)⟩ [0, 1, 2] rfl (ci := 4) rfl rfl rfl (fun _ => kb_blk _ _) rfl rfl hl.1 (Nat.le_of_ble_eq_true rfl) dL_isStep_197 ⟨(Nat.le_of_ble_eq_true rfl), (Nat.le_of_ble_eq_true rfl)⟩ (fun r u_197_6 H locs hw hP hD hS => ?_)
          obtain ⟨hr_197, hin⟩ := hw
          subst hr_197
          refine kb_top (gc (mo_g m) 1) (congrArg Prod.fst hop) ?_
          refine lv_istore (lv' := [(9, .int (gc (mo_g m) 1)), (8, .int (gc (mo_g m) 1)), (7, .int (nI (1 + j_123_1))), (6, .int (nI 1)), (5, .int (nI (nK (mo_g m)))), (4, .int (x >>> (nI 4 &&& 31))), (0, .ref (a 0)), (1, .ref (b 0)), (2, .int (x)), (3, .int (y))]) hx hb dL_isStep_200 hl (by decide) rfl (fun ls hl => ?_)
          refine lv_iload hx hb dL_isStep_202 (lv_at hl 0 rfl) ?_
          refine lv_aload_n hx hb dL_isStep_204 rfl (lv_at hl 7 rfl) ?_
          refine lv_iload hx hb dL_isStep_205 (lv_at hl 3 rfl) ?_
          refine lv_iload hx hb dL_isStep_207 (lv_at hl 2 rfl) ?_
          refine kb_bIb (w := bW cI cC cS b) (As := [.int (nI 1), .int (nI (1 + j_123_1))]) (rest := [.int (gc (mo_g m) 1)]) hx hb hml hts hown hN hK hP hD hS hA (b_set l D cI cC cS b hip (nI 1) (nI (1 + j_123_1))) gL_isStep_X4_set rfl ⟨rfl, rfl⟩ hdX4_set ⟨(Nat.le_of_ble_eq_true rfl), (Nat.le_of_ble_eq_true rfl)⟩ [0, 1, 2] rfl (ci := 4) rfl rfl rfl (fun _ => kb_blk _ _) rfl rfl hl.1 (Nat.le_of_ble_eq_true rfl) dL_isStep_209 ⟨(Nat.le_of_ble_eq_true rfl), (Nat.le_of_ble_eq_true rfl)⟩ (fun r u_209_6 H locs hw hP hD hS => ?_)
          obtain ⟨hr_209, hip⟩ := hw
          subst hr_209
          refine kb_top (gc (mo_g m) 1) (by rw [hg2, opS_d]; exact congrArg Prod.fst hop) ?_
          refine lv_icmp_ne (tgt := 258) hx hb dL_isStep_212 (by decide) (fun c212 => ?_) (fun c212 => ?_)
          · exfalso; exact c212 rfl
          · refine lv_iload hx hb dL_isStep_215 (lv_at hl 0 rfl) ?_
            refine lv_iload hx hb dL_isStep_217 (lv_at hl 3 rfl) ?_
            refine kb_nif_ne (tgt := 237) hx hb dL_isStep_219 (by decide) (by decide) (fun _ => ?_) (fun c => absurd c (by decide))
            refine lv_iload hx hb dL_isStep_237 (lv_at hl 1 rfl) ?_
            refine lv_iload hx hb dL_isStep_239 (lv_at hl 2 rfl) ?_
            refine lv_icmp_ne (tgt := 249) hx hb dL_isStep_241 (by decide) (fun c241 => ?_) (fun c241 => ?_)
            · refine lv_iload hx hb dL_isStep_249 (lv_at hl 1 rfl) ?_
              refine lv_icmp_ne (tgt := 258) hx hb dL_isStep_251 (by decide) (fun c251 => ?_) (fun c251 => ?_)
              · exfalso; exact c251 rfl
              · refine lv_iconst (v := nI 1) hx hb dL_isStep_254 (by decide) ?_
                refine lv_goto (tgt := 259) hx hb dL_isStep_255 (by decide) ?_
                have hPR : PR (M + 99) (moA m (opS (mo_g m) (nI 1) (nI (1 + j_123_1))).1 (opS (mo_g m) (nI 1) (nI (1 + j_123_1))).2) (moA m2 (opS (mo_g m2) (nI 1) (nI (1 + j_123_1))).1 (opS (mo_g m2) (nI 1) (nI (1 + j_123_1))).2) := (PR_opS hR _ _).mono (by omega)
                exact kb_zret (D := D) (w := fun z : KBS × KBS => bW cI cC cS a z.1 ++ bW cI cC cS b z.2) hQ hx hb hr hlocks hK hP hD hS dL_isStep_259 rfl (u_197_6, u_209_6) rfl (Nat.le_refl _) (Nat.le_refl _) ⟨rfl, _, _, hin, hip, hPR⟩
            · exfalso; exact hBq c241
    · refine lv_iload hx hb dL_isStep_84 (lv_at hl 0 rfl) ?_
      refine kb_nif_ne (tgt := 100) hx hb dL_isStep_86 (by decide) (by decide) (fun _ => ?_) (fun c => absurd c (by decide))
      refine lv_iload hx hb dL_isStep_100 (lv_at hl 0 rfl) ?_
      refine lv_iconst (v := nI 1) hx hb dL_isStep_102 (by decide) ?_
      refine kb_icmp_ne (tgt := 130) hx hb dL_isStep_103 (by decide) (by decide) (by decide) (fun _ => ?_) (fun c => absurd c (by decide))
      refine lv_iload hx hb dL_isStep_130 (lv_at hl 0 rfl) ?_
      refine lv_iconst (v := nI 2) hx hb dL_isStep_132 (by decide) ?_
      refine kb_icmp_ne (tgt := 158) hx hb dL_isStep_133 (by decide) (by decide) (by decide) (fun c => absurd c (by decide)) (fun _ => ?_)
      refine lv_iload_n hx hb dL_isStep_136 rfl (lv_at hl 6 rfl) ?_
      refine lv_iload hx hb dL_isStep_137 (lv_at hl 2 rfl) ?_
      refine lv_iconst (v := nI 3) hx hb dL_isStep_139 (by decide) ?_
      refine kb_sR (As := [.int (x >>> (nI 4 &&& 31)), .int (nI 3)]) (rest := [.int (y)]) hx hb hml hts hown hN hK hP hD hS hA (c_L_up l D (x >>> (nI 4 &&& 31)) 3 (by first | assumption | omega) (by first | assumption | omega)) gL_isStep_L_up rfl ⟨rfl, rfl⟩ hdL_up.2 ⟨Nat.le_of_ble_eq_true rfl, Nat.le_of_ble_eq_true rfl⟩ [] [] rfl rfl rfl rfl rfl hl.1 (Nat.le_of_ble_eq_true rfl) dL_isStep_140 ⟨Nat.zero_le _, Nat.zero_le _⟩ (fun H locs hP hS => ?_)
      obtain ⟨j_140, hj_140, ej_140⟩ : ∃ j, j < 3 ∧ nI (upN (x >>> (nI 4 &&& 31)) 3) = nI j := ⟨_, upN_lt (by omega), rfl⟩
      refine kb_top (nI j_140) ej_140 ?_
      refine kb_nif_ne (tgt := 151) hx hb dL_isStep_143 (by decide) (by omega) (fun c143 => ?_) (fun c143 => ?_)
      · refine lv_iconst (v := nI 3) hx hb dL_isStep_151 (by decide) ?_
        refine kb_sR (As := [.int (y), .int (nI 3)]) (rest := []) hx hb hml hts hown hN hK hP hD hS hA (c_L_up l D y 3 (by first | assumption | omega) (by first | assumption | omega)) gL_isStep_L_up rfl ⟨rfl, rfl⟩ hdL_up.2 ⟨Nat.le_of_ble_eq_true rfl, Nat.le_of_ble_eq_true rfl⟩ [] [] rfl rfl rfl rfl rfl hl.1 (Nat.le_of_ble_eq_true rfl) dL_isStep_152 ⟨Nat.zero_le _, Nat.zero_le _⟩ (fun H locs hP hS => ?_)
        obtain ⟨j_152, hj_152, ej_152⟩ : ∃ j, j < 3 ∧ nI (upN y 3) = nI j := ⟨_, upN_lt (by omega), rfl⟩
        refine kb_top (nI j_152) ej_152 ?_
        refine lv_goto (tgt := 179) hx hb dL_isStep_155 (by decide) ?_
        refine lv_istore (lv' := [(7, .int (nI j_152)), (6, .int (nI 2)), (5, .int (nI (nK (mo_g m)))), (4, .int (x >>> (nI 4 &&& 31))), (0, .ref (a 0)), (1, .ref (b 0)), (2, .int (x)), (3, .int (y))]) hx hb dL_isStep_179 hl (by decide) rfl (fun ls hl => ?_)
        have hvb : 0 ≤ j_152 ∧ j_152 ≤ 9 := by omega
        have hri : isR 2 (nI (j_152)) = true := by show isIn _ 0 9 = true; exact isIn_i (nI_nlt (by omega) (by omega)) (nI_nlt (by omega) (by omega))
        have hnn : ¬ ((2 : Nat) = 0 ∧ nI (j_152) < nI (nT (mo_g m))) := fun z => absurd z.1 (by decide)
        by_cases hBq : gc (mo_g m) 2 = nI (j_152)
        · have hop : opS (mo_g m) (nI 2) (nI (j_152)) = (-5, (mo_g m)) := opS_4 (by decide) hri hnn hBq
          refine lv_aload_n hx hb dL_isStep_181 rfl (lv_at hl 4 rfl) ?_
          refine lv_bipush (v := nI 11) hx hb dL_isStep_182 (by decide) ?_
          refine lv_iload hx hb dL_isStep_184 (lv_at hl 1 rfl) ?_
          refine lv_iadd hx hb dL_isStep_186 ?_
          refine kb_top (nI 13) (nI_add 11 2) ?_
          refine kb_bIa (w := bW cI cC cS a) (As := [.int (nI 13)]) (rest := []) hx hb hml hts hown hN hK hP hD hS hA (b_count l D cI cC cS a hin (nI 13)) gL_isStep_X4_count rfl ⟨rfl, rfl⟩ hdX4_count ⟨(Nat.le_of_ble_eq_true rfl), (Nat.le_of_ble_eq_true rfl)⟩ [0, 1, 2] rfl (ci := 4) rfl rfl rfl (fun _ => kb_blk _ _) rfl rfl hl.1 (Nat.le_of_ble_eq_true rfl) dL_isStep_187 ⟨(Nat.le_of_ble_eq_true rfl), (Nat.le_of_ble_eq_true rfl)⟩ (fun r u_187_7 H locs hw hP hD hS => ?_)
          obtain ⟨hr_187, hin⟩ := hw
          subst hr_187
          refine kb_top (gc (mo_g m) 2) (coA_k (w := 13) (by decide)) ?_
          refine lv_istore (lv' := [(8, .int (gc (mo_g m) 2)), (7, .int (nI j_152)), (6, .int (nI 2)), (5, .int (nI (nK (mo_g m)))), (4, .int (x >>> (nI 4 &&& 31))), (0, .ref (a 0)), (1, .ref (b 0)), (2, .int (x)), (3, .int (y))]) hx hb dL_isStep_190 hl (by decide) rfl (fun ls hl => ?_)
          refine lv_aload_n hx hb dL_isStep_192 rfl (lv_at hl 5 rfl) ?_
          refine lv_iload hx hb dL_isStep_193 (lv_at hl 2 rfl) ?_
          refine lv_iload hx hb dL_isStep_195 (lv_at hl 1 rfl) ?_
          refine kb_bIa (w := bW cI cC cS a) (As := [.int (nI 2), .int (nI j_152)]) (rest := []) hx hb hml hts hown hN hK hP hD hS hA (b_set l D cI cC cS a hin (nI 2) (nI j_152)) gL_isStep_X4_set rfl ⟨rfl, rfl⟩ hdX4_set ⟨(Nat.le_of_ble_eq_true rfl), (Nat.le_of_ble_eq_true rfl)⟩ [0, 1, 2] rfl (ci := 4) rfl rfl rfl (fun _ => kb_blk _ _) rfl rfl hl.1 (Nat.le_of_ble_eq_true rfl) dL_isStep_197 ⟨(Nat.le_of_ble_eq_true rfl), (Nat.le_of_ble_eq_true rfl)⟩ (fun r u_197_7 H locs hw hP hD hS => ?_)
          obtain ⟨hr_197, hin⟩ := hw
          subst hr_197
          refine kb_top ((-5)) (congrArg Prod.fst hop) ?_
          refine lv_istore (lv' := [(9, .int ((-5))), (8, .int (gc (mo_g m) 2)), (7, .int (nI j_152)), (6, .int (nI 2)), (5, .int (nI (nK (mo_g m)))), (4, .int (x >>> (nI 4 &&& 31))), (0, .ref (a 0)), (1, .ref (b 0)), (2, .int (x)), (3, .int (y))]) hx hb dL_isStep_200 hl (by decide) rfl (fun ls hl => ?_)
          refine lv_iload hx hb dL_isStep_202 (lv_at hl 0 rfl) ?_
          refine lv_aload_n hx hb dL_isStep_204 rfl (lv_at hl 7 rfl) ?_
          refine lv_iload hx hb dL_isStep_205 (lv_at hl 3 rfl) ?_
          refine lv_iload hx hb dL_isStep_207 (lv_at hl 2 rfl) ?_
          refine kb_bIb (w := bW cI cC cS b) (As := [.int (nI 2), .int (nI j_152)]) (rest := [.int ((-5))]) hx hb hml hts hown hN hK hP hD hS hA (b_set l D cI cC cS b hip (nI 2) (nI j_152)) gL_isStep_X4_set rfl ⟨rfl, rfl⟩ hdX4_set ⟨(Nat.le_of_ble_eq_true rfl), (Nat.le_of_ble_eq_true rfl)⟩ [0, 1, 2] rfl (ci := 4) rfl rfl rfl (fun _ => kb_blk _ _) rfl rfl hl.1 (Nat.le_of_ble_eq_true rfl) dL_isStep_209 ⟨(Nat.le_of_ble_eq_true rfl), (Nat.le_of_ble_eq_true rfl)⟩ (fun r u_209_7 H locs hw hP hD hS => ?_)
          obtain ⟨hr_209, hip⟩ := hw
          subst hr_209
          refine kb_top ((-5)) (by rw [hg2, opS_d]; exact congrArg Prod.fst hop) ?_
          refine lv_icmp_ne (tgt := 258) hx hb dL_isStep_212 (by decide) (fun c212 => ?_) (fun c212 => ?_)
          · exfalso; exact c212 rfl
          · refine lv_iload hx hb dL_isStep_215 (lv_at hl 0 rfl) ?_
            refine lv_iload hx hb dL_isStep_217 (lv_at hl 3 rfl) ?_
            refine kb_nif_ne (tgt := 237) hx hb dL_isStep_219 (by decide) (by decide) (fun _ => ?_) (fun c => absurd c (by decide))
            refine lv_iload hx hb dL_isStep_237 (lv_at hl 1 rfl) ?_
            refine lv_iload hx hb dL_isStep_239 (lv_at hl 2 rfl) ?_
            refine lv_icmp_ne (tgt := 249) hx hb dL_isStep_241 (by decide) (fun c241 => ?_) (fun c241 => ?_)
            · exfalso; exact c241 hBq
            · refine lv_bipush (v := (-5)) hx hb dL_isStep_244 (by decide) ?_
              refine lv_goto (tgt := 251) hx hb dL_isStep_246 (by decide) ?_
              refine lv_icmp_ne (tgt := 258) hx hb dL_isStep_251 (by decide) (fun c251 => ?_) (fun c251 => ?_)
              · exfalso; exact c251 rfl
              · refine lv_iconst (v := nI 1) hx hb dL_isStep_254 (by decide) ?_
                refine lv_goto (tgt := 259) hx hb dL_isStep_255 (by decide) ?_
                have hPR : PR (M + 99) (moA m (opS (mo_g m) (nI 2) (nI j_152)).1 (opS (mo_g m) (nI 2) (nI j_152)).2) (moA m2 (opS (mo_g m2) (nI 2) (nI j_152)).1 (opS (mo_g m2) (nI 2) (nI j_152)).2) := (PR_opS hR _ _).mono (by omega)
                exact kb_zret (D := D) (w := fun z : KBS × KBS => bW cI cC cS a z.1 ++ bW cI cC cS b z.2) hQ hx hb hr hlocks hK hP hD hS dL_isStep_259 rfl (u_197_7, u_209_7) rfl (Nat.le_refl _) (Nat.le_refl _) ⟨rfl, _, _, hin, hip, hPR⟩
        · have hop : opS (mo_g m) (nI 2) (nI (j_152)) = (gc (mo_g m) 2, oSet (mo_g m) 2 (nI (j_152))) := opS_5 (by decide) hri hnn hBq
          refine lv_aload_n hx hb dL_isStep_181 rfl (lv_at hl 4 rfl) ?_
          refine lv_bipush (v := nI 11) hx hb dL_isStep_182 (by decide) ?_
          refine lv_iload hx hb dL_isStep_184 (lv_at hl 1 rfl) ?_
          refine lv_iadd hx hb dL_isStep_186 ?_
          refine kb_top (nI 13) (nI_add 11 2) ?_
          refine kb_bIa (w := bW cI cC cS a) (As := [.int (nI 13)]) (rest := []) hx hb hml hts hown hN hK hP hD hS hA (b_count l D cI cC cS a hin (nI 13)) gL_isStep_X4_count rfl ⟨rfl, rfl⟩ hdX4_count ⟨(Nat.le_of_ble_eq_true rfl), (Nat.le_of_ble_eq_true rfl)⟩ [0, 1, 2] rfl (ci := 4) rfl rfl rfl (fun _ => kb_blk _ _) rfl rfl hl.1 (Nat.le_of_ble_eq_true rfl) dL_isStep_187 ⟨(Nat.le_of_ble_eq_true rfl), (Nat.le_of_ble_eq_true rfl)⟩ (fun r u_187_8 H locs hw hP hD hS => ?_)
          obtain ⟨hr_187, hin⟩ := hw
          subst hr_187
          refine kb_top (gc (mo_g m) 2) (coA_k (w := 13) (by decide)) ?_
          refine lv_istore (lv' := [(8, .int (gc (mo_g m) 2)), (7, .int (nI j_152)), (6, .int (nI 2)), (5, .int (nI (nK (mo_g m)))), (4, .int (x >>> (nI 4 &&& 31))), (0, .ref (a 0)), (1, .ref (b 0)), (2, .int (x)), (3, .int (y))]) hx hb dL_isStep_190 hl (by decide) rfl (fun ls hl => ?_)
          refine lv_aload_n hx hb dL_isStep_192 rfl (lv_at hl 5 rfl) ?_
          refine lv_iload hx hb dL_isStep_193 (lv_at hl 2 rfl) ?_
          refine lv_iload hx hb dL_isStep_195 (lv_at hl 1 rfl) ?_
          refine kb_bIa (w := bW cI cC cS a) (As := [.int (nI 2), .int (nI j_152)]) (rest := []) hx hb hml hts hown hN hK hP hD hS hA (b_set l D cI cC cS a hin (nI 2) (nI j_152)) gL_isStep_X4_set rfl ⟨rfl, rfl⟩ hdX4_set ⟨(Nat.le_of_ble_eq_true rfl), (Nat.le_of_ble_eq_true rfl)⟩ [0, 1, 2] rfl (ci := 4) rfl rfl rfl (fun _ => kb_blk _ _) rfl rfl hl.1 (Nat.le_of_ble_eq_true rfl) dL_isStep_197 ⟨(Nat.le_of_ble_eq_true rfl), (Nat.le_of_ble_eq_true rfl)⟩ (fun r u_197_8 H locs hw hP hD hS => ?_)
          obtain ⟨hr_197, hin⟩ := hw
          subst hr_197
          refine kb_top (gc (mo_g m) 2) (congrArg Prod.fst hop) ?_
          refine lv_istore (lv' := [(9, .int (gc (mo_g m) 2)), (8, .int (gc (mo_g m) 2)), (7, .int (nI j_152)), (6, .int (nI 2)), (5, .int (nI (nK (mo_g m)))), (4, .int (x >>> (nI 4 &&& 31))), (0, .ref (a 0)), (1, .ref (b 0)), (2, .int (x)), (3, .int (y))]) hx hb dL_isStep_200 hl (by decide) rfl (fun ls hl => ?_)
          refine lv_iload hx hb dL_isStep_202 (lv_at hl 0 rfl) ?_
          refine lv_aload_n hx hb dL_isStep_204 rfl (lv_at hl 7 rfl) ?_
          refine lv_iload hx hb dL_isStep_205 (lv_at hl 3 rfl) ?_
          refine lv_iload hx hb dL_isStep_207 (lv_at hl 2 rfl) ?_
          refine kb_bIb (w := bW cI cC cS b) (As := [.int (nI 2), .int (nI j_152)]) (rest := [.int (gc (mo_g m) 2)]) hx hb hml hts hown hN hK hP hD hS hA (b_set l D cI cC cS b hip (nI 2) (nI j_152)) gL_isStep_X4_set rfl ⟨rfl, rfl⟩ hdX4_set ⟨(Nat.le_of_ble_eq_true rfl), (Nat.le_of_ble_eq_true rfl)⟩ [0, 1, 2] rfl (ci := 4) rfl rfl rfl (fun _ => kb_blk _ _) rfl rfl hl.1 (Nat.le_of_ble_eq_true rfl) dL_isStep_209 ⟨(Nat.le_of_ble_eq_true rfl), (Nat.le_of_ble_eq_true rfl)⟩ (fun r u_209_8 H locs hw hP hD hS => ?_)
          obtain ⟨hr_209, hip⟩ := hw
          subst hr_209
          refine kb_top (gc (mo_g m) 2) (by rw [hg2, opS_d]; exact congrArg Prod.fst hop) ?_
          refine lv_icmp_ne (tgt := 258) hx hb dL_isStep_212 (by decide) (fun c212 => ?_) (fun c212 => ?_)
          · exfalso; exact c212 rfl
          · refine lv_iload hx hb dL_isStep_215 (lv_at hl 0 rfl) ?_
            refine lv_iload hx hb dL_isStep_217 (lv_at hl 3 rfl) ?_
            refine kb_nif_ne (tgt := 237) hx hb dL_isStep_219 (by decide) (by decide) (fun _ => ?_) (fun c => absurd c (by decide))
            refine lv_iload hx hb dL_isStep_237 (lv_at hl 1 rfl) ?_
            refine lv_iload hx hb dL_isStep_239 (lv_at hl 2 rfl) ?_
            refine lv_icmp_ne (tgt := 249) hx hb dL_isStep_241 (by decide) (fun c241 => ?_) (fun c241 => ?_)
            · refine lv_iload hx hb dL_isStep_249 (lv_at hl 1 rfl) ?_
              refine lv_icmp_ne (tgt := 258) hx hb dL_isStep_251 (by decide) (fun c251 => ?_) (fun c251 => ?_)
              · exfalso; exact c251 rfl
              · refine lv_iconst (v := nI 1) hx hb dL_isStep_254 (by decide) ?_
                refine lv_goto (tgt := 259) hx hb dL_isStep_255 (by decide) ?_
                have hPR : PR (M + 99) (moA m (opS (mo_g m) (nI 2) (nI j_152)).1 (opS (mo_g m) (nI 2) (nI j_152)).2) (moA m2 (opS (mo_g m2) (nI 2) (nI j_152)).1 (opS (mo_g m2) (nI 2) (nI j_152)).2) := (PR_opS hR _ _).mono (by omega)
                exact kb_zret (D := D) (w := fun z : KBS × KBS => bW cI cC cS a z.1 ++ bW cI cC cS b z.2) hQ hx hb hr hlocks hK hP hD hS dL_isStep_259 rfl (u_197_8, u_209_8) rfl (Nat.le_refl _) (Nat.le_refl _) ⟨rfl, _, _, hin, hip, hPR⟩
            · exfalso; exact hBq c241
      · refine lv_bipush (v := nI 10) hx hb dL_isStep_146 (by decide) ?_
        refine lv_goto (tgt := 152) hx hb dL_isStep_148 (by decide) ?_
        refine kb_sR (As := [.int (y), .int (nI 10)]) (rest := []) hx hb hml hts hown hN hK hP hD hS hA (c_L_up l D y 10 (by first | assumption | omega) (by first | assumption | omega)) gL_isStep_L_up rfl ⟨rfl, rfl⟩ hdL_up.2 ⟨Nat.le_of_ble_eq_true rfl, Nat.le_of_ble_eq_true rfl⟩ [] [] rfl rfl rfl rfl rfl hl.1 (Nat.le_of_ble_eq_true rfl) dL_isStep_152 ⟨Nat.zero_le _, Nat.zero_le _⟩ (fun H locs hP hS => ?_)
        obtain ⟨j_152_1, hj_152_1, ej_152_1⟩ : ∃ j, j < 10 ∧ nI (upN y 10) = nI j := ⟨_, upN_lt (by omega), rfl⟩
        refine kb_top (nI j_152_1) ej_152_1 ?_
        refine lv_goto (tgt := 179) hx hb dL_isStep_155 (by decide) ?_
        refine lv_istore (lv' := [(7, .int (nI j_152_1)), (6, .int (nI 2)), (5, .int (nI (nK (mo_g m)))), (4, .int (x >>> (nI 4 &&& 31))), (0, .ref (a 0)), (1, .ref (b 0)), (2, .int (x)), (3, .int (y))]) hx hb dL_isStep_179 hl (by decide) rfl (fun ls hl => ?_)
        have hvb : 0 ≤ j_152_1 ∧ j_152_1 ≤ 9 := by omega
        have hri : isR 2 (nI (j_152_1)) = true := by show isIn _ 0 9 = true; exact isIn_i (nI_nlt (by omega) (by omega)) (nI_nlt (by omega) (by omega))
        have hnn : ¬ ((2 : Nat) = 0 ∧ nI (j_152_1) < nI (nT (mo_g m))) := fun z => absurd z.1 (by decide)
        by_cases hBq : gc (mo_g m) 2 = nI (j_152_1)
        · have hop : opS (mo_g m) (nI 2) (nI (j_152_1)) = (-5, (mo_g m)) := opS_4 (by decide) hri hnn hBq
          refine lv_aload_n hx hb dL_isStep_181 rfl (lv_at hl 4 rfl) ?_
          refine lv_bipush (v := nI 11) hx hb dL_isStep_182 (by decide) ?_
          refine lv_iload hx hb dL_isStep_184 (lv_at hl 1 rfl) ?_
          refine lv_iadd hx hb dL_isStep_186 ?_
          refine kb_top (nI 13) (nI_add 11 2) ?_
          refine kb_bIa (w := bW cI cC cS a) (As := [.int (nI 13)]) (rest := []) hx hb hml hts hown hN hK hP hD hS hA (b_count l D cI cC cS a hin (nI 13)) gL_isStep_X4_count rfl ⟨rfl, rfl⟩ hdX4_count ⟨(Nat.le_of_ble_eq_true rfl), (Nat.le_of_ble_eq_true rfl)⟩ [0, 1, 2] rfl (ci := 4) rfl rfl rfl (fun _ => kb_blk _ _) rfl rfl hl.1 (Nat.le_of_ble_eq_true rfl) dL_isStep_187 ⟨(Nat.le_of_ble_eq_true rfl), (Nat.le_of_ble_eq_true rfl)⟩ (fun r u_187_9 H locs hw hP hD hS => ?_)
          obtain ⟨hr_187, hin⟩ := hw
          subst hr_187
          refine kb_top (gc (mo_g m) 2) (coA_k (w := 13) (by decide)) ?_
          refine lv_istore (lv' := [(8, .int (gc (mo_g m) 2)), (7, .int (nI j_152_1)), (6, .int (nI 2)), (5, .int (nI (nK (mo_g m)))), (4, .int (x >>> (nI 4 &&& 31))), (0, .ref (a 0)), (1, .ref (b 0)), (2, .int (x)), (3, .int (y))]) hx hb dL_isStep_190 hl (by decide) rfl (fun ls hl => ?_)
          refine lv_aload_n hx hb dL_isStep_192 rfl (lv_at hl 5 rfl) ?_
          refine lv_iload hx hb dL_isStep_193 (lv_at hl 2 rfl) ?_
          refine lv_iload hx hb dL_isStep_195 (lv_at hl 1 rfl) ?_
          refine kb_bIa (w := bW cI cC cS a) (As := [.int (nI 2), .int (nI j_152_1)]) (rest := []) hx hb hml hts hown hN hK hP hD hS hA (b_set l D cI cC cS a hin (nI 2) (nI j_152_1)) gL_isStep_X4_set rfl ⟨rfl, rfl⟩ hdX4_set ⟨(Nat.le_of_ble_eq_true rfl), (Nat.le_of_ble_eq_true rfl)⟩ [0, 1, 2] rfl (ci := 4) rfl rfl rfl (fun _ => kb_blk _ _) rfl rfl hl.1 (Nat.le_of_ble_eq_true rfl) dL_isStep_197 ⟨(Nat.le_of_ble_eq_true rfl), (Nat.le_of_ble_eq_true rfl)⟩ (fun r u_197_9 H locs hw hP hD hS => ?_)
          obtain ⟨hr_197, hin⟩ := hw
          subst hr_197
          refine kb_top ((-5)) (congrArg Prod.fst hop) ?_
          refine lv_istore (lv' := [(9, .int ((-5))), (8, .int (gc (mo_g m) 2)), (7, .int (nI j_152_1)), (6, .int (nI 2)), (5, .int (nI (nK (mo_g m)))), (4, .int (x >>> (nI 4 &&& 31))), (0, .ref (a 0)), (1, .ref (b 0)), (2, .int (x)), (3, .int (y))]) hx hb dL_isStep_200 hl (by decide) rfl (fun ls hl => ?_)
          refine lv_iload hx hb dL_isStep_202 (lv_at hl 0 rfl) ?_
          refine lv_aload_n hx hb dL_isStep_204 rfl (lv_at hl 7 rfl) ?_
          refine lv_iload hx hb dL_isStep_205 (lv_at hl 3 rfl) ?_
          refine lv_iload hx hb dL_isStep_207 (lv_at hl 2 rfl) ?_
          refine kb_bIb (w := bW cI cC cS b) (As := [.int (nI 2), .int (nI j_152_1)]) (rest := [.int ((-5))]) hx hb hml hts hown hN hK hP hD hS hA (b_set l D cI cC cS b hip (nI 2) (nI j_152_1)) gL_isStep_X4_set rfl ⟨rfl, rfl⟩ hdX4_set ⟨(Nat.le_of_ble_eq_true rfl), (Nat.le_of_ble_eq_true rfl)⟩ [0, 1, 2] rfl (ci := 4) rfl rfl rfl (fun _ => kb_blk _ _) rfl rfl hl.1 (Nat.le_of_ble_eq_true rfl) dL_isStep_209 ⟨(Nat.le_of_ble_eq_true rfl), (Nat.le_of_ble_eq_true rfl)⟩ (fun r u_209_9 H locs hw hP hD hS => ?_)
          obtain ⟨hr_209, hip⟩ := hw
          subst hr_209
          refine kb_top ((-5)) (by rw [hg2, opS_d]; exact congrArg Prod.fst hop) ?_
          refine lv_icmp_ne (tgt := 258) hx hb dL_isStep_212 (by decide) (fun c212 => ?_) (fun c212 => ?_)
          · exfalso; exact c212 rfl
          · refine lv_iload hx hb dL_isStep_215 (lv_at hl 0 rfl) ?_
            refine lv_iload hx hb dL_isStep_217 (lv_at hl 3 rfl) ?_
            refine kb_nif_ne (tgt := 237) hx hb dL_isStep_219 (by decide) (by decide) (fun _ => ?_) (fun c => absurd c (by decide))
            refine lv_iload hx hb dL_isStep_237 (lv_at hl 1 rfl) ?_
            refine lv_iload hx hb dL_isStep_239 (lv_at hl 2 rfl) ?_
            refine lv_icmp_ne (tgt := 249) hx hb dL_isStep_241 (by decide) (fun c241 => ?_) (fun c241 => ?_)
            · exfalso; exact c241 hBq
            · refine lv_bipush (v := (-5)) hx hb dL_isStep_244 (by decide) ?_
              refine lv_goto (tgt := 251) hx hb dL_isStep_246 (by decide) ?_
              refine lv_icmp_ne (tgt := 258) hx hb dL_isStep_251 (by decide) (fun c251 => ?_) (fun c251 => ?_)
              · exfalso; exact c251 rfl
              · refine lv_iconst (v := nI 1) hx hb dL_isStep_254 (by decide) ?_
                refine lv_goto (tgt := 259) hx hb dL_isStep_255 (by decide) ?_
                have hPR : PR (M + 99) (moA m (opS (mo_g m) (nI 2) (nI j_152_1)).1 (opS (mo_g m) (nI 2) (nI j_152_1)).2) (moA m2 (opS (mo_g m2) (nI 2) (nI j_152_1)).1 (opS (mo_g m2) (nI 2) (nI j_152_1)).2) := (PR_opS hR _ _).mono (by omega)
                exact kb_zret (D := D) (w := fun z : KBS × KBS => bW cI cC cS a z.1 ++ bW cI cC cS b z.2) hQ hx hb hr hlocks hK hP hD hS dL_isStep_259 rfl (u_197_9, u_209_9) rfl (Nat.le_refl _) (Nat.le_refl _) ⟨rfl, _, _, hin, hip, hPR⟩
        · have hop : opS (mo_g m) (nI 2) (nI (j_152_1)) = (gc (mo_g m) 2, oSet (mo_g m) 2 (nI (j_152_1))) := opS_5 (by decide) hri hnn hBq
          refine lv_aload_n hx hb dL_isStep_181 rfl (lv_at hl 4 rfl) ?_
          refine lv_bipush (v := nI 11) hx hb dL_isStep_182 (by decide) ?_
          refine lv_iload hx hb dL_isStep_184 (lv_at hl 1 rfl) ?_
          refine lv_iadd hx hb dL_isStep_186 ?_
          refine kb_top (nI 13) (nI_add 11 2) ?_
          refine kb_bIa (w := bW cI cC cS a) (As := [.int (nI 13)]) (rest := []) hx hb hml hts hown hN hK hP hD hS hA (b_count l D cI cC cS a hin (nI 13)) gL_isStep_X4_count rfl ⟨rfl, rfl⟩ hdX4_count ⟨(Nat.le_of_ble_eq_true rfl), (Nat.le_of_ble_eq_true rfl)⟩ [0, 1, 2] rfl (ci := 4) rfl rfl rfl (fun _ => kb_blk _ _) rfl rfl hl.1 (Nat.le_of_ble_eq_true rfl) dL_isStep_187 ⟨(Nat.le_of_ble_eq_true rfl), (Nat.le_of_ble_eq_true rfl)⟩ (fun r u_187_10 H locs hw hP hD hS => ?_)
          obtain ⟨hr_187, hin⟩ := hw
          subst hr_187
          refine kb_top (gc (mo_g m) 2) (coA_k (w := 13) (by decide)) ?_
          refine lv_istore (lv' := [(8, .int (gc (mo_g m) 2)), (7, .int (nI j_152_1)), (6, .int (nI 2)), (5, .int (nI (nK (mo_g m)))), (4, .int (x >>> (nI 4 &&& 31))), (0, .ref (a 0)), (1, .ref (b 0)), (2, .int (x)), (3, .int (y))]) hx hb dL_isStep_190 hl (by decide) rfl (fun ls hl => ?_)
          refine lv_aload_n hx hb dL_isStep_192 rfl (lv_at hl 5 rfl) ?_
          refine lv_iload hx hb dL_isStep_193 (lv_at hl 2 rfl) ?_
          refine lv_iload hx hb dL_isStep_195 (lv_at hl 1 rfl) ?_
          refine kb_bIa (w := bW cI cC cS a) (As := [.int (nI 2), .int (nI j_152_1)]) (rest := []) hx hb hml hts hown hN hK hP hD hS hA (b_set l D cI cC cS a hin (nI 2) (nI j_152_1)) gL_isStep_X4_set rfl ⟨rfl, rfl⟩ hdX4_set ⟨(Nat.le_of_ble_eq_true rfl), (Nat.le_of_ble_eq_true rfl)⟩ [0, 1, 2] rfl (ci := 4) rfl rfl rfl (fun _ => kb_blk _ _) rfl rfl hl.1 (Nat.le_of_ble_eq_true rfl) dL_isStep_197 ⟨(Nat.le_of_ble_eq_true rfl), (Nat.le_of_ble_eq_true rfl)⟩ (fun r u_197_10 H locs hw hP hD hS => ?_)
          obtain ⟨hr_197, hin⟩ := hw
          subst hr_197
          refine kb_top (gc (mo_g m) 2) (congrArg Prod.fst hop) ?_
          refine lv_istore (lv' := [(9, .int (gc (mo_g m) 2)), (8, .int (gc (mo_g m) 2)), (7, .int (nI j_152_1)), (6, .int (nI 2)), (5, .int (nI (nK (mo_g m)))), (4, .int (x >>> (nI 4 &&& 31))), (0, .ref (a 0)), (1, .ref (b 0)), (2, .int (x)), (3, .int (y))]) hx hb dL_isStep_200 hl (by decide) rfl (fun ls hl => ?_)
          refine lv_iload hx hb dL_isStep_202 (lv_at hl 0 rfl) ?_
          refine lv_aload_n hx hb dL_isStep_204 rfl (lv_at hl 7 rfl) ?_
          refine lv_iload hx hb dL_isStep_205 (lv_at hl 3 rfl) ?_
          refine lv_iload hx hb dL_isStep_207 (lv_at hl 2 rfl) ?_
          refine kb_bIb (w := bW cI cC cS b) (As := [.int (nI 2), .int (nI j_152_1)]) (rest := [.int (gc (mo_g m) 2)]) hx hb hml hts hown hN hK hP hD hS hA (b_set l D cI cC cS b hip (nI 2) (nI j_152_1)) gL_isStep_X4_set rfl ⟨rfl, rfl⟩ hdX4_set ⟨(Nat.le_of_ble_eq_true rfl), (Nat.le_of_ble_eq_true rfl)⟩ [0, 1, 2] rfl (ci := 4) rfl rfl rfl (fun _ => kb_blk _ _) rfl rfl hl.1 (Nat.le_of_ble_eq_true rfl) dL_isStep_209 ⟨(Nat.le_of_ble_eq_true rfl), (Nat.le_of_ble_eq_true rfl)⟩ (fun r u_209_10 H locs hw hP hD hS => ?_)
          obtain ⟨hr_209, hip⟩ := hw
          subst hr_209
          refine kb_top (gc (mo_g m) 2) (by rw [hg2, opS_d]; exact congrArg Prod.fst hop) ?_
          refine lv_icmp_ne (tgt := 258) hx hb dL_isStep_212 (by decide) (fun c212 => ?_) (fun c212 => ?_)
          · exfalso; exact c212 rfl
          · refine lv_iload hx hb dL_isStep_215 (lv_at hl 0 rfl) ?_
            refine lv_iload hx hb dL_isStep_217 (lv_at hl 3 rfl) ?_
            refine kb_nif_ne (tgt := 237) hx hb dL_isStep_219 (by decide) (by decide) (fun _ => ?_) (fun c => absurd c (by decide))
            refine lv_iload hx hb dL_isStep_237 (lv_at hl 1 rfl) ?_
            refine lv_iload hx hb dL_isStep_239 (lv_at hl 2 rfl) ?_
            refine lv_icmp_ne (tgt := 249) hx hb dL_isStep_241 (by decide) (fun c241 => ?_) (fun c241 => ?_)
            · refine lv_iload hx hb dL_isStep_249 (lv_at hl 1 rfl) ?_
              refine lv_icmp_ne (tgt := 258) hx hb dL_isStep_251 (by decide) (fun c251 => ?_) (fun c251 => ?_)
              · exfalso; exact c251 rfl
              · refine lv_iconst (v := nI 1) hx hb dL_isStep_254 (by decide) ?_
                refine lv_goto (tgt := 259) hx hb dL_isStep_255 (by decide) ?_
                have hPR : PR (M + 99) (moA m (opS (mo_g m) (nI 2) (nI j_152_1)).1 (opS (mo_g m) (nI 2) (nI j_152_1)).2) (moA m2 (opS (mo_g m2) (nI 2) (nI j_152_1)).1 (opS (mo_g m2) (nI 2) (nI j_152_1)).2) := (PR_opS hR _ _).mono (by omega)
                exact kb_zret (D := D) (w := fun z : KBS × KBS => bW cI cC cS a z.1 ++ bW cI cC cS b z.2) hQ hx hb hr hlocks hK hP hD hS dL_isStep_259 rfl (u_197_10, u_209_10) rfl (Nat.le_refl _) (Nat.le_refl _) ⟨rfl, _, _, hin, hip, hPR⟩
            · exfalso; exact hBq c241
    · refine lv_iload hx hb dL_isStep_84 (lv_at hl 0 rfl) ?_
      refine kb_nif_ne (tgt := 100) hx hb dL_isStep_86 (by decide) (by decide) (fun _ => ?_) (fun c => absurd c (by decide))
      refine lv_iload hx hb dL_isStep_100 (lv_at hl 0 rfl) ?_
      refine lv_iconst (v := nI 1) hx hb dL_isStep_102 (by decide) ?_
      refine kb_icmp_ne (tgt := 130) hx hb dL_isStep_103 (by decide) (by decide) (by decide) (fun _ => ?_) (fun c => absurd c (by decide))
      refine lv_iload hx hb dL_isStep_130 (lv_at hl 0 rfl) ?_
      refine lv_iconst (v := nI 2) hx hb dL_isStep_132 (by decide) ?_
      refine kb_icmp_ne (tgt := 158) hx hb dL_isStep_133 (by decide) (by decide) (by decide) (fun _ => ?_) (fun c => absurd c (by decide))
      refine lv_iconst (v := nI 1) hx hb dL_isStep_158 (by decide) ?_
      refine lv_iload_n hx hb dL_isStep_159 rfl (lv_at hl 6 rfl) ?_
      refine lv_iload hx hb dL_isStep_160 (lv_at hl 2 rfl) ?_
      refine lv_iconst (v := nI 2) hx hb dL_isStep_162 (by decide) ?_
      refine kb_sR (As := [.int (x >>> (nI 4 &&& 31)), .int (nI 2)]) (rest := [.int (y), .int (nI 1)]) hx hb hml hts hown hN hK hP hD hS hA (c_L_up l D (x >>> (nI 4 &&& 31)) 2 (by first | assumption | omega) (by first | assumption | omega)) gL_isStep_L_up rfl ⟨rfl, rfl⟩ hdL_up.2 ⟨Nat.le_of_ble_eq_true rfl, Nat.le_of_ble_eq_true rfl⟩ [] [] rfl rfl rfl rfl rfl hl.1 (Nat.le_of_ble_eq_true rfl) dL_isStep_163 ⟨Nat.zero_le _, Nat.zero_le _⟩ (fun H locs hP hS => ?_)
      obtain ⟨j_163, hj_163, ej_163⟩ : ∃ j, j < 2 ∧ nI (upN (x >>> (nI 4 &&& 31)) 2) = nI j := ⟨_, upN_lt (by omega), rfl⟩
      refine kb_top (nI j_163) ej_163 ?_
      refine kb_nif_ne (tgt := 174) hx hb dL_isStep_166 (by decide) (by omega) (fun c166 => ?_) (fun c166 => ?_)
      · refine lv_iconst (v := nI 2) hx hb dL_isStep_174 (by decide) ?_
        refine kb_sR (As := [.int (y), .int (nI 2)]) (rest := [.int (nI 1)]) hx hb hml hts hown hN hK hP hD hS hA (c_L_up l D y 2 (by first | assumption | omega) (by first | assumption | omega)) gL_isStep_L_up rfl ⟨rfl, rfl⟩ hdL_up.2 ⟨Nat.le_of_ble_eq_true rfl, Nat.le_of_ble_eq_true rfl⟩ [] [] rfl rfl rfl rfl rfl hl.1 (Nat.le_of_ble_eq_true rfl) dL_isStep_175 ⟨Nat.zero_le _, Nat.zero_le _⟩ (fun H locs hP hS => ?_)
        obtain ⟨j_175, hj_175, ej_175⟩ : ∃ j, j < 2 ∧ nI (upN y 2) = nI j := ⟨_, upN_lt (by omega), rfl⟩
        refine kb_top (nI j_175) ej_175 ?_
        refine lv_iadd hx hb dL_isStep_178 ?_
        refine kb_top (nI (1 + j_175)) (nI_add 1 j_175) ?_
        refine lv_istore (lv' := [(7, .int (nI (1 + j_175))), (6, .int (nI 3)), (5, .int (nI (nK (mo_g m)))), (4, .int (x >>> (nI 4 &&& 31))), (0, .ref (a 0)), (1, .ref (b 0)), (2, .int (x)), (3, .int (y))]) hx hb dL_isStep_179 hl (by decide) rfl (fun ls hl => ?_)
        have hvb : 1 ≤ 1 + j_175 ∧ 1 + j_175 ≤ 9 := by omega
        have hri : isR 3 (nI (1 + j_175)) = true := by show isIn _ 1 9 = true; exact isIn_i (nI_nlt (by omega) (by omega)) (nI_nlt (by omega) (by omega))
        have hnn : ¬ ((3 : Nat) = 0 ∧ nI (1 + j_175) < nI (nT (mo_g m))) := fun z => absurd z.1 (by decide)
        by_cases hBq : gc (mo_g m) 3 = nI (1 + j_175)
        · have hop : opS (mo_g m) (nI 3) (nI (1 + j_175)) = (-5, (mo_g m)) := opS_4 (by decide) hri hnn hBq
          refine lv_aload_n hx hb dL_isStep_181 rfl (lv_at hl 4 rfl) ?_
          refine lv_bipush (v := nI 11) hx hb dL_isStep_182 (by decide) ?_
          refine lv_iload hx hb dL_isStep_184 (lv_at hl 1 rfl) ?_
          refine lv_iadd hx hb dL_isStep_186 ?_
          refine kb_top (nI 14) (nI_add 11 3) ?_
          refine kb_bIa (w := bW cI cC cS a) (As := [.int (nI 14)]) (rest := []) hx hb hml hts hown hN hK hP hD hS hA (b_count l D cI cC cS a hin (nI 14)) gL_isStep_X4_count rfl ⟨rfl, rfl⟩ hdX4_count ⟨(Nat.le_of_ble_eq_true rfl), (Nat.le_of_ble_eq_true rfl)⟩ [0, 1, 2] rfl (ci := 4) rfl rfl rfl (fun _ => kb_blk _ _) rfl rfl hl.1 (Nat.le_of_ble_eq_true rfl) dL_isStep_187 ⟨(Nat.le_of_ble_eq_true rfl), (Nat.le_of_ble_eq_true rfl)⟩ (fun r u_187_11 H locs hw hP hD hS => ?_)
          obtain ⟨hr_187, hin⟩ := hw
          subst hr_187
          refine kb_top (gc (mo_g m) 3) (coA_k (w := 14) (by decide)) ?_
          refine lv_istore (lv' := [(8, .int (gc (mo_g m) 3)), (7, .int (nI (1 + j_175))), (6, .int (nI 3)), (5, .int (nI (nK (mo_g m)))), (4, .int (x >>> (nI 4 &&& 31))), (0, .ref (a 0)), (1, .ref (b 0)), (2, .int (x)), (3, .int (y))]) hx hb dL_isStep_190 hl (by decide) rfl (fun ls hl => ?_)
          refine lv_aload_n hx hb dL_isStep_192 rfl (lv_at hl 5 rfl) ?_
          refine lv_iload hx hb dL_isStep_193 (lv_at hl 2 rfl) ?_
          refine lv_iload hx hb dL_isStep_195 (lv_at hl 1 rfl) ?_
          refine kb_bIa (w := bW cI cC cS a) (As := [.int (nI 3), .int (nI (1 + j_175))]) (rest := []) hx hb hml hts hown hN hK hP hD hS hA (b_set l D cI cC cS a hin (nI 3) (nI (1 + j_175))) gL_isStep_X4_set rfl ⟨rfl, rfl⟩ hdX4_set ⟨(Nat.le_of_ble_eq_true rfl), (Nat.le_of_ble_eq_true rfl)⟩ [0, 1, 2] rfl (ci := 4) rfl rfl rfl (fun _ => kb_blk _ _) rfl rfl hl.1 (Nat.le_of_ble_eq_true rfl) dL_isStep_197 ⟨(Nat.le_of_ble_eq_true rfl), (Nat.le_of_ble_eq_true rfl)⟩ (fun r u_197_11 H locs hw hP hD hS => ?_)
          obtain ⟨hr_197, hin⟩ := hw
          subst hr_197
          refine kb_top ((-5)) (congrArg Prod.fst hop) ?_
          refine lv_istore (lv' := [(9, .int ((-5))), (8, .int (gc (mo_g m) 3)), (7, .int (nI (1 + j_175))), (6, .int (nI 3)), (5, .int (nI (nK (mo_g m)))), (4, .int (x >>> (nI 4 &&& 31))), (0, .ref (a 0)), (1, .ref (b 0)), (2, .int (x)), (3, .int (y))]) hx hb dL_isStep_200 hl (by decide) rfl (fun ls hl => ?_)
          refine lv_iload hx hb dL_isStep_202 (lv_at hl 0 rfl) ?_
          refine lv_aload_n hx hb dL_isStep_204 rfl (lv_at hl 7 rfl) ?_
          refine lv_iload hx hb dL_isStep_205 (lv_at hl 3 rfl) ?_
          refine lv_iload hx hb dL_isStep_207 (lv_at hl 2 rfl) ?_
          refine kb_bIb (w := bW cI cC cS b) (As := [.int (nI 3), .int (nI (1 + j_175))]) (rest := [.int ((-5))]) hx hb hml hts hown hN hK hP hD hS hA (b_set l D cI cC cS b hip (nI 3) (nI (1 + j_175))) gL_isStep_X4_set rfl ⟨rfl, rfl⟩ hdX4_set ⟨(Nat.le_of_ble_eq_true rfl), (Nat.le_of_ble_eq_true rfl)⟩ [0, 1, 2] rfl (ci := 4) rfl rfl rfl (fun _ => kb_blk _ _) rfl rfl hl.1 (Nat.le_of_ble_eq_true rfl) dL_isStep_209 ⟨(Nat.le_of_ble_eq_true rfl), (Nat.le_of_ble_eq_true rfl)⟩ (fun r u_209_11 H locs hw hP hD hS => ?_)
          obtain ⟨hr_209, hip⟩ := hw
          subst hr_209
          refine kb_top ((-5)) (by rw [hg2, opS_d]; exact congrArg Prod.fst hop) ?_
          refine lv_icmp_ne (tgt := 258) hx hb dL_isStep_212 (by decide) (fun c212 => ?_) (fun c212 => ?_)
          · exfalso; exact c212 rfl
          · refine lv_iload hx hb dL_isStep_215 (lv_at hl 0 rfl) ?_
            refine lv_iload hx hb dL_isStep_217 (lv_at hl 3 rfl) ?_
            refine kb_nif_ne (tgt := 237) hx hb dL_isStep_219 (by decide) (by decide) (fun _ => ?_) (fun c => absurd c (by decide))
            refine lv_iload hx hb dL_isStep_237 (lv_at hl 1 rfl) ?_
            refine lv_iload hx hb dL_isStep_239 (lv_at hl 2 rfl) ?_
            refine lv_icmp_ne (tgt := 249) hx hb dL_isStep_241 (by decide) (fun c241 => ?_) (fun c241 => ?_)
            · exfalso; exact c241 hBq
            · refine lv_bipush (v := (-5)) hx hb dL_isStep_244 (by decide) ?_
              refine lv_goto (tgt := 251) hx hb dL_isStep_246 (by decide) ?_
              refine lv_icmp_ne (tgt := 258) hx hb dL_isStep_251 (by decide) (fun c251 => ?_) (fun c251 => ?_)
              · exfalso; exact c251 rfl
              · refine lv_iconst (v := nI 1) hx hb dL_isStep_254 (by decide) ?_
                refine lv_goto (tgt := 259) hx hb dL_isStep_255 (by decide) ?_
                have hPR : PR (M + 99) (moA m (opS (mo_g m) (nI 3) (nI (1 + j_175))).1 (opS (mo_g m) (nI 3) (nI (1 + j_175))).2) (moA m2 (opS (mo_g m2) (nI 3) (nI (1 + j_175))).1 (opS (mo_g m2) (nI 3) (nI (1 + j_175))).2) := (PR_opS hR _ _).mono (by omega)
                exact kb_zret (D := D) (w := fun z : KBS × KBS => bW cI cC cS a z.1 ++ bW cI cC cS b z.2) hQ hx hb hr hlocks hK hP hD hS dL_isStep_259 rfl (u_197_11, u_209_11) rfl (Nat.le_refl _) (Nat.le_refl _) ⟨rfl, _, _, hin, hip, hPR⟩
        · have hop : opS (mo_g m) (nI 3) (nI (1 + j_175)) = (gc (mo_g m) 3, oSet (mo_g m) 3 (nI (1 + j_175))) := opS_5 (by decide) hri hnn hBq
          refine lv_aload_n hx hb dL_isStep_181 rfl (lv_at hl 4 rfl) ?_
          refine lv_bipush (v := nI 11) hx hb dL_isStep_182 (by decide) ?_
          refine lv_iload hx hb dL_isStep_184 (lv_at hl 1 rfl) ?_
          refine lv_iadd hx hb dL_isStep_186 ?_
          refine kb_top (nI 14) (nI_add 11 3) ?_
          refine kb_bIa (w := bW cI cC cS a) (As := [.int (nI 14)]) (rest := []) hx hb hml hts hown hN hK hP hD hS hA (b_count l D cI cC cS a hin (nI 14)) gL_isStep_X4_count rfl ⟨rfl, rfl⟩ hdX4_count ⟨(Nat.le_of_ble_eq_true rfl), (Nat.le_of_ble_eq_true rfl)⟩ [0, 1, 2] rfl (ci := 4) rfl rfl rfl (fun _ => kb_blk _ _) rfl rfl hl.1 (Nat.le_of_ble_eq_true rfl) dL_isStep_187 ⟨(Nat.le_of_ble_eq_true rfl), (Nat.le_of_ble_eq_true rfl)⟩ (fun r u_187_12 H locs hw hP hD hS => ?_)
          obtain ⟨hr_187, hin⟩ := hw
          subst hr_187
          refine kb_top (gc (mo_g m) 3) (coA_k (w := 14) (by decide)) ?_
          refine lv_istore (lv' := [(8, .int (gc (mo_g m) 3)), (7, .int (nI (1 + j_175))), (6, .int (nI 3)), (5, .int (nI (nK (mo_g m)))), (4, .int (x >>> (nI 4 &&& 31))), (0, .ref (a 0)), (1, .ref (b 0)), (2, .int (x)), (3, .int (y))]) hx hb dL_isStep_190 hl (by decide) rfl (fun ls hl => ?_)
          refine lv_aload_n hx hb dL_isStep_192 rfl (lv_at hl 5 rfl) ?_
          refine lv_iload hx hb dL_isStep_193 (lv_at hl 2 rfl) ?_
          refine lv_iload hx hb dL_isStep_195 (lv_at hl 1 rfl) ?_
          refine kb_bIa (w := bW cI cC cS a) (As := [.int (nI 3), .int (nI (1 + j_175))]) (rest := []) hx hb hml hts hown hN hK hP hD hS hA (b_set l D cI cC cS a hin (nI 3) (nI (1 + j_175))) gL_isStep_X4_set rfl ⟨rfl, rfl⟩ hdX4_set ⟨(Nat.le_of_ble_eq_true rfl), (Nat.le_of_ble_eq_true rfl)⟩ [0, 1, 2] rfl (ci := 4) rfl rfl rfl (fun _ => kb_blk _ _) rfl rfl hl.1 (Nat.le_of_ble_eq_true rfl) dL_isStep_197 ⟨(Nat.le_of_ble_eq_true rfl), (Nat.le_of_ble_eq_true rfl)⟩ (fun r u_197_12 H locs hw hP hD hS => ?_)
          obtain ⟨hr_197, hin⟩ := hw
          subst hr_197
          refine kb_top (gc (mo_g m) 3) (congrArg Prod.fst hop) ?_
          refine lv_istore (lv' := [(9, .int (gc (mo_g m) 3)), (8, .int (gc (mo_g m) 3)), (7, .int (nI (1 + j_175))), (6, .int (nI 3)), (5, .int (nI (nK (mo_g m)))), (4, .int (x >>> (nI 4 &&& 31))), (0, .ref (a 0)), (1, .ref (b 0)), (2, .int (x)), (3, .int (y))]) hx hb dL_isStep_200 hl (by decide) rfl (fun ls hl => ?_)
          refine lv_iload hx hb dL_isStep_202 (lv_at hl 0 rfl) ?_
          refine lv_aload_n hx hb dL_isStep_204 rfl (lv_at hl 7 rfl) ?_
          refine lv_iload hx hb dL_isStep_205 (lv_at hl 3 rfl) ?_
          refine lv_iload hx hb dL_isStep_207 (lv_at hl 2 rfl) ?_
          refine kb_bIb (w := bW cI cC cS b) (As := [.int (nI 3), .int (nI (1 + j_175))]) (rest := [.int (gc (mo_g m) 3)]) hx hb hml hts hown hN hK hP hD hS hA (b_set l D cI cC cS b hip (nI 3) (nI (1 + j_175))) gL_isStep_X4_set rfl ⟨rfl, rfl⟩ hdX4_set ⟨(Nat.le_of_ble_eq_true rfl), (Nat.le_of_ble_eq_true rfl)⟩ [0, 1, 2] rfl (ci := 4) rfl rfl rfl (fun _ => kb_blk _ _) rfl rfl hl.1 (Nat.le_of_ble_eq_true rfl) dL_isStep_209 ⟨(Nat.le_of_ble_eq_true rfl), (Nat.le_of_ble_eq_true rfl)⟩ (fun r u_209_12 H locs hw hP hD hS => ?_)
          obtain ⟨hr_209, hip⟩ := hw
          subst hr_209
          refine kb_top (gc (mo_g m) 3) (by rw [hg2, opS_d]; exact congrArg Prod.fst hop) ?_
          refine lv_icmp_ne (tgt := 258) hx hb dL_isStep_212 (by decide) (fun c212 => ?_) (fun c212 => ?_)
          · exfalso; exact c212 rfl
          · refine lv_iload hx hb dL_isStep_215 (lv_at hl 0 rfl) ?_
            refine lv_iload hx hb dL_isStep_217 (lv_at hl 3 rfl) ?_
            refine kb_nif_ne (tgt := 237) hx hb dL_isStep_219 (by decide) (by decide) (fun _ => ?_) (fun c => absurd c (by decide))
            refine lv_iload hx hb dL_isStep_237 (lv_at hl 1 rfl) ?_
            refine lv_iload hx hb dL_isStep_239 (lv_at hl 2 rfl) ?_
            refine lv_icmp_ne (tgt := 249) hx hb dL_isStep_241 (by decide) (fun c241 => ?_) (fun c241 => ?_)
            · refine lv_iload hx hb dL_isStep_249 (lv_at hl 1 rfl) ?_
              refine lv_icmp_ne (tgt := 258) hx hb dL_isStep_251 (by decide) (fun c251 => ?_) (fun c251 => ?_)
              · exfalso; exact c251 rfl
              · refine lv_iconst (v := nI 1) hx hb dL_isStep_254 (by decide) ?_
                refine lv_goto (tgt := 259) hx hb dL_isStep_255 (by decide) ?_
                have hPR : PR (M + 99) (moA m (opS (mo_g m) (nI 3) (nI (1 + j_175))).1 (opS (mo_g m) (nI 3) (nI (1 + j_175))).2) (moA m2 (opS (mo_g m2) (nI 3) (nI (1 + j_175))).1 (opS (mo_g m2) (nI 3) (nI (1 + j_175))).2) := (PR_opS hR _ _).mono (by omega)
                exact kb_zret (D := D) (w := fun z : KBS × KBS => bW cI cC cS a z.1 ++ bW cI cC cS b z.2) hQ hx hb hr hlocks hK hP hD hS dL_isStep_259 rfl (u_197_12, u_209_12) rfl (Nat.le_refl _) (Nat.le_refl _) ⟨rfl, _, _, hin, hip, hPR⟩
            · exfalso; exact hBq c241
      · refine lv_bipush (v := nI 9) hx hb dL_isStep_169 (by decide) ?_
        refine lv_goto (tgt := 175) hx hb dL_isStep_171 (by decide) ?_
        refine kb_sR (As := [.int (y), .int (nI 9)]) (rest := [.int (nI 1)]) hx hb hml hts hown hN hK hP hD hS hA (c_L_up l D y 9 (by first | assumption | omega) (by first | assumption | omega)) gL_isStep_L_up rfl ⟨rfl, rfl⟩ hdL_up.2 ⟨Nat.le_of_ble_eq_true rfl, Nat.le_of_ble_eq_true rfl⟩ [] [] rfl rfl rfl rfl rfl hl.1 (Nat.le_of_ble_eq_true rfl) dL_isStep_175 ⟨Nat.zero_le _, Nat.zero_le _⟩ (fun H locs hP hS => ?_)
        obtain ⟨j_175_1, hj_175_1, ej_175_1⟩ : ∃ j, j < 9 ∧ nI (upN y 9) = nI j := ⟨_, upN_lt (by omega), rfl⟩
        refine kb_top (nI j_175_1) ej_175_1 ?_
        refine lv_iadd hx hb dL_isStep_178 ?_
        refine kb_top (nI (1 + j_175_1)) (nI_add 1 j_175_1) ?_
        refine lv_istore (lv' := [(7, .int (nI (1 + j_175_1))), (6, .int (nI 3)), (5, .int (nI (nK (mo_g m)))), (4, .int (x >>> (nI 4 &&& 31))), (0, .ref (a 0)), (1, .ref (b 0)), (2, .int (x)), (3, .int (y))]) hx hb dL_isStep_179 hl (by decide) rfl (fun ls hl => ?_)
        have hvb : 1 ≤ 1 + j_175_1 ∧ 1 + j_175_1 ≤ 9 := by omega
        have hri : isR 3 (nI (1 + j_175_1)) = true := by show isIn _ 1 9 = true; exact isIn_i (nI_nlt (by omega) (by omega)) (nI_nlt (by omega) (by omega))
        have hnn : ¬ ((3 : Nat) = 0 ∧ nI (1 + j_175_1) < nI (nT (mo_g m))) := fun z => absurd z.1 (by decide)
        by_cases hBq : gc (mo_g m) 3 = nI (1 + j_175_1)
        · have hop : opS (mo_g m) (nI 3) (nI (1 + j_175_1)) = (-5, (mo_g m)) := opS_4 (by decide) hri hnn hBq
          refine lv_aload_n hx hb dL_isStep_181 rfl (lv_at hl 4 rfl) ?_
          refine lv_bipush (v := nI 11) hx hb dL_isStep_182 (by decide) ?_
          refine lv_iload hx hb dL_isStep_184 (lv_at hl 1 rfl) ?_
          refine lv_iadd hx hb dL_isStep_186 ?_
          refine kb_top (nI 14) (nI_add 11 3) ?_
          refine kb_bIa (w := bW cI cC cS a) (As := [.int (nI 14)]) (rest := []) hx hb hml hts hown hN hK hP hD hS hA (b_count l D cI cC cS a hin (nI 14)) gL_isStep_X4_count rfl ⟨rfl, rfl⟩ hdX4_count ⟨(Nat.le_of_ble_eq_true rfl), (Nat.le_of_ble_eq_true rfl)⟩ [0, 1, 2] rfl (ci := 4) rfl rfl rfl (fun _ => kb_blk _ _) rfl rfl hl.1 (Nat.le_of_ble_eq_true rfl) dL_isStep_187 ⟨(Nat.le_of_ble_eq_true rfl), (Nat.le_of_ble_eq_true rfl)⟩ (fun r u_187_13 H locs hw hP hD hS => ?_)
          obtain ⟨hr_187, hin⟩ := hw
          subst hr_187
          refine kb_top (gc (mo_g m) 3) (coA_k (w := 14) (by decide)) ?_
          refine lv_istore (lv' := [(8, .int (gc (mo_g m) 3)), (7, .int (nI (1 + j_175_1))), (6, .int (nI 3)), (5, .int (nI (nK (mo_g m)))), (4, .int (x >>> (nI 4 &&& 31))), (0, .ref (a 0)), (1, .ref (b 0)), (2, .int (x)), (3, .int (y))]) hx hb dL_isStep_190 hl (by decide) rfl (fun ls hl => ?_)
          refine lv_aload_n hx hb dL_isStep_192 rfl (lv_at hl 5 rfl) ?_
          refine lv_iload hx hb dL_isStep_193 (lv_at hl 2 rfl) ?_
          refine lv_iload hx hb dL_isStep_195 (lv_at hl 1 rfl) ?_
          refine kb_bIa (w := bW cI cC cS a) (As := [.int (nI 3), .int (nI (1 + j_175_1))]) (rest := []) hx hb hml hts hown hN hK hP hD hS hA (b_set l D cI cC cS a hin (nI 3) (nI (1 + j_175_1))) gL_isStep_X4_set rfl ⟨rfl, rfl⟩ hdX4_set ⟨(Nat.le_of_ble_eq_true rfl), (Nat.le_of_ble_eq_true rfl)⟩ [0, 1, 2] rfl (ci := 4) rfl rfl rfl (fun _ => kb_blk _ _) rfl rfl hl.1 (Nat.le_of_ble_eq_true rfl) dL_isStep_197 ⟨(Nat.le_of_ble_eq_true rfl), (Nat.le_of_ble_eq_true rfl)⟩ (fun r u_197_13 H locs hw hP hD hS => ?_)
          obtain ⟨hr_197, hin⟩ := hw
          subst hr_197
          refine kb_top ((-5)) (congrArg Prod.fst hop) ?_
          refine lv_istore (lv' := [(9, .int ((-5))), (8, .int (gc (mo_g m) 3)), (7, .int (nI (1 + j_175_1))), (6, .int (nI 3)), (5, .int (nI (nK (mo_g m)))), (4, .int (x >>> (nI 4 &&& 31))), (0, .ref (a 0)), (1, .ref (b 0)), (2, .int (x)), (3, .int (y))]) hx hb dL_isStep_200 hl (by decide) rfl (fun ls hl => ?_)
          refine lv_iload hx hb dL_isStep_202 (lv_at hl 0 rfl) ?_
          refine lv_aload_n hx hb dL_isStep_204 rfl (lv_at hl 7 rfl) ?_
          refine lv_iload hx hb dL_isStep_205 (lv_at hl 3 rfl) ?_
          refine lv_iload hx hb dL_isStep_207 (lv_at hl 2 rfl) ?_
          refine kb_bIb (w := bW cI cC cS b) (As := [.int (nI 3), .int (nI (1 + j_175_1))]) (rest := [.int ((-5))]) hx hb hml hts hown hN hK hP hD hS hA (b_set l D cI cC cS b hip (nI 3) (nI (1 + j_175_1))) gL_isStep_X4_set rfl ⟨rfl, rfl⟩ hdX4_set ⟨(Nat.le_of_ble_eq_true rfl), (Nat.le_of_ble_eq_true rfl)⟩ [0, 1, 2] rfl (ci := 4) rfl rfl rfl (fun _ => kb_blk _ _) rfl rfl hl.1 (Nat.le_of_ble_eq_true rfl) dL_isStep_209 ⟨(Nat.le_of_ble_eq_true rfl), (Nat.le_of_ble_eq_true rfl)⟩ (fun r u_209_13 H locs hw hP hD hS => ?_)
          obtain ⟨hr_209, hip⟩ := hw
          subst hr_209
          refine kb_top ((-5)) (by rw [hg2, opS_d]; exact congrArg Prod.fst hop) ?_
          refine lv_icmp_ne (tgt := 258) hx hb dL_isStep_212 (by decide) (fun c212 => ?_) (fun c212 => ?_)
          · exfalso; exact c212 rfl
          · refine lv_iload hx hb dL_isStep_215 (lv_at hl 0 rfl) ?_
            refine lv_iload hx hb dL_isStep_217 (lv_at hl 3 rfl) ?_
            refine kb_nif_ne (tgt := 237) hx hb dL_isStep_219 (by decide) (by decide) (fun _ => ?_) (fun c => absurd c (by decide))
            refine lv_iload hx hb dL_isStep_237 (lv_at hl 1 rfl) ?_
            refine lv_iload hx hb dL_isStep_239 (lv_at hl 2 rfl) ?_
            refine lv_icmp_ne (tgt := 249) hx hb dL_isStep_241 (by decide) (fun c241 => ?_) (fun c241 => ?_)
            · exfalso; exact c241 hBq
            · refine lv_bipush (v := (-5)) hx hb dL_isStep_244 (by decide) ?_
              refine lv_goto (tgt := 251) hx hb dL_isStep_246 (by decide) ?_
              refine lv_icmp_ne (tgt := 258) hx hb dL_isStep_251 (by decide) (fun c251 => ?_) (fun c251 => ?_)
              · exfalso; exact c251 rfl
              · refine lv_iconst (v := nI 1) hx hb dL_isStep_254 (by decide) ?_
                refine lv_goto (tgt := 259) hx hb dL_isStep_255 (by decide) ?_
                have hPR : PR (M + 99) (moA m (opS (mo_g m) (nI 3) (nI (1 + j_175_1))).1 (opS (mo_g m) (nI 3) (nI (1 + j_175_1))).2) (moA m2 (opS (mo_g m2) (nI 3) (nI (1 + j_175_1))).1 (opS (mo_g m2) (nI 3) (nI (1 + j_175_1))).2) := (PR_opS hR _ _).mono (by omega)
                exact kb_zret (D := D) (w := fun z : KBS × KBS => bW cI cC cS a z.1 ++ bW cI cC cS b z.2) hQ hx hb hr hlocks hK hP hD hS dL_isStep_259 rfl (u_197_13, u_209_13) rfl (Nat.le_refl _) (Nat.le_refl _) ⟨rfl, _, _, hin, hip, hPR⟩
        · have hop : opS (mo_g m) (nI 3) (nI (1 + j_175_1)) = (gc (mo_g m) 3, oSet (mo_g m) 3 (nI (1 + j_175_1))) := opS_5 (by decide) hri hnn hBq
          refine lv_aload_n hx hb dL_isStep_181 rfl (lv_at hl 4 rfl) ?_
          refine lv_bipush (v := nI 11) hx hb dL_isStep_182 (by decide) ?_
          refine lv_iload hx hb dL_isStep_184 (lv_at hl 1 rfl) ?_
          refine lv_iadd hx hb dL_isStep_186 ?_
          refine kb_top (nI 14) (nI_add 11 3) ?_
          refine kb_bIa (w := bW cI cC cS a) (As := [.int (nI 14)]) (rest := []) hx hb hml hts hown hN hK hP hD hS hA (b_count l D cI cC cS a hin (nI 14)) gL_isStep_X4_count rfl ⟨rfl, rfl⟩ hdX4_count ⟨(Nat.le_of_ble_eq_true rfl), (Nat.le_of_ble_eq_true rfl)⟩ [0, 1, 2] rfl (ci := 4) rfl rfl rfl (fun _ => kb_blk _ _) rfl rfl hl.1 (Nat.le_of_ble_eq_true rfl) dL_isStep_187 ⟨(Nat.le_of_ble_eq_true rfl), (Nat.le_of_ble_eq_true rfl)⟩ (fun r u_187_14 H locs hw hP hD hS => ?_)
          obtain ⟨hr_187, hin⟩ := hw
          subst hr_187
          refine kb_top (gc (mo_g m) 3) (coA_k (w := 14) (by decide)) ?_
          refine lv_istore (lv' := [(8, .int (gc (mo_g m) 3)), (7, .int (nI (1 + j_175_1))), (6, .int (nI 3)), (5, .int (nI (nK (mo_g m)))), (4, .int (x >>> (nI 4 &&& 31))), (0, .ref (a 0)), (1, .ref (b 0)), (2, .int (x)), (3, .int (y))]) hx hb dL_isStep_190 hl (by decide) rfl (fun ls hl => ?_)
          refine lv_aload_n hx hb dL_isStep_192 rfl (lv_at hl 5 rfl) ?_
          refine lv_iload hx hb dL_isStep_193 (lv_at hl 2 rfl) ?_
          refine lv_iload hx hb dL_isStep_195 (lv_at hl 1 rfl) ?_
          refine kb_bIa (w := bW cI cC cS a) (As := [.int (nI 3), .int (nI (1 + j_175_1))]) (rest := []) hx hb hml hts hown hN hK hP hD hS hA (b_set l D cI cC cS a hin (nI 3) (nI (1 + j_175_1))) gL_isStep_X4_set rfl ⟨rfl, rfl⟩ hdX4_set ⟨(Nat.le_of_ble_eq_true rfl), (Nat.le_of_ble_eq_true rfl)⟩ [0, 1, 2] rfl (ci := 4) rfl rfl rfl (fun _ => kb_blk _ _) rfl rfl hl.1 (Nat.le_of_ble_eq_true rfl) dL_isStep_197 ⟨(Nat.le_of_ble_eq_true rfl), (Nat.le_of_ble_eq_true rfl)⟩ (fun r u_197_14 H locs hw hP hD hS => ?_)
          obtain ⟨hr_197, hin⟩ := hw
          subst hr_197
          refine kb_top (gc (mo_g m) 3) (congrArg Prod.fst hop) ?_
          refine lv_istore (lv' := [(9, .int (gc (mo_g m) 3)), (8, .int (gc (mo_g m) 3)), (7, .int (nI (1 + j_175_1))), (6, .int (nI 3)), (5, .int (nI (nK (mo_g m)))), (4, .int (x >>> (nI 4 &&& 31))), (0, .ref (a 0)), (1, .ref (b 0)), (2, .int (x)), (3, .int (y))]) hx hb dL_isStep_200 hl (by decide) rfl (fun ls hl => ?_)
          refine lv_iload hx hb dL_isStep_202 (lv_at hl 0 rfl) ?_
          refine lv_aload_n hx hb dL_isStep_204 rfl (lv_at hl 7 rfl) ?_
          refine lv_iload hx hb dL_isStep_205 (lv_at hl 3 rfl) ?_
          refine lv_iload hx hb dL_isStep_207 (lv_at hl 2 rfl) ?_
          refine kb_bIb (w := bW cI cC cS b) (As := [.int (nI 3), .int (nI (1 + j_175_1))]) (rest := [.int (gc (mo_g m) 3)]) hx hb hml hts hown hN hK hP hD hS hA (b_set l D cI cC cS b hip (nI 3) (nI (1 + j_175_1))) gL_isStep_X4_set rfl ⟨rfl, rfl⟩ hdX4_set ⟨(Nat.le_of_ble_eq_true rfl), (Nat.le_of_ble_eq_true rfl)⟩ [0, 1, 2] rfl (ci := 4) rfl rfl rfl (fun _ => kb_blk _ _) rfl rfl hl.1 (Nat.le_of_ble_eq_true rfl) dL_isStep_209 ⟨(Nat.le_of_ble_eq_true rfl), (Nat.le_of_ble_eq_true rfl)⟩ (fun r u_209_14 H locs hw hP hD hS => ?_)
          obtain ⟨hr_209, hip⟩ := hw
          subst hr_209
          refine kb_top (gc (mo_g m) 3) (by rw [hg2, opS_d]; exact congrArg Prod.fst hop) ?_
          refine lv_icmp_ne (tgt := 258) hx hb dL_isStep_212 (by decide) (fun c212 => ?_) (fun c212 => ?_)
          · exfalso; exact c212 rfl
          · refine lv_iload hx hb dL_isStep_215 (lv_at hl 0 rfl) ?_
            refine lv_iload hx hb dL_isStep_217 (lv_at hl 3 rfl) ?_
            refine kb_nif_ne (tgt := 237) hx hb dL_isStep_219 (by decide) (by decide) (fun _ => ?_) (fun c => absurd c (by decide))
            refine lv_iload hx hb dL_isStep_237 (lv_at hl 1 rfl) ?_
            refine lv_iload hx hb dL_isStep_239 (lv_at hl 2 rfl) ?_
            refine lv_icmp_ne (tgt := 249) hx hb dL_isStep_241 (by decide) (fun c241 => ?_) (fun c241 => ?_)
            · refine lv_iload hx hb dL_isStep_249 (lv_at hl 1 rfl) ?_
              refine lv_icmp_ne (tgt := 258) hx hb dL_isStep_251 (by decide) (fun c251 => ?_) (fun c251 => ?_)
              · exfalso; exact c251 rfl
              · refine lv_iconst (v := nI 1) hx hb dL_isStep_254 (by decide) ?_
                refine lv_goto (tgt := 259) hx hb dL_isStep_255 (by decide) ?_
                have hPR : PR (M + 99) (moA m (opS (mo_g m) (nI 3) (nI (1 + j_175_1))).1 (opS (mo_g m) (nI 3) (nI (1 + j_175_1))).2) (moA m2 (opS (mo_g m2) (nI 3) (nI (1 + j_175_1))).1 (opS (mo_g m2) (nI 3) (nI (1 + j_175_1))).2) := (PR_opS hR _ _).mono (by omega)
                exact kb_zret (D := D) (w := fun z : KBS × KBS => bW cI cC cS a z.1 ++ bW cI cC cS b z.2) hQ hx hb hr hlocks hK hP hD hS dL_isStep_259 rfl (u_197_14, u_209_14) rfl (Nat.le_refl _) (Nat.le_refl _) ⟨rfl, _, _, hin, hip, hPR⟩
            · exfalso; exact hBq c241
  have k_260 : W p l e rmL_isStep s mm args below meth c H locs 0 0 Q (F0 mm 260 ls []) := by
    refine lv_iload hx hb dL_isStep_260 (lv_at hl 1 rfl) ?_
    refine lv_iload hx hb dL_isStep_262 (lv_at hl 0 rfl) ?_
    refine lv_iconst (v := nI 1) hx hb dL_isStep_264 (by decide) ?_
    refine lv_iadd hx hb dL_isStep_265 ?_
    refine kb_top (nI (nK (mo_g m) + 1)) (nI_add (nK (mo_g m)) 1) ?_
    refine kb_sR (As := [.int (x >>> (nI 4 &&& 31)), .int (nI (nK (mo_g m) + 1))]) (rest := []) hx hb hml hts hown hN hK hP hD hS hA (c_L_up l D (x >>> (nI 4 &&& 31)) (nK (mo_g m) + 1) (by first | assumption | omega) (by first | assumption | omega)) gL_isStep_L_up rfl ⟨rfl, rfl⟩ hdL_up.2 ⟨Nat.le_of_ble_eq_true rfl, Nat.le_of_ble_eq_true rfl⟩ [] [] rfl rfl rfl rfl rfl hl.1 (Nat.le_of_ble_eq_true rfl) dL_isStep_266 ⟨Nat.zero_le _, Nat.zero_le _⟩ (fun H locs hP hS => ?_)
    obtain ⟨j_266, hj_266, ej_266⟩ : ∃ j, j < (nK (mo_g m) + 1) ∧ nI (upN (x >>> (nI 4 &&& 31)) (nK (mo_g m) + 1)) = nI j := ⟨_, upN_lt (by omega), rfl⟩
    refine kb_top (nI j_266) ej_266 ?_
    refine lv_istore (lv' := [(6, .int (nI j_266)), (5, .int (nI (nK (mo_g m)))), (4, .int (x >>> (nI 4 &&& 31))), (0, .ref (a 0)), (1, .ref (b 0)), (2, .int (x)), (3, .int (y))]) hx hb dL_isStep_269 hl (by decide) rfl (fun ls hl => ?_)
    have hpl := plT_le (mo_g m) j_266
    rcases (by omega : j_266 = nK (mo_g m) ∨ j_266 < nK (mo_g m)) with hkn | hk
    · have hki : kIs (nK (mo_g m)) (nI j_266) = false := kIs_fn (by omega) (by omega) (by omega)
      have hop : opL (mo_g m) (nI j_266) = (-1, (mo_g m)) := opL_1 hki
      refine lv_iload hx hb dL_isStep_271 (lv_at hl 0 rfl) ?_
      refine lv_iload hx hb dL_isStep_273 (lv_at hl 1 rfl) ?_
      refine kb_icmp_ne (tgt := 282) hx hb dL_isStep_275 (by decide) (by omega) (by omega) (fun c275 => ?_) (fun c275 => ?_)
      · exfalso; omega
      · refine lv_iconst (v := (-1)) hx hb dL_isStep_278 (by decide) ?_
        refine lv_goto (tgt := 289) hx hb dL_isStep_279 (by decide) ?_
        refine lv_istore (lv' := [(7, .int ((-1))), (6, .int (nI j_266)), (5, .int (nI (nK (mo_g m)))), (4, .int (x >>> (nI 4 &&& 31))), (0, .ref (a 0)), (1, .ref (b 0)), (2, .int (x)), (3, .int (y))]) hx hb dL_isStep_289 hl (by decide) rfl (fun ls hl => ?_)
        refine lv_aload_n hx hb dL_isStep_291 rfl (lv_at hl 4 rfl) ?_
        refine lv_iload hx hb dL_isStep_292 (lv_at hl 1 rfl) ?_
        refine lv_iconst (v := nI 4) hx hb dL_isStep_294 (by decide) ?_
        refine kb_bIa (w := bW cI cC cS a) (As := [.int (nI j_266), .int (nI 4)]) (rest := []) hx hb hml hts hown hN hK hP hD hS hA (b_king l D cI cC cS a hin (nI j_266) (nI 4)) gL_isStep_X4_king rfl ⟨rfl, rfl⟩ hdX4_king ⟨(Nat.le_of_ble_eq_true rfl), (Nat.le_of_ble_eq_true rfl)⟩ [0, 1, 2] rfl (ci := 4) rfl rfl rfl (fun _ => kb_blk _ _) rfl rfl hl.1 (Nat.le_of_ble_eq_true rfl) dL_isStep_295 ⟨(Nat.le_of_ble_eq_true rfl), (Nat.le_of_ble_eq_true rfl)⟩ (fun r u_295 H locs hw hP hD hS => ?_)
        obtain ⟨hr_295, hin⟩ := hw
        subst hr_295
        refine kb_top ((-1)) (kA_1 hki) ?_
        refine lv_istore (lv' := [(8, .int ((-1))), (7, .int ((-1))), (6, .int (nI j_266)), (5, .int (nI (nK (mo_g m)))), (4, .int (x >>> (nI 4 &&& 31))), (0, .ref (a 0)), (1, .ref (b 0)), (2, .int (x)), (3, .int (y))]) hx hb dL_isStep_298 hl (by decide) rfl (fun ls hl => ?_)
        refine lv_iload hx hb dL_isStep_300 (lv_at hl 0 rfl) ?_
        refine lv_if_ge (tgt := 309) hx hb dL_isStep_302 (by decide) (fun c => absurd c (by decide)) (fun _ => ?_)
        refine lv_iconst (v := nI 0) hx hb dL_isStep_305 (by decide) ?_
        refine lv_goto (tgt := 317) hx hb dL_isStep_306 (by decide) ?_
        refine lv_istore (lv' := [(9, .int (nI 0)), (8, .int ((-1))), (7, .int ((-1))), (6, .int (nI j_266)), (5, .int (nI (nK (mo_g m)))), (4, .int (x >>> (nI 4 &&& 31))), (0, .ref (a 0)), (1, .ref (b 0)), (2, .int (x)), (3, .int (y))]) hx hb dL_isStep_317 hl (by decide) rfl (fun ls hl => ?_)
        refine lv_aload_n hx hb dL_isStep_319 rfl (lv_at hl 6 rfl) ?_
        refine lv_iload hx hb dL_isStep_320 (lv_at hl 3 rfl) ?_
        refine kb_bIa (w := bW cI cC cS a) (As := [.int (nI j_266)]) (rest := []) hx hb hml hts hown hN hK hP hD hS hA (b_leave l D cI cC cS a hin (nI j_266)) gL_isStep_X4_leave rfl ⟨rfl, rfl⟩ hdX4_leave ⟨(Nat.le_of_ble_eq_true rfl), (Nat.le_of_ble_eq_true rfl)⟩ [0, 1, 2] rfl (ci := 4) rfl rfl rfl (fun _ => kb_blk _ _) rfl rfl hl.1 (Nat.le_of_ble_eq_true rfl) dL_isStep_322 ⟨(Nat.le_of_ble_eq_true rfl), (Nat.le_of_ble_eq_true rfl)⟩ (fun r u_322 H locs hw hP hD hS => ?_)
        obtain ⟨hr_322, hin⟩ := hw
        subst hr_322
        refine kb_top ((-1)) (congrArg Prod.fst hop) ?_
        refine lv_istore (lv' := [(10, .int ((-1))), (9, .int (nI 0)), (8, .int ((-1))), (7, .int ((-1))), (6, .int (nI j_266)), (5, .int (nI (nK (mo_g m)))), (4, .int (x >>> (nI 4 &&& 31))), (0, .ref (a 0)), (1, .ref (b 0)), (2, .int (x)), (3, .int (y))]) hx hb dL_isStep_325 hl (by decide) rfl (fun ls hl => ?_)
        refine lv_iload hx hb dL_isStep_327 (lv_at hl 0 rfl) ?_
        refine lv_aload_n hx hb dL_isStep_329 rfl (lv_at hl 8 rfl) ?_
        refine lv_iload hx hb dL_isStep_330 (lv_at hl 4 rfl) ?_
        refine kb_bIb (w := bW cI cC cS b) (As := [.int (nI j_266)]) (rest := [.int ((-1))]) hx hb hml hts hown hN hK hP hD hS hA (b_leave l D cI cC cS b hip (nI j_266)) gL_isStep_X4_leave rfl ⟨rfl, rfl⟩ hdX4_leave ⟨(Nat.le_of_ble_eq_true rfl), (Nat.le_of_ble_eq_true rfl)⟩ [0, 1, 2] rfl (ci := 4) rfl rfl rfl (fun _ => kb_blk _ _) rfl rfl hl.1 (Nat.le_of_ble_eq_true rfl) dL_isStep_332 ⟨(Nat.le_of_ble_eq_true rfl), (Nat.le_of_ble_eq_true rfl)⟩ (fun r u_332 H locs hw hP hD hS => ?_)
        obtain ⟨hr_332, hip⟩ := hw
        subst hr_332
        refine kb_top ((-1)) (by rw [hg2, opL_d]; exact congrArg Prod.fst hop) ?_
        refine lv_icmp_ne (tgt := 392) hx hb dL_isStep_335 (by decide) (fun c335 => ?_) (fun c335 => ?_)
        · exfalso; exact c335 rfl
        · refine lv_iload hx hb dL_isStep_338 (lv_at hl 0 rfl) ?_
          refine lv_iload hx hb dL_isStep_340 (lv_at hl 3 rfl) ?_
          refine lv_if_ge (tgt := 349) hx hb dL_isStep_342 (by decide) (fun c => absurd c (by decide)) (fun _ => ?_)
          refine lv_iconst (v := (-1)) hx hb dL_isStep_345 (by decide) ?_
          refine lv_goto (tgt := 362) hx hb dL_isStep_346 (by decide) ?_
          refine lv_icmp_ne (tgt := 392) hx hb dL_isStep_362 (by decide) (fun c362 => ?_) (fun c362 => ?_)
          · exfalso; exact c362 rfl
          · refine lv_iload hx hb dL_isStep_365 (lv_at hl 2 rfl) ?_
            refine lv_if_lt (tgt := 388) hx hb dL_isStep_367 (by decide) (fun _ => ?_) (fun c => absurd (by decide) c)
            refine lv_iconst (v := nI 1) hx hb dL_isStep_388 (by decide) ?_
            refine lv_goto (tgt := 393) hx hb dL_isStep_389 (by decide) ?_
            have hPR : PR (M + 99) (moA m (opL (mo_g m) (nI j_266)).1 (opL (mo_g m) (nI j_266)).2) (moA m2 (opL (mo_g m2) (nI j_266)).1 (opL (mo_g m2) (nI j_266)).2) := (PR_opL hR _).mono (by omega)
            exact kb_zret (D := D) (w := fun z : KBS × KBS => bW cI cC cS a z.1 ++ bW cI cC cS b z.2) hQ hx hb hr hlocks hK hP hD hS dL_isStep_393 rfl (u_322, u_332) rfl (Nat.le_refl _) (Nat.le_refl _) ⟨rfl, _, _, hin, hip, hPR⟩
    · have hki : kIs (nK (mo_g m)) (nI j_266) = true := kIs_tn (by omega) hk
      have hd4 := (ho.k j_266 hk).1
      rcases (by omega : gD (mo_g m) j_266 = 0 ∨ gD (mo_g m) j_266 = 1 ∨ gD (mo_g m) j_266 = 2 ∨ gD (mo_g m) j_266 = 3) with hd | hd | hd | hd
      · have hop : opL (mo_g m) (nI j_266) = (nI 0, oLv0 (mo_g m) j_266) := (opL_3 hki (by omega) (by omega)).trans (by rw [hd, oLv_0 (by omega) (by omega)])
        refine lv_iload hx hb dL_isStep_271 (lv_at hl 0 rfl) ?_
        refine lv_iload hx hb dL_isStep_273 (lv_at hl 1 rfl) ?_
        refine kb_icmp_ne (tgt := 282) hx hb dL_isStep_275 (by decide) (by omega) (by omega) (fun c275 => ?_) (fun c275 => ?_)
        · refine lv_aload_n hx hb dL_isStep_282 rfl (lv_at hl 3 rfl) ?_
          refine lv_iload hx hb dL_isStep_283 (lv_at hl 0 rfl) ?_
          refine lv_iconst (v := nI 3) hx hb dL_isStep_285 (by decide) ?_
          refine kb_bIa (w := bW cI cC cS a) (As := [.int (nI j_266), .int (nI 3)]) (rest := []) hx hb hml hts hown hN hK hP hD hS hA (b_king l D cI cC cS a hin (nI j_266) (nI 3)) gL_isStep_X4_king rfl ⟨rfl, rfl⟩ hdX4_king ⟨(Nat.le_of_ble_eq_true rfl), (Nat.le_of_ble_eq_true rfl)⟩ [0, 1, 2] rfl (ci := 4) rfl rfl rfl (fun _ => kb_blk _ _) rfl rfl hl.1 (Nat.le_of_ble_eq_true rfl) dL_isStep_286 ⟨(Nat.le_of_ble_eq_true rfl), (Nat.le_of_ble_eq_true rfl)⟩ (fun r u_286 H locs hw hP hD hS => ?_)
          obtain ⟨hr_286, hin⟩ := hw
          subst hr_286
          refine kb_top (nI 0) ((kA_k hk h24 (by decide)).trans (congrArg nI hd)) ?_
          refine lv_istore (lv' := [(7, .int (nI 0)), (6, .int (nI j_266)), (5, .int (nI (nK (mo_g m)))), (4, .int (x >>> (nI 4 &&& 31))), (0, .ref (a 0)), (1, .ref (b 0)), (2, .int (x)), (3, .int (y))]) hx hb dL_isStep_289 hl (by decide) rfl (fun ls hl => ?_)
          refine lv_aload_n hx hb dL_isStep_291 rfl (lv_at hl 4 rfl) ?_
          refine lv_iload hx hb dL_isStep_292 (lv_at hl 1 rfl) ?_
          refine lv_iconst (v := nI 4) hx hb dL_isStep_294 (by decide) ?_
          refine kb_bIa (w := bW cI cC cS a) (As := [.int (nI j_266), .int (nI 4)]) (rest := []) hx hb hml hts hown hN hK hP hD hS hA (b_king l D cI cC cS a hin (nI j_266) (nI 4)) gL_isStep_X4_king rfl ⟨rfl, rfl⟩ hdX4_king ⟨(Nat.le_of_ble_eq_true rfl), (Nat.le_of_ble_eq_true rfl)⟩ [0, 1, 2] rfl (ci := 4) rfl rfl rfl (fun _ => kb_blk _ _) rfl rfl hl.1 (Nat.le_of_ble_eq_true rfl) dL_isStep_295 ⟨(Nat.le_of_ble_eq_true rfl), (Nat.le_of_ble_eq_true rfl)⟩ (fun r u_295_1 H locs hw hP hD hS => ?_)
          obtain ⟨hr_295, hin⟩ := hw
          subst hr_295
          refine kb_top ((-5)) ((kA_k hk h24 (by decide)).trans (tell_4n ho hk (by omega))) ?_
          refine lv_istore (lv' := [(8, .int ((-5))), (7, .int (nI 0)), (6, .int (nI j_266)), (5, .int (nI (nK (mo_g m)))), (4, .int (x >>> (nI 4 &&& 31))), (0, .ref (a 0)), (1, .ref (b 0)), (2, .int (x)), (3, .int (y))]) hx hb dL_isStep_298 hl (by decide) rfl (fun ls hl => ?_)
          refine lv_iload hx hb dL_isStep_300 (lv_at hl 0 rfl) ?_
          refine lv_if_ge (tgt := 309) hx hb dL_isStep_302 (by decide) (fun c => absurd c (by decide)) (fun _ => ?_)
          refine lv_iconst (v := nI 0) hx hb dL_isStep_305 (by decide) ?_
          refine lv_goto (tgt := 317) hx hb dL_isStep_306 (by decide) ?_
          refine lv_istore (lv' := [(9, .int (nI 0)), (8, .int ((-5))), (7, .int (nI 0)), (6, .int (nI j_266)), (5, .int (nI (nK (mo_g m)))), (4, .int (x >>> (nI 4 &&& 31))), (0, .ref (a 0)), (1, .ref (b 0)), (2, .int (x)), (3, .int (y))]) hx hb dL_isStep_317 hl (by decide) rfl (fun ls hl => ?_)
          refine lv_aload_n hx hb dL_isStep_319 rfl (lv_at hl 6 rfl) ?_
          refine lv_iload hx hb dL_isStep_320 (lv_at hl 3 rfl) ?_
          refine kb_bIa (w := bW cI cC cS a) (As := [.int (nI j_266)]) (rest := []) hx hb hml hts hown hN hK hP hD hS hA (b_leave l D cI cC cS a hin (nI j_266)) gL_isStep_X4_leave rfl ⟨rfl, rfl⟩ hdX4_leave ⟨(Nat.le_of_ble_eq_true rfl), (Nat.le_of_ble_eq_true rfl)⟩ [0, 1, 2] rfl (ci := 4) rfl rfl rfl (fun _ => kb_blk _ _) rfl rfl hl.1 (Nat.le_of_ble_eq_true rfl) dL_isStep_322 ⟨(Nat.le_of_ble_eq_true rfl), (Nat.le_of_ble_eq_true rfl)⟩ (fun r u_322_1 H locs hw hP hD hS => ?_)
          obtain ⟨hr_322, hin⟩ := hw
          subst hr_322
          refine kb_top (nI 0) (congrArg Prod.fst hop) ?_
          refine lv_istore (lv' := [(10, .int (nI 0)), (9, .int (nI 0)), (8, .int ((-5))), (7, .int (nI 0)), (6, .int (nI j_266)), (5, .int (nI (nK (mo_g m)))), (4, .int (x >>> (nI 4 &&& 31))), (0, .ref (a 0)), (1, .ref (b 0)), (2, .int (x)), (3, .int (y))]) hx hb dL_isStep_325 hl (by decide) rfl (fun ls hl => ?_)
          refine lv_iload hx hb dL_isStep_327 (lv_at hl 0 rfl) ?_
          refine lv_aload_n hx hb dL_isStep_329 rfl (lv_at hl 8 rfl) ?_
          refine lv_iload hx hb dL_isStep_330 (lv_at hl 4 rfl) ?_
          refine kb_bIb (w := bW cI cC cS b) (As := [.int (nI j_266)]) (rest := [.int (nI 0)]) hx hb hml hts hown hN hK hP hD hS hA (b_leave l D cI cC cS b hip (nI j_266)) gL_isStep_X4_leave rfl ⟨rfl, rfl⟩ hdX4_leave ⟨(Nat.le_of_ble_eq_true rfl), (Nat.le_of_ble_eq_true rfl)⟩ [0, 1, 2] rfl (ci := 4) rfl rfl rfl (fun _ => kb_blk _ _) rfl rfl hl.1 (Nat.le_of_ble_eq_true rfl) dL_isStep_332 ⟨(Nat.le_of_ble_eq_true rfl), (Nat.le_of_ble_eq_true rfl)⟩ (fun r u_332_1 H locs hw hP hD hS => ?_)
          obtain ⟨hr_332, hip⟩ := hw
          subst hr_332
          refine kb_top (nI 0) (by rw [hg2, opL_d]; exact congrArg Prod.fst hop) ?_
          refine kb_icmp_ne (tgt := 392) hx hb dL_isStep_335 (by decide) (by decide) (by decide) (fun c => absurd c (by decide)) (fun _ => ?_)
          refine lv_iload hx hb dL_isStep_338 (lv_at hl 0 rfl) ?_
          refine lv_iload hx hb dL_isStep_340 (lv_at hl 3 rfl) ?_
          refine kb_nif_ge (tgt := 349) hx hb dL_isStep_342 (by decide) (by decide) ?_
          refine lv_iload hx hb dL_isStep_349 (lv_at hl 3 rfl) ?_
          refine lv_iconst (v := nI 3) hx hb dL_isStep_351 (by decide) ?_
          refine kb_icmp_ne (tgt := 360) hx hb dL_isStep_352 (by decide) (by decide) (by decide) (fun _ => ?_) (fun c => absurd c (by decide))
          refine lv_iload hx hb dL_isStep_360 (lv_at hl 3 rfl) ?_
          refine kb_icmp_ne (tgt := 392) hx hb dL_isStep_362 (by decide) (by decide) (by decide) (fun c => absurd c (by decide)) (fun _ => ?_)
          refine lv_iload hx hb dL_isStep_365 (lv_at hl 2 rfl) ?_
          refine lv_if_lt (tgt := 388) hx hb dL_isStep_367 (by decide) (fun _ => ?_) (fun c => absurd (by decide) c)
          refine lv_iconst (v := nI 1) hx hb dL_isStep_388 (by decide) ?_
          refine lv_goto (tgt := 393) hx hb dL_isStep_389 (by decide) ?_
          have hPR : PR (M + 99) (moA m (opL (mo_g m) (nI j_266)).1 (opL (mo_g m) (nI j_266)).2) (moA m2 (opL (mo_g m2) (nI j_266)).1 (opL (mo_g m2) (nI j_266)).2) := (PR_opL hR _).mono (by omega)
          exact kb_zret (D := D) (w := fun z : KBS × KBS => bW cI cC cS a z.1 ++ bW cI cC cS b z.2) hQ hx hb hr hlocks hK hP hD hS dL_isStep_393 rfl (u_322_1, u_332_1) rfl (Nat.le_refl _) (Nat.le_refl _) ⟨rfl, _, _, hin, hip, hPR⟩
        · exfalso; omega
      · have hop : opL (mo_g m) (nI j_266) = (nI 1, oLvW (mo_g m) j_266) := (opL_3 hki (by omega) (by omega)).trans (by rw [hd, oLv_1 hd])
        refine lv_iload hx hb dL_isStep_271 (lv_at hl 0 rfl) ?_
        refine lv_iload hx hb dL_isStep_273 (lv_at hl 1 rfl) ?_
        refine kb_icmp_ne (tgt := 282) hx hb dL_isStep_275 (by decide) (by omega) (by omega) (fun c275 => ?_) (fun c275 => ?_)
        · refine lv_aload_n hx hb dL_isStep_282 rfl (lv_at hl 3 rfl) ?_
          refine lv_iload hx hb dL_isStep_283 (lv_at hl 0 rfl) ?_
          refine lv_iconst (v := nI 3) hx hb dL_isStep_285 (by decide) ?_
          refine kb_bIa (w := bW cI cC cS a) (As := [.int (nI j_266), .int (nI 3)]) (rest := []) hx hb hml hts hown hN hK hP hD hS hA (b_king l D cI cC cS a hin (nI j_266) (nI 3)) gL_isStep_X4_king rfl ⟨rfl, rfl⟩ hdX4_king ⟨(Nat.le_of_ble_eq_true rfl), (Nat.le_of_ble_eq_true rfl)⟩ [0, 1, 2] rfl (ci := 4) rfl rfl rfl (fun _ => kb_blk _ _) rfl rfl hl.1 (Nat.le_of_ble_eq_true rfl) dL_isStep_286 ⟨(Nat.le_of_ble_eq_true rfl), (Nat.le_of_ble_eq_true rfl)⟩ (fun r u_286_1 H locs hw hP hD hS => ?_)
          obtain ⟨hr_286, hin⟩ := hw
          subst hr_286
          refine kb_top (nI 1) ((kA_k hk h24 (by decide)).trans (congrArg nI hd)) ?_
          refine lv_istore (lv' := [(7, .int (nI 1)), (6, .int (nI j_266)), (5, .int (nI (nK (mo_g m)))), (4, .int (x >>> (nI 4 &&& 31))), (0, .ref (a 0)), (1, .ref (b 0)), (2, .int (x)), (3, .int (y))]) hx hb dL_isStep_289 hl (by decide) rfl (fun ls hl => ?_)
          refine lv_aload_n hx hb dL_isStep_291 rfl (lv_at hl 4 rfl) ?_
          refine lv_iload hx hb dL_isStep_292 (lv_at hl 1 rfl) ?_
          refine lv_iconst (v := nI 4) hx hb dL_isStep_294 (by decide) ?_
          refine kb_bIa (w := bW cI cC cS a) (As := [.int (nI j_266), .int (nI 4)]) (rest := []) hx hb hml hts hown hN hK hP hD hS hA (b_king l D cI cC cS a hin (nI j_266) (nI 4)) gL_isStep_X4_king rfl ⟨rfl, rfl⟩ hdX4_king ⟨(Nat.le_of_ble_eq_true rfl), (Nat.le_of_ble_eq_true rfl)⟩ [0, 1, 2] rfl (ci := 4) rfl rfl rfl (fun _ => kb_blk _ _) rfl rfl hl.1 (Nat.le_of_ble_eq_true rfl) dL_isStep_295 ⟨(Nat.le_of_ble_eq_true rfl), (Nat.le_of_ble_eq_true rfl)⟩ (fun r u_295_2 H locs hw hP hD hS => ?_)
          obtain ⟨hr_295, hin⟩ := hw
          subst hr_295
          refine kb_top ((-5)) ((kA_k hk h24 (by decide)).trans (tell_4n ho hk (by omega))) ?_
          refine lv_istore (lv' := [(8, .int ((-5))), (7, .int (nI 1)), (6, .int (nI j_266)), (5, .int (nI (nK (mo_g m)))), (4, .int (x >>> (nI 4 &&& 31))), (0, .ref (a 0)), (1, .ref (b 0)), (2, .int (x)), (3, .int (y))]) hx hb dL_isStep_298 hl (by decide) rfl (fun ls hl => ?_)
          refine lv_iload hx hb dL_isStep_300 (lv_at hl 0 rfl) ?_
          refine lv_if_ge (tgt := 309) hx hb dL_isStep_302 (by decide) (fun c => absurd c (by decide)) (fun _ => ?_)
          refine lv_iconst (v := nI 0) hx hb dL_isStep_305 (by decide) ?_
          refine lv_goto (tgt := 317) hx hb dL_isStep_306 (by decide) ?_
          refine lv_istore (lv' := [(9, .int (nI 0)), (8, .int ((-5))), (7, .int (nI 1)), (6, .int (nI j_266)), (5, .int (nI (nK (mo_g m)))), (4, .int (x >>> (nI 4 &&& 31))), (0, .ref (a 0)), (1, .ref (b 0)), (2, .int (x)), (3, .int (y))]) hx hb dL_isStep_317 hl (by decide) rfl (fun ls hl => ?_)
          refine lv_aload_n hx hb dL_isStep_319 rfl (lv_at hl 6 rfl) ?_
          refine lv_iload hx hb dL_isStep_320 (lv_at hl 3 rfl) ?_
          refine kb_bIa (w := bW cI cC cS a) (As := [.int (nI j_266)]) (rest := []) hx hb hml hts hown hN hK hP hD hS hA (b_leave l D cI cC cS a hin (nI j_266)) gL_isStep_X4_leave rfl ⟨rfl, rfl⟩ hdX4_leave ⟨(Nat.le_of_ble_eq_true rfl), (Nat.le_of_ble_eq_true rfl)⟩ [0, 1, 2] rfl (ci := 4) rfl rfl rfl (fun _ => kb_blk _ _) rfl rfl hl.1 (Nat.le_of_ble_eq_true rfl) dL_isStep_322 ⟨(Nat.le_of_ble_eq_true rfl), (Nat.le_of_ble_eq_true rfl)⟩ (fun r u_322_2 H locs hw hP hD hS => ?_)
          obtain ⟨hr_322, hin⟩ := hw
          subst hr_322
          refine kb_top (nI 1) (congrArg Prod.fst hop) ?_
          refine lv_istore (lv' := [(10, .int (nI 1)), (9, .int (nI 0)), (8, .int ((-5))), (7, .int (nI 1)), (6, .int (nI j_266)), (5, .int (nI (nK (mo_g m)))), (4, .int (x >>> (nI 4 &&& 31))), (0, .ref (a 0)), (1, .ref (b 0)), (2, .int (x)), (3, .int (y))]) hx hb dL_isStep_325 hl (by decide) rfl (fun ls hl => ?_)
          refine lv_iload hx hb dL_isStep_327 (lv_at hl 0 rfl) ?_
          refine lv_aload_n hx hb dL_isStep_329 rfl (lv_at hl 8 rfl) ?_
          refine lv_iload hx hb dL_isStep_330 (lv_at hl 4 rfl) ?_
          refine kb_bIb (w := bW cI cC cS b) (As := [.int (nI j_266)]) (rest := [.int (nI 1)]) hx hb hml hts hown hN hK hP hD hS hA (b_leave l D cI cC cS b hip (nI j_266)) gL_isStep_X4_leave rfl ⟨rfl, rfl⟩ hdX4_leave ⟨(Nat.le_of_ble_eq_true rfl), (Nat.le_of_ble_eq_true rfl)⟩ [0, 1, 2] rfl (ci := 4) rfl rfl rfl (fun _ => kb_blk _ _) rfl rfl hl.1 (Nat.le_of_ble_eq_true rfl) dL_isStep_332 ⟨(Nat.le_of_ble_eq_true rfl), (Nat.le_of_ble_eq_true rfl)⟩ (fun r u_332_2 H locs hw hP hD hS => ?_)
          obtain ⟨hr_332, hip⟩ := hw
          subst hr_332
          refine kb_top (nI 1) (by rw [hg2, opL_d]; exact congrArg Prod.fst hop) ?_
          refine kb_icmp_ne (tgt := 392) hx hb dL_isStep_335 (by decide) (by decide) (by decide) (fun c => absurd c (by decide)) (fun _ => ?_)
          refine lv_iload hx hb dL_isStep_338 (lv_at hl 0 rfl) ?_
          refine lv_iload hx hb dL_isStep_340 (lv_at hl 3 rfl) ?_
          refine kb_nif_ge (tgt := 349) hx hb dL_isStep_342 (by decide) (by decide) ?_
          refine lv_iload hx hb dL_isStep_349 (lv_at hl 3 rfl) ?_
          refine lv_iconst (v := nI 3) hx hb dL_isStep_351 (by decide) ?_
          refine kb_icmp_ne (tgt := 360) hx hb dL_isStep_352 (by decide) (by decide) (by decide) (fun _ => ?_) (fun c => absurd c (by decide))
          refine lv_iload hx hb dL_isStep_360 (lv_at hl 3 rfl) ?_
          refine kb_icmp_ne (tgt := 392) hx hb dL_isStep_362 (by decide) (by decide) (by decide) (fun c => absurd c (by decide)) (fun _ => ?_)
          refine lv_iload hx hb dL_isStep_365 (lv_at hl 2 rfl) ?_
          refine lv_if_lt (tgt := 388) hx hb dL_isStep_367 (by decide) (fun _ => ?_) (fun c => absurd (by decide) c)
          refine lv_iconst (v := nI 1) hx hb dL_isStep_388 (by decide) ?_
          refine lv_goto (tgt := 393) hx hb dL_isStep_389 (by decide) ?_
          have hPR : PR (M + 99) (moA m (opL (mo_g m) (nI j_266)).1 (opL (mo_g m) (nI j_266)).2) (moA m2 (opL (mo_g m2) (nI j_266)).1 (opL (mo_g m2) (nI j_266)).2) := (PR_opL hR _).mono (by omega)
          exact kb_zret (D := D) (w := fun z : KBS × KBS => bW cI cC cS a z.1 ++ bW cI cC cS b z.2) hQ hx hb hr hlocks hK hP hD hS dL_isStep_393 rfl (u_322_2, u_332_2) rfl (Nat.le_refl _) (Nat.le_refl _) ⟨rfl, _, _, hin, hip, hPR⟩
        · exfalso; omega
      · have hop : opL (mo_g m) (nI j_266) = (nI 2, oLvT (mo_g m) j_266) := (opL_3 hki (by omega) (by omega)).trans (by rw [hd, oLv_2 hd])
        have hpt := (plT_lt ho hk).mpr hd
        refine lv_iload hx hb dL_isStep_271 (lv_at hl 0 rfl) ?_
        refine lv_iload hx hb dL_isStep_273 (lv_at hl 1 rfl) ?_
        refine kb_icmp_ne (tgt := 282) hx hb dL_isStep_275 (by decide) (by omega) (by omega) (fun c275 => ?_) (fun c275 => ?_)
        · refine lv_aload_n hx hb dL_isStep_282 rfl (lv_at hl 3 rfl) ?_
          refine lv_iload hx hb dL_isStep_283 (lv_at hl 0 rfl) ?_
          refine lv_iconst (v := nI 3) hx hb dL_isStep_285 (by decide) ?_
          refine kb_bIa (w := bW cI cC cS a) (As := [.int (nI j_266), .int (nI 3)]) (rest := []) hx hb hml hts hown hN hK hP hD hS hA (b_king l D cI cC cS a hin (nI j_266) (nI 3)) gL_isStep_X4_king rfl ⟨rfl, rfl⟩ hdX4_king ⟨(Nat.le_of_ble_eq_true rfl), (Nat.le_of_ble_eq_true rfl)⟩ [0, 1, 2] rfl (ci := 4) rfl rfl rfl (fun _ => kb_blk _ _) rfl rfl hl.1 (Nat.le_of_ble_eq_true rfl) dL_isStep_286 ⟨(Nat.le_of_ble_eq_true rfl), (Nat.le_of_ble_eq_true rfl)⟩ (fun r u_286_2 H locs hw hP hD hS => ?_)
          obtain ⟨hr_286, hin⟩ := hw
          subst hr_286
          refine kb_top (nI 2) ((kA_k hk h24 (by decide)).trans (congrArg nI hd)) ?_
          refine lv_istore (lv' := [(7, .int (nI 2)), (6, .int (nI j_266)), (5, .int (nI (nK (mo_g m)))), (4, .int (x >>> (nI 4 &&& 31))), (0, .ref (a 0)), (1, .ref (b 0)), (2, .int (x)), (3, .int (y))]) hx hb dL_isStep_289 hl (by decide) rfl (fun ls hl => ?_)
          refine lv_aload_n hx hb dL_isStep_291 rfl (lv_at hl 4 rfl) ?_
          refine lv_iload hx hb dL_isStep_292 (lv_at hl 1 rfl) ?_
          refine lv_iconst (v := nI 4) hx hb dL_isStep_294 (by decide) ?_
          refine kb_bIa (w := bW cI cC cS a) (As := [.int (nI j_266), .int (nI 4)]) (rest := []) hx hb hml hts hown hN hK hP hD hS hA (b_king l D cI cC cS a hin (nI j_266) (nI 4)) gL_isStep_X4_king rfl ⟨rfl, rfl⟩ hdX4_king ⟨(Nat.le_of_ble_eq_true rfl), (Nat.le_of_ble_eq_true rfl)⟩ [0, 1, 2] rfl (ci := 4) rfl rfl rfl (fun _ => kb_blk _ _) rfl rfl hl.1 (Nat.le_of_ble_eq_true rfl) dL_isStep_295 ⟨(Nat.le_of_ble_eq_true rfl), (Nat.le_of_ble_eq_true rfl)⟩ (fun r u_295_3 H locs hw hP hD hS => ?_)
          obtain ⟨hr_295, hin⟩ := hw
          subst hr_295
          refine kb_top (nI (plT (mo_g m) j_266)) ((kA_k hk h24 (by decide)).trans (tell_4y ho hk hd)) ?_
          refine lv_istore (lv' := [(8, .int (nI (plT (mo_g m) j_266))), (7, .int (nI 2)), (6, .int (nI j_266)), (5, .int (nI (nK (mo_g m)))), (4, .int (x >>> (nI 4 &&& 31))), (0, .ref (a 0)), (1, .ref (b 0)), (2, .int (x)), (3, .int (y))]) hx hb dL_isStep_298 hl (by decide) rfl (fun ls hl => ?_)
          refine lv_iload hx hb dL_isStep_300 (lv_at hl 0 rfl) ?_
          refine kb_nif_ge (tgt := 309) hx hb dL_isStep_302 (by decide) (by omega) ?_
          refine lv_aload_n hx hb dL_isStep_309 rfl (lv_at hl 5 rfl) ?_
          refine lv_iload hx hb dL_isStep_310 (lv_at hl 0 rfl) ?_
          refine lv_iconst (v := nI 1) hx hb dL_isStep_312 (by decide) ?_
          refine lv_iadd hx hb dL_isStep_313 ?_
          refine kb_top (nI (plT (mo_g m) j_266 + 1)) (nI_add (plT (mo_g m) j_266) 1) ?_
          refine kb_bIa (w := bW cI cC cS a) (As := [.int (nI (plT (mo_g m) j_266 + 1))]) (rest := []) hx hb hml hts hown hN hK hP hD hS hA (b_seat l D cI cC cS a hin (nI (plT (mo_g m) j_266 + 1))) gL_isStep_X4_seat rfl ⟨rfl, rfl⟩ hdX4_seat ⟨(Nat.le_of_ble_eq_true rfl), (Nat.le_of_ble_eq_true rfl)⟩ [0, 1, 2] rfl (ci := 4) rfl rfl rfl (fun _ => kb_blk _ _) rfl rfl hl.1 (Nat.le_of_ble_eq_true rfl) dL_isStep_314 ⟨(Nat.le_of_ble_eq_true rfl), (Nat.le_of_ble_eq_true rfl)⟩ (fun r u_314 H locs hw hP hD hS => ?_)
          obtain ⟨hr_314, hin⟩ := hw
          subst hr_314
          refine lv_istore (lv' := [(9, .int (seA (mo_g m) (nI (plT (mo_g m) j_266 + 1)))), (8, .int (nI (plT (mo_g m) j_266))), (7, .int (nI 2)), (6, .int (nI j_266)), (5, .int (nI (nK (mo_g m)))), (4, .int (x >>> (nI 4 &&& 31))), (0, .ref (a 0)), (1, .ref (b 0)), (2, .int (x)), (3, .int (y))]) hx hb dL_isStep_317 hl (by decide) rfl (fun ls hl => ?_)
          refine lv_aload_n hx hb dL_isStep_319 rfl (lv_at hl 6 rfl) ?_
          refine lv_iload hx hb dL_isStep_320 (lv_at hl 3 rfl) ?_
          refine kb_bIa (w := bW cI cC cS a) (As := [.int (nI j_266)]) (rest := []) hx hb hml hts hown hN hK hP hD hS hA (b_leave l D cI cC cS a hin (nI j_266)) gL_isStep_X4_leave rfl ⟨rfl, rfl⟩ hdX4_leave ⟨(Nat.le_of_ble_eq_true rfl), (Nat.le_of_ble_eq_true rfl)⟩ [0, 1, 2] rfl (ci := 4) rfl rfl rfl (fun _ => kb_blk _ _) rfl rfl hl.1 (Nat.le_of_ble_eq_true rfl) dL_isStep_322 ⟨(Nat.le_of_ble_eq_true rfl), (Nat.le_of_ble_eq_true rfl)⟩ (fun r u_322_3 H locs hw hP hD hS => ?_)
          obtain ⟨hr_322, hin⟩ := hw
          subst hr_322
          refine kb_top (nI 2) (congrArg Prod.fst hop) ?_
          refine lv_istore (lv' := [(10, .int (nI 2)), (9, .int (seA (mo_g m) (nI (plT (mo_g m) j_266 + 1)))), (8, .int (nI (plT (mo_g m) j_266))), (7, .int (nI 2)), (6, .int (nI j_266)), (5, .int (nI (nK (mo_g m)))), (4, .int (x >>> (nI 4 &&& 31))), (0, .ref (a 0)), (1, .ref (b 0)), (2, .int (x)), (3, .int (y))]) hx hb dL_isStep_325 hl (by decide) rfl (fun ls hl => ?_)
          refine lv_iload hx hb dL_isStep_327 (lv_at hl 0 rfl) ?_
          refine lv_aload_n hx hb dL_isStep_329 rfl (lv_at hl 8 rfl) ?_
          refine lv_iload hx hb dL_isStep_330 (lv_at hl 4 rfl) ?_
          refine kb_bIb (w := bW cI cC cS b) (As := [.int (nI j_266)]) (rest := [.int (nI 2)]) hx hb hml hts hown hN hK hP hD hS hA (b_leave l D cI cC cS b hip (nI j_266)) gL_isStep_X4_leave rfl ⟨rfl, rfl⟩ hdX4_leave ⟨(Nat.le_of_ble_eq_true rfl), (Nat.le_of_ble_eq_true rfl)⟩ [0, 1, 2] rfl (ci := 4) rfl rfl rfl (fun _ => kb_blk _ _) rfl rfl hl.1 (Nat.le_of_ble_eq_true rfl) dL_isStep_332 ⟨(Nat.le_of_ble_eq_true rfl), (Nat.le_of_ble_eq_true rfl)⟩ (fun r u_332_3 H locs hw hP hD hS => ?_)
          obtain ⟨hr_332, hip⟩ := hw
          subst hr_332
          refine kb_top (nI 2) (by rw [hg2, opL_d]; exact congrArg Prod.fst hop) ?_
          refine kb_icmp_ne (tgt := 392) hx hb dL_isStep_335 (by decide) (by decide) (by decide) (fun c => absurd c (by decide)) (fun _ => ?_)
          refine lv_iload hx hb dL_isStep_338 (lv_at hl 0 rfl) ?_
          refine lv_iload hx hb dL_isStep_340 (lv_at hl 3 rfl) ?_
          refine kb_nif_ge (tgt := 349) hx hb dL_isStep_342 (by decide) (by decide) ?_
          refine lv_iload hx hb dL_isStep_349 (lv_at hl 3 rfl) ?_
          refine lv_iconst (v := nI 3) hx hb dL_isStep_351 (by decide) ?_
          refine kb_icmp_ne (tgt := 360) hx hb dL_isStep_352 (by decide) (by decide) (by decide) (fun _ => ?_) (fun c => absurd c (by decide))
          refine lv_iload hx hb dL_isStep_360 (lv_at hl 3 rfl) ?_
          refine kb_icmp_ne (tgt := 392) hx hb dL_isStep_362 (by decide) (by decide) (by decide) (fun c => absurd c (by decide)) (fun _ => ?_)
          refine lv_iload hx hb dL_isStep_365 (lv_at hl 2 rfl) ?_
          refine kb_nif_lt (tgt := 388) hx hb dL_isStep_367 (by decide) (by omega) ?_
          refine lv_iload hx hb dL_isStep_370 (lv_at hl 2 rfl) ?_
          refine lv_bipush (v := nI 11) hx hb dL_isStep_372 (by decide) ?_
          refine kb_icmp_eq (tgt := 388) hx hb dL_isStep_374 (by decide) (by omega) (by omega) (fun c374 => ?_) (fun c374 => ?_)
          · refine lv_iconst (v := nI 1) hx hb dL_isStep_388 (by decide) ?_
            refine lv_goto (tgt := 393) hx hb dL_isStep_389 (by decide) ?_
            have hPR : PR (M + 99) (moA m (opL (mo_g m) (nI j_266)).1 (opL (mo_g m) (nI j_266)).2) (moA m2 (opL (mo_g m2) (nI j_266)).1 (opL (mo_g m2) (nI j_266)).2) := (PR_opL hR _).mono (by omega)
            exact kb_zret (D := D) (w := fun z : KBS × KBS => bW cI cC cS a z.1 ++ bW cI cC cS b z.2) hQ hx hb hr hlocks hK hP hD hS dL_isStep_393 rfl (u_322_3, u_332_3) rfl (Nat.le_refl _) (Nat.le_refl _) ⟨rfl, _, _, hin, hip, hPR⟩
          · refine lv_aload_n hx hb dL_isStep_377 rfl (lv_at hl 7 rfl) ?_
            refine lv_iload hx hb dL_isStep_378 (lv_at hl 2 rfl) ?_
            refine kb_bIa (w := bW cI cC cS a) (As := [.int (nI (plT (mo_g m) j_266))]) (rest := []) hx hb hml hts hown hN hK hP hD hS hA (b_seat l D cI cC cS a hin (nI (plT (mo_g m) j_266))) gL_isStep_X4_seat rfl ⟨rfl, rfl⟩ hdX4_seat ⟨(Nat.le_of_ble_eq_true rfl), (Nat.le_of_ble_eq_true rfl)⟩ [0, 1, 2] rfl (ci := 4) rfl rfl rfl (fun _ => kb_blk _ _) rfl rfl hl.1 (Nat.le_of_ble_eq_true rfl) dL_isStep_380 ⟨(Nat.le_of_ble_eq_true rfl), (Nat.le_of_ble_eq_true rfl)⟩ (fun r u_380 H locs hw hP hD hS => ?_)
            obtain ⟨hr_380, hin⟩ := hw
            subst hr_380
            refine kb_top (seA (mo_g m) (nI (plT (mo_g m) j_266 + 1))) (by rw [moA_g hop (by decide)]; exact seA_lv ho hk hd (by omega)) ?_
            refine lv_iload hx hb dL_isStep_383 (lv_at hl 1 rfl) ?_
            refine lv_icmp_ne (tgt := 392) hx hb dL_isStep_385 (by decide) (fun c385 => ?_) (fun c385 => ?_)
            · exfalso; exact c385 rfl
            · refine lv_iconst (v := nI 1) hx hb dL_isStep_388 (by decide) ?_
              refine lv_goto (tgt := 393) hx hb dL_isStep_389 (by decide) ?_
              have hPR : PR (M + 99) (moA m (opL (mo_g m) (nI j_266)).1 (opL (mo_g m) (nI j_266)).2) (moA m2 (opL (mo_g m2) (nI j_266)).1 (opL (mo_g m2) (nI j_266)).2) := (PR_opL hR _).mono (by omega)
              exact kb_zret (D := D) (w := fun z : KBS × KBS => bW cI cC cS a z.1 ++ bW cI cC cS b z.2) hQ hx hb hr hlocks hK hP hD hS dL_isStep_393 rfl (u_380, u_332_3) rfl (Nat.le_refl _) (Nat.le_refl _) ⟨rfl, _, _, hin, hip, hPR⟩
        · exfalso; omega
      · have hop : opL (mo_g m) (nI j_266) = (-4, (mo_g m)) := opL_2 hki (by omega) hd
        refine lv_iload hx hb dL_isStep_271 (lv_at hl 0 rfl) ?_
        refine lv_iload hx hb dL_isStep_273 (lv_at hl 1 rfl) ?_
        refine kb_icmp_ne (tgt := 282) hx hb dL_isStep_275 (by decide) (by omega) (by omega) (fun c275 => ?_) (fun c275 => ?_)
        · refine lv_aload_n hx hb dL_isStep_282 rfl (lv_at hl 3 rfl) ?_
          refine lv_iload hx hb dL_isStep_283 (lv_at hl 0 rfl) ?_
          refine lv_iconst (v := nI 3) hx hb dL_isStep_285 (by decide) ?_
          refine kb_bIa (w := bW cI cC cS a) (As := [.int (nI j_266), .int (nI 3)]) (rest := []) hx hb hml hts hown hN hK hP hD hS hA (b_king l D cI cC cS a hin (nI j_266) (nI 3)) gL_isStep_X4_king rfl ⟨rfl, rfl⟩ hdX4_king ⟨(Nat.le_of_ble_eq_true rfl), (Nat.le_of_ble_eq_true rfl)⟩ [0, 1, 2] rfl (ci := 4) rfl rfl rfl (fun _ => kb_blk _ _) rfl rfl hl.1 (Nat.le_of_ble_eq_true rfl) dL_isStep_286 ⟨(Nat.le_of_ble_eq_true rfl), (Nat.le_of_ble_eq_true rfl)⟩ (fun r u_286_3 H locs hw hP hD hS => ?_)
          obtain ⟨hr_286, hin⟩ := hw
          subst hr_286
          refine kb_top (nI 3) ((kA_k hk h24 (by decide)).trans (congrArg nI hd)) ?_
          refine lv_istore (lv' := [(7, .int (nI 3)), (6, .int (nI j_266)), (5, .int (nI (nK (mo_g m)))), (4, .int (x >>> (nI 4 &&& 31))), (0, .ref (a 0)), (1, .ref (b 0)), (2, .int (x)), (3, .int (y))]) hx hb dL_isStep_289 hl (by decide) rfl (fun ls hl => ?_)
          refine lv_aload_n hx hb dL_isStep_291 rfl (lv_at hl 4 rfl) ?_
          refine lv_iload hx hb dL_isStep_292 (lv_at hl 1 rfl) ?_
          refine lv_iconst (v := nI 4) hx hb dL_isStep_294 (by decide) ?_
          refine kb_bIa (w := bW cI cC cS a) (As := [.int (nI j_266), .int (nI 4)]) (rest := []) hx hb hml hts hown hN hK hP hD hS hA (b_king l D cI cC cS a hin (nI j_266) (nI 4)) gL_isStep_X4_king rfl ⟨rfl, rfl⟩ hdX4_king ⟨(Nat.le_of_ble_eq_true rfl), (Nat.le_of_ble_eq_true rfl)⟩ [0, 1, 2] rfl (ci := 4) rfl rfl rfl (fun _ => kb_blk _ _) rfl rfl hl.1 (Nat.le_of_ble_eq_true rfl) dL_isStep_295 ⟨(Nat.le_of_ble_eq_true rfl), (Nat.le_of_ble_eq_true rfl)⟩ (fun r u_295_4 H locs hw hP hD hS => ?_)
          obtain ⟨hr_295, hin⟩ := hw
          subst hr_295
          refine kb_top ((-5)) ((kA_k hk h24 (by decide)).trans (tell_4n ho hk (by omega))) ?_
          refine lv_istore (lv' := [(8, .int ((-5))), (7, .int (nI 3)), (6, .int (nI j_266)), (5, .int (nI (nK (mo_g m)))), (4, .int (x >>> (nI 4 &&& 31))), (0, .ref (a 0)), (1, .ref (b 0)), (2, .int (x)), (3, .int (y))]) hx hb dL_isStep_298 hl (by decide) rfl (fun ls hl => ?_)
          refine lv_iload hx hb dL_isStep_300 (lv_at hl 0 rfl) ?_
          refine lv_if_ge (tgt := 309) hx hb dL_isStep_302 (by decide) (fun c => absurd c (by decide)) (fun _ => ?_)
          refine lv_iconst (v := nI 0) hx hb dL_isStep_305 (by decide) ?_
          refine lv_goto (tgt := 317) hx hb dL_isStep_306 (by decide) ?_
          refine lv_istore (lv' := [(9, .int (nI 0)), (8, .int ((-5))), (7, .int (nI 3)), (6, .int (nI j_266)), (5, .int (nI (nK (mo_g m)))), (4, .int (x >>> (nI 4 &&& 31))), (0, .ref (a 0)), (1, .ref (b 0)), (2, .int (x)), (3, .int (y))]) hx hb dL_isStep_317 hl (by decide) rfl (fun ls hl => ?_)
          refine lv_aload_n hx hb dL_isStep_319 rfl (lv_at hl 6 rfl) ?_
          refine lv_iload hx hb dL_isStep_320 (lv_at hl 3 rfl) ?_
          refine kb_bIa (w := bW cI cC cS a) (As := [.int (nI j_266)]) (rest := []) hx hb hml hts hown hN hK hP hD hS hA (b_leave l D cI cC cS a hin (nI j_266)) gL_isStep_X4_leave rfl ⟨rfl, rfl⟩ hdX4_leave ⟨(Nat.le_of_ble_eq_true rfl), (Nat.le_of_ble_eq_true rfl)⟩ [0, 1, 2] rfl (ci := 4) rfl rfl rfl (fun _ => kb_blk _ _) rfl rfl hl.1 (Nat.le_of_ble_eq_true rfl) dL_isStep_322 ⟨(Nat.le_of_ble_eq_true rfl), (Nat.le_of_ble_eq_true rfl)⟩ (fun r u_322_4 H locs hw hP hD hS => ?_)
          obtain ⟨hr_322, hin⟩ := hw
          subst hr_322
          refine kb_top ((-4)) (congrArg Prod.fst hop) ?_
          refine lv_istore (lv' := [(10, .int ((-4))), (9, .int (nI 0)), (8, .int ((-5))), (7, .int (nI 3)), (6, .int (nI j_266)), (5, .int (nI (nK (mo_g m)))), (4, .int (x >>> (nI 4 &&& 31))), (0, .ref (a 0)), (1, .ref (b 0)), (2, .int (x)), (3, .int (y))]) hx hb dL_isStep_325 hl (by decide) rfl (fun ls hl => ?_)
          refine lv_iload hx hb dL_isStep_327 (lv_at hl 0 rfl) ?_
          refine lv_aload_n hx hb dL_isStep_329 rfl (lv_at hl 8 rfl) ?_
          refine lv_iload hx hb dL_isStep_330 (lv_at hl 4 rfl) ?_
          refine kb_bIb (w := bW cI cC cS b) (As := [.int (nI j_266)]) (rest := [.int ((-4))]) hx hb hml hts hown hN hK hP hD hS hA (b_leave l D cI cC cS b hip (nI j_266)) gL_isStep_X4_leave rfl ⟨rfl, rfl⟩ hdX4_leave ⟨(Nat.le_of_ble_eq_true rfl), (Nat.le_of_ble_eq_true rfl)⟩ [0, 1, 2] rfl (ci := 4) rfl rfl rfl (fun _ => kb_blk _ _) rfl rfl hl.1 (Nat.le_of_ble_eq_true rfl) dL_isStep_332 ⟨(Nat.le_of_ble_eq_true rfl), (Nat.le_of_ble_eq_true rfl)⟩ (fun r u_332_4 H locs hw hP hD hS => ?_)
          obtain ⟨hr_332, hip⟩ := hw
          subst hr_332
          refine kb_top ((-4)) (by rw [hg2, opL_d]; exact congrArg Prod.fst hop) ?_
          refine lv_icmp_ne (tgt := 392) hx hb dL_isStep_335 (by decide) (fun c335 => ?_) (fun c335 => ?_)
          · exfalso; exact c335 rfl
          · refine lv_iload hx hb dL_isStep_338 (lv_at hl 0 rfl) ?_
            refine lv_iload hx hb dL_isStep_340 (lv_at hl 3 rfl) ?_
            refine kb_nif_ge (tgt := 349) hx hb dL_isStep_342 (by decide) (by decide) ?_
            refine lv_iload hx hb dL_isStep_349 (lv_at hl 3 rfl) ?_
            refine lv_iconst (v := nI 3) hx hb dL_isStep_351 (by decide) ?_
            refine kb_icmp_ne (tgt := 360) hx hb dL_isStep_352 (by decide) (by decide) (by decide) (fun c => absurd c (by decide)) (fun _ => ?_)
            refine lv_bipush (v := (-4)) hx hb dL_isStep_355 (by decide) ?_
            refine lv_goto (tgt := 362) hx hb dL_isStep_357 (by decide) ?_
            refine lv_icmp_ne (tgt := 392) hx hb dL_isStep_362 (by decide) (fun c362 => ?_) (fun c362 => ?_)
            · exfalso; exact c362 rfl
            · refine lv_iload hx hb dL_isStep_365 (lv_at hl 2 rfl) ?_
              refine lv_if_lt (tgt := 388) hx hb dL_isStep_367 (by decide) (fun _ => ?_) (fun c => absurd (by decide) c)
              refine lv_iconst (v := nI 1) hx hb dL_isStep_388 (by decide) ?_
              refine lv_goto (tgt := 393) hx hb dL_isStep_389 (by decide) ?_
              have hPR : PR (M + 99) (moA m (opL (mo_g m) (nI j_266)).1 (opL (mo_g m) (nI j_266)).2) (moA m2 (opL (mo_g m2) (nI j_266)).1 (opL (mo_g m2) (nI j_266)).2) := (PR_opL hR _).mono (by omega)
              exact kb_zret (D := D) (w := fun z : KBS × KBS => bW cI cC cS a z.1 ++ bW cI cC cS b z.2) hQ hx hb hr hlocks hK hP hD hS dL_isStep_393 rfl (u_322_4, u_332_4) rfl (Nat.le_refl _) (Nat.le_refl _) ⟨rfl, _, _, hin, hip, hPR⟩
        · exfalso; omega
  have k_394 : W p l e rmL_isStep s mm args below meth c H locs 0 0 Q (F0 mm 394 ls []) := by
    refine lv_iload hx hb dL_isStep_394 (lv_at hl 1 rfl) ?_
    refine lv_bipush (v := nI 12) hx hb dL_isStep_396 (by decide) ?_
    refine kb_sR (As := [.int (x >>> (nI 4 &&& 31)), .int (nI 12)]) (rest := []) hx hb hml hts hown hN hK hP hD hS hA (c_L_up l D (x >>> (nI 4 &&& 31)) 12 (by first | assumption | omega) (by first | assumption | omega)) gL_isStep_L_up rfl ⟨rfl, rfl⟩ hdL_up.2 ⟨Nat.le_of_ble_eq_true rfl, Nat.le_of_ble_eq_true rfl⟩ [] [] rfl rfl rfl rfl rfl hl.1 (Nat.le_of_ble_eq_true rfl) dL_isStep_398 ⟨Nat.zero_le _, Nat.zero_le _⟩ (fun H locs hP hS => ?_)
    obtain ⟨j_398, hj_398, ej_398⟩ : ∃ j, j < 12 ∧ nI (upN (x >>> (nI 4 &&& 31)) 12) = nI j := ⟨_, upN_lt (by omega), rfl⟩
    refine kb_top (nI j_398) ej_398 ?_
    refine lv_istore (lv' := [(6, .int (nI j_398)), (5, .int (nI (nK (mo_g m)))), (4, .int (x >>> (nI 4 &&& 31))), (0, .ref (a 0)), (1, .ref (b 0)), (2, .int (x)), (3, .int (y))]) hx hb dL_isStep_401 hl (by decide) rfl (fun ls hl => ?_)
    by_cases hit : j_398 + 1 < nT (mo_g m)
    · rcases Bool.eq_false_or_eq_true (wrg (mo_g m) j_398) with hw | hw
      · have hop : opE (mo_g m) (nI j_398) = (nI (gT (mo_g m) (j_398 + 1)), oSw (mo_g m) j_398) := opE_3 (by omega) (by omega) hw
        have hgt := ok_t25 ho hit
        have hgu := ok_t25 ho (j := j_398) (by omega)
        have hws := wp_swi hit hw
        refine lv_aload_n hx hb dL_isStep_403 rfl (lv_at hl 3 rfl) ?_
        refine lv_iload hx hb dL_isStep_404 (lv_at hl 0 rfl) ?_
        refine kb_bIa (w := bW cI cC cS a) (As := [.int (nI j_398)]) (rest := []) hx hb hml hts hown hN hK hP hD hS hA (b_seat l D cI cC cS a hin (nI j_398)) gL_isStep_X4_seat rfl ⟨rfl, rfl⟩ hdX4_seat ⟨(Nat.le_of_ble_eq_true rfl), (Nat.le_of_ble_eq_true rfl)⟩ [0, 1, 2] rfl (ci := 4) rfl rfl rfl (fun _ => kb_blk _ _) rfl rfl hl.1 (Nat.le_of_ble_eq_true rfl) dL_isStep_406 ⟨(Nat.le_of_ble_eq_true rfl), (Nat.le_of_ble_eq_true rfl)⟩ (fun r u_406 H locs hw hP hD hS => ?_)
        obtain ⟨hr_406, hin⟩ := hw
        subst hr_406
        refine kb_top (nI (gT (mo_g m) j_398)) (seA_t ho (by omega)) ?_
        refine lv_istore (lv' := [(7, .int (nI (gT (mo_g m) j_398))), (6, .int (nI j_398)), (5, .int (nI (nK (mo_g m)))), (4, .int (x >>> (nI 4 &&& 31))), (0, .ref (a 0)), (1, .ref (b 0)), (2, .int (x)), (3, .int (y))]) hx hb dL_isStep_409 hl (by decide) rfl (fun ls hl => ?_)
        refine lv_iload hx hb dL_isStep_411 (lv_at hl 1 rfl) ?_
        refine lv_bipush (v := nI 11) hx hb dL_isStep_413 (by decide) ?_
        refine kb_icmp_ne (tgt := 423) hx hb dL_isStep_415 (by decide) (by omega) (by omega) (fun c415 => ?_) (fun c415 => ?_)
        · refine lv_aload_n hx hb dL_isStep_423 rfl (lv_at hl 4 rfl) ?_
          refine lv_iload hx hb dL_isStep_424 (lv_at hl 1 rfl) ?_
          refine lv_iconst (v := nI 1) hx hb dL_isStep_426 (by decide) ?_
          refine lv_iadd hx hb dL_isStep_427 ?_
          refine kb_top (nI (j_398 + 1)) (nI_add j_398 1) ?_
          refine kb_bIa (w := bW cI cC cS a) (As := [.int (nI (j_398 + 1))]) (rest := []) hx hb hml hts hown hN hK hP hD hS hA (b_seat l D cI cC cS a hin (nI (j_398 + 1))) gL_isStep_X4_seat rfl ⟨rfl, rfl⟩ hdX4_seat ⟨(Nat.le_of_ble_eq_true rfl), (Nat.le_of_ble_eq_true rfl)⟩ [0, 1, 2] rfl (ci := 4) rfl rfl rfl (fun _ => kb_blk _ _) rfl rfl hl.1 (Nat.le_of_ble_eq_true rfl) dL_isStep_428 ⟨(Nat.le_of_ble_eq_true rfl), (Nat.le_of_ble_eq_true rfl)⟩ (fun r u_428 H locs hw hP hD hS => ?_)
          obtain ⟨hr_428, hin⟩ := hw
          subst hr_428
          refine kb_top (nI (gT (mo_g m) (j_398 + 1))) (seA_t ho (by omega)) ?_
          refine lv_istore (lv' := [(8, .int (nI (gT (mo_g m) (j_398 + 1)))), (7, .int (nI (gT (mo_g m) j_398))), (6, .int (nI j_398)), (5, .int (nI (nK (mo_g m)))), (4, .int (x >>> (nI 4 &&& 31))), (0, .ref (a 0)), (1, .ref (b 0)), (2, .int (x)), (3, .int (y))]) hx hb dL_isStep_431 hl (by decide) rfl (fun ls hl => ?_)
          refine lv_aload_n hx hb dL_isStep_433 rfl (lv_at hl 5 rfl) ?_
          refine kb_bIa (w := bW cI cC cS a) (As := []) (rest := []) hx hb hml hts hown hN hK hP hD hS hA (b_wrongPairs l D cI cC cS a hin ) gL_isStep_X4_wrongPairs rfl ⟨rfl, rfl⟩ hdX4_wrongPairs ⟨(Nat.le_of_ble_eq_true rfl), (Nat.le_of_ble_eq_true rfl)⟩ [0, 1, 2] rfl (ci := 4) rfl rfl rfl (fun _ => kb_blk _ _) rfl rfl hl.1 (Nat.le_of_ble_eq_true rfl) dL_isStep_434 ⟨(Nat.le_of_ble_eq_true rfl), (Nat.le_of_ble_eq_true rfl)⟩ (fun r u_434 H locs hw hP hD hS => ?_)
          obtain ⟨hr_434, hin⟩ := hw
          subst hr_434
          refine lv_istore (lv' := [(9, .int (nI (wp (mo_g m)))), (8, .int (nI (gT (mo_g m) (j_398 + 1)))), (7, .int (nI (gT (mo_g m) j_398))), (6, .int (nI j_398)), (5, .int (nI (nK (mo_g m)))), (4, .int (x >>> (nI 4 &&& 31))), (0, .ref (a 0)), (1, .ref (b 0)), (2, .int (x)), (3, .int (y))]) hx hb dL_isStep_437 hl (by decide) rfl (fun ls hl => ?_)
          refine lv_aload_n hx hb dL_isStep_439 rfl (lv_at hl 6 rfl) ?_
          refine lv_iload hx hb dL_isStep_440 (lv_at hl 3 rfl) ?_
          refine kb_bIa (w := bW cI cC cS a) (As := [.int (nI j_398)]) (rest := []) hx hb hml hts hown hN hK hP hD hS hA (b_send l D cI cC cS a hin (nI j_398)) gL_isStep_X4_send rfl ⟨rfl, rfl⟩ hdX4_send ⟨(Nat.le_of_ble_eq_true rfl), (Nat.le_of_ble_eq_true rfl)⟩ [0, 1, 2] rfl (ci := 4) rfl rfl rfl (fun _ => kb_blk _ _) rfl rfl hl.1 (Nat.le_of_ble_eq_true rfl) dL_isStep_442 ⟨(Nat.le_of_ble_eq_true rfl), (Nat.le_of_ble_eq_true rfl)⟩ (fun r u_442 H locs hw hP hD hS => ?_)
          obtain ⟨hr_442, hin⟩ := hw
          subst hr_442
          refine kb_top (nI (gT (mo_g m) (j_398 + 1))) (congrArg Prod.fst hop) ?_
          refine lv_istore (lv' := [(10, .int (nI (gT (mo_g m) (j_398 + 1)))), (9, .int (nI (wp (mo_g m)))), (8, .int (nI (gT (mo_g m) (j_398 + 1)))), (7, .int (nI (gT (mo_g m) j_398))), (6, .int (nI j_398)), (5, .int (nI (nK (mo_g m)))), (4, .int (x >>> (nI 4 &&& 31))), (0, .ref (a 0)), (1, .ref (b 0)), (2, .int (x)), (3, .int (y))]) hx hb dL_isStep_445 hl (by decide) rfl (fun ls hl => ?_)
          refine lv_iload hx hb dL_isStep_447 (lv_at hl 2 rfl) ?_
          refine kb_nif_ge (tgt := 475) hx hb dL_isStep_449 (by decide) (by omega) ?_
          refine lv_iload hx hb dL_isStep_475 (lv_at hl 0 rfl) ?_
          refine lv_aload_n hx hb dL_isStep_477 rfl (lv_at hl 8 rfl) ?_
          refine lv_iload hx hb dL_isStep_478 (lv_at hl 4 rfl) ?_
          refine kb_bIb (w := bW cI cC cS b) (As := [.int (nI j_398)]) (rest := [.int (nI (gT (mo_g m) (j_398 + 1)))]) hx hb hml hts hown hN hK hP hD hS hA (b_send l D cI cC cS b hip (nI j_398)) gL_isStep_X4_send rfl ⟨rfl, rfl⟩ hdX4_send ⟨(Nat.le_of_ble_eq_true rfl), (Nat.le_of_ble_eq_true rfl)⟩ [0, 1, 2] rfl (ci := 4) rfl rfl rfl (fun _ => kb_blk _ _) rfl rfl hl.1 (Nat.le_of_ble_eq_true rfl) dL_isStep_480 ⟨(Nat.le_of_ble_eq_true rfl), (Nat.le_of_ble_eq_true rfl)⟩ (fun r u_480 H locs hw hP hD hS => ?_)
          obtain ⟨hr_480, hip⟩ := hw
          subst hr_480
          refine kb_top (nI (gT (mo_g m) (j_398 + 1))) (by rw [hg2, opE_d ho hy]; exact congrArg Prod.fst hop) ?_
          refine kb_icmp_ne (tgt := 548) hx hb dL_isStep_483 (by decide) (by omega) (by omega) (fun c483 => ?_) (fun c483 => ?_)
          · exfalso; omega
          · refine lv_iload hx hb dL_isStep_486 (lv_at hl 0 rfl) ?_
            refine kb_nif_ge (tgt := 513) hx hb dL_isStep_488 (by decide) (by omega) ?_
            refine lv_iload hx hb dL_isStep_513 (lv_at hl 0 rfl) ?_
            refine lv_iload hx hb dL_isStep_515 (lv_at hl 2 rfl) ?_
            refine kb_icmp_ne (tgt := 548) hx hb dL_isStep_517 (by decide) (by omega) (by omega) (fun c517 => ?_) (fun c517 => ?_)
            · exfalso; omega
            · refine lv_aload_n hx hb dL_isStep_520 rfl (lv_at hl 7 rfl) ?_
              refine lv_iload hx hb dL_isStep_521 (lv_at hl 4 rfl) ?_
              refine lv_iconst (v := nI 1) hx hb dL_isStep_523 (by decide) ?_
              refine lv_iadd hx hb dL_isStep_524 ?_
              refine kb_top (nI (j_398 + 1)) (nI_add j_398 1) ?_
              refine kb_bIa (w := bW cI cC cS a) (As := [.int (nI (j_398 + 1))]) (rest := []) hx hb hml hts hown hN hK hP hD hS hA (b_seat l D cI cC cS a hin (nI (j_398 + 1))) gL_isStep_X4_seat rfl ⟨rfl, rfl⟩ hdX4_seat ⟨(Nat.le_of_ble_eq_true rfl), (Nat.le_of_ble_eq_true rfl)⟩ [0, 1, 2] rfl (ci := 4) rfl rfl rfl (fun _ => kb_blk _ _) rfl rfl hl.1 (Nat.le_of_ble_eq_true rfl) dL_isStep_525 ⟨(Nat.le_of_ble_eq_true rfl), (Nat.le_of_ble_eq_true rfl)⟩ (fun r u_525 H locs hw hP hD hS => ?_)
              obtain ⟨hr_525, hin⟩ := hw
              subst hr_525
              refine kb_top (nI (gT (mo_g m) j_398)) (by rw [moA_g hop (nI_pos (by omega))]; exact seA_sw ho hit) ?_
              refine lv_iload hx hb dL_isStep_528 (lv_at hl 3 rfl) ?_
              refine kb_icmp_ne (tgt := 548) hx hb dL_isStep_530 (by decide) (by omega) (by omega) (fun c530 => ?_) (fun c530 => ?_)
              · exfalso; omega
              · refine lv_aload_n hx hb dL_isStep_533 rfl (lv_at hl 7 rfl) ?_
                refine kb_bIa (w := bW cI cC cS a) (As := []) (rest := []) hx hb hml hts hown hN hK hP hD hS hA (b_wrongPairs l D cI cC cS a hin ) gL_isStep_X4_wrongPairs rfl ⟨rfl, rfl⟩ hdX4_wrongPairs ⟨(Nat.le_of_ble_eq_true rfl), (Nat.le_of_ble_eq_true rfl)⟩ [0, 1, 2] rfl (ci := 4) rfl rfl rfl (fun _ => kb_blk _ _) rfl rfl hl.1 (Nat.le_of_ble_eq_true rfl) dL_isStep_534 ⟨(Nat.le_of_ble_eq_true rfl), (Nat.le_of_ble_eq_true rfl)⟩ (fun r u_534 H locs hw hP hD hS => ?_)
                obtain ⟨hr_534, hin⟩ := hw
                subst hr_534
                refine kb_top (nI (wp (oSw (mo_g m) j_398))) (by rw [moA_g hop (nI_pos (by omega))]) ?_
                refine lv_iload hx hb dL_isStep_537 (lv_at hl 1 rfl) ?_
                refine lv_iconst (v := nI 1) hx hb dL_isStep_539 (by decide) ?_
                refine lv_isub hx hb dL_isStep_540 ?_
                refine kb_top (nI ((wp (mo_g m)) - 1)) (pk_sub (by omega)) ?_
                refine kb_icmp_ne (tgt := 548) hx hb dL_isStep_541 (by decide) (by omega) (by omega) (fun c541 => ?_) (fun c541 => ?_)
                · exfalso; omega
                · refine lv_iconst (v := nI 1) hx hb dL_isStep_544 (by decide) ?_
                  refine lv_goto (tgt := 549) hx hb dL_isStep_545 (by decide) ?_
                  have hPR : PR (M + 99) (moA m (opE (mo_g m) (nI j_398)).1 (opE (mo_g m) (nI j_398)).2) (moA m2 (opE (mo_g m2) (nI j_398)).1 (opE (mo_g m2) (nI j_398)).2) := (PR_opE hR _).mono (by omega)
                  exact kb_zret (D := D) (w := fun z : KBS × KBS => bW cI cC cS a z.1 ++ bW cI cC cS b z.2) hQ hx hb hr hlocks hK hP hD hS dL_isStep_549 rfl (u_534, u_480) rfl (Nat.le_refl _) (Nat.le_refl _) ⟨rfl, _, _, hin, hip, hPR⟩
        · exfalso; omega
      · have hop : opE (mo_g m) (nI j_398) = (-4, (mo_g m)) := opE_2 (by omega) (by omega) hw
        have hgt := ok_t25 ho hit
        have hgu := ok_t25 ho (j := j_398) (by omega)
        refine lv_aload_n hx hb dL_isStep_403 rfl (lv_at hl 3 rfl) ?_
        refine lv_iload hx hb dL_isStep_404 (lv_at hl 0 rfl) ?_
        refine kb_bIa (w := bW cI cC cS a) (As := [.int (nI j_398)]) (rest := []) hx hb hml hts hown hN hK hP hD hS hA (b_seat l D cI cC cS a hin (nI j_398)) gL_isStep_X4_seat rfl ⟨rfl, rfl⟩ hdX4_seat ⟨(Nat.le_of_ble_eq_true rfl), (Nat.le_of_ble_eq_true rfl)⟩ [0, 1, 2] rfl (ci := 4) rfl rfl rfl (fun _ => kb_blk _ _) rfl rfl hl.1 (Nat.le_of_ble_eq_true rfl) dL_isStep_406 ⟨(Nat.le_of_ble_eq_true rfl), (Nat.le_of_ble_eq_true rfl)⟩ (fun r u_406_1 H locs hw hP hD hS => ?_)
        obtain ⟨hr_406, hin⟩ := hw
        subst hr_406
        refine kb_top (nI (gT (mo_g m) j_398)) (seA_t ho (by omega)) ?_
        refine lv_istore (lv' := [(7, .int (nI (gT (mo_g m) j_398))), (6, .int (nI j_398)), (5, .int (nI (nK (mo_g m)))), (4, .int (x >>> (nI 4 &&& 31))), (0, .ref (a 0)), (1, .ref (b 0)), (2, .int (x)), (3, .int (y))]) hx hb dL_isStep_409 hl (by decide) rfl (fun ls hl => ?_)
        refine lv_iload hx hb dL_isStep_411 (lv_at hl 1 rfl) ?_
        refine lv_bipush (v := nI 11) hx hb dL_isStep_413 (by decide) ?_
        refine kb_icmp_ne (tgt := 423) hx hb dL_isStep_415 (by decide) (by omega) (by omega) (fun c415 => ?_) (fun c415 => ?_)
        · refine lv_aload_n hx hb dL_isStep_423 rfl (lv_at hl 4 rfl) ?_
          refine lv_iload hx hb dL_isStep_424 (lv_at hl 1 rfl) ?_
          refine lv_iconst (v := nI 1) hx hb dL_isStep_426 (by decide) ?_
          refine lv_iadd hx hb dL_isStep_427 ?_
          refine kb_top (nI (j_398 + 1)) (nI_add j_398 1) ?_
          refine kb_bIa (w := bW cI cC cS a) (As := [.int (nI (j_398 + 1))]) (rest := []) hx hb hml hts hown hN hK hP hD hS hA (b_seat l D cI cC cS a hin (nI (j_398 + 1))) gL_isStep_X4_seat rfl ⟨rfl, rfl⟩ hdX4_seat ⟨(Nat.le_of_ble_eq_true rfl), (Nat.le_of_ble_eq_true rfl)⟩ [0, 1, 2] rfl (ci := 4) rfl rfl rfl (fun _ => kb_blk _ _) rfl rfl hl.1 (Nat.le_of_ble_eq_true rfl) dL_isStep_428 ⟨(Nat.le_of_ble_eq_true rfl), (Nat.le_of_ble_eq_true rfl)⟩ (fun r u_428_1 H locs hw hP hD hS => ?_)
          obtain ⟨hr_428, hin⟩ := hw
          subst hr_428
          refine kb_top (nI (gT (mo_g m) (j_398 + 1))) (seA_t ho (by omega)) ?_
          refine lv_istore (lv' := [(8, .int (nI (gT (mo_g m) (j_398 + 1)))), (7, .int (nI (gT (mo_g m) j_398))), (6, .int (nI j_398)), (5, .int (nI (nK (mo_g m)))), (4, .int (x >>> (nI 4 &&& 31))), (0, .ref (a 0)), (1, .ref (b 0)), (2, .int (x)), (3, .int (y))]) hx hb dL_isStep_431 hl (by decide) rfl (fun ls hl => ?_)
          refine lv_aload_n hx hb dL_isStep_433 rfl (lv_at hl 5 rfl) ?_
          refine kb_bIa (w := bW cI cC cS a) (As := []) (rest := []) hx hb hml hts hown hN hK hP hD hS hA (b_wrongPairs l D cI cC cS a hin ) gL_isStep_X4_wrongPairs rfl ⟨rfl, rfl⟩ hdX4_wrongPairs ⟨(Nat.le_of_ble_eq_true rfl), (Nat.le_of_ble_eq_true rfl)⟩ [0, 1, 2] rfl (ci := 4) rfl rfl rfl (fun _ => kb_blk _ _) rfl rfl hl.1 (Nat.le_of_ble_eq_true rfl) dL_isStep_434 ⟨(Nat.le_of_ble_eq_true rfl), (Nat.le_of_ble_eq_true rfl)⟩ (fun r u_434_1 H locs hw hP hD hS => ?_)
          obtain ⟨hr_434, hin⟩ := hw
          subst hr_434
          refine lv_istore (lv' := [(9, .int (nI (wp (mo_g m)))), (8, .int (nI (gT (mo_g m) (j_398 + 1)))), (7, .int (nI (gT (mo_g m) j_398))), (6, .int (nI j_398)), (5, .int (nI (nK (mo_g m)))), (4, .int (x >>> (nI 4 &&& 31))), (0, .ref (a 0)), (1, .ref (b 0)), (2, .int (x)), (3, .int (y))]) hx hb dL_isStep_437 hl (by decide) rfl (fun ls hl => ?_)
          refine lv_aload_n hx hb dL_isStep_439 rfl (lv_at hl 6 rfl) ?_
          refine lv_iload hx hb dL_isStep_440 (lv_at hl 3 rfl) ?_
          refine kb_bIa (w := bW cI cC cS a) (As := [.int (nI j_398)]) (rest := []) hx hb hml hts hown hN hK hP hD hS hA (b_send l D cI cC cS a hin (nI j_398)) gL_isStep_X4_send rfl ⟨rfl, rfl⟩ hdX4_send ⟨(Nat.le_of_ble_eq_true rfl), (Nat.le_of_ble_eq_true rfl)⟩ [0, 1, 2] rfl (ci := 4) rfl rfl rfl (fun _ => kb_blk _ _) rfl rfl hl.1 (Nat.le_of_ble_eq_true rfl) dL_isStep_442 ⟨(Nat.le_of_ble_eq_true rfl), (Nat.le_of_ble_eq_true rfl)⟩ (fun r u_442_1 H locs hw hP hD hS => ?_)
          obtain ⟨hr_442, hin⟩ := hw
          subst hr_442
          refine kb_top ((-4)) (congrArg Prod.fst hop) ?_
          refine lv_istore (lv' := [(10, .int ((-4))), (9, .int (nI (wp (mo_g m)))), (8, .int (nI (gT (mo_g m) (j_398 + 1)))), (7, .int (nI (gT (mo_g m) j_398))), (6, .int (nI j_398)), (5, .int (nI (nK (mo_g m)))), (4, .int (x >>> (nI 4 &&& 31))), (0, .ref (a 0)), (1, .ref (b 0)), (2, .int (x)), (3, .int (y))]) hx hb dL_isStep_445 hl (by decide) rfl (fun ls hl => ?_)
          refine lv_iload hx hb dL_isStep_447 (lv_at hl 2 rfl) ?_
          refine kb_nif_ge (tgt := 475) hx hb dL_isStep_449 (by decide) (by omega) ?_
          refine lv_iload hx hb dL_isStep_475 (lv_at hl 0 rfl) ?_
          refine lv_aload_n hx hb dL_isStep_477 rfl (lv_at hl 8 rfl) ?_
          refine lv_iload hx hb dL_isStep_478 (lv_at hl 4 rfl) ?_
          refine kb_bIb (w := bW cI cC cS b) (As := [.int (nI j_398)]) (rest := [.int ((-4))]) hx hb hml hts hown hN hK hP hD hS hA (b_send l D cI cC cS b hip (nI j_398)) gL_isStep_X4_send rfl ⟨rfl, rfl⟩ hdX4_send ⟨(Nat.le_of_ble_eq_true rfl), (Nat.le_of_ble_eq_true rfl)⟩ [0, 1, 2] rfl (ci := 4) rfl rfl rfl (fun _ => kb_blk _ _) rfl rfl hl.1 (Nat.le_of_ble_eq_true rfl) dL_isStep_480 ⟨(Nat.le_of_ble_eq_true rfl), (Nat.le_of_ble_eq_true rfl)⟩ (fun r u_480_1 H locs hw hP hD hS => ?_)
          obtain ⟨hr_480, hip⟩ := hw
          subst hr_480
          refine kb_top ((-4)) (by rw [hg2, opE_d ho hy]; exact congrArg Prod.fst hop) ?_
          refine lv_icmp_ne (tgt := 548) hx hb dL_isStep_483 (by decide) (fun c483 => ?_) (fun c483 => ?_)
          · exfalso; exact c483 rfl
          · refine lv_iload hx hb dL_isStep_486 (lv_at hl 0 rfl) ?_
            refine lv_if_ge (tgt := 513) hx hb dL_isStep_488 (by decide) (fun c => absurd c (by decide)) (fun _ => ?_)
            refine lv_iload hx hb dL_isStep_491 (lv_at hl 0 rfl) ?_
            refine lv_bipush (v := (-4)) hx hb dL_isStep_493 (by decide) ?_
            refine lv_icmp_ne (tgt := 548) hx hb dL_isStep_495 (by decide) (fun c495 => ?_) (fun c495 => ?_)
            · exfalso; exact c495 rfl
            · refine lv_aload_n hx hb dL_isStep_498 rfl (lv_at hl 7 rfl) ?_
              refine lv_iload hx hb dL_isStep_499 (lv_at hl 3 rfl) ?_
              refine lv_iload hx hb dL_isStep_501 (lv_at hl 2 rfl) ?_
              refine kb_bIa (w := bW cI cC cS a) (As := [.int (nI (gT (mo_g m) j_398)), .int (nI (gT (mo_g m) (j_398 + 1)))]) (rest := []) hx hb hml hts hown hN hK hP hD hS hA (b_reason l D cI cC cS a hin (nI (gT (mo_g m) j_398)) (nI (gT (mo_g m) (j_398 + 1)))) gL_isStep_X4_reason rfl ⟨rfl, rfl⟩ hdX4_reason ⟨(Nat.le_of_ble_eq_true rfl), (Nat.le_of_ble_eq_true rfl)⟩ [0, 1, 2] rfl (ci := 4) rfl rfl rfl (fun _ => kb_blk _ _) rfl rfl hl.1 (Nat.le_of_ble_eq_true rfl) dL_isStep_503 ⟨(Nat.le_of_ble_eq_true rfl), (Nat.le_of_ble_eq_true rfl)⟩ (fun r u_503 H locs hw hP hD hS => ?_)
              obtain ⟨hr_503, hin⟩ := hw
              subst hr_503
              refine kb_top (reA (mo_g m) (nI (gT (mo_g m) j_398)) (nI (gT (mo_g m) (j_398 + 1)))) (by rw [moA_gn hop (by decide)]) ?_
              refine lv_iconst (v := nI 2) hx hb dL_isStep_506 (by decide) ?_
              refine lv_icmp_eq (tgt := 548) hx hb dL_isStep_507 (by decide) (fun c507 => ?_) (fun c507 => ?_)
              · exfalso; exact reA_sw ho hit hw c507
              · refine lv_goto (tgt := 544) hx hb dL_isStep_510 (by decide) ?_
                refine lv_iconst (v := nI 1) hx hb dL_isStep_544 (by decide) ?_
                refine lv_goto (tgt := 549) hx hb dL_isStep_545 (by decide) ?_
                have hPR : PR (M + 99) (moA m (opE (mo_g m) (nI j_398)).1 (opE (mo_g m) (nI j_398)).2) (moA m2 (opE (mo_g m2) (nI j_398)).1 (opE (mo_g m2) (nI j_398)).2) := (PR_opE hR _).mono (by omega)
                exact kb_zret (D := D) (w := fun z : KBS × KBS => bW cI cC cS a z.1 ++ bW cI cC cS b z.2) hQ hx hb hr hlocks hK hP hD hS dL_isStep_549 rfl (u_503, u_480_1) rfl (Nat.le_refl _) (Nat.le_refl _) ⟨rfl, _, _, hin, hip, hPR⟩
        · exfalso; omega
    · have hop : opE (mo_g m) (nI j_398) = (-1, (mo_g m)) := opE_1 (kIs_fn (by omega) (by omega) (by omega))
      refine lv_aload_n hx hb dL_isStep_403 rfl (lv_at hl 3 rfl) ?_
      refine lv_iload hx hb dL_isStep_404 (lv_at hl 0 rfl) ?_
      refine kb_bIa (w := bW cI cC cS a) (As := [.int (nI j_398)]) (rest := []) hx hb hml hts hown hN hK hP hD hS hA (b_seat l D cI cC cS a hin (nI j_398)) gL_isStep_X4_seat rfl ⟨rfl, rfl⟩ hdX4_seat ⟨(Nat.le_of_ble_eq_true rfl), (Nat.le_of_ble_eq_true rfl)⟩ [0, 1, 2] rfl (ci := 4) rfl rfl rfl (fun _ => kb_blk _ _) rfl rfl hl.1 (Nat.le_of_ble_eq_true rfl) dL_isStep_406 ⟨(Nat.le_of_ble_eq_true rfl), (Nat.le_of_ble_eq_true rfl)⟩ (fun r u_406_2 H locs hw hP hD hS => ?_)
      obtain ⟨hr_406, hin⟩ := hw
      subst hr_406
      refine lv_istore (lv' := [(7, .int (seA (mo_g m) (nI j_398))), (6, .int (nI j_398)), (5, .int (nI (nK (mo_g m)))), (4, .int (x >>> (nI 4 &&& 31))), (0, .ref (a 0)), (1, .ref (b 0)), (2, .int (x)), (3, .int (y))]) hx hb dL_isStep_409 hl (by decide) rfl (fun ls hl => ?_)
      refine lv_iload hx hb dL_isStep_411 (lv_at hl 1 rfl) ?_
      refine lv_bipush (v := nI 11) hx hb dL_isStep_413 (by decide) ?_
      refine kb_icmp_ne (tgt := 423) hx hb dL_isStep_415 (by decide) (by omega) (by omega) (fun c415 => ?_) (fun c415 => ?_)
      · refine lv_aload_n hx hb dL_isStep_423 rfl (lv_at hl 4 rfl) ?_
        refine lv_iload hx hb dL_isStep_424 (lv_at hl 1 rfl) ?_
        refine lv_iconst (v := nI 1) hx hb dL_isStep_426 (by decide) ?_
        refine lv_iadd hx hb dL_isStep_427 ?_
        refine kb_top (nI (j_398 + 1)) (nI_add j_398 1) ?_
        refine kb_bIa (w := bW cI cC cS a) (As := [.int (nI (j_398 + 1))]) (rest := []) hx hb hml hts hown hN hK hP hD hS hA (b_seat l D cI cC cS a hin (nI (j_398 + 1))) gL_isStep_X4_seat rfl ⟨rfl, rfl⟩ hdX4_seat ⟨(Nat.le_of_ble_eq_true rfl), (Nat.le_of_ble_eq_true rfl)⟩ [0, 1, 2] rfl (ci := 4) rfl rfl rfl (fun _ => kb_blk _ _) rfl rfl hl.1 (Nat.le_of_ble_eq_true rfl) dL_isStep_428 ⟨(Nat.le_of_ble_eq_true rfl), (Nat.le_of_ble_eq_true rfl)⟩ (fun r u_428_2 H locs hw hP hD hS => ?_)
        obtain ⟨hr_428, hin⟩ := hw
        subst hr_428
        refine kb_top ((-5)) (seA_n ho (by omega) (by omega)) ?_
        refine lv_istore (lv' := [(8, .int ((-5))), (7, .int (seA (mo_g m) (nI j_398))), (6, .int (nI j_398)), (5, .int (nI (nK (mo_g m)))), (4, .int (x >>> (nI 4 &&& 31))), (0, .ref (a 0)), (1, .ref (b 0)), (2, .int (x)), (3, .int (y))]) hx hb dL_isStep_431 hl (by decide) rfl (fun ls hl => ?_)
        refine lv_aload_n hx hb dL_isStep_433 rfl (lv_at hl 5 rfl) ?_
        refine kb_bIa (w := bW cI cC cS a) (As := []) (rest := []) hx hb hml hts hown hN hK hP hD hS hA (b_wrongPairs l D cI cC cS a hin ) gL_isStep_X4_wrongPairs rfl ⟨rfl, rfl⟩ hdX4_wrongPairs ⟨(Nat.le_of_ble_eq_true rfl), (Nat.le_of_ble_eq_true rfl)⟩ [0, 1, 2] rfl (ci := 4) rfl rfl rfl (fun _ => kb_blk _ _) rfl rfl hl.1 (Nat.le_of_ble_eq_true rfl) dL_isStep_434 ⟨(Nat.le_of_ble_eq_true rfl), (Nat.le_of_ble_eq_true rfl)⟩ (fun r u_434_2 H locs hw hP hD hS => ?_)
        obtain ⟨hr_434, hin⟩ := hw
        subst hr_434
        refine lv_istore (lv' := [(9, .int (nI (wp (mo_g m)))), (8, .int ((-5))), (7, .int (seA (mo_g m) (nI j_398))), (6, .int (nI j_398)), (5, .int (nI (nK (mo_g m)))), (4, .int (x >>> (nI 4 &&& 31))), (0, .ref (a 0)), (1, .ref (b 0)), (2, .int (x)), (3, .int (y))]) hx hb dL_isStep_437 hl (by decide) rfl (fun ls hl => ?_)
        refine lv_aload_n hx hb dL_isStep_439 rfl (lv_at hl 6 rfl) ?_
        refine lv_iload hx hb dL_isStep_440 (lv_at hl 3 rfl) ?_
        refine kb_bIa (w := bW cI cC cS a) (As := [.int (nI j_398)]) (rest := []) hx hb hml hts hown hN hK hP hD hS hA (b_send l D cI cC cS a hin (nI j_398)) gL_isStep_X4_send rfl ⟨rfl, rfl⟩ hdX4_send ⟨(Nat.le_of_ble_eq_true rfl), (Nat.le_of_ble_eq_true rfl)⟩ [0, 1, 2] rfl (ci := 4) rfl rfl rfl (fun _ => kb_blk _ _) rfl rfl hl.1 (Nat.le_of_ble_eq_true rfl) dL_isStep_442 ⟨(Nat.le_of_ble_eq_true rfl), (Nat.le_of_ble_eq_true rfl)⟩ (fun r u_442_2 H locs hw hP hD hS => ?_)
        obtain ⟨hr_442, hin⟩ := hw
        subst hr_442
        refine kb_top ((-1)) (congrArg Prod.fst hop) ?_
        refine lv_istore (lv' := [(10, .int ((-1))), (9, .int (nI (wp (mo_g m)))), (8, .int ((-5))), (7, .int (seA (mo_g m) (nI j_398))), (6, .int (nI j_398)), (5, .int (nI (nK (mo_g m)))), (4, .int (x >>> (nI 4 &&& 31))), (0, .ref (a 0)), (1, .ref (b 0)), (2, .int (x)), (3, .int (y))]) hx hb dL_isStep_445 hl (by decide) rfl (fun ls hl => ?_)
        refine lv_iload hx hb dL_isStep_447 (lv_at hl 2 rfl) ?_
        refine lv_if_ge (tgt := 475) hx hb dL_isStep_449 (by decide) (fun c => absurd c (by decide)) (fun _ => ?_)
        refine lv_iload hx hb dL_isStep_452 (lv_at hl 0 rfl) ?_
        refine lv_iconst (v := (-1)) hx hb dL_isStep_454 (by decide) ?_
        refine lv_icmp_ne (tgt := 473) hx hb dL_isStep_455 (by decide) (fun c455 => ?_) (fun c455 => ?_)
        · exfalso; exact c455 rfl
        · refine lv_aload_n hx hb dL_isStep_458 rfl (lv_at hl 8 rfl) ?_
          refine lv_iload hx hb dL_isStep_459 (lv_at hl 4 rfl) ?_
          refine kb_bIb (w := bW cI cC cS b) (As := [.int (nI j_398)]) (rest := []) hx hb hml hts hown hN hK hP hD hS hA (b_send l D cI cC cS b hip (nI j_398)) gL_isStep_X4_send rfl ⟨rfl, rfl⟩ hdX4_send ⟨(Nat.le_of_ble_eq_true rfl), (Nat.le_of_ble_eq_true rfl)⟩ [0, 1, 2] rfl (ci := 4) rfl rfl rfl (fun _ => kb_blk _ _) rfl rfl hl.1 (Nat.le_of_ble_eq_true rfl) dL_isStep_461 ⟨(Nat.le_of_ble_eq_true rfl), (Nat.le_of_ble_eq_true rfl)⟩ (fun r u_461 H locs hw hP hD hS => ?_)
          obtain ⟨hr_461, hip⟩ := hw
          subst hr_461
          refine kb_top ((-1)) (by rw [hg2, opE_d ho hy]; exact congrArg Prod.fst hop) ?_
          refine lv_iload hx hb dL_isStep_464 (lv_at hl 0 rfl) ?_
          refine lv_icmp_ne (tgt := 473) hx hb dL_isStep_466 (by decide) (fun c466 => ?_) (fun c466 => ?_)
          · exfalso; exact c466 rfl
          · refine lv_iconst (v := nI 1) hx hb dL_isStep_469 (by decide) ?_
            refine lv_goto (tgt := 474) hx hb dL_isStep_470 (by decide) ?_
            have hPR : PR (M + 99) (moA m (opE (mo_g m) (nI j_398)).1 (opE (mo_g m) (nI j_398)).2) (moA m2 (opE (mo_g m2) (nI j_398)).1 (opE (mo_g m2) (nI j_398)).2) := (PR_opE hR _).mono (by omega)
            exact kb_zret (D := D) (w := fun z : KBS × KBS => bW cI cC cS a z.1 ++ bW cI cC cS b z.2) hQ hx hb hr hlocks hK hP hD hS dL_isStep_474 rfl (u_442_2, u_461) rfl (Nat.le_refl _) (Nat.le_refl _) ⟨rfl, _, _, hin, hip, hPR⟩
      · refine lv_bipush (v := (-5)) hx hb dL_isStep_418 (by decide) ?_
        refine lv_goto (tgt := 431) hx hb dL_isStep_420 (by decide) ?_
        refine lv_istore (lv' := [(8, .int ((-5))), (7, .int (seA (mo_g m) (nI j_398))), (6, .int (nI j_398)), (5, .int (nI (nK (mo_g m)))), (4, .int (x >>> (nI 4 &&& 31))), (0, .ref (a 0)), (1, .ref (b 0)), (2, .int (x)), (3, .int (y))]) hx hb dL_isStep_431 hl (by decide) rfl (fun ls hl => ?_)
        refine lv_aload_n hx hb dL_isStep_433 rfl (lv_at hl 5 rfl) ?_
        refine kb_bIa (w := bW cI cC cS a) (As := []) (rest := []) hx hb hml hts hown hN hK hP hD hS hA (b_wrongPairs l D cI cC cS a hin ) gL_isStep_X4_wrongPairs rfl ⟨rfl, rfl⟩ hdX4_wrongPairs ⟨(Nat.le_of_ble_eq_true rfl), (Nat.le_of_ble_eq_true rfl)⟩ [0, 1, 2] rfl (ci := 4) rfl rfl rfl (fun _ => kb_blk _ _) rfl rfl hl.1 (Nat.le_of_ble_eq_true rfl) dL_isStep_434 ⟨(Nat.le_of_ble_eq_true rfl), (Nat.le_of_ble_eq_true rfl)⟩ (fun r u_434_3 H locs hw hP hD hS => ?_)
        obtain ⟨hr_434, hin⟩ := hw
        subst hr_434
        refine lv_istore (lv' := [(9, .int (nI (wp (mo_g m)))), (8, .int ((-5))), (7, .int (seA (mo_g m) (nI j_398))), (6, .int (nI j_398)), (5, .int (nI (nK (mo_g m)))), (4, .int (x >>> (nI 4 &&& 31))), (0, .ref (a 0)), (1, .ref (b 0)), (2, .int (x)), (3, .int (y))]) hx hb dL_isStep_437 hl (by decide) rfl (fun ls hl => ?_)
        refine lv_aload_n hx hb dL_isStep_439 rfl (lv_at hl 6 rfl) ?_
        refine lv_iload hx hb dL_isStep_440 (lv_at hl 3 rfl) ?_
        refine kb_bIa (w := bW cI cC cS a) (As := [.int (nI j_398)]) (rest := []) hx hb hml hts hown hN hK hP hD hS hA (b_send l D cI cC cS a hin (nI j_398)) gL_isStep_X4_send rfl ⟨rfl, rfl⟩ hdX4_send ⟨(Nat.le_of_ble_eq_true rfl), (Nat.le_of_ble_eq_true rfl)⟩ [0, 1, 2] rfl (ci := 4) rfl rfl rfl (fun _ => kb_blk _ _) rfl rfl hl.1 (Nat.le_of_ble_eq_true rfl) dL_isStep_442 ⟨(Nat.le_of_ble_eq_true rfl), (Nat.le_of_ble_eq_true rfl)⟩ (fun r u_442_3 H locs hw hP hD hS => ?_)
        obtain ⟨hr_442, hin⟩ := hw
        subst hr_442
        refine kb_top ((-1)) (congrArg Prod.fst hop) ?_
        refine lv_istore (lv' := [(10, .int ((-1))), (9, .int (nI (wp (mo_g m)))), (8, .int ((-5))), (7, .int (seA (mo_g m) (nI j_398))), (6, .int (nI j_398)), (5, .int (nI (nK (mo_g m)))), (4, .int (x >>> (nI 4 &&& 31))), (0, .ref (a 0)), (1, .ref (b 0)), (2, .int (x)), (3, .int (y))]) hx hb dL_isStep_445 hl (by decide) rfl (fun ls hl => ?_)
        refine lv_iload hx hb dL_isStep_447 (lv_at hl 2 rfl) ?_
        refine lv_if_ge (tgt := 475) hx hb dL_isStep_449 (by decide) (fun c => absurd c (by decide)) (fun _ => ?_)
        refine lv_iload hx hb dL_isStep_452 (lv_at hl 0 rfl) ?_
        refine lv_iconst (v := (-1)) hx hb dL_isStep_454 (by decide) ?_
        refine lv_icmp_ne (tgt := 473) hx hb dL_isStep_455 (by decide) (fun c455 => ?_) (fun c455 => ?_)
        · exfalso; exact c455 rfl
        · refine lv_aload_n hx hb dL_isStep_458 rfl (lv_at hl 8 rfl) ?_
          refine lv_iload hx hb dL_isStep_459 (lv_at hl 4 rfl) ?_
          refine kb_bIb (w := bW cI cC cS b) (As := [.int (nI j_398)]) (rest := []) hx hb hml hts hown hN hK hP hD hS hA (b_send l D cI cC cS b hip (nI j_398)) gL_isStep_X4_send rfl ⟨rfl, rfl⟩ hdX4_send ⟨(Nat.le_of_ble_eq_true rfl), (Nat.le_of_ble_eq_true rfl)⟩ [0, 1, 2] rfl (ci := 4) rfl rfl rfl (fun _ => kb_blk _ _) rfl rfl hl.1 (Nat.le_of_ble_eq_true rfl) dL_isStep_461 ⟨(Nat.le_of_ble_eq_true rfl), (Nat.le_of_ble_eq_true rfl)⟩ (fun r u_461_1 H locs hw hP hD hS => ?_)
          obtain ⟨hr_461, hip⟩ := hw
          subst hr_461
          refine kb_top ((-1)) (by rw [hg2, opE_d ho hy]; exact congrArg Prod.fst hop) ?_
          refine lv_iload hx hb dL_isStep_464 (lv_at hl 0 rfl) ?_
          refine lv_icmp_ne (tgt := 473) hx hb dL_isStep_466 (by decide) (fun c466 => ?_) (fun c466 => ?_)
          · exfalso; exact c466 rfl
          · refine lv_iconst (v := nI 1) hx hb dL_isStep_469 (by decide) ?_
            refine lv_goto (tgt := 474) hx hb dL_isStep_470 (by decide) ?_
            have hPR : PR (M + 99) (moA m (opE (mo_g m) (nI j_398)).1 (opE (mo_g m) (nI j_398)).2) (moA m2 (opE (mo_g m2) (nI j_398)).1 (opE (mo_g m2) (nI j_398)).2) := (PR_opE hR _).mono (by omega)
            exact kb_zret (D := D) (w := fun z : KBS × KBS => bW cI cC cS a z.1 ++ bW cI cC cS b z.2) hQ hx hb hr hlocks hK hP hD hS dL_isStep_474 rfl (u_442_3, u_461_1) rfl (Nat.le_refl _) (Nat.le_refl _) ⟨rfl, _, _, hin, hip, hPR⟩
  have k_550 : W p l e rmL_isStep s mm args below meth c H locs 0 0 Q (F0 mm 550 ls []) := by
    refine lv_aload_n hx hb dL_isStep_550 rfl (lv_at hl 2 rfl) ?_
    refine lv_bipush (v := nI 15) hx hb dL_isStep_551 (by decide) ?_
    refine kb_bIa (w := bW cI cC cS a) (As := [.int (nI 15)]) (rest := []) hx hb hml hts hown hN hK hP hD hS hA (b_count l D cI cC cS a hin (nI 15)) gL_isStep_X4_count rfl ⟨rfl, rfl⟩ hdX4_count ⟨(Nat.le_of_ble_eq_true rfl), (Nat.le_of_ble_eq_true rfl)⟩ [0, 1, 2] rfl (ci := 4) rfl rfl rfl (fun _ => kb_blk _ _) rfl rfl hl.1 (Nat.le_of_ble_eq_true rfl) dL_isStep_553 ⟨(Nat.le_of_ble_eq_true rfl), (Nat.le_of_ble_eq_true rfl)⟩ (fun r u_553 H locs hw hP hD hS => ?_)
    obtain ⟨hr_553, hin⟩ := hw
    subst hr_553
    refine kb_top (nI (mo_hn m)) coA_15 ?_
    refine kb_nif_eq (tgt := 570) hx hb dL_isStep_556 (by decide) (by omega) (fun c556 => ?_) (fun c556 => ?_)
    · refine lv_iconst (v := nI 1) hx hb dL_isStep_570 (by decide) ?_
      refine lv_goto (tgt := 575) hx hb dL_isStep_571 (by decide) ?_
      have hPR : PR (M + 99) m m2 := hR.mono (by omega)
      exact kb_zret (D := D) (w := fun z : KBS × KBS => bW cI cC cS a z.1 ++ bW cI cC cS b z.2) hQ hx hb hr hlocks hK hP hD hS dL_isStep_575 rfl (u_553, v) rfl (Nat.le_refl _) (Nat.le_refl _) ⟨rfl, _, _, hin, hip, hPR⟩
    · refine lv_aload_n hx hb dL_isStep_559 rfl (lv_at hl 2 rfl) ?_
      refine kb_bIa (w := bW cI cC cS a) (As := []) (rest := []) hx hb hml hts hown hN hK hP hD hS hA (b_undo l D cI cC cS a hin ) gL_isStep_X4_undo rfl ⟨rfl, rfl⟩ hdX4_undo ⟨(Nat.le_of_ble_eq_true rfl), (Nat.le_of_ble_eq_true rfl)⟩ [0, 1, 2] rfl (ci := 4) rfl rfl rfl (fun _ => kb_blk _ _) rfl rfl hl.1 (Nat.le_of_ble_eq_true rfl) dL_isStep_560 ⟨(Nat.le_of_ble_eq_true rfl), (Nat.le_of_ble_eq_true rfl)⟩ (fun r u_560 H locs hw hP hD hS => ?_)
      obtain ⟨hr_560, hin⟩ := hw
      subst hr_560
      refine lv_aload_n hx hb dL_isStep_563 rfl (lv_at hl 3 rfl) ?_
      refine kb_bIb (w := bW cI cC cS b) (As := []) (rest := [.int ((if mo_hn m = 0 then -5 else nI (mo_hn m - 1)))]) hx hb hml hts hown hN hK hP hD hS hA (b_undo l D cI cC cS b hip ) gL_isStep_X4_undo rfl ⟨rfl, rfl⟩ hdX4_undo ⟨(Nat.le_of_ble_eq_true rfl), (Nat.le_of_ble_eq_true rfl)⟩ [0, 1, 2] rfl (ci := 4) rfl rfl rfl (fun _ => kb_blk _ _) rfl rfl hl.1 (Nat.le_of_ble_eq_true rfl) dL_isStep_564 ⟨(Nat.le_of_ble_eq_true rfl), (Nat.le_of_ble_eq_true rfl)⟩ (fun r u_564 H locs hw hP hD hS => ?_)
      obtain ⟨hr_564, hip⟩ := hw
      subst hr_564
      refine kb_top ((if mo_hn m = 0 then -5 else nI (mo_hn m - 1))) (by rw [hR.2.2.1]) ?_
      refine lv_icmp_ne (tgt := 574) hx hb dL_isStep_567 (by decide) (fun c567 => ?_) (fun c567 => ?_)
      · exfalso; exact c567 rfl
      · refine lv_iconst (v := nI 1) hx hb dL_isStep_570 (by decide) ?_
        refine lv_goto (tgt := 575) hx hb dL_isStep_571 (by decide) ?_
        have hPR : PR (M + 99) (moU m) (moU m2) := (PR_undo hR).mono (by omega)
        exact kb_zret (D := D) (w := fun z : KBS × KBS => bW cI cC cS a z.1 ++ bW cI cC cS b z.2) hQ hx hb hr hlocks hK hP hD hS dL_isStep_575 rfl (u_560, u_564) rfl (Nat.le_refl _) (Nat.le_refl _) ⟨rfl, _, _, hin, hip, hPR⟩
  have k_576 : W p l e rmL_isStep s mm args below meth c H locs 0 0 Q (F0 mm 576 ls []) := by
    refine lv_iload_n hx hb dL_isStep_576 rfl (lv_at hl 5 rfl) ?_
    refine lv_iconst (v := nI 2) hx hb dL_isStep_577 (by decide) ?_
    refine kb_sR (As := [.int (y), .int (nI 2)]) (rest := []) hx hb hml hts hown hN hK hP hD hS hA (c_L_up l D y 2 (by first | assumption | omega) (by first | assumption | omega)) gL_isStep_L_up rfl ⟨rfl, rfl⟩ hdL_up.2 ⟨Nat.le_of_ble_eq_true rfl, Nat.le_of_ble_eq_true rfl⟩ [] [] rfl rfl rfl rfl rfl hl.1 (Nat.le_of_ble_eq_true rfl) dL_isStep_578 ⟨Nat.zero_le _, Nat.zero_le _⟩ (fun H locs hP hS => ?_)
    obtain ⟨j_578, hj_578, ej_578⟩ : ∃ j, j < 2 ∧ nI (upN y 2) = nI j := ⟨_, upN_lt (by omega), rfl⟩
    refine kb_top (nI j_578) ej_578 ?_
    refine kb_nif_ne (tgt := 603) hx hb dL_isStep_581 (by decide) (by omega) (fun c581 => ?_) (fun c581 => ?_)
    · refine lv_aload_n hx hb dL_isStep_603 rfl (lv_at hl 2 rfl) ?_
      refine kb_bIa (w := bW cI cC cS a) (As := []) (rest := []) hx hb hml hts hown hN hK hP hD hS hA (b_restore l D cI cC cS a hin ) gL_isStep_X4_restore rfl ⟨rfl, rfl⟩ hdX4_restore ⟨(Nat.le_of_ble_eq_true rfl), (Nat.le_of_ble_eq_true rfl)⟩ [0, 1, 2] rfl (ci := 4) rfl rfl rfl (fun _ => kb_blk _ _) rfl rfl hl.1 (Nat.le_of_ble_eq_true rfl) dL_isStep_604 ⟨(Nat.le_of_ble_eq_true rfl), (Nat.le_of_ble_eq_true rfl)⟩ (fun r u_604 H locs hw hP hD hS => ?_)
      obtain ⟨hr_604, hin⟩ := hw
      subst hr_604
      refine lv_aload_n hx hb dL_isStep_607 rfl (lv_at hl 3 rfl) ?_
      refine kb_bIb (w := bW cI cC cS b) (As := []) (rest := [.int (rsA (mo_kp m) (mo_gs m))]) hx hb hml hts hown hN hK hP hD hS hA (b_restore l D cI cC cS b hip ) gL_isStep_X4_restore rfl ⟨rfl, rfl⟩ hdX4_restore ⟨(Nat.le_of_ble_eq_true rfl), (Nat.le_of_ble_eq_true rfl)⟩ [0, 1, 2] rfl (ci := 4) rfl rfl rfl (fun _ => kb_blk _ _) rfl rfl hl.1 (Nat.le_of_ble_eq_true rfl) dL_isStep_608 ⟨(Nat.le_of_ble_eq_true rfl), (Nat.le_of_ble_eq_true rfl)⟩ (fun r u_608 H locs hw hP hD hS => ?_)
      obtain ⟨hr_608, hip⟩ := hw
      subst hr_608
      refine kb_top (rsA (mo_kp m) (mo_gs m)) (by rw [hR.2.2.2.2.1, hR.2.2.2.2.2]; rfl) ?_
      refine lv_icmp_ne (tgt := 618) hx hb dL_isStep_611 (by decide) (fun c611 => ?_) (fun c611 => ?_)
      · exfalso; exact c611 rfl
      · refine lv_iconst (v := nI 1) hx hb dL_isStep_614 (by decide) ?_
        refine lv_goto (tgt := 619) hx hb dL_isStep_615 (by decide) ?_
        have hPR : PR (M + 99) (moA m (rsA (mo_kp m) (mo_gs m)) (mo_gs m)) (moA m2 (rsA (mo_kp m2) (mo_gs m2)) (mo_gs m2)) := (PR_restore hR).mono (by omega)
        exact kb_zret (D := D) (w := fun z : KBS × KBS => bW cI cC cS a z.1 ++ bW cI cC cS b z.2) hQ hx hb hr hlocks hK hP hD hS dL_isStep_619 rfl (u_604, u_608) rfl (Nat.le_refl _) (Nat.le_refl _) ⟨rfl, _, _, hin, hip, hPR⟩
    · refine lv_aload_n hx hb dL_isStep_584 rfl (lv_at hl 2 rfl) ?_
      refine kb_bIa (w := bW cI cC cS a) (As := []) (rest := []) hx hb hml hts hown hN hK hP hD hS hA (b_keep l D cI cC cS a hin ) gL_isStep_X4_keep rfl ⟨rfl, rfl⟩ hdX4_keep ⟨(Nat.le_of_ble_eq_true rfl), (Nat.le_of_ble_eq_true rfl)⟩ [0, 1, 2] rfl (ci := 4) rfl rfl rfl (fun _ => kb_blk _ _) rfl rfl hl.1 (Nat.le_of_ble_eq_true rfl) dL_isStep_585 ⟨(Nat.le_of_ble_eq_true rfl), (Nat.le_of_ble_eq_true rfl)⟩ (fun r u_585 H locs hw hP hD hS => ?_)
      obtain ⟨hr_585, hin⟩ := hw
      subst hr_585
      refine lv_aload_n hx hb dL_isStep_588 rfl (lv_at hl 3 rfl) ?_
      refine kb_bIb (w := bW cI cC cS b) (As := []) (rest := [.int (nI (nT (mo_g m)))]) hx hb hml hts hown hN hK hP hD hS hA (b_keep l D cI cC cS b hip ) gL_isStep_X4_keep rfl ⟨rfl, rfl⟩ hdX4_keep ⟨(Nat.le_of_ble_eq_true rfl), (Nat.le_of_ble_eq_true rfl)⟩ [0, 1, 2] rfl (ci := 4) rfl rfl rfl (fun _ => kb_blk _ _) rfl rfl hl.1 (Nat.le_of_ble_eq_true rfl) dL_isStep_589 ⟨(Nat.le_of_ble_eq_true rfl), (Nat.le_of_ble_eq_true rfl)⟩ (fun r u_589 H locs hw hP hD hS => ?_)
      obtain ⟨hr_589, hip⟩ := hw
      subst hr_589
      refine kb_top (nI (nT (mo_g m))) (by rw [hg2]; rfl) ?_
      refine kb_icmp_ne (tgt := 599) hx hb dL_isStep_592 (by decide) (by omega) (by omega) (fun c592 => ?_) (fun c592 => ?_)
      · exfalso; omega
      · refine lv_iconst (v := nI 1) hx hb dL_isStep_595 (by decide) ?_
        refine lv_goto (tgt := 619) hx hb dL_isStep_596 (by decide) ?_
        have hPR : PR (M + 99) (moKp m) (moKp m2) := (PR_keep hR).mono (by omega)
        exact kb_zret (D := D) (w := fun z : KBS × KBS => bW cI cC cS a z.1 ++ bW cI cC cS b z.2) hQ hx hb hr hlocks hK hP hD hS dL_isStep_619 rfl (u_585, u_589) rfl (Nat.le_refl _) (Nat.le_refl _) ⟨rfl, _, _, hin, hip, hPR⟩
  have k_620 : W p l e rmL_isStep s mm args below meth c H locs 0 0 Q (F0 mm 620 ls []) := by
    refine lv_iconst (v := nI 1) hx hb dL_isStep_620 (by decide) ?_
    refine lv_iload_n hx hb dL_isStep_621 rfl (lv_at hl 5 rfl) ?_
    refine lv_iload hx hb dL_isStep_622 (lv_at hl 1 rfl) ?_
    refine lv_bipush (v := nI 6) hx hb dL_isStep_624 (by decide) ?_
    refine kb_sR (As := [.int (x >>> (nI 4 &&& 31)), .int (nI 6)]) (rest := [.int (y), .int (nI 1)]) hx hb hml hts hown hN hK hP hD hS hA (c_L_up l D (x >>> (nI 4 &&& 31)) 6 (by first | assumption | omega) (by first | assumption | omega)) gL_isStep_L_up rfl ⟨rfl, rfl⟩ hdL_up.2 ⟨Nat.le_of_ble_eq_true rfl, Nat.le_of_ble_eq_true rfl⟩ [] [] rfl rfl rfl rfl rfl hl.1 (Nat.le_of_ble_eq_true rfl) dL_isStep_626 ⟨Nat.zero_le _, Nat.zero_le _⟩ (fun H locs hP hS => ?_)
    obtain ⟨j_626, hj_626, ej_626⟩ : ∃ j, j < 6 ∧ nI (upN (x >>> (nI 4 &&& 31)) 6) = nI j := ⟨_, upN_lt (by omega), rfl⟩
    refine kb_top (nI j_626) ej_626 ?_
    refine kb_nif_ne (tgt := 637) hx hb dL_isStep_629 (by decide) (by omega) (fun c629 => ?_) (fun c629 => ?_)
    · refine lv_bipush (v := nI 7) hx hb dL_isStep_637 (by decide) ?_
      refine kb_sR (As := [.int (y), .int (nI 7)]) (rest := [.int (nI 1)]) hx hb hml hts hown hN hK hP hD hS hA (c_L_up l D y 7 (by first | assumption | omega) (by first | assumption | omega)) gL_isStep_L_up rfl ⟨rfl, rfl⟩ hdL_up.2 ⟨Nat.le_of_ble_eq_true rfl, Nat.le_of_ble_eq_true rfl⟩ [] [] rfl rfl rfl rfl rfl hl.1 (Nat.le_of_ble_eq_true rfl) dL_isStep_639 ⟨Nat.zero_le _, Nat.zero_le _⟩ (fun H locs hP hS => ?_)
      obtain ⟨j_639, hj_639, ej_639⟩ : ∃ j, j < 7 ∧ nI (upN y 7) = nI j := ⟨_, upN_lt (by omega), rfl⟩
      refine kb_top (nI j_639) ej_639 ?_
      refine lv_iadd hx hb dL_isStep_642 ?_
      refine kb_top (nI (1 + j_639)) (nI_add 1 j_639) ?_
      obtain ⟨mi, hmi, emi⟩ : ∃ mi, (1 ≤ mi ∧ mi ≤ 99) ∧ nI (1 + j_639) = nI mi := ⟨_, by omega, rfl⟩
      refine kb_top (nI mi) emi ?_
      have hi99 : isIn (nI mi) 1 99 = true := isIn_i (nI_nlt (by omega) (by omega)) (nI_nlt (by omega) (by omega))
      have hop : opP (mo_g m) (nI mi) = (nI (oPassN mi (mo_g m)), oPass mi (mo_g m)) := opP_3 hi99 (by omega) (by rw [hmn, nI_add]; exact nI_nlt (by omega) (by omega))
      have hpn := oPassN_le (mo_g m) mi
      have hex := Ex_pass ho hEx (by omega) mi (by omega)
      refine lv_istore (lv' := [(6, .int (nI mi)), (5, .int (nI (nK (mo_g m)))), (4, .int (x >>> (nI 4 &&& 31))), (0, .ref (a 0)), (1, .ref (b 0)), (2, .int (x)), (3, .int (y))]) hx hb dL_isStep_643 hl (by decide) rfl (fun ls hl => ?_)
      refine lv_aload_n hx hb dL_isStep_645 rfl (lv_at hl 3 rfl) ?_
      refine lv_iconst (v := nI 0) hx hb dL_isStep_646 (by decide) ?_
      refine kb_bIa (w := bW cI cC cS a) (As := [.int (nI 0)]) (rest := []) hx hb hml hts hown hN hK hP hD hS hA (b_count l D cI cC cS a hin (nI 0)) gL_isStep_X4_count rfl ⟨rfl, rfl⟩ hdX4_count ⟨(Nat.le_of_ble_eq_true rfl), (Nat.le_of_ble_eq_true rfl)⟩ [0, 1, 2] rfl (ci := 4) rfl rfl rfl (fun _ => kb_blk _ _) rfl rfl hl.1 (Nat.le_of_ble_eq_true rfl) dL_isStep_647 ⟨(Nat.le_of_ble_eq_true rfl), (Nat.le_of_ble_eq_true rfl)⟩ (fun r u_647 H locs hw hP hD hS => ?_)
      obtain ⟨hr_647, hin⟩ := hw
      subst hr_647
      refine kb_top (nI mn) ((coA_k (by decide)).trans hmn) ?_
      refine lv_istore (lv' := [(7, .int (nI mn)), (6, .int (nI mi)), (5, .int (nI (nK (mo_g m)))), (4, .int (x >>> (nI 4 &&& 31))), (0, .ref (a 0)), (1, .ref (b 0)), (2, .int (x)), (3, .int (y))]) hx hb dL_isStep_650 hl (by decide) rfl (fun ls hl => ?_)
      refine lv_aload_n hx hb dL_isStep_652 rfl (lv_at hl 4 rfl) ?_
      refine lv_bipush (v := nI 7) hx hb dL_isStep_653 (by decide) ?_
      refine kb_bIa (w := bW cI cC cS a) (As := [.int (nI 7)]) (rest := []) hx hb hml hts hown hN hK hP hD hS hA (b_count l D cI cC cS a hin (nI 7)) gL_isStep_X4_count rfl ⟨rfl, rfl⟩ hdX4_count ⟨(Nat.le_of_ble_eq_true rfl), (Nat.le_of_ble_eq_true rfl)⟩ [0, 1, 2] rfl (ci := 4) rfl rfl rfl (fun _ => kb_blk _ _) rfl rfl hl.1 (Nat.le_of_ble_eq_true rfl) dL_isStep_655 ⟨(Nat.le_of_ble_eq_true rfl), (Nat.le_of_ble_eq_true rfl)⟩ (fun r u_655 H locs hw hP hD hS => ?_)
      obtain ⟨hr_655, hin⟩ := hw
      subst hr_655
      refine kb_top (gc (mo_g m) 7) (coA_k (by decide)) ?_
      refine lv_istore (lv' := [(8, .int (gc (mo_g m) 7)), (7, .int (nI mn)), (6, .int (nI mi)), (5, .int (nI (nK (mo_g m)))), (4, .int (x >>> (nI 4 &&& 31))), (0, .ref (a 0)), (1, .ref (b 0)), (2, .int (x)), (3, .int (y))]) hx hb dL_isStep_658 hl (by decide) rfl (fun ls hl => ?_)
      refine lv_aload_n hx hb dL_isStep_660 rfl (lv_at hl 5 rfl) ?_
      refine lv_iload hx hb dL_isStep_661 (lv_at hl 2 rfl) ?_
      refine kb_bIa (w := bW cI cC cS a) (As := [.int (nI mi)]) (rest := []) hx hb hml hts hown hN hK hP hD hS hA (b_pass l D cI cC cS a hin (nI mi)) gL_isStep_X4_pass rfl ⟨rfl, rfl⟩ hdX4_pass ⟨(Nat.le_of_ble_eq_true rfl), (Nat.le_of_ble_eq_true rfl)⟩ [0, 1, 2] rfl (ci := 4) rfl rfl rfl (fun _ => kb_blk _ _) rfl rfl hl.1 (Nat.le_of_ble_eq_true rfl) dL_isStep_663 ⟨(Nat.le_of_ble_eq_true rfl), (Nat.le_of_ble_eq_true rfl)⟩ (fun r u_663 H locs hw hP hD hS => ?_)
      obtain ⟨hr_663, hin⟩ := hw
      subst hr_663
      refine kb_top (nI (oPassN mi (mo_g m))) (congrArg Prod.fst hop) ?_
      refine lv_istore (lv' := [(9, .int (nI (oPassN mi (mo_g m)))), (8, .int (gc (mo_g m) 7)), (7, .int (nI mn)), (6, .int (nI mi)), (5, .int (nI (nK (mo_g m)))), (4, .int (x >>> (nI 4 &&& 31))), (0, .ref (a 0)), (1, .ref (b 0)), (2, .int (x)), (3, .int (y))]) hx hb dL_isStep_666 hl (by decide) rfl (fun ls hl => ?_)
      refine lv_iconst (v := nI 0) hx hb dL_isStep_668 (by decide) ?_
      refine lv_istore (lv' := [(10, .int (nI 0)), (9, .int (nI (oPassN mi (mo_g m)))), (8, .int (gc (mo_g m) 7)), (7, .int (nI mn)), (6, .int (nI mi)), (5, .int (nI (nK (mo_g m)))), (4, .int (x >>> (nI 4 &&& 31))), (0, .ref (a 0)), (1, .ref (b 0)), (2, .int (x)), (3, .int (y))]) hx hb dL_isStep_669 hl (by decide) rfl (fun ls hl => ?_)
      refine lv_iconst (v := nI 0) hx hb dL_isStep_671 (by decide) ?_
      refine lv_istore (lv' := [(11, .int (nI 0)), (10, .int (nI 0)), (9, .int (nI (oPassN mi (mo_g m)))), (8, .int (gc (mo_g m) 7)), (7, .int (nI mn)), (6, .int (nI mi)), (5, .int (nI (nK (mo_g m)))), (4, .int (x >>> (nI 4 &&& 31))), (0, .ref (a 0)), (1, .ref (b 0)), (2, .int (x)), (3, .int (y))]) hx hb dL_isStep_672 hl (by decide) rfl (fun ls hl => ?_)
      have L_674 : ∀ (z : Nat) (u : KBS) (k : Nat), (bI u (moA m (opP (mo_g m) (nI mi)).1 (opP (mo_g m) (nI mi)).2)) → (k ≤ mi) → (mi - k) < z → ∀ (H : Heap) (locs : List Loc), va_P D vwCl (bW cI cC cS a u ++ bW cI cC cS b v) H → va_D A (bW cI cC cS a u ++ bW cI cC cS b v) → va_S A s.heap H locs → ∀ ls : Array Slot, lv_has ls 12 [(11, .int (nI k)), (10, .int (nI (oPassN k (mo_g m)))), (9, .int (nI (oPassN mi (mo_g m)))), (8, .int (gc (mo_g m) 7)), (7, .int (nI mn)), (6, .int (nI mi)), (5, .int (nI (nK (mo_g m)))), (4, .int (x >>> (nI 4 &&& 31))), (0, .ref (a 0)), (1, .ref (b 0)), (2, .int (x)), (3, .int (y))] → W p l e rmL_isStep s mm args below meth c H locs 0 0 Q (F0 mm 674 ls []) := by
        intro z
        induction z with
        | zero =>
          intro u k _ _ hz
          exact absurd hz (Nat.not_lt_zero _)
        | succ z ih_674 =>
          intro u k hin hk hz H locs hP hD hS ls hl
          refine lv_iload hx hb dL_isStep_674 (lv_at hl 0 rfl) ?_
          refine lv_iload hx hb dL_isStep_676 (lv_at hl 5 rfl) ?_
          refine kb_icmp_ge (tgt := 714) hx hb dL_isStep_678 (by decide) (by omega) (by omega) (fun c678 => ?_) (fun c678 => ?_)
          · have hz : k = mi := by omega
            subst hz
            refine lv_iload hx hb dL_isStep_714 (lv_at hl 2 rfl) ?_
            refine lv_aload_n hx hb dL_isStep_716 rfl (lv_at hl 9 rfl) ?_
            refine lv_iload hx hb dL_isStep_717 (lv_at hl 5 rfl) ?_
            refine kb_bIb (w := bW cI cC cS b) (As := [.int (nI k)]) (rest := [.int (nI (oPassN k (mo_g m)))]) hx hb hml hts hown hN hK hP hD hS hA (b_pass l D cI cC cS b hip (nI k)) gL_isStep_X4_pass rfl ⟨rfl, rfl⟩ hdX4_pass ⟨(Nat.le_of_ble_eq_true rfl), (Nat.le_of_ble_eq_true rfl)⟩ [0, 1, 2] rfl (ci := 4) rfl rfl rfl (fun _ => kb_blk _ _) rfl rfl hl.1 (Nat.le_of_ble_eq_true rfl) dL_isStep_719 ⟨(Nat.le_of_ble_eq_true rfl), (Nat.le_of_ble_eq_true rfl)⟩ (fun r u_719 H locs hw hP hD hS => ?_)
            obtain ⟨hr_719, hip⟩ := hw
            subst hr_719
            refine kb_top (nI (oPassN k (mo_g m))) (by rw [hg2, opP_d ho hy]; exact congrArg Prod.fst hop) ?_
            refine kb_icmp_ne (tgt := 763) hx hb dL_isStep_722 (by decide) (by omega) (by omega) (fun c722 => ?_) (fun c722 => ?_)
            · exfalso; omega
            · refine lv_iload hx hb dL_isStep_725 (lv_at hl 2 rfl) ?_
              refine lv_iload hx hb dL_isStep_727 (lv_at hl 1 rfl) ?_
              refine kb_icmp_ne (tgt := 763) hx hb dL_isStep_729 (by decide) (by omega) (by omega) (fun c729 => ?_) (fun c729 => ?_)
              · exfalso; omega
              · refine lv_aload_n hx hb dL_isStep_732 rfl (lv_at hl 8 rfl) ?_
                refine lv_iconst (v := nI 0) hx hb dL_isStep_733 (by decide) ?_
                refine kb_bIa (w := bW cI cC cS a) (As := [.int (nI 0)]) (rest := []) hx hb hml hts hown hN hK hP hD hS hA (b_count l D cI cC cS a hin (nI 0)) gL_isStep_X4_count rfl ⟨rfl, rfl⟩ hdX4_count ⟨(Nat.le_of_ble_eq_true rfl), (Nat.le_of_ble_eq_true rfl)⟩ [0, 1, 2] rfl (ci := 4) rfl rfl rfl (fun _ => kb_blk _ _) rfl rfl hl.1 (Nat.le_of_ble_eq_true rfl) dL_isStep_734 ⟨(Nat.le_of_ble_eq_true rfl), (Nat.le_of_ble_eq_true rfl)⟩ (fun r u_734 H locs hw hP hD hS => ?_)
                obtain ⟨hr_734, hin⟩ := hw
                subst hr_734
                refine kb_top (nI (mn + k)) (by rw [moA_g hop (nI_pos (by omega))]; exact (coA_k (by decide)).trans hex.1) ?_
                refine lv_iload hx hb dL_isStep_737 (lv_at hl 4 rfl) ?_
                refine lv_iload hx hb dL_isStep_739 (lv_at hl 5 rfl) ?_
                refine lv_iadd hx hb dL_isStep_741 ?_
                refine kb_top (nI (mn + k)) (nI_add mn k) ?_
                refine kb_icmp_ne (tgt := 763) hx hb dL_isStep_742 (by decide) (by omega) (by omega) (fun c742 => ?_) (fun c742 => ?_)
                · exfalso; omega
                · refine lv_aload_n hx hb dL_isStep_745 rfl (lv_at hl 8 rfl) ?_
                  refine lv_bipush (v := nI 7) hx hb dL_isStep_746 (by decide) ?_
                  refine kb_bIa (w := bW cI cC cS a) (As := [.int (nI 7)]) (rest := []) hx hb hml hts hown hN hK hP hD hS hA (b_count l D cI cC cS a hin (nI 7)) gL_isStep_X4_count rfl ⟨rfl, rfl⟩ hdX4_count ⟨(Nat.le_of_ble_eq_true rfl), (Nat.le_of_ble_eq_true rfl)⟩ [0, 1, 2] rfl (ci := 4) rfl rfl rfl (fun _ => kb_blk _ _) rfl rfl hl.1 (Nat.le_of_ble_eq_true rfl) dL_isStep_748 ⟨(Nat.le_of_ble_eq_true rfl), (Nat.le_of_ble_eq_true rfl)⟩ (fun r u_748 H locs hw hP hD hS => ?_)
                  obtain ⟨hr_748, hin⟩ := hw
                  subst hr_748
                  refine kb_top (gc (mo_g m) 7 + nI (oPassN k (mo_g m))) (by rw [moA_g hop (nI_pos (by omega))]; exact (coA_k (by decide)).trans (oPass_7 _ _)) ?_
                  refine lv_iload hx hb dL_isStep_751 (lv_at hl 3 rfl) ?_
                  refine lv_iload hx hb dL_isStep_753 (lv_at hl 2 rfl) ?_
                  refine lv_iadd hx hb dL_isStep_755 ?_
                  refine lv_icmp_ne (tgt := 763) hx hb dL_isStep_756 (by decide) (fun c756 => ?_) (fun c756 => ?_)
                  · exfalso; exact c756 rfl
                  · refine lv_iconst (v := nI 1) hx hb dL_isStep_759 (by decide) ?_
                    refine lv_goto (tgt := 764) hx hb dL_isStep_760 (by decide) ?_
                    have hPR : PR (M + 99) (moA m (opP (mo_g m) (nI k)).1 (opP (mo_g m) (nI k)).2) (moA m2 (opP (mo_g m2) (nI k)).1 (opP (mo_g m2) (nI k)).2) := PR_opP hR (by omega) _
                    exact kb_zret (D := D) (w := fun z : KBS × KBS => bW cI cC cS a z.1 ++ bW cI cC cS b z.2) hQ hx hb hr hlocks hK hP hD hS dL_isStep_764 rfl (u_748, u_719) rfl (Nat.le_refl _) (Nat.le_refl _) ⟨rfl, _, _, hin, hip, hPR⟩
          · refine lv_iload hx hb dL_isStep_681 (lv_at hl 1 rfl) ?_
            refine lv_iload hx hb dL_isStep_683 (lv_at hl 4 rfl) ?_
            refine lv_iload hx hb dL_isStep_685 (lv_at hl 0 rfl) ?_
            refine lv_iadd hx hb dL_isStep_687 ?_
            refine kb_top (nI (mn + k)) (nI_add mn k) ?_
            refine lv_iconst (v := nI 1) hx hb dL_isStep_688 (by decide) ?_
            refine lv_iadd hx hb dL_isStep_689 ?_
            refine kb_top (nI (mn + k + 1)) (nI_add (mn + k) 1) ?_
            refine lv_aload_n hx hb dL_isStep_690 rfl (lv_at hl 8 rfl) ?_
            refine lv_bipush (v := nI 12) hx hb dL_isStep_691 (by decide) ?_
            refine kb_bIa (w := bW cI cC cS a) (As := [.int (nI 12)]) (rest := [.int (nI (mn + k + 1)), .int (nI (oPassN k (mo_g m)))]) hx hb hml hts hown hN hK hP hD hS hA (b_count l D cI cC cS a hin (nI 12)) gL_isStep_X4_count rfl ⟨rfl, rfl⟩ hdX4_count ⟨(Nat.le_of_ble_eq_true rfl), (Nat.le_of_ble_eq_true rfl)⟩ [0, 1, 2] rfl (ci := 4) rfl rfl rfl (fun _ => kb_blk _ _) rfl rfl hl.1 (Nat.le_of_ble_eq_true rfl) dL_isStep_693 ⟨(Nat.le_of_ble_eq_true rfl), (Nat.le_of_ble_eq_true rfl)⟩ (fun r u_693 H locs hw hP hD hS => ?_)
            obtain ⟨hr_693, hin⟩ := hw
            subst hr_693
            refine kb_top (nI e1) (by rw [moA_g hop (nI_pos (by omega))]; exact (coA_k (by decide)).trans ((oPass_c1 _ _).trans he1)) ?_
            refine lv_irem hx hb dL_isStep_696 (nI_n0 (by omega) (by omega)) ?_
            refine kb_top (nI ((mn + k + 1) % e1)) (pk_rem (by omega) (by omega) (by omega)) ?_
            refine kb_nif_ne (tgt := 704) hx hb dL_isStep_697 (by decide) (by have := Nat.mod_lt (mn + k + 1) (show 0 < e1 by omega); omega) (fun c697 => ?_) (fun c697 => ?_)
            · refine lv_iconst (v := nI 0) hx hb dL_isStep_704 (by decide) ?_
              refine lv_iadd hx hb dL_isStep_705 ?_
              refine kb_top (nI (oPassN k (mo_g m) + 0)) (nI_add (oPassN k (mo_g m)) 0) ?_
              refine kb_top (nI (oPassN (k + 1) (mo_g m))) (congrArg nI ((congrArg (fun z => oPassN k (mo_g m) + z) (if_neg c697).symm).trans (oPassN_1 ho hEx he1 he160 (by omega) (by omega)))) ?_
              refine lv_istore (lv' := [(10, .int (nI (oPassN (k + 1) (mo_g m)))), (11, .int (nI k)), (9, .int (nI (oPassN mi (mo_g m)))), (8, .int (gc (mo_g m) 7)), (7, .int (nI mn)), (6, .int (nI mi)), (5, .int (nI (nK (mo_g m)))), (4, .int (x >>> (nI 4 &&& 31))), (0, .ref (a 0)), (1, .ref (b 0)), (2, .int (x)), (3, .int (y))]) hx hb dL_isStep_706 hl (by decide) rfl (fun ls hl => ?_)
              refine lv_iinc (v := nI (k + 1)) (lv' := [(11, .int (nI (k + 1))), (10, .int (nI (oPassN (k + 1) (mo_g m)))), (9, .int (nI (oPassN mi (mo_g m)))), (8, .int (gc (mo_g m) 7)), (7, .int (nI mn)), (6, .int (nI mi)), (5, .int (nI (nK (mo_g m)))), (4, .int (x >>> (nI 4 &&& 31))), (0, .ref (a 0)), (1, .ref (b 0)), (2, .int (x)), (3, .int (y))]) hx hb dL_isStep_708 hl (k := 1) rfl (kb_inc1 k) (by decide) rfl (fun ls hl => ?_)
              refine lv_goto (tgt := 674) hx hb dL_isStep_711 (by decide) ?_
              exact ih_674 u_693 (k + 1) hin (by omega) (by omega) _ _ hP hD hS _ (lv_sub hl [0, 1, 2, 3, 4, 5, 6, 7, 8, 9, 10, 11] rfl)
            · refine lv_iconst (v := nI 1) hx hb dL_isStep_700 (by decide) ?_
              refine lv_goto (tgt := 705) hx hb dL_isStep_701 (by decide) ?_
              refine lv_iadd hx hb dL_isStep_705 ?_
              refine kb_top (nI (oPassN k (mo_g m) + 1)) (nI_add (oPassN k (mo_g m)) 1) ?_
              refine kb_top (nI (oPassN (k + 1) (mo_g m))) (congrArg nI ((congrArg (fun z => oPassN k (mo_g m) + z) (if_pos c697).symm).trans (oPassN_1 ho hEx he1 he160 (by omega) (by omega)))) ?_
              refine lv_istore (lv' := [(10, .int (nI (oPassN (k + 1) (mo_g m)))), (11, .int (nI k)), (9, .int (nI (oPassN mi (mo_g m)))), (8, .int (gc (mo_g m) 7)), (7, .int (nI mn)), (6, .int (nI mi)), (5, .int (nI (nK (mo_g m)))), (4, .int (x >>> (nI 4 &&& 31))), (0, .ref (a 0)), (1, .ref (b 0)), (2, .int (x)), (3, .int (y))]) hx hb dL_isStep_706 hl (by decide) rfl (fun ls hl => ?_)
              refine lv_iinc (v := nI (k + 1)) (lv' := [(11, .int (nI (k + 1))), (10, .int (nI (oPassN (k + 1) (mo_g m)))), (9, .int (nI (oPassN mi (mo_g m)))), (8, .int (gc (mo_g m) 7)), (7, .int (nI mn)), (6, .int (nI mi)), (5, .int (nI (nK (mo_g m)))), (4, .int (x >>> (nI 4 &&& 31))), (0, .ref (a 0)), (1, .ref (b 0)), (2, .int (x)), (3, .int (y))]) hx hb dL_isStep_708 hl (k := 1) rfl (kb_inc1 k) (by decide) rfl (fun ls hl => ?_)
              refine lv_goto (tgt := 674) hx hb dL_isStep_711 (by decide) ?_
              exact ih_674 u_693 (k + 1) hin (by omega) (by omega) _ _ hP hD hS _ (lv_sub hl [0, 1, 2, 3, 4, 5, 6, 7, 8, 9, 10, 11] rfl)
      exact L_674 ((mi - 0) + 1) u_663 0 hin (by omega) (Nat.lt_succ_self _) _ _ hP hD hS _ (lv_sub hl [0, 1, 2, 3, 4, 5, 6, 7, 8, 9, 10, 11] rfl)
    · refine lv_bipush (v := nI 99) hx hb dL_isStep_632 (by decide) ?_
      refine lv_goto (tgt := 639) hx hb dL_isStep_634 (by decide) ?_
      refine kb_sR (As := [.int (y), .int (nI 99)]) (rest := [.int (nI 1)]) hx hb hml hts hown hN hK hP hD hS hA (c_L_up l D y 99 (by first | assumption | omega) (by first | assumption | omega)) gL_isStep_L_up rfl ⟨rfl, rfl⟩ hdL_up.2 ⟨Nat.le_of_ble_eq_true rfl, Nat.le_of_ble_eq_true rfl⟩ [] [] rfl rfl rfl rfl rfl hl.1 (Nat.le_of_ble_eq_true rfl) dL_isStep_639 ⟨Nat.zero_le _, Nat.zero_le _⟩ (fun H locs hP hS => ?_)
      obtain ⟨j_639_1, hj_639_1, ej_639_1⟩ : ∃ j, j < 99 ∧ nI (upN y 99) = nI j := ⟨_, upN_lt (by omega), rfl⟩
      refine kb_top (nI j_639_1) ej_639_1 ?_
      refine lv_iadd hx hb dL_isStep_642 ?_
      refine kb_top (nI (1 + j_639_1)) (nI_add 1 j_639_1) ?_
      obtain ⟨mi, hmi, emi⟩ : ∃ mi, (1 ≤ mi ∧ mi ≤ 99) ∧ nI (1 + j_639_1) = nI mi := ⟨_, by omega, rfl⟩
      refine kb_top (nI mi) emi ?_
      have hi99 : isIn (nI mi) 1 99 = true := isIn_i (nI_nlt (by omega) (by omega)) (nI_nlt (by omega) (by omega))
      have hop : opP (mo_g m) (nI mi) = (nI (oPassN mi (mo_g m)), oPass mi (mo_g m)) := opP_3 hi99 (by omega) (by rw [hmn, nI_add]; exact nI_nlt (by omega) (by omega))
      have hpn := oPassN_le (mo_g m) mi
      have hex := Ex_pass ho hEx (by omega) mi (by omega)
      refine lv_istore (lv' := [(6, .int (nI mi)), (5, .int (nI (nK (mo_g m)))), (4, .int (x >>> (nI 4 &&& 31))), (0, .ref (a 0)), (1, .ref (b 0)), (2, .int (x)), (3, .int (y))]) hx hb dL_isStep_643 hl (by decide) rfl (fun ls hl => ?_)
      refine lv_aload_n hx hb dL_isStep_645 rfl (lv_at hl 3 rfl) ?_
      refine lv_iconst (v := nI 0) hx hb dL_isStep_646 (by decide) ?_
      refine kb_bIa (w := bW cI cC cS a) (As := [.int (nI 0)]) (rest := []) hx hb hml hts hown hN hK hP hD hS hA (b_count l D cI cC cS a hin (nI 0)) gL_isStep_X4_count rfl ⟨rfl, rfl⟩ hdX4_count ⟨(Nat.le_of_ble_eq_true rfl), (Nat.le_of_ble_eq_true rfl)⟩ [0, 1, 2] rfl (ci := 4) rfl rfl rfl (fun _ => kb_blk _ _) rfl rfl hl.1 (Nat.le_of_ble_eq_true rfl) dL_isStep_647 ⟨(Nat.le_of_ble_eq_true rfl), (Nat.le_of_ble_eq_true rfl)⟩ (fun r u_647_1 H locs hw hP hD hS => ?_)
      obtain ⟨hr_647, hin⟩ := hw
      subst hr_647
      refine kb_top (nI mn) ((coA_k (by decide)).trans hmn) ?_
      refine lv_istore (lv' := [(7, .int (nI mn)), (6, .int (nI mi)), (5, .int (nI (nK (mo_g m)))), (4, .int (x >>> (nI 4 &&& 31))), (0, .ref (a 0)), (1, .ref (b 0)), (2, .int (x)), (3, .int (y))]) hx hb dL_isStep_650 hl (by decide) rfl (fun ls hl => ?_)
      refine lv_aload_n hx hb dL_isStep_652 rfl (lv_at hl 4 rfl) ?_
      refine lv_bipush (v := nI 7) hx hb dL_isStep_653 (by decide) ?_
      refine kb_bIa (w := bW cI cC cS a) (As := [.int (nI 7)]) (rest := []) hx hb hml hts hown hN hK hP hD hS hA (b_count l D cI cC cS a hin (nI 7)) gL_isStep_X4_count rfl ⟨rfl, rfl⟩ hdX4_count ⟨(Nat.le_of_ble_eq_true rfl), (Nat.le_of_ble_eq_true rfl)⟩ [0, 1, 2] rfl (ci := 4) rfl rfl rfl (fun _ => kb_blk _ _) rfl rfl hl.1 (Nat.le_of_ble_eq_true rfl) dL_isStep_655 ⟨(Nat.le_of_ble_eq_true rfl), (Nat.le_of_ble_eq_true rfl)⟩ (fun r u_655_1 H locs hw hP hD hS => ?_)
      obtain ⟨hr_655, hin⟩ := hw
      subst hr_655
      refine kb_top (gc (mo_g m) 7) (coA_k (by decide)) ?_
      refine lv_istore (lv' := [(8, .int (gc (mo_g m) 7)), (7, .int (nI mn)), (6, .int (nI mi)), (5, .int (nI (nK (mo_g m)))), (4, .int (x >>> (nI 4 &&& 31))), (0, .ref (a 0)), (1, .ref (b 0)), (2, .int (x)), (3, .int (y))]) hx hb dL_isStep_658 hl (by decide) rfl (fun ls hl => ?_)
      refine lv_aload_n hx hb dL_isStep_660 rfl (lv_at hl 5 rfl) ?_
      refine lv_iload hx hb dL_isStep_661 (lv_at hl 2 rfl) ?_
      refine kb_bIa (w := bW cI cC cS a) (As := [.int (nI mi)]) (rest := []) hx hb hml hts hown hN hK hP hD hS hA (b_pass l D cI cC cS a hin (nI mi)) gL_isStep_X4_pass rfl ⟨rfl, rfl⟩ hdX4_pass ⟨(Nat.le_of_ble_eq_true rfl), (Nat.le_of_ble_eq_true rfl)⟩ [0, 1, 2] rfl (ci := 4) rfl rfl rfl (fun _ => kb_blk _ _) rfl rfl hl.1 (Nat.le_of_ble_eq_true rfl) dL_isStep_663 ⟨(Nat.le_of_ble_eq_true rfl), (Nat.le_of_ble_eq_true rfl)⟩ (fun r u_663_1 H locs hw hP hD hS => ?_)
      obtain ⟨hr_663, hin⟩ := hw
      subst hr_663
      refine kb_top (nI (oPassN mi (mo_g m))) (congrArg Prod.fst hop) ?_
      refine lv_istore (lv' := [(9, .int (nI (oPassN mi (mo_g m)))), (8, .int (gc (mo_g m) 7)), (7, .int (nI mn)), (6, .int (nI mi)), (5, .int (nI (nK (mo_g m)))), (4, .int (x >>> (nI 4 &&& 31))), (0, .ref (a 0)), (1, .ref (b 0)), (2, .int (x)), (3, .int (y))]) hx hb dL_isStep_666 hl (by decide) rfl (fun ls hl => ?_)
      refine lv_iconst (v := nI 0) hx hb dL_isStep_668 (by decide) ?_
      refine lv_istore (lv' := [(10, .int (nI 0)), (9, .int (nI (oPassN mi (mo_g m)))), (8, .int (gc (mo_g m) 7)), (7, .int (nI mn)), (6, .int (nI mi)), (5, .int (nI (nK (mo_g m)))), (4, .int (x >>> (nI 4 &&& 31))), (0, .ref (a 0)), (1, .ref (b 0)), (2, .int (x)), (3, .int (y))]) hx hb dL_isStep_669 hl (by decide) rfl (fun ls hl => ?_)
      refine lv_iconst (v := nI 0) hx hb dL_isStep_671 (by decide) ?_
      refine lv_istore (lv' := [(11, .int (nI 0)), (10, .int (nI 0)), (9, .int (nI (oPassN mi (mo_g m)))), (8, .int (gc (mo_g m) 7)), (7, .int (nI mn)), (6, .int (nI mi)), (5, .int (nI (nK (mo_g m)))), (4, .int (x >>> (nI 4 &&& 31))), (0, .ref (a 0)), (1, .ref (b 0)), (2, .int (x)), (3, .int (y))]) hx hb dL_isStep_672 hl (by decide) rfl (fun ls hl => ?_)
      have L_674 : ∀ (z : Nat) (u : KBS) (k : Nat), (bI u (moA m (opP (mo_g m) (nI mi)).1 (opP (mo_g m) (nI mi)).2)) → (k ≤ mi) → (mi - k) < z → ∀ (H : Heap) (locs : List Loc), va_P D vwCl (bW cI cC cS a u ++ bW cI cC cS b v) H → va_D A (bW cI cC cS a u ++ bW cI cC cS b v) → va_S A s.heap H locs → ∀ ls : Array Slot, lv_has ls 12 [(11, .int (nI k)), (10, .int (nI (oPassN k (mo_g m)))), (9, .int (nI (oPassN mi (mo_g m)))), (8, .int (gc (mo_g m) 7)), (7, .int (nI mn)), (6, .int (nI mi)), (5, .int (nI (nK (mo_g m)))), (4, .int (x >>> (nI 4 &&& 31))), (0, .ref (a 0)), (1, .ref (b 0)), (2, .int (x)), (3, .int (y))] → W p l e rmL_isStep s mm args below meth c H locs 0 0 Q (F0 mm 674 ls []) := by
        intro z
        induction z with
        | zero =>
          intro u k _ _ hz
          exact absurd hz (Nat.not_lt_zero _)
        | succ z ih_674 =>
          intro u k hin hk hz H locs hP hD hS ls hl
          refine lv_iload hx hb dL_isStep_674 (lv_at hl 0 rfl) ?_
          refine lv_iload hx hb dL_isStep_676 (lv_at hl 5 rfl) ?_
          refine kb_icmp_ge (tgt := 714) hx hb dL_isStep_678 (by decide) (by omega) (by omega) (fun c678 => ?_) (fun c678 => ?_)
          · have hz : k = mi := by omega
            subst hz
            refine lv_iload hx hb dL_isStep_714 (lv_at hl 2 rfl) ?_
            refine lv_aload_n hx hb dL_isStep_716 rfl (lv_at hl 9 rfl) ?_
            refine lv_iload hx hb dL_isStep_717 (lv_at hl 5 rfl) ?_
            refine kb_bIb (w := bW cI cC cS b) (As := [.int (nI k)]) (rest := [.int (nI (oPassN k (mo_g m)))]) hx hb hml hts hown hN hK hP hD hS hA (b_pass l D cI cC cS b hip (nI k)) gL_isStep_X4_pass rfl ⟨rfl, rfl⟩ hdX4_pass ⟨(Nat.le_of_ble_eq_true rfl), (Nat.le_of_ble_eq_true rfl)⟩ [0, 1, 2] rfl (ci := 4) rfl rfl rfl (fun _ => kb_blk _ _) rfl rfl hl.1 (Nat.le_of_ble_eq_true rfl) dL_isStep_719 ⟨(Nat.le_of_ble_eq_true rfl), (Nat.le_of_ble_eq_true rfl)⟩ (fun r u_719_1 H locs hw hP hD hS => ?_)
            obtain ⟨hr_719, hip⟩ := hw
            subst hr_719
            refine kb_top (nI (oPassN k (mo_g m))) (by rw [hg2, opP_d ho hy]; exact congrArg Prod.fst hop) ?_
            refine kb_icmp_ne (tgt := 763) hx hb dL_isStep_722 (by decide) (by omega) (by omega) (fun c722 => ?_) (fun c722 => ?_)
            · exfalso; omega
            · refine lv_iload hx hb dL_isStep_725 (lv_at hl 2 rfl) ?_
              refine lv_iload hx hb dL_isStep_727 (lv_at hl 1 rfl) ?_
              refine kb_icmp_ne (tgt := 763) hx hb dL_isStep_729 (by decide) (by omega) (by omega) (fun c729 => ?_) (fun c729 => ?_)
              · exfalso; omega
              · refine lv_aload_n hx hb dL_isStep_732 rfl (lv_at hl 8 rfl) ?_
                refine lv_iconst (v := nI 0) hx hb dL_isStep_733 (by decide) ?_
                refine kb_bIa (w := bW cI cC cS a) (As := [.int (nI 0)]) (rest := []) hx hb hml hts hown hN hK hP hD hS hA (b_count l D cI cC cS a hin (nI 0)) gL_isStep_X4_count rfl ⟨rfl, rfl⟩ hdX4_count ⟨(Nat.le_of_ble_eq_true rfl), (Nat.le_of_ble_eq_true rfl)⟩ [0, 1, 2] rfl (ci := 4) rfl rfl rfl (fun _ => kb_blk _ _) rfl rfl hl.1 (Nat.le_of_ble_eq_true rfl) dL_isStep_734 ⟨(Nat.le_of_ble_eq_true rfl), (Nat.le_of_ble_eq_true rfl)⟩ (fun r u_734_1 H locs hw hP hD hS => ?_)
                obtain ⟨hr_734, hin⟩ := hw
                subst hr_734
                refine kb_top (nI (mn + k)) (by rw [moA_g hop (nI_pos (by omega))]; exact (coA_k (by decide)).trans hex.1) ?_
                refine lv_iload hx hb dL_isStep_737 (lv_at hl 4 rfl) ?_
                refine lv_iload hx hb dL_isStep_739 (lv_at hl 5 rfl) ?_
                refine lv_iadd hx hb dL_isStep_741 ?_
                refine kb_top (nI (mn + k)) (nI_add mn k) ?_
                refine kb_icmp_ne (tgt := 763) hx hb dL_isStep_742 (by decide) (by omega) (by omega) (fun c742 => ?_) (fun c742 => ?_)
                · exfalso; omega
                · refine lv_aload_n hx hb dL_isStep_745 rfl (lv_at hl 8 rfl) ?_
                  refine lv_bipush (v := nI 7) hx hb dL_isStep_746 (by decide) ?_
                  refine kb_bIa (w := bW cI cC cS a) (As := [.int (nI 7)]) (rest := []) hx hb hml hts hown hN hK hP hD hS hA (b_count l D cI cC cS a hin (nI 7)) gL_isStep_X4_count rfl ⟨rfl, rfl⟩ hdX4_count ⟨(Nat.le_of_ble_eq_true rfl), (Nat.le_of_ble_eq_true rfl)⟩ [0, 1, 2] rfl (ci := 4) rfl rfl rfl (fun _ => kb_blk _ _) rfl rfl hl.1 (Nat.le_of_ble_eq_true rfl) dL_isStep_748 ⟨(Nat.le_of_ble_eq_true rfl), (Nat.le_of_ble_eq_true rfl)⟩ (fun r u_748_1 H locs hw hP hD hS => ?_)
                  obtain ⟨hr_748, hin⟩ := hw
                  subst hr_748
                  refine kb_top (gc (mo_g m) 7 + nI (oPassN k (mo_g m))) (by rw [moA_g hop (nI_pos (by omega))]; exact (coA_k (by decide)).trans (oPass_7 _ _)) ?_
                  refine lv_iload hx hb dL_isStep_751 (lv_at hl 3 rfl) ?_
                  refine lv_iload hx hb dL_isStep_753 (lv_at hl 2 rfl) ?_
                  refine lv_iadd hx hb dL_isStep_755 ?_
                  refine lv_icmp_ne (tgt := 763) hx hb dL_isStep_756 (by decide) (fun c756 => ?_) (fun c756 => ?_)
                  · exfalso; exact c756 rfl
                  · refine lv_iconst (v := nI 1) hx hb dL_isStep_759 (by decide) ?_
                    refine lv_goto (tgt := 764) hx hb dL_isStep_760 (by decide) ?_
                    have hPR : PR (M + 99) (moA m (opP (mo_g m) (nI k)).1 (opP (mo_g m) (nI k)).2) (moA m2 (opP (mo_g m2) (nI k)).1 (opP (mo_g m2) (nI k)).2) := PR_opP hR (by omega) _
                    exact kb_zret (D := D) (w := fun z : KBS × KBS => bW cI cC cS a z.1 ++ bW cI cC cS b z.2) hQ hx hb hr hlocks hK hP hD hS dL_isStep_764 rfl (u_748_1, u_719_1) rfl (Nat.le_refl _) (Nat.le_refl _) ⟨rfl, _, _, hin, hip, hPR⟩
          · refine lv_iload hx hb dL_isStep_681 (lv_at hl 1 rfl) ?_
            refine lv_iload hx hb dL_isStep_683 (lv_at hl 4 rfl) ?_
            refine lv_iload hx hb dL_isStep_685 (lv_at hl 0 rfl) ?_
            refine lv_iadd hx hb dL_isStep_687 ?_
            refine kb_top (nI (mn + k)) (nI_add mn k) ?_
            refine lv_iconst (v := nI 1) hx hb dL_isStep_688 (by decide) ?_
            refine lv_iadd hx hb dL_isStep_689 ?_
            refine kb_top (nI (mn + k + 1)) (nI_add (mn + k) 1) ?_
            refine lv_aload_n hx hb dL_isStep_690 rfl (lv_at hl 8 rfl) ?_
            refine lv_bipush (v := nI 12) hx hb dL_isStep_691 (by decide) ?_
            refine kb_bIa (w := bW cI cC cS a) (As := [.int (nI 12)]) (rest := [.int (nI (mn + k + 1)), .int (nI (oPassN k (mo_g m)))]) hx hb hml hts hown hN hK hP hD hS hA (b_count l D cI cC cS a hin (nI 12)) gL_isStep_X4_count rfl ⟨rfl, rfl⟩ hdX4_count ⟨(Nat.le_of_ble_eq_true rfl), (Nat.le_of_ble_eq_true rfl)⟩ [0, 1, 2] rfl (ci := 4) rfl rfl rfl (fun _ => kb_blk _ _) rfl rfl hl.1 (Nat.le_of_ble_eq_true rfl) dL_isStep_693 ⟨(Nat.le_of_ble_eq_true rfl), (Nat.le_of_ble_eq_true rfl)⟩ (fun r u_693_1 H locs hw hP hD hS => ?_)
            obtain ⟨hr_693, hin⟩ := hw
            subst hr_693
            refine kb_top (nI e1) (by rw [moA_g hop (nI_pos (by omega))]; exact (coA_k (by decide)).trans ((oPass_c1 _ _).trans he1)) ?_
            refine lv_irem hx hb dL_isStep_696 (nI_n0 (by omega) (by omega)) ?_
            refine kb_top (nI ((mn + k + 1) % e1)) (pk_rem (by omega) (by omega) (by omega)) ?_
            refine kb_nif_ne (tgt := 704) hx hb dL_isStep_697 (by decide) (by have := Nat.mod_lt (mn + k + 1) (show 0 < e1 by omega); omega) (fun c697 => ?_) (fun c697 => ?_)
            · refine lv_iconst (v := nI 0) hx hb dL_isStep_704 (by decide) ?_
              refine lv_iadd hx hb dL_isStep_705 ?_
              refine kb_top (nI (oPassN k (mo_g m) + 0)) (nI_add (oPassN k (mo_g m)) 0) ?_
              refine kb_top (nI (oPassN (k + 1) (mo_g m))) (congrArg nI ((congrArg (fun z => oPassN k (mo_g m) + z) (if_neg c697).symm).trans (oPassN_1 ho hEx he1 he160 (by omega) (by omega)))) ?_
              refine lv_istore (lv' := [(10, .int (nI (oPassN (k + 1) (mo_g m)))), (11, .int (nI k)), (9, .int (nI (oPassN mi (mo_g m)))), (8, .int (gc (mo_g m) 7)), (7, .int (nI mn)), (6, .int (nI mi)), (5, .int (nI (nK (mo_g m)))), (4, .int (x >>> (nI 4 &&& 31))), (0, .ref (a 0)), (1, .ref (b 0)), (2, .int (x)), (3, .int (y))]) hx hb dL_isStep_706 hl (by decide) rfl (fun ls hl => ?_)
              refine lv_iinc (v := nI (k + 1)) (lv' := [(11, .int (nI (k + 1))), (10, .int (nI (oPassN (k + 1) (mo_g m)))), (9, .int (nI (oPassN mi (mo_g m)))), (8, .int (gc (mo_g m) 7)), (7, .int (nI mn)), (6, .int (nI mi)), (5, .int (nI (nK (mo_g m)))), (4, .int (x >>> (nI 4 &&& 31))), (0, .ref (a 0)), (1, .ref (b 0)), (2, .int (x)), (3, .int (y))]) hx hb dL_isStep_708 hl (k := 1) rfl (kb_inc1 k) (by decide) rfl (fun ls hl => ?_)
              refine lv_goto (tgt := 674) hx hb dL_isStep_711 (by decide) ?_
              exact ih_674 u_693_1 (k + 1) hin (by omega) (by omega) _ _ hP hD hS _ (lv_sub hl [0, 1, 2, 3, 4, 5, 6, 7, 8, 9, 10, 11] rfl)
            · refine lv_iconst (v := nI 1) hx hb dL_isStep_700 (by decide) ?_
              refine lv_goto (tgt := 705) hx hb dL_isStep_701 (by decide) ?_
              refine lv_iadd hx hb dL_isStep_705 ?_
              refine kb_top (nI (oPassN k (mo_g m) + 1)) (nI_add (oPassN k (mo_g m)) 1) ?_
              refine kb_top (nI (oPassN (k + 1) (mo_g m))) (congrArg nI ((congrArg (fun z => oPassN k (mo_g m) + z) (if_pos c697).symm).trans (oPassN_1 ho hEx he1 he160 (by omega) (by omega)))) ?_
              refine lv_istore (lv' := [(10, .int (nI (oPassN (k + 1) (mo_g m)))), (11, .int (nI k)), (9, .int (nI (oPassN mi (mo_g m)))), (8, .int (gc (mo_g m) 7)), (7, .int (nI mn)), (6, .int (nI mi)), (5, .int (nI (nK (mo_g m)))), (4, .int (x >>> (nI 4 &&& 31))), (0, .ref (a 0)), (1, .ref (b 0)), (2, .int (x)), (3, .int (y))]) hx hb dL_isStep_706 hl (by decide) rfl (fun ls hl => ?_)
              refine lv_iinc (v := nI (k + 1)) (lv' := [(11, .int (nI (k + 1))), (10, .int (nI (oPassN (k + 1) (mo_g m)))), (9, .int (nI (oPassN mi (mo_g m)))), (8, .int (gc (mo_g m) 7)), (7, .int (nI mn)), (6, .int (nI mi)), (5, .int (nI (nK (mo_g m)))), (4, .int (x >>> (nI 4 &&& 31))), (0, .ref (a 0)), (1, .ref (b 0)), (2, .int (x)), (3, .int (y))]) hx hb dL_isStep_708 hl (k := 1) rfl (kb_inc1 k) (by decide) rfl (fun ls hl => ?_)
              refine lv_goto (tgt := 674) hx hb dL_isStep_711 (by decide) ?_
              exact ih_674 u_693_1 (k + 1) hin (by omega) (by omega) _ _ hP hD hS _ (lv_sub hl [0, 1, 2, 3, 4, 5, 6, 7, 8, 9, 10, 11] rfl)
      exact L_674 ((mi - 0) + 1) u_663_1 0 hin (by omega) (Nat.lt_succ_self _) _ _ hP hD hS _ (lv_sub hl [0, 1, 2, 3, 4, 5, 6, 7, 8, 9, 10, 11] rfl)
  have k_765 : W p l e rmL_isStep s mm args below meth c H locs 0 0 Q (F0 mm 765 ls []) := by
    refine lv_iconst (v := nI 1) hx hb dL_isStep_765 (by decide) ?_
    refine lv_iload_n hx hb dL_isStep_766 rfl (lv_at hl 5 rfl) ?_
    refine lv_bipush (v := nI 9) hx hb dL_isStep_767 (by decide) ?_
    refine kb_sR (As := [.int (y), .int (nI 9)]) (rest := [.int (nI 1)]) hx hb hml hts hown hN hK hP hD hS hA (c_L_up l D y 9 (by first | assumption | omega) (by first | assumption | omega)) gL_isStep_L_up rfl ⟨rfl, rfl⟩ hdL_up.2 ⟨Nat.le_of_ble_eq_true rfl, Nat.le_of_ble_eq_true rfl⟩ [] [] rfl rfl rfl rfl rfl hl.1 (Nat.le_of_ble_eq_true rfl) dL_isStep_769 ⟨Nat.zero_le _, Nat.zero_le _⟩ (fun H locs hP hS => ?_)
    obtain ⟨j_769, hj_769, ej_769⟩ : ∃ j, j < 9 ∧ nI (upN y 9) = nI j := ⟨_, upN_lt (by omega), rfl⟩
    refine kb_top (nI j_769) ej_769 ?_
    refine lv_iadd hx hb dL_isStep_772 ?_
    refine kb_top (nI (1 + j_769)) (nI_add 1 j_769) ?_
    obtain ⟨cr, hcr, ecr⟩ : ∃ x, (1 ≤ x ∧ x ≤ 9) ∧ nI (1 + j_769) = nI x := ⟨_, by omega, rfl⟩
    refine kb_top (nI cr) ecr ?_
    refine lv_istore (lv' := [(6, .int (nI cr)), (5, .int (nI (nK (mo_g m)))), (4, .int (x >>> (nI 4 &&& 31))), (0, .ref (a 0)), (1, .ref (b 0)), (2, .int (x)), (3, .int (y))]) hx hb dL_isStep_773 hl (by decide) rfl (fun ls hl => ?_)
    refine lv_iload_n hx hb dL_isStep_775 rfl (lv_at hl 6 rfl) ?_
    refine lv_iconst (v := nI 4) hx hb dL_isStep_776 (by decide) ?_
    refine lv_ishr hx hb dL_isStep_777 ?_
    refine lv_iload hx hb dL_isStep_778 (lv_at hl 2 rfl) ?_
    refine lv_iconst (v := nI 3) hx hb dL_isStep_780 (by decide) ?_
    refine kb_sR (As := [.int (x >>> (nI 4 &&& 31)), .int (nI 3)]) (rest := [.int (y >>> (nI 4 &&& 31))]) hx hb hml hts hown hN hK hP hD hS hA (c_L_up l D (x >>> (nI 4 &&& 31)) 3 (by first | assumption | omega) (by first | assumption | omega)) gL_isStep_L_up rfl ⟨rfl, rfl⟩ hdL_up.2 ⟨Nat.le_of_ble_eq_true rfl, Nat.le_of_ble_eq_true rfl⟩ [] [] rfl rfl rfl rfl rfl hl.1 (Nat.le_of_ble_eq_true rfl) dL_isStep_781 ⟨Nat.zero_le _, Nat.zero_le _⟩ (fun H locs hP hS => ?_)
    obtain ⟨j_781, hj_781, ej_781⟩ : ∃ j, j < 3 ∧ nI (upN (x >>> (nI 4 &&& 31)) 3) = nI j := ⟨_, upN_lt (by omega), rfl⟩
    refine kb_top (nI j_781) ej_781 ?_
    refine kb_nif_ne (tgt := 792) hx hb dL_isStep_784 (by decide) (by omega) (fun c784 => ?_) (fun c784 => ?_)
    · refine lv_iconst (v := nI 3) hx hb dL_isStep_792 (by decide) ?_
      refine kb_sR (As := [.int (y >>> (nI 4 &&& 31)), .int (nI 3)]) (rest := []) hx hb hml hts hown hN hK hP hD hS hA (c_L_up l D (y >>> (nI 4 &&& 31)) 3 (by first | assumption | omega) (by first | assumption | omega)) gL_isStep_L_up rfl ⟨rfl, rfl⟩ hdL_up.2 ⟨Nat.le_of_ble_eq_true rfl, Nat.le_of_ble_eq_true rfl⟩ [] [] rfl rfl rfl rfl rfl hl.1 (Nat.le_of_ble_eq_true rfl) dL_isStep_793 ⟨Nat.zero_le _, Nat.zero_le _⟩ (fun H locs hP hS => ?_)
      obtain ⟨j_793, hj_793, ej_793⟩ : ∃ j, j < 3 ∧ nI (upN (y >>> (nI 4 &&& 31)) 3) = nI j := ⟨_, upN_lt (by omega), rfl⟩
      refine kb_top (nI j_793) ej_793 ?_
      obtain ⟨ag, hag, eag⟩ : ∃ x, (0 ≤ x ∧ x ≤ 60) ∧ nI (j_793) = nI x := ⟨_, by omega, rfl⟩
      refine kb_top (nI ag) eag ?_
      refine lv_istore (lv' := [(7, .int (nI ag)), (6, .int (nI cr)), (5, .int (nI (nK (mo_g m)))), (4, .int (x >>> (nI 4 &&& 31))), (0, .ref (a 0)), (1, .ref (b 0)), (2, .int (x)), (3, .int (y))]) hx hb dL_isStep_796 hl (by decide) rfl (fun ls hl => ?_)
      refine lv_aload_n hx hb dL_isStep_798 rfl (lv_at hl 4 rfl) ?_
      refine lv_iconst (v := nI 0) hx hb dL_isStep_799 (by decide) ?_
      refine kb_bIa (w := bW cI cC cS a) (As := [.int (nI 0)]) (rest := []) hx hb hml hts hown hN hK hP hD hS hA (b_count l D cI cC cS a hin (nI 0)) gL_isStep_X4_count rfl ⟨rfl, rfl⟩ hdX4_count ⟨(Nat.le_of_ble_eq_true rfl), (Nat.le_of_ble_eq_true rfl)⟩ [0, 1, 2] rfl (ci := 4) rfl rfl rfl (fun _ => kb_blk _ _) rfl rfl hl.1 (Nat.le_of_ble_eq_true rfl) dL_isStep_800 ⟨(Nat.le_of_ble_eq_true rfl), (Nat.le_of_ble_eq_true rfl)⟩ (fun r u_800 H locs hw hP hD hS => ?_)
      obtain ⟨hr_800, hin⟩ := hw
      subst hr_800
      refine kb_top (nI mn) ((coA_k (by decide)).trans hmn) ?_
      refine lv_iload hx hb dL_isStep_803 (lv_at hl 3 rfl) ?_
      refine lv_bipush (v := nI 6) hx hb dL_isStep_805 (by decide) ?_
      refine kb_sR (As := [.int (x >>> (nI 4 &&& 31)), .int (nI 6)]) (rest := [.int (nI mn)]) hx hb hml hts hown hN hK hP hD hS hA (c_L_up l D (x >>> (nI 4 &&& 31)) 6 (by first | assumption | omega) (by first | assumption | omega)) gL_isStep_L_up rfl ⟨rfl, rfl⟩ hdL_up.2 ⟨Nat.le_of_ble_eq_true rfl, Nat.le_of_ble_eq_true rfl⟩ [] [] rfl rfl rfl rfl rfl hl.1 (Nat.le_of_ble_eq_true rfl) dL_isStep_807 ⟨Nat.zero_le _, Nat.zero_le _⟩ (fun H locs hP hS => ?_)
      obtain ⟨j_807, hj_807, ej_807⟩ : ∃ j, j < 6 ∧ nI (upN (x >>> (nI 4 &&& 31)) 6) = nI j := ⟨_, upN_lt (by omega), rfl⟩
      refine kb_top (nI j_807) ej_807 ?_
      refine lv_iadd hx hb dL_isStep_810 ?_
      refine kb_top (nI (mn + j_807)) (nI_add mn j_807) ?_
      obtain ⟨ma, hma, ema⟩ : ∃ x, (mn ≤ x ∧ x ≤ mn + 5) ∧ nI (mn + j_807) = nI x := ⟨_, by omega, rfl⟩
      refine kb_top (nI ma) ema ?_
      refine lv_istore (lv' := [(8, .int (nI ma)), (7, .int (nI ag)), (6, .int (nI cr)), (5, .int (nI (nK (mo_g m)))), (4, .int (x >>> (nI 4 &&& 31))), (0, .ref (a 0)), (1, .ref (b 0)), (2, .int (x)), (3, .int (y))]) hx hb dL_isStep_811 hl (by decide) rfl (fun ls hl => ?_)
      refine lv_iload hx hb dL_isStep_813 (lv_at hl 0 rfl) ?_
      refine lv_sipush (v := nI 9999) hx hb dL_isStep_815 (by decide) ?_
      refine kb_icmp_gt (tgt := 828) hx hb dL_isStep_818 (by decide) (by omega) (by omega) (fun c818 => ?_) (fun c818 => ?_)
      · exfalso; omega
      · refine lv_iload hx hb dL_isStep_821 (lv_at hl 3 rfl) ?_
        refine lv_bipush (v := nI 24) hx hb dL_isStep_823 (by decide) ?_
        refine kb_icmp_ne (tgt := 847) hx hb dL_isStep_825 (by decide) (by omega) (by omega) (fun c825 => ?_) (fun c825 => ?_)
        · have i1 : isIn (nI cr) 1 9 = true := isIn_i (nI_nlt (by omega) (by omega)) (nI_nlt (by omega) (by omega))
          have i2 : isIn (nI ag) 0 120 = true := isIn_i (nI_nlt (by omega) (by omega)) (nI_nlt (by omega) (by omega))
          have i3 : isIn (nI ma) 0 9999 = true := isIn_i (nI_nlt (by omega) (by omega)) (nI_nlt (by omega) (by omega))
          have i4 : ¬ nI ma < gc (mo_g m) 4 := by rw [hmn]; exact nI_nlt (by omega) (by omega)
          have hk24 : nK (mo_g m) < 24 := by omega
          have hop : opA (mo_g m) (nI cr) (nI ag) (nI ma) = (nI (nK (mo_g m)), oAnn (mo_g m) cr ag (nI ma)) := opA_4 i1 i2 i3 i4 (by omega) (by omega) (by omega)
          have hn2 := bI_n hip
          have hb1 := dgN_b (2 * ag)
          have hb2 := dgN_b ma
          have hb0 := dgN_1 (x := cr) (by omega)
          have hz0 : mo_n (moC m2) = 0 := rfl
          refine lv_aload_n hx hb dL_isStep_847 rfl (lv_at hl 5 rfl) ?_
          refine lv_iload hx hb dL_isStep_848 (lv_at hl 2 rfl) ?_
          refine lv_iload hx hb dL_isStep_850 (lv_at hl 1 rfl) ?_
          refine lv_iload hx hb dL_isStep_852 (lv_at hl 0 rfl) ?_
          refine kb_bIa (w := bW cI cC cS a) (As := [.int (nI cr), .int (nI ag), .int (nI ma)]) (rest := []) hx hb hml hts hown hN hK hP hD hS hA (b_announce l D cI cC cS a hin (nI cr) (nI ag) (nI ma)) gL_isStep_X4_announce rfl ⟨rfl, rfl⟩ hdX4_announce ⟨(Nat.le_of_ble_eq_true rfl), (Nat.le_of_ble_eq_true rfl)⟩ [0, 1, 2] rfl (ci := 4) rfl rfl rfl (fun _ => kb_blk _ _) rfl rfl hl.1 (Nat.le_of_ble_eq_true rfl) dL_isStep_854 ⟨(Nat.le_of_ble_eq_true rfl), (Nat.le_of_ble_eq_true rfl)⟩ (fun r u_854 H locs hw hP hD hS => ?_)
          obtain ⟨hr_854, hin⟩ := hw
          subst hr_854
          refine kb_top (nI (nK (mo_g m))) (congrArg Prod.fst hop) ?_
          refine lv_iload hx hb dL_isStep_857 (lv_at hl 3 rfl) ?_
          refine kb_icmp_ne (tgt := 959) hx hb dL_isStep_859 (by decide) (by omega) (by omega) (fun c859 => ?_) (fun c859 => ?_)
          · exfalso; omega
          · refine lv_aload_n hx hb dL_isStep_862 rfl (lv_at hl 6 rfl) ?_
            refine kb_bIb (w := bW cI cC cS b) (As := []) (rest := []) hx hb hml hts hown hN hK hP hD hS hA (b_clearText l D cI cC cS b hip ) gL_isStep_X4_clearText rfl ⟨rfl, rfl⟩ hdX4_clearText ⟨(Nat.le_of_ble_eq_true rfl), (Nat.le_of_ble_eq_true rfl)⟩ [0, 1, 2] rfl (ci := 4) rfl rfl rfl (fun _ => kb_blk _ _) rfl rfl hl.1 (Nat.le_of_ble_eq_true rfl) dL_isStep_863 ⟨(Nat.le_of_ble_eq_true rfl), (Nat.le_of_ble_eq_true rfl)⟩ (fun r u_863 H locs hw hP hD hS => ?_)
            obtain ⟨hr_863, hip⟩ := hw
            subst hr_863
            refine kb_nif_lt (tgt := 959) hx hb dL_isStep_866 (by decide) (by omega) ?_
            refine lv_aload_n hx hb dL_isStep_869 rfl (lv_at hl 6 rfl) ?_
            refine lv_bipush (v := nI 107) hx hb dL_isStep_870 (by decide) ?_
            refine kb_bIb (w := bW cI cC cS b) (As := [.int (nI 107)]) (rest := []) hx hb hml hts hown hN hK hP hD hS hA (b_type l D cI cC cS b hip 107 (by decide)) gL_isStep_X4_type rfl ⟨rfl, rfl⟩ hdX4_type ⟨(Nat.le_of_ble_eq_true rfl), (Nat.le_of_ble_eq_true rfl)⟩ [0, 1, 2] rfl (ci := 4) rfl rfl rfl (fun _ => kb_blk _ _) rfl rfl hl.1 (Nat.le_of_ble_eq_true rfl) dL_isStep_872 ⟨(Nat.le_of_ble_eq_true rfl), (Nat.le_of_ble_eq_true rfl)⟩ (fun r u_872 H locs hw hP hD hS => ?_)
            obtain ⟨hr_872, hip⟩ := hw
            subst hr_872
            have hz_872 : mo_n (moT (moC m2) 107) = mo_n (moC m2) + 1 := moT_n (by omega)
            refine kb_top (nI (mo_n (moC m2) + 1)) (if_pos (by omega)) ?_
            refine kb_nif_le (tgt := 959) hx hb dL_isStep_875 (by decide) (by omega) (fun c875 => ?_) (fun c875 => ?_)
            · exfalso; omega
            · refine lv_aload_n hx hb dL_isStep_878 rfl (lv_at hl 6 rfl) ?_
              refine lv_iload hx hb dL_isStep_879 (lv_at hl 2 rfl) ?_
              refine kb_bSb (w := bW cI cC cS b) (As := [.ref (b 0), .int (nI cr)]) (rest := []) hx hb hml hts hown hN hK hP hD hS hA (c_L_number l D cI cC cS b hip cr (by omega) (by omega)) gL_isStep_L_number rfl ⟨rfl, rfl⟩ hdL_number.2 ⟨(Nat.le_of_ble_eq_true rfl), (Nat.le_of_ble_eq_true rfl)⟩ [0, 1, 2] rfl (fun _ => kb_blk _ _) rfl rfl hl.1 (Nat.le_of_ble_eq_true rfl) dL_isStep_881 ⟨(Nat.le_of_ble_eq_true rfl), (Nat.le_of_ble_eq_true rfl)⟩ (fun r u_881 H locs hw hP hD hS => ?_)
              obtain ⟨hr_881, hip⟩ := hw
              subst hr_881
              have hz_881 : mo_n (moTs (moT (moC m2) 107) (dgs cr)) = mo_n (moT (moC m2) 107) + dgN cr := (moTs_n _ _ (by rw [dgs_len]; omega)).1.trans (by rw [dgs_len])
              refine kb_nif_eq (tgt := 959) hx hb dL_isStep_884 (by decide) (by decide) (fun c => absurd c (by decide)) (fun _ => ?_)
              refine lv_aload_n hx hb dL_isStep_887 rfl (lv_at hl 6 rfl) ?_
              refine lv_bipush (v := nI 46) hx hb dL_isStep_888 (by decide) ?_
              refine kb_bIb (w := bW cI cC cS b) (As := [.int (nI 46)]) (rest := []) hx hb hml hts hown hN hK hP hD hS hA (b_type l D cI cC cS b hip 46 (by decide)) gL_isStep_X4_type rfl ⟨rfl, rfl⟩ hdX4_type ⟨(Nat.le_of_ble_eq_true rfl), (Nat.le_of_ble_eq_true rfl)⟩ [0, 1, 2] rfl (ci := 4) rfl rfl rfl (fun _ => kb_blk _ _) rfl rfl hl.1 (Nat.le_of_ble_eq_true rfl) dL_isStep_890 ⟨(Nat.le_of_ble_eq_true rfl), (Nat.le_of_ble_eq_true rfl)⟩ (fun r u_890 H locs hw hP hD hS => ?_)
              obtain ⟨hr_890, hip⟩ := hw
              subst hr_890
              have hz_890 : mo_n (moT (moTs (moT (moC m2) 107) (dgs cr)) 46) = mo_n (moTs (moT (moC m2) 107) (dgs cr)) + 1 := moT_n (by omega)
              refine kb_top (nI (mo_n (moTs (moT (moC m2) 107) (dgs cr)) + 1)) (if_pos (by omega)) ?_
              refine kb_nif_le (tgt := 959) hx hb dL_isStep_893 (by decide) (by omega) (fun c893 => ?_) (fun c893 => ?_)
              · exfalso; omega
              · refine lv_aload_n hx hb dL_isStep_896 rfl (lv_at hl 6 rfl) ?_
                refine lv_iconst (v := nI 2) hx hb dL_isStep_897 (by decide) ?_
                refine lv_iload hx hb dL_isStep_898 (lv_at hl 1 rfl) ?_
                refine lv_imul hx hb dL_isStep_900 ?_
                refine kb_top (nI (2 * ag)) (pk_mul 2 ag) ?_
                refine kb_bSb (w := bW cI cC cS b) (As := [.ref (b 0), .int (nI (2 * ag))]) (rest := []) hx hb hml hts hown hN hK hP hD hS hA (c_L_number l D cI cC cS b hip (2 * ag) (by omega) (by omega)) gL_isStep_L_number rfl ⟨rfl, rfl⟩ hdL_number.2 ⟨(Nat.le_of_ble_eq_true rfl), (Nat.le_of_ble_eq_true rfl)⟩ [0, 1, 2] rfl (fun _ => kb_blk _ _) rfl rfl hl.1 (Nat.le_of_ble_eq_true rfl) dL_isStep_901 ⟨(Nat.le_of_ble_eq_true rfl), (Nat.le_of_ble_eq_true rfl)⟩ (fun r u_901 H locs hw hP hD hS => ?_)
                obtain ⟨hr_901, hip⟩ := hw
                subst hr_901
                have hz_901 : mo_n (moTs (moT (moTs (moT (moC m2) 107) (dgs cr)) 46) (dgs (2 * ag))) = mo_n (moT (moTs (moT (moC m2) 107) (dgs cr)) 46) + dgN (2 * ag) := (moTs_n _ _ (by rw [dgs_len]; omega)).1.trans (by rw [dgs_len])
                refine kb_nif_eq (tgt := 959) hx hb dL_isStep_904 (by decide) (by decide) (fun c => absurd c (by decide)) (fun _ => ?_)
                refine lv_aload_n hx hb dL_isStep_907 rfl (lv_at hl 6 rfl) ?_
                refine lv_bipush (v := nI 64) hx hb dL_isStep_908 (by decide) ?_
                refine kb_bIb (w := bW cI cC cS b) (As := [.int (nI 64)]) (rest := []) hx hb hml hts hown hN hK hP hD hS hA (b_type l D cI cC cS b hip 64 (by decide)) gL_isStep_X4_type rfl ⟨rfl, rfl⟩ hdX4_type ⟨(Nat.le_of_ble_eq_true rfl), (Nat.le_of_ble_eq_true rfl)⟩ [0, 1, 2] rfl (ci := 4) rfl rfl rfl (fun _ => kb_blk _ _) rfl rfl hl.1 (Nat.le_of_ble_eq_true rfl) dL_isStep_910 ⟨(Nat.le_of_ble_eq_true rfl), (Nat.le_of_ble_eq_true rfl)⟩ (fun r u_910 H locs hw hP hD hS => ?_)
                obtain ⟨hr_910, hip⟩ := hw
                subst hr_910
                have hz_910 : mo_n (moT (moTs (moT (moTs (moT (moC m2) 107) (dgs cr)) 46) (dgs (2 * ag))) 64) = mo_n (moTs (moT (moTs (moT (moC m2) 107) (dgs cr)) 46) (dgs (2 * ag))) + 1 := moT_n (by omega)
                refine kb_top (nI (mo_n (moTs (moT (moTs (moT (moC m2) 107) (dgs cr)) 46) (dgs (2 * ag))) + 1)) (if_pos (by omega)) ?_
                refine kb_nif_le (tgt := 959) hx hb dL_isStep_913 (by decide) (by omega) (fun c913 => ?_) (fun c913 => ?_)
                · exfalso; omega
                · refine lv_aload_n hx hb dL_isStep_916 rfl (lv_at hl 6 rfl) ?_
                  refine lv_iload hx hb dL_isStep_917 (lv_at hl 0 rfl) ?_
                  refine kb_bSb (w := bW cI cC cS b) (As := [.ref (b 0), .int (nI ma)]) (rest := []) hx hb hml hts hown hN hK hP hD hS hA (c_L_number l D cI cC cS b hip ma (by omega) (by omega)) gL_isStep_L_number rfl ⟨rfl, rfl⟩ hdL_number.2 ⟨(Nat.le_of_ble_eq_true rfl), (Nat.le_of_ble_eq_true rfl)⟩ [0, 1, 2] rfl (fun _ => kb_blk _ _) rfl rfl hl.1 (Nat.le_of_ble_eq_true rfl) dL_isStep_919 ⟨(Nat.le_of_ble_eq_true rfl), (Nat.le_of_ble_eq_true rfl)⟩ (fun r u_919 H locs hw hP hD hS => ?_)
                  obtain ⟨hr_919, hip⟩ := hw
                  subst hr_919
                  have hz_919 : mo_n (moTs (moT (moTs (moT (moTs (moT (moC m2) 107) (dgs cr)) 46) (dgs (2 * ag))) 64) (dgs ma)) = mo_n (moT (moTs (moT (moTs (moT (moC m2) 107) (dgs cr)) 46) (dgs (2 * ag))) 64) + dgN ma := (moTs_n _ _ (by rw [dgs_len]; omega)).1.trans (by rw [dgs_len])
                  refine kb_nif_eq (tgt := 959) hx hb dL_isStep_922 (by decide) (by decide) (fun c => absurd c (by decide)) (fun _ => ?_)
                  rw [txK_M] at hip
                  have hpf := st_perf (m2 := m2) (c := cr) (a := ag) (ma := ma) hg2 ho (by omega) (by omega) (by omega) hk24 i4
                  refine lv_aload_n hx hb dL_isStep_925 rfl (lv_at hl 6 rfl) ?_
                  refine kb_bIb (w := bW cI cC cS b) (As := []) (rest := []) hx hb hml hts hown hN hK hP hD hS hA (b_perform l D cI cC cS b hip ) gL_isStep_X4_perform rfl ⟨rfl, rfl⟩ hdX4_perform ⟨(Nat.le_of_ble_eq_true rfl), (Nat.le_of_ble_eq_true rfl)⟩ [0, 1, 2] rfl (ci := 4) rfl rfl rfl (fun _ => kb_blk _ _) rfl rfl hl.1 (Nat.le_of_ble_eq_true rfl) dL_isStep_926 ⟨(Nat.le_of_ble_eq_true rfl), (Nat.le_of_ble_eq_true rfl)⟩ (fun r u_926 H locs hw hP hD hS => ?_)
                  obtain ⟨hr_926, hip⟩ := hw
                  subst hr_926
                  refine kb_top (nI 1) hpf.1 ?_
                  refine lv_iconst (v := nI 1) hx hb dL_isStep_929 (by decide) ?_
                  refine kb_icmp_ne (tgt := 959) hx hb dL_isStep_930 (by decide) (by decide) (by decide) (fun c => absurd c (by decide)) (fun _ => ?_)
                  refine lv_aload_n hx hb dL_isStep_933 rfl (lv_at hl 5 rfl) ?_
                  refine lv_iload hx hb dL_isStep_934 (lv_at hl 3 rfl) ?_
                  refine lv_iconst (v := nI 3) hx hb dL_isStep_936 (by decide) ?_
                  refine kb_bIa (w := bW cI cC cS a) (As := [.int (nI (nK (mo_g m))), .int (nI 3)]) (rest := []) hx hb hml hts hown hN hK hP hD hS hA (b_king l D cI cC cS a hin (nI (nK (mo_g m))) (nI 3)) gL_isStep_X4_king rfl ⟨rfl, rfl⟩ hdX4_king ⟨(Nat.le_of_ble_eq_true rfl), (Nat.le_of_ble_eq_true rfl)⟩ [0, 1, 2] rfl (ci := 4) rfl rfl rfl (fun _ => kb_blk _ _) rfl rfl hl.1 (Nat.le_of_ble_eq_true rfl) dL_isStep_937 ⟨(Nat.le_of_ble_eq_true rfl), (Nat.le_of_ble_eq_true rfl)⟩ (fun r u_937 H locs hw hP hD hS => ?_)
                  obtain ⟨hr_937, hin⟩ := hw
                  subst hr_937
                  refine kb_top (nI 0) (by rw [moA_g hop (nI_pos (by omega))]; exact (kA_k (g := oAnn (mo_g m) cr ag (nI ma)) (show nK (mo_g m) < nK (mo_g m) + 1 by omega) (show nK (mo_g m) + 1 ≤ 24 by omega) (by decide)).trans (congrArg nI (ho.z _ (Nat.le_refl _)).1)) ?_
                  refine kb_nif_ne (tgt := 959) hx hb dL_isStep_940 (by decide) (by decide) (fun c => absurd c (by decide)) (fun _ => ?_)
                  refine lv_aload_n hx hb dL_isStep_943 rfl (lv_at hl 5 rfl) ?_
                  refine lv_iload hx hb dL_isStep_944 (lv_at hl 3 rfl) ?_
                  refine lv_iconst (v := nI 2) hx hb dL_isStep_946 (by decide) ?_
                  refine kb_bIa (w := bW cI cC cS a) (As := [.int (nI (nK (mo_g m))), .int (nI 2)]) (rest := []) hx hb hml hts hown hN hK hP hD hS hA (b_king l D cI cC cS a hin (nI (nK (mo_g m))) (nI 2)) gL_isStep_X4_king rfl ⟨rfl, rfl⟩ hdX4_king ⟨(Nat.le_of_ble_eq_true rfl), (Nat.le_of_ble_eq_true rfl)⟩ [0, 1, 2] rfl (ci := 4) rfl rfl rfl (fun _ => kb_blk _ _) rfl rfl hl.1 (Nat.le_of_ble_eq_true rfl) dL_isStep_947 ⟨(Nat.le_of_ble_eq_true rfl), (Nat.le_of_ble_eq_true rfl)⟩ (fun r u_947 H locs hw hP hD hS => ?_)
                  obtain ⟨hr_947, hin⟩ := hw
                  subst hr_947
                  refine kb_top (nI ma) (by rw [moA_g hop (nI_pos (by omega))]; exact (kA_k (g := oAnn (mo_g m) cr ag (nI ma)) (show nK (mo_g m) < nK (mo_g m) + 1 by omega) (show nK (mo_g m) + 1 ≤ 24 by omega) (by decide)).trans (if_pos ⟨rfl, rfl⟩)) ?_
                  refine lv_iload hx hb dL_isStep_950 (lv_at hl 0 rfl) ?_
                  refine kb_icmp_ne (tgt := 959) hx hb dL_isStep_952 (by decide) (by omega) (by omega) (fun c952 => ?_) (fun c952 => ?_)
                  · exfalso; omega
                  · refine lv_iconst (v := nI 1) hx hb dL_isStep_955 (by decide) ?_
                    refine lv_goto (tgt := 960) hx hb dL_isStep_956 (by decide) ?_
                    have hPR : PR (M + 99) (moA m (opA (mo_g m) (nI cr) (nI ag) (nI ma)).1 (opA (mo_g m) (nI cr) (nI ag) (nI ma)).2) (moA (moTs (moC m2) (txK cr (2 * ag) ma)) (pfR (mo_tx (moTs (moC m2) (txK cr (2 * ag) ma))) (mo_n (moTs (moC m2) (txK cr (2 * ag) ma))) (mo_g (moTs (moC m2) (txK cr (2 * ag) ma)))) (pfG (mo_tx (moTs (moC m2) (txK cr (2 * ag) ma))) (mo_n (moTs (moC m2) (txK cr (2 * ag) ma))) (mo_g (moTs (moC m2) (txK cr (2 * ag) ma))))) := (by rw [hop, hpf.1, hpf.2]; exact PR_act2 (hR.tx ((moX_C m2).tr (moX_Ts _ _))) _ _ ⟨fun z => absurd z (nI_pos (by omega)), fun z => absurd z (nI_pos (by omega))⟩ (by omega) ((Iv_ann hI (by omega) (by omega) (by omega) hk24 i4 (by omega)).mono (by omega)))
                    exact kb_zret (D := D) (w := fun z : KBS × KBS => bW cI cC cS a z.1 ++ bW cI cC cS b z.2) hQ hx hb hr hlocks hK hP hD hS dL_isStep_960 rfl (u_947, u_926) rfl (Nat.le_refl _) (Nat.le_refl _) ⟨rfl, _, _, hin, hip, hPR⟩
        · have i1 : isIn (nI cr) 1 9 = true := isIn_i (nI_nlt (by omega) (by omega)) (nI_nlt (by omega) (by omega))
          have i2 : isIn (nI ag) 0 120 = true := isIn_i (nI_nlt (by omega) (by omega)) (nI_nlt (by omega) (by omega))
          have i3 : isIn (nI ma) 0 9999 = true := isIn_i (nI_nlt (by omega) (by omega)) (nI_nlt (by omega) (by omega))
          have i4 : ¬ nI ma < gc (mo_g m) 4 := by rw [hmn]; exact nI_nlt (by omega) (by omega)
          have hop : opA (mo_g m) (nI cr) (nI ag) (nI ma) = (-3, (mo_g m)) := opA_3 i1 i2 i3 i4 c825
          refine lv_aload_n hx hb dL_isStep_828 rfl (lv_at hl 5 rfl) ?_
          refine lv_iload hx hb dL_isStep_829 (lv_at hl 2 rfl) ?_
          refine lv_iload hx hb dL_isStep_831 (lv_at hl 1 rfl) ?_
          refine lv_iload hx hb dL_isStep_833 (lv_at hl 0 rfl) ?_
          refine kb_bIa (w := bW cI cC cS a) (As := [.int (nI cr), .int (nI ag), .int (nI ma)]) (rest := []) hx hb hml hts hown hN hK hP hD hS hA (b_announce l D cI cC cS a hin (nI cr) (nI ag) (nI ma)) gL_isStep_X4_announce rfl ⟨rfl, rfl⟩ hdX4_announce ⟨(Nat.le_of_ble_eq_true rfl), (Nat.le_of_ble_eq_true rfl)⟩ [0, 1, 2] rfl (ci := 4) rfl rfl rfl (fun _ => kb_blk _ _) rfl rfl hl.1 (Nat.le_of_ble_eq_true rfl) dL_isStep_835 ⟨(Nat.le_of_ble_eq_true rfl), (Nat.le_of_ble_eq_true rfl)⟩ (fun r u_835 H locs hw hP hD hS => ?_)
          obtain ⟨hr_835, hin⟩ := hw
          subst hr_835
          refine kb_top ((-3)) (congrArg Prod.fst hop) ?_
          refine lv_if_ge (tgt := 845) hx hb dL_isStep_838 (by decide) (fun c => absurd c (by decide)) (fun _ => ?_)
          refine lv_iconst (v := nI 1) hx hb dL_isStep_841 (by decide) ?_
          refine lv_goto (tgt := 846) hx hb dL_isStep_842 (by decide) ?_
          have hPR : PR (M + 99) (moA m (opA (mo_g m) (nI cr) (nI ag) (nI ma)).1 (opA (mo_g m) (nI cr) (nI ag) (nI ma)).2) m2 := (by rw [hop, moA_n (show (-3 : Int32) < nI 0 by decide)]; exact hR.mono (by omega))
          exact kb_zret (D := D) (w := fun z : KBS × KBS => bW cI cC cS a z.1 ++ bW cI cC cS b z.2) hQ hx hb hr hlocks hK hP hD hS dL_isStep_846 rfl (u_835, v) rfl (Nat.le_refl _) (Nat.le_refl _) ⟨rfl, _, _, hin, hip, hPR⟩
    · refine lv_bipush (v := nI 61) hx hb dL_isStep_787 (by decide) ?_
      refine lv_goto (tgt := 793) hx hb dL_isStep_789 (by decide) ?_
      refine kb_sR (As := [.int (y >>> (nI 4 &&& 31)), .int (nI 61)]) (rest := []) hx hb hml hts hown hN hK hP hD hS hA (c_L_up l D (y >>> (nI 4 &&& 31)) 61 (by first | assumption | omega) (by first | assumption | omega)) gL_isStep_L_up rfl ⟨rfl, rfl⟩ hdL_up.2 ⟨Nat.le_of_ble_eq_true rfl, Nat.le_of_ble_eq_true rfl⟩ [] [] rfl rfl rfl rfl rfl hl.1 (Nat.le_of_ble_eq_true rfl) dL_isStep_793 ⟨Nat.zero_le _, Nat.zero_le _⟩ (fun H locs hP hS => ?_)
      obtain ⟨j_793_1, hj_793_1, ej_793_1⟩ : ∃ j, j < 61 ∧ nI (upN (y >>> (nI 4 &&& 31)) 61) = nI j := ⟨_, upN_lt (by omega), rfl⟩
      refine kb_top (nI j_793_1) ej_793_1 ?_
      obtain ⟨ag, hag, eag⟩ : ∃ x, (0 ≤ x ∧ x ≤ 60) ∧ nI (j_793_1) = nI x := ⟨_, by omega, rfl⟩
      refine kb_top (nI ag) eag ?_
      refine lv_istore (lv' := [(7, .int (nI ag)), (6, .int (nI cr)), (5, .int (nI (nK (mo_g m)))), (4, .int (x >>> (nI 4 &&& 31))), (0, .ref (a 0)), (1, .ref (b 0)), (2, .int (x)), (3, .int (y))]) hx hb dL_isStep_796 hl (by decide) rfl (fun ls hl => ?_)
      refine lv_aload_n hx hb dL_isStep_798 rfl (lv_at hl 4 rfl) ?_
      refine lv_iconst (v := nI 0) hx hb dL_isStep_799 (by decide) ?_
      refine kb_bIa (w := bW cI cC cS a) (As := [.int (nI 0)]) (rest := []) hx hb hml hts hown hN hK hP hD hS hA (b_count l D cI cC cS a hin (nI 0)) gL_isStep_X4_count rfl ⟨rfl, rfl⟩ hdX4_count ⟨(Nat.le_of_ble_eq_true rfl), (Nat.le_of_ble_eq_true rfl)⟩ [0, 1, 2] rfl (ci := 4) rfl rfl rfl (fun _ => kb_blk _ _) rfl rfl hl.1 (Nat.le_of_ble_eq_true rfl) dL_isStep_800 ⟨(Nat.le_of_ble_eq_true rfl), (Nat.le_of_ble_eq_true rfl)⟩ (fun r u_800_1 H locs hw hP hD hS => ?_)
      obtain ⟨hr_800, hin⟩ := hw
      subst hr_800
      refine kb_top (nI mn) ((coA_k (by decide)).trans hmn) ?_
      refine lv_iload hx hb dL_isStep_803 (lv_at hl 3 rfl) ?_
      refine lv_bipush (v := nI 6) hx hb dL_isStep_805 (by decide) ?_
      refine kb_sR (As := [.int (x >>> (nI 4 &&& 31)), .int (nI 6)]) (rest := [.int (nI mn)]) hx hb hml hts hown hN hK hP hD hS hA (c_L_up l D (x >>> (nI 4 &&& 31)) 6 (by first | assumption | omega) (by first | assumption | omega)) gL_isStep_L_up rfl ⟨rfl, rfl⟩ hdL_up.2 ⟨Nat.le_of_ble_eq_true rfl, Nat.le_of_ble_eq_true rfl⟩ [] [] rfl rfl rfl rfl rfl hl.1 (Nat.le_of_ble_eq_true rfl) dL_isStep_807 ⟨Nat.zero_le _, Nat.zero_le _⟩ (fun H locs hP hS => ?_)
      obtain ⟨j_807_1, hj_807_1, ej_807_1⟩ : ∃ j, j < 6 ∧ nI (upN (x >>> (nI 4 &&& 31)) 6) = nI j := ⟨_, upN_lt (by omega), rfl⟩
      refine kb_top (nI j_807_1) ej_807_1 ?_
      refine lv_iadd hx hb dL_isStep_810 ?_
      refine kb_top (nI (mn + j_807_1)) (nI_add mn j_807_1) ?_
      obtain ⟨ma, hma, ema⟩ : ∃ x, (mn ≤ x ∧ x ≤ mn + 5) ∧ nI (mn + j_807_1) = nI x := ⟨_, by omega, rfl⟩
      refine kb_top (nI ma) ema ?_
      refine lv_istore (lv' := [(8, .int (nI ma)), (7, .int (nI ag)), (6, .int (nI cr)), (5, .int (nI (nK (mo_g m)))), (4, .int (x >>> (nI 4 &&& 31))), (0, .ref (a 0)), (1, .ref (b 0)), (2, .int (x)), (3, .int (y))]) hx hb dL_isStep_811 hl (by decide) rfl (fun ls hl => ?_)
      refine lv_iload hx hb dL_isStep_813 (lv_at hl 0 rfl) ?_
      refine lv_sipush (v := nI 9999) hx hb dL_isStep_815 (by decide) ?_
      refine kb_icmp_gt (tgt := 828) hx hb dL_isStep_818 (by decide) (by omega) (by omega) (fun c818 => ?_) (fun c818 => ?_)
      · exfalso; omega
      · refine lv_iload hx hb dL_isStep_821 (lv_at hl 3 rfl) ?_
        refine lv_bipush (v := nI 24) hx hb dL_isStep_823 (by decide) ?_
        refine kb_icmp_ne (tgt := 847) hx hb dL_isStep_825 (by decide) (by omega) (by omega) (fun c825 => ?_) (fun c825 => ?_)
        · have i1 : isIn (nI cr) 1 9 = true := isIn_i (nI_nlt (by omega) (by omega)) (nI_nlt (by omega) (by omega))
          have i2 : isIn (nI ag) 0 120 = true := isIn_i (nI_nlt (by omega) (by omega)) (nI_nlt (by omega) (by omega))
          have i3 : isIn (nI ma) 0 9999 = true := isIn_i (nI_nlt (by omega) (by omega)) (nI_nlt (by omega) (by omega))
          have i4 : ¬ nI ma < gc (mo_g m) 4 := by rw [hmn]; exact nI_nlt (by omega) (by omega)
          have hk24 : nK (mo_g m) < 24 := by omega
          have hop : opA (mo_g m) (nI cr) (nI ag) (nI ma) = (nI (nK (mo_g m)), oAnn (mo_g m) cr ag (nI ma)) := opA_4 i1 i2 i3 i4 (by omega) (by omega) (by omega)
          have hn2 := bI_n hip
          have hb1 := dgN_b (2 * ag)
          have hb2 := dgN_b ma
          have hb0 := dgN_1 (x := cr) (by omega)
          have hz0 : mo_n (moC m2) = 0 := rfl
          refine lv_aload_n hx hb dL_isStep_847 rfl (lv_at hl 5 rfl) ?_
          refine lv_iload hx hb dL_isStep_848 (lv_at hl 2 rfl) ?_
          refine lv_iload hx hb dL_isStep_850 (lv_at hl 1 rfl) ?_
          refine lv_iload hx hb dL_isStep_852 (lv_at hl 0 rfl) ?_
          refine kb_bIa (w := bW cI cC cS a) (As := [.int (nI cr), .int (nI ag), .int (nI ma)]) (rest := []) hx hb hml hts hown hN hK hP hD hS hA (b_announce l D cI cC cS a hin (nI cr) (nI ag) (nI ma)) gL_isStep_X4_announce rfl ⟨rfl, rfl⟩ hdX4_announce ⟨(Nat.le_of_ble_eq_true rfl), (Nat.le_of_ble_eq_true rfl)⟩ [0, 1, 2] rfl (ci := 4) rfl rfl rfl (fun _ => kb_blk _ _) rfl rfl hl.1 (Nat.le_of_ble_eq_true rfl) dL_isStep_854 ⟨(Nat.le_of_ble_eq_true rfl), (Nat.le_of_ble_eq_true rfl)⟩ (fun r u_854_1 H locs hw hP hD hS => ?_)
          obtain ⟨hr_854, hin⟩ := hw
          subst hr_854
          refine kb_top (nI (nK (mo_g m))) (congrArg Prod.fst hop) ?_
          refine lv_iload hx hb dL_isStep_857 (lv_at hl 3 rfl) ?_
          refine kb_icmp_ne (tgt := 959) hx hb dL_isStep_859 (by decide) (by omega) (by omega) (fun c859 => ?_) (fun c859 => ?_)
          · exfalso; omega
          · refine lv_aload_n hx hb dL_isStep_862 rfl (lv_at hl 6 rfl) ?_
            refine kb_bIb (w := bW cI cC cS b) (As := []) (rest := []) hx hb hml hts hown hN hK hP hD hS hA (b_clearText l D cI cC cS b hip ) gL_isStep_X4_clearText rfl ⟨rfl, rfl⟩ hdX4_clearText ⟨(Nat.le_of_ble_eq_true rfl), (Nat.le_of_ble_eq_true rfl)⟩ [0, 1, 2] rfl (ci := 4) rfl rfl rfl (fun _ => kb_blk _ _) rfl rfl hl.1 (Nat.le_of_ble_eq_true rfl) dL_isStep_863 ⟨(Nat.le_of_ble_eq_true rfl), (Nat.le_of_ble_eq_true rfl)⟩ (fun r u_863_1 H locs hw hP hD hS => ?_)
            obtain ⟨hr_863, hip⟩ := hw
            subst hr_863
            refine kb_nif_lt (tgt := 959) hx hb dL_isStep_866 (by decide) (by omega) ?_
            refine lv_aload_n hx hb dL_isStep_869 rfl (lv_at hl 6 rfl) ?_
            refine lv_bipush (v := nI 107) hx hb dL_isStep_870 (by decide) ?_
            refine kb_bIb (w := bW cI cC cS b) (As := [.int (nI 107)]) (rest := []) hx hb hml hts hown hN hK hP hD hS hA (b_type l D cI cC cS b hip 107 (by decide)) gL_isStep_X4_type rfl ⟨rfl, rfl⟩ hdX4_type ⟨(Nat.le_of_ble_eq_true rfl), (Nat.le_of_ble_eq_true rfl)⟩ [0, 1, 2] rfl (ci := 4) rfl rfl rfl (fun _ => kb_blk _ _) rfl rfl hl.1 (Nat.le_of_ble_eq_true rfl) dL_isStep_872 ⟨(Nat.le_of_ble_eq_true rfl), (Nat.le_of_ble_eq_true rfl)⟩ (fun r u_872_1 H locs hw hP hD hS => ?_)
            obtain ⟨hr_872, hip⟩ := hw
            subst hr_872
            have hz_872 : mo_n (moT (moC m2) 107) = mo_n (moC m2) + 1 := moT_n (by omega)
            refine kb_top (nI (mo_n (moC m2) + 1)) (if_pos (by omega)) ?_
            refine kb_nif_le (tgt := 959) hx hb dL_isStep_875 (by decide) (by omega) (fun c875 => ?_) (fun c875 => ?_)
            · exfalso; omega
            · refine lv_aload_n hx hb dL_isStep_878 rfl (lv_at hl 6 rfl) ?_
              refine lv_iload hx hb dL_isStep_879 (lv_at hl 2 rfl) ?_
              refine kb_bSb (w := bW cI cC cS b) (As := [.ref (b 0), .int (nI cr)]) (rest := []) hx hb hml hts hown hN hK hP hD hS hA (c_L_number l D cI cC cS b hip cr (by omega) (by omega)) gL_isStep_L_number rfl ⟨rfl, rfl⟩ hdL_number.2 ⟨(Nat.le_of_ble_eq_true rfl), (Nat.le_of_ble_eq_true rfl)⟩ [0, 1, 2] rfl (fun _ => kb_blk _ _) rfl rfl hl.1 (Nat.le_of_ble_eq_true rfl) dL_isStep_881 ⟨(Nat.le_of_ble_eq_true rfl), (Nat.le_of_ble_eq_true rfl)⟩ (fun r u_881_1 H locs hw hP hD hS => ?_)
              obtain ⟨hr_881, hip⟩ := hw
              subst hr_881
              have hz_881 : mo_n (moTs (moT (moC m2) 107) (dgs cr)) = mo_n (moT (moC m2) 107) + dgN cr := (moTs_n _ _ (by rw [dgs_len]; omega)).1.trans (by rw [dgs_len])
              refine kb_nif_eq (tgt := 959) hx hb dL_isStep_884 (by decide) (by decide) (fun c => absurd c (by decide)) (fun _ => ?_)
              refine lv_aload_n hx hb dL_isStep_887 rfl (lv_at hl 6 rfl) ?_
              refine lv_bipush (v := nI 46) hx hb dL_isStep_888 (by decide) ?_
              refine kb_bIb (w := bW cI cC cS b) (As := [.int (nI 46)]) (rest := []) hx hb hml hts hown hN hK hP hD hS hA (b_type l D cI cC cS b hip 46 (by decide)) gL_isStep_X4_type rfl ⟨rfl, rfl⟩ hdX4_type ⟨(Nat.le_of_ble_eq_true rfl), (Nat.le_of_ble_eq_true rfl)⟩ [0, 1, 2] rfl (ci := 4) rfl rfl rfl (fun _ => kb_blk _ _) rfl rfl hl.1 (Nat.le_of_ble_eq_true rfl) dL_isStep_890 ⟨(Nat.le_of_ble_eq_true rfl), (Nat.le_of_ble_eq_true rfl)⟩ (fun r u_890_1 H locs hw hP hD hS => ?_)
              obtain ⟨hr_890, hip⟩ := hw
              subst hr_890
              have hz_890 : mo_n (moT (moTs (moT (moC m2) 107) (dgs cr)) 46) = mo_n (moTs (moT (moC m2) 107) (dgs cr)) + 1 := moT_n (by omega)
              refine kb_top (nI (mo_n (moTs (moT (moC m2) 107) (dgs cr)) + 1)) (if_pos (by omega)) ?_
              refine kb_nif_le (tgt := 959) hx hb dL_isStep_893 (by decide) (by omega) (fun c893 => ?_) (fun c893 => ?_)
              · exfalso; omega
              · refine lv_aload_n hx hb dL_isStep_896 rfl (lv_at hl 6 rfl) ?_
                refine lv_iconst (v := nI 2) hx hb dL_isStep_897 (by decide) ?_
                refine lv_iload hx hb dL_isStep_898 (lv_at hl 1 rfl) ?_
                refine lv_imul hx hb dL_isStep_900 ?_
                refine kb_top (nI (2 * ag)) (pk_mul 2 ag) ?_
                refine kb_bSb (w := bW cI cC cS b) (As := [.ref (b 0), .int (nI (2 * ag))]) (rest := []) hx hb hml hts hown hN hK hP hD hS hA (c_L_number l D cI cC cS b hip (2 * ag) (by omega) (by omega)) gL_isStep_L_number rfl ⟨rfl, rfl⟩ hdL_number.2 ⟨(Nat.le_of_ble_eq_true rfl), (Nat.le_of_ble_eq_true rfl)⟩ [0, 1, 2] rfl (fun _ => kb_blk _ _) rfl rfl hl.1 (Nat.le_of_ble_eq_true rfl) dL_isStep_901 ⟨(Nat.le_of_ble_eq_true rfl), (Nat.le_of_ble_eq_true rfl)⟩ (fun r u_901_1 H locs hw hP hD hS => ?_)
                obtain ⟨hr_901, hip⟩ := hw
                subst hr_901
                have hz_901 : mo_n (moTs (moT (moTs (moT (moC m2) 107) (dgs cr)) 46) (dgs (2 * ag))) = mo_n (moT (moTs (moT (moC m2) 107) (dgs cr)) 46) + dgN (2 * ag) := (moTs_n _ _ (by rw [dgs_len]; omega)).1.trans (by rw [dgs_len])
                refine kb_nif_eq (tgt := 959) hx hb dL_isStep_904 (by decide) (by decide) (fun c => absurd c (by decide)) (fun _ => ?_)
                refine lv_aload_n hx hb dL_isStep_907 rfl (lv_at hl 6 rfl) ?_
                refine lv_bipush (v := nI 64) hx hb dL_isStep_908 (by decide) ?_
                refine kb_bIb (w := bW cI cC cS b) (As := [.int (nI 64)]) (rest := []) hx hb hml hts hown hN hK hP hD hS hA (b_type l D cI cC cS b hip 64 (by decide)) gL_isStep_X4_type rfl ⟨rfl, rfl⟩ hdX4_type ⟨(Nat.le_of_ble_eq_true rfl), (Nat.le_of_ble_eq_true rfl)⟩ [0, 1, 2] rfl (ci := 4) rfl rfl rfl (fun _ => kb_blk _ _) rfl rfl hl.1 (Nat.le_of_ble_eq_true rfl) dL_isStep_910 ⟨(Nat.le_of_ble_eq_true rfl), (Nat.le_of_ble_eq_true rfl)⟩ (fun r u_910_1 H locs hw hP hD hS => ?_)
                obtain ⟨hr_910, hip⟩ := hw
                subst hr_910
                have hz_910 : mo_n (moT (moTs (moT (moTs (moT (moC m2) 107) (dgs cr)) 46) (dgs (2 * ag))) 64) = mo_n (moTs (moT (moTs (moT (moC m2) 107) (dgs cr)) 46) (dgs (2 * ag))) + 1 := moT_n (by omega)
                refine kb_top (nI (mo_n (moTs (moT (moTs (moT (moC m2) 107) (dgs cr)) 46) (dgs (2 * ag))) + 1)) (if_pos (by omega)) ?_
                refine kb_nif_le (tgt := 959) hx hb dL_isStep_913 (by decide) (by omega) (fun c913 => ?_) (fun c913 => ?_)
                · exfalso; omega
                · refine lv_aload_n hx hb dL_isStep_916 rfl (lv_at hl 6 rfl) ?_
                  refine lv_iload hx hb dL_isStep_917 (lv_at hl 0 rfl) ?_
                  refine kb_bSb (w := bW cI cC cS b) (As := [.ref (b 0), .int (nI ma)]) (rest := []) hx hb hml hts hown hN hK hP hD hS hA (c_L_number l D cI cC cS b hip ma (by omega) (by omega)) gL_isStep_L_number rfl ⟨rfl, rfl⟩ hdL_number.2 ⟨(Nat.le_of_ble_eq_true rfl), (Nat.le_of_ble_eq_true rfl)⟩ [0, 1, 2] rfl (fun _ => kb_blk _ _) rfl rfl hl.1 (Nat.le_of_ble_eq_true rfl) dL_isStep_919 ⟨(Nat.le_of_ble_eq_true rfl), (Nat.le_of_ble_eq_true rfl)⟩ (fun r u_919_1 H locs hw hP hD hS => ?_)
                  obtain ⟨hr_919, hip⟩ := hw
                  subst hr_919
                  have hz_919 : mo_n (moTs (moT (moTs (moT (moTs (moT (moC m2) 107) (dgs cr)) 46) (dgs (2 * ag))) 64) (dgs ma)) = mo_n (moT (moTs (moT (moTs (moT (moC m2) 107) (dgs cr)) 46) (dgs (2 * ag))) 64) + dgN ma := (moTs_n _ _ (by rw [dgs_len]; omega)).1.trans (by rw [dgs_len])
                  refine kb_nif_eq (tgt := 959) hx hb dL_isStep_922 (by decide) (by decide) (fun c => absurd c (by decide)) (fun _ => ?_)
                  rw [txK_M] at hip
                  have hpf := st_perf (m2 := m2) (c := cr) (a := ag) (ma := ma) hg2 ho (by omega) (by omega) (by omega) hk24 i4
                  refine lv_aload_n hx hb dL_isStep_925 rfl (lv_at hl 6 rfl) ?_
                  refine kb_bIb (w := bW cI cC cS b) (As := []) (rest := []) hx hb hml hts hown hN hK hP hD hS hA (b_perform l D cI cC cS b hip ) gL_isStep_X4_perform rfl ⟨rfl, rfl⟩ hdX4_perform ⟨(Nat.le_of_ble_eq_true rfl), (Nat.le_of_ble_eq_true rfl)⟩ [0, 1, 2] rfl (ci := 4) rfl rfl rfl (fun _ => kb_blk _ _) rfl rfl hl.1 (Nat.le_of_ble_eq_true rfl) dL_isStep_926 ⟨(Nat.le_of_ble_eq_true rfl), (Nat.le_of_ble_eq_true rfl)⟩ (fun r u_926_1 H locs hw hP hD hS => ?_)
                  obtain ⟨hr_926, hip⟩ := hw
                  subst hr_926
                  refine kb_top (nI 1) hpf.1 ?_
                  refine lv_iconst (v := nI 1) hx hb dL_isStep_929 (by decide) ?_
                  refine kb_icmp_ne (tgt := 959) hx hb dL_isStep_930 (by decide) (by decide) (by decide) (fun c => absurd c (by decide)) (fun _ => ?_)
                  refine lv_aload_n hx hb dL_isStep_933 rfl (lv_at hl 5 rfl) ?_
                  refine lv_iload hx hb dL_isStep_934 (lv_at hl 3 rfl) ?_
                  refine lv_iconst (v := nI 3) hx hb dL_isStep_936 (by decide) ?_
                  refine kb_bIa (w := bW cI cC cS a) (As := [.int (nI (nK (mo_g m))), .int (nI 3)]) (rest := []) hx hb hml hts hown hN hK hP hD hS hA (b_king l D cI cC cS a hin (nI (nK (mo_g m))) (nI 3)) gL_isStep_X4_king rfl ⟨rfl, rfl⟩ hdX4_king ⟨(Nat.le_of_ble_eq_true rfl), (Nat.le_of_ble_eq_true rfl)⟩ [0, 1, 2] rfl (ci := 4) rfl rfl rfl (fun _ => kb_blk _ _) rfl rfl hl.1 (Nat.le_of_ble_eq_true rfl) dL_isStep_937 ⟨(Nat.le_of_ble_eq_true rfl), (Nat.le_of_ble_eq_true rfl)⟩ (fun r u_937_1 H locs hw hP hD hS => ?_)
                  obtain ⟨hr_937, hin⟩ := hw
                  subst hr_937
                  refine kb_top (nI 0) (by rw [moA_g hop (nI_pos (by omega))]; exact (kA_k (g := oAnn (mo_g m) cr ag (nI ma)) (show nK (mo_g m) < nK (mo_g m) + 1 by omega) (show nK (mo_g m) + 1 ≤ 24 by omega) (by decide)).trans (congrArg nI (ho.z _ (Nat.le_refl _)).1)) ?_
                  refine kb_nif_ne (tgt := 959) hx hb dL_isStep_940 (by decide) (by decide) (fun c => absurd c (by decide)) (fun _ => ?_)
                  refine lv_aload_n hx hb dL_isStep_943 rfl (lv_at hl 5 rfl) ?_
                  refine lv_iload hx hb dL_isStep_944 (lv_at hl 3 rfl) ?_
                  refine lv_iconst (v := nI 2) hx hb dL_isStep_946 (by decide) ?_
                  refine kb_bIa (w := bW cI cC cS a) (As := [.int (nI (nK (mo_g m))), .int (nI 2)]) (rest := []) hx hb hml hts hown hN hK hP hD hS hA (b_king l D cI cC cS a hin (nI (nK (mo_g m))) (nI 2)) gL_isStep_X4_king rfl ⟨rfl, rfl⟩ hdX4_king ⟨(Nat.le_of_ble_eq_true rfl), (Nat.le_of_ble_eq_true rfl)⟩ [0, 1, 2] rfl (ci := 4) rfl rfl rfl (fun _ => kb_blk _ _) rfl rfl hl.1 (Nat.le_of_ble_eq_true rfl) dL_isStep_947 ⟨(Nat.le_of_ble_eq_true rfl), (Nat.le_of_ble_eq_true rfl)⟩ (fun r u_947_1 H locs hw hP hD hS => ?_)
                  obtain ⟨hr_947, hin⟩ := hw
                  subst hr_947
                  refine kb_top (nI ma) (by rw [moA_g hop (nI_pos (by omega))]; exact (kA_k (g := oAnn (mo_g m) cr ag (nI ma)) (show nK (mo_g m) < nK (mo_g m) + 1 by omega) (show nK (mo_g m) + 1 ≤ 24 by omega) (by decide)).trans (if_pos ⟨rfl, rfl⟩)) ?_
                  refine lv_iload hx hb dL_isStep_950 (lv_at hl 0 rfl) ?_
                  refine kb_icmp_ne (tgt := 959) hx hb dL_isStep_952 (by decide) (by omega) (by omega) (fun c952 => ?_) (fun c952 => ?_)
                  · exfalso; omega
                  · refine lv_iconst (v := nI 1) hx hb dL_isStep_955 (by decide) ?_
                    refine lv_goto (tgt := 960) hx hb dL_isStep_956 (by decide) ?_
                    have hPR : PR (M + 99) (moA m (opA (mo_g m) (nI cr) (nI ag) (nI ma)).1 (opA (mo_g m) (nI cr) (nI ag) (nI ma)).2) (moA (moTs (moC m2) (txK cr (2 * ag) ma)) (pfR (mo_tx (moTs (moC m2) (txK cr (2 * ag) ma))) (mo_n (moTs (moC m2) (txK cr (2 * ag) ma))) (mo_g (moTs (moC m2) (txK cr (2 * ag) ma)))) (pfG (mo_tx (moTs (moC m2) (txK cr (2 * ag) ma))) (mo_n (moTs (moC m2) (txK cr (2 * ag) ma))) (mo_g (moTs (moC m2) (txK cr (2 * ag) ma))))) := (by rw [hop, hpf.1, hpf.2]; exact PR_act2 (hR.tx ((moX_C m2).tr (moX_Ts _ _))) _ _ ⟨fun z => absurd z (nI_pos (by omega)), fun z => absurd z (nI_pos (by omega))⟩ (by omega) ((Iv_ann hI (by omega) (by omega) (by omega) hk24 i4 (by omega)).mono (by omega)))
                    exact kb_zret (D := D) (w := fun z : KBS × KBS => bW cI cC cS a z.1 ++ bW cI cC cS b z.2) hQ hx hb hr hlocks hK hP hD hS dL_isStep_960 rfl (u_947_1, u_926_1) rfl (Nat.le_refl _) (Nat.le_refl _) ⟨rfl, _, _, hin, hip, hPR⟩
        · have i1 : isIn (nI cr) 1 9 = true := isIn_i (nI_nlt (by omega) (by omega)) (nI_nlt (by omega) (by omega))
          have i2 : isIn (nI ag) 0 120 = true := isIn_i (nI_nlt (by omega) (by omega)) (nI_nlt (by omega) (by omega))
          have i3 : isIn (nI ma) 0 9999 = true := isIn_i (nI_nlt (by omega) (by omega)) (nI_nlt (by omega) (by omega))
          have i4 : ¬ nI ma < gc (mo_g m) 4 := by rw [hmn]; exact nI_nlt (by omega) (by omega)
          have hop : opA (mo_g m) (nI cr) (nI ag) (nI ma) = (-3, (mo_g m)) := opA_3 i1 i2 i3 i4 c825
          refine lv_aload_n hx hb dL_isStep_828 rfl (lv_at hl 5 rfl) ?_
          refine lv_iload hx hb dL_isStep_829 (lv_at hl 2 rfl) ?_
          refine lv_iload hx hb dL_isStep_831 (lv_at hl 1 rfl) ?_
          refine lv_iload hx hb dL_isStep_833 (lv_at hl 0 rfl) ?_
          refine kb_bIa (w := bW cI cC cS a) (As := [.int (nI cr), .int (nI ag), .int (nI ma)]) (rest := []) hx hb hml hts hown hN hK hP hD hS hA (b_announce l D cI cC cS a hin (nI cr) (nI ag) (nI ma)) gL_isStep_X4_announce rfl ⟨rfl, rfl⟩ hdX4_announce ⟨(Nat.le_of_ble_eq_true rfl), (Nat.le_of_ble_eq_true rfl)⟩ [0, 1, 2] rfl (ci := 4) rfl rfl rfl (fun _ => kb_blk _ _) rfl rfl hl.1 (Nat.le_of_ble_eq_true rfl) dL_isStep_835 ⟨(Nat.le_of_ble_eq_true rfl), (Nat.le_of_ble_eq_true rfl)⟩ (fun r u_835_1 H locs hw hP hD hS => ?_)
          obtain ⟨hr_835, hin⟩ := hw
          subst hr_835
          refine kb_top ((-3)) (congrArg Prod.fst hop) ?_
          refine lv_if_ge (tgt := 845) hx hb dL_isStep_838 (by decide) (fun c => absurd c (by decide)) (fun _ => ?_)
          refine lv_iconst (v := nI 1) hx hb dL_isStep_841 (by decide) ?_
          refine lv_goto (tgt := 846) hx hb dL_isStep_842 (by decide) ?_
          have hPR : PR (M + 99) (moA m (opA (mo_g m) (nI cr) (nI ag) (nI ma)).1 (opA (mo_g m) (nI cr) (nI ag) (nI ma)).2) m2 := (by rw [hop, moA_n (show (-3 : Int32) < nI 0 by decide)]; exact hR.mono (by omega))
          exact kb_zret (D := D) (w := fun z : KBS × KBS => bW cI cC cS a z.1 ++ bW cI cC cS b z.2) hQ hx hb hr hlocks hK hP hD hS dL_isStep_846 rfl (u_835_1, v) rfl (Nat.le_refl _) (Nat.le_refl _) ⟨rfl, _, _, hin, hip, hPR⟩
  rcases (by omega : j_15 = 0 ∨ j_15 = 1 ∨ j_15 = 2 ∨ j_15 = 3 ∨ j_15 = 4 ∨ j_15 = 5 ∨ j_15 = 6 ∨ j_15 = 7 ∨ j_15 = 8 ∨ j_15 = 9 ∨ j_15 = 10 ∨ j_15 = 11 ∨ j_15 = 12 ∨ j_15 = 13 ∨ j_15 = 14 ∨ j_15 = 15) with rfl | rfl | rfl | rfl | rfl | rfl | rfl | rfl | rfl | rfl | rfl | rfl | rfl | rfl | rfl | rfl
  · exact lv_tableIn (off := 58) (tgt := 76) hx hb dL_isStep_18 (by decide) (by decide) (by decide) (by decide) k_76
  · exact lv_tableIn (off := 58) (tgt := 76) hx hb dL_isStep_18 (by decide) (by decide) (by decide) (by decide) k_76
  · exact lv_tableIn (off := 242) (tgt := 260) hx hb dL_isStep_18 (by decide) (by decide) (by decide) (by decide) k_260
  · exact lv_tableIn (off := 376) (tgt := 394) hx hb dL_isStep_18 (by decide) (by decide) (by decide) (by decide) k_394
  · exact lv_tableIn (off := 532) (tgt := 550) hx hb dL_isStep_18 (by decide) (by decide) (by decide) (by decide) k_550
  · exact lv_tableIn (off := 558) (tgt := 576) hx hb dL_isStep_18 (by decide) (by decide) (by decide) (by decide) k_576
  · exact lv_tableIn (off := 602) (tgt := 620) hx hb dL_isStep_18 (by decide) (by decide) (by decide) (by decide) k_620
  · exact lv_tableIn (off := 602) (tgt := 620) hx hb dL_isStep_18 (by decide) (by decide) (by decide) (by decide) k_620
  · exact lv_tableIn (off := 602) (tgt := 620) hx hb dL_isStep_18 (by decide) (by decide) (by decide) (by decide) k_620
  · exact lv_tableIn (off := 602) (tgt := 620) hx hb dL_isStep_18 (by decide) (by decide) (by decide) (by decide) k_620
  · exact lv_tableIn (off := 602) (tgt := 620) hx hb dL_isStep_18 (by decide) (by decide) (by decide) (by decide) k_620
  · exact lv_tableOut (tgt := 765) hx hb dL_isStep_18 (by decide) (by decide) k_765
  · exact lv_tableOut (tgt := 765) hx hb dL_isStep_18 (by decide) (by decide) k_765
  · exact lv_tableOut (tgt := 765) hx hb dL_isStep_18 (by decide) (by decide) k_765
  · exact lv_tableOut (tgt := 765) hx hb dL_isStep_18 (by decide) (by decide) k_765
  · exact lv_tableOut (tgt := 765) hx hb dL_isStep_18 (by decide) (by decide) k_765
