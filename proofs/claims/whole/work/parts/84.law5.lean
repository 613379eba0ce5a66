set_option maxHeartbeats 4000000 in
set_option maxRecDepth 100000 in
theorem lw_c_king {p : Program} {l : Launch} {e : Env} {s : State} {m : MethodId} {below : List Frame} {meth : Method} {c : Code} {b L : Nat} {xs : Nat → Int32} {D : va_G} {A : Nat → Prop} {cI cC cS : ClassId} {a w5 : Nat → Nat} {i : Nat} {Q : State → Prop} (C0 : lw_At p s m meth c b L xs) (hA : ∀ q : Nat, s.heap.size ≤ q → A q) (hbA : ¬ A b) (hN : kb_N s) (hK : va_K D vwCl [(cI, .int), (cC, .char), (cS, .object RX3)] s) (hi : i + 4 ≤ L) (hL : L ≤ 2048) {H : Heap} {locs : List Loc} (hw : lwP D A cI cC cS a w5 H) (hS : va_S A s.heap H locs) {ls : Array Slot} (hl : lv_has ls 4 [(0, .ref b), (1, .ref (a 0)), (2, .ref (w5 0)), (3, .int (nI i))]) (K : lwK p l e s m below meth c b D A cI cC cS a w5 i Q) : W p l e room_1 s m #[Value.ref b] below meth c H locs 600000 7302250 Q (F0 m 402 ls []) := by
  obtain ⟨hx, hb, hr, hml, hown, hts0, hX, hbl, hlocks, hgv⟩ := id C0
  have hb : c.code = cL_law := hb
  have hown : s.vm.findClass RL = some m.cls := hown
  have hts : ∀ w ∈ wsL_law, w.before #[Value.ref b] s = true := fun w h => hts0 w (wsL_law_in w h)
  obtain ⟨kp, sT, sE, f, g, fd, gd, fs, gs, f0, g0, f1, g1, f2, g2, f3, g3, nx, hn, h, n, pl, kd, cr, ag, nu, t, tx, v5, k5, t5, m5, s5, l5, x5, iK, sP, nU, iS, sN, sR, lE, fI, sC, hin, hP, hD⟩ := hw
  obtain ⟨hs, hsS, hh, htx, hv, hm, htm, hik, hsn, hst⟩ := id hin
  refine lv_aload_n hx hb dL_law_402 rfl (lv_at hl 1 rfl) ?_
  refine lv_aload_n hx hb dL_law_403 rfl (lv_at hl 0 rfl) ?_
  refine lv_iload_n hx hb dL_law_404 rfl (lv_at hl 3 rfl) ?_
  refine lv_iconst (v := nI 1) hx hb dL_law_405 (by decide) ?_
  refine lv_iadd hx hb dL_law_406 ?_
  refine kb_top (nI (i + 1)) (nI_add i 1) ?_
  refine va_sld hx hb hX hbl hbA hS (vp_in_nI (by omega) (by omega)) dL_law_407 ?_
  refine kb_top (xs (i + 1)) (congrArg xs (nI_clamp (by omega))) ?_
  refine lv_aload_n hx hb dL_law_408 rfl (lv_at hl 0 rfl) ?_
  refine lv_iload_n hx hb dL_law_409 rfl (lv_at hl 3 rfl) ?_
  refine lv_iconst (v := nI 2) hx hb dL_law_410 (by decide) ?_
  refine lv_iadd hx hb dL_law_411 ?_
  refine kb_top (nI (i + 2)) (nI_add i 2) ?_
  refine va_sld hx hb hX hbl hbA hS (vp_in_nI (by omega) (by omega)) dL_law_412 ?_
  refine kb_top (xs (i + 2)) (congrArg xs (nI_clamp (by omega))) ?_
  refine kb_vR (As := [.int (xs (i + 1)), .int (xs (i + 2))]) (rest := []) hx hb hml hts hown hN hK hP hD hS hA (c_X4_king l D cI a kp sT sE f g (xs (i + 1)) (xs (i + 2)) hs) gL_law_X4_king rfl ⟨rfl, rfl⟩ hdX4_king ⟨Nat.le_of_ble_eq_true rfl, Nat.le_of_ble_eq_true rfl⟩ [0, 1, 2, 3, 4, 5, 6, 7, 8] [0] rfl rfl rfl (ci := 4) rfl rfl rfl rfl rfl hl.1 (Nat.le_of_ble_eq_true rfl) dL_law_413 ⟨Nat.le_of_ble_eq_true rfl, Nat.le_of_ble_eq_true rfl⟩ (fun H locs hP hS => ?_)
  refine lv_aload_n hx hb dL_law_416 rfl (lv_at hl 2 rfl) ?_
  refine lv_aload_n hx hb dL_law_417 rfl (lv_at hl 0 rfl) ?_
  refine lv_iload_n hx hb dL_law_418 rfl (lv_at hl 3 rfl) ?_
  refine lv_iconst (v := nI 1) hx hb dL_law_419 (by decide) ?_
  refine lv_iadd hx hb dL_law_420 ?_
  refine kb_top (nI (i + 1)) (nI_add i 1) ?_
  refine va_sld hx hb hX hbl hbA hS (vp_in_nI (by omega) (by omega)) dL_law_421 ?_
  refine kb_top (xs (i + 1)) (congrArg xs (nI_clamp (by omega))) ?_
  refine lv_aload_n hx hb dL_law_422 rfl (lv_at hl 0 rfl) ?_
  refine lv_iload_n hx hb dL_law_423 rfl (lv_at hl 3 rfl) ?_
  refine lv_iconst (v := nI 2) hx hb dL_law_424 (by decide) ?_
  refine lv_iadd hx hb dL_law_425 ?_
  refine kb_top (nI (i + 2)) (nI_add i 2) ?_
  refine va_sld hx hb hX hbl hbA hS (vp_in_nI (by omega) (by omega)) dL_law_426 ?_
  refine kb_top (xs (i + 2)) (congrArg xs (nI_clamp (by omega))) ?_
  refine kb_vR (As := [.int (xs (i + 1)), .int (xs (i + 2))]) (rest := [.int (kA g (xs (i + 1)) (xs (i + 2)))]) hx hb hml hts hown hN hK hP hD hS hA (c_X5_king l D cI w5 hn iK n sP nU iS sN sR lE fI sC v5 g hv hs.2 (xs (i + 1)) (xs (i + 2))) gL_law_X5_king rfl ⟨rfl, rfl⟩ hdX5_king ⟨Nat.le_of_ble_eq_true rfl, Nat.le_of_ble_eq_true rfl⟩ [61, 62] [0] rfl rfl rfl (ci := 5) rfl rfl rfl rfl rfl hl.1 (Nat.le_of_ble_eq_true rfl) dL_law_427 ⟨Nat.le_of_ble_eq_true rfl, Nat.le_of_ble_eq_true rfl⟩ (fun H locs hP hS => ?_)
  refine lv_icmp_eq (tgt := 668) hx hb dL_law_430 (by decide) (fun c430 => ?_) (fun c430 => ?_)
  · exact K H locs ⟨kp, sT, sE, f, g, fd, gd, fs, gs, f0, g0, f1, g1, f2, g2, f3, g3, nx, hn, h, n, pl, kd, cr, ag, nu, t, tx, v5, k5, t5, m5, s5, l5, x5, iK, sP, nU, iS, sN, sR, lE, fI, sC, hin, hP, hD⟩ hS _ hl
  · exfalso; exact c430 (rfl)
set_option maxHeartbeats 4000000 in
set_option maxRecDepth 100000 in
theorem lw_c_seat {p : Program} {l : Launch} {e : Env} {s : State} {m : MethodId} {below : List Frame} {meth : Method} {c : Code} {b L : Nat} {xs : Nat → Int32} {D : va_G} {A : Nat → Prop} {cI cC cS : ClassId} {a w5 : Nat → Nat} {i : Nat} {Q : State → Prop} (C0 : lw_At p s m meth c b L xs) (hA : ∀ q : Nat, s.heap.size ≤ q → A q) (hbA : ¬ A b) (hN : kb_N s) (hK : va_K D vwCl [(cI, .int), (cC, .char), (cS, .object RX3)] s) (hi : i + 4 ≤ L) (hL : L ≤ 2048) {H : Heap} {locs : List Loc} (hw : lwP D A cI cC cS a w5 H) (hS : va_S A s.heap H locs) {ls : Array Slot} (hl : lv_has ls 4 [(0, .ref b), (1, .ref (a 0)), (2, .ref (w5 0)), (3, .int (nI i))]) (K : lwK p l e s m below meth c b D A cI cC cS a w5 i Q) : W p l e room_1 s m #[Value.ref b] below meth c H locs 600000 7302250 Q (F0 m 435 ls []) := by
  obtain ⟨hx, hb, hr, hml, hown, hts0, hX, hbl, hlocks, hgv⟩ := id C0
  have hb : c.code = cL_law := hb
  have hown : s.vm.findClass RL = some m.cls := hown
  have hts : ∀ w ∈ wsL_law, w.before #[Value.ref b] s = true := fun w h => hts0 w (wsL_law_in w h)
  obtain ⟨kp, sT, sE, f, g, fd, gd, fs, gs, f0, g0, f1, g1, f2, g2, f3, g3, nx, hn, h, n, pl, kd, cr, ag, nu, t, tx, v5, k5, t5, m5, s5, l5, x5, iK, sP, nU, iS, sN, sR, lE, fI, sC, hin, hP, hD⟩ := hw
  obtain ⟨hs, hsS, hh, htx, hv, hm, htm, hik, hsn, hst⟩ := id hin
  refine lv_aload_n hx hb dL_law_435 rfl (lv_at hl 1 rfl) ?_
  refine lv_aload_n hx hb dL_law_436 rfl (lv_at hl 0 rfl) ?_
  refine lv_iload_n hx hb dL_law_437 rfl (lv_at hl 3 rfl) ?_
  refine lv_iconst (v := nI 1) hx hb dL_law_438 (by decide) ?_
  refine lv_iadd hx hb dL_law_439 ?_
  refine kb_top (nI (i + 1)) (nI_add i 1) ?_
  refine va_sld hx hb hX hbl hbA hS (vp_in_nI (by omega) (by omega)) dL_law_440 ?_
  refine kb_top (xs (i + 1)) (congrArg xs (nI_clamp (by omega))) ?_
  refine kb_vR (As := [.int (xs (i + 1))]) (rest := []) hx hb hml hts hown hN hK hP hD hS hA (c_X4_seat l D cI a kp sT sE f g (xs (i + 1)) hs) gL_law_X4_seat rfl ⟨rfl, rfl⟩ hdX4_seat ⟨Nat.le_of_ble_eq_true rfl, Nat.le_of_ble_eq_true rfl⟩ [0, 1, 2, 3, 4, 5, 6, 7, 8] [0] rfl rfl rfl (ci := 4) rfl rfl rfl rfl rfl hl.1 (Nat.le_of_ble_eq_true rfl) dL_law_441 ⟨Nat.le_of_ble_eq_true rfl, Nat.le_of_ble_eq_true rfl⟩ (fun H locs hP hS => ?_)
  refine lv_aload_n hx hb dL_law_444 rfl (lv_at hl 2 rfl) ?_
  refine lv_aload_n hx hb dL_law_445 rfl (lv_at hl 0 rfl) ?_
  refine lv_iload_n hx hb dL_law_446 rfl (lv_at hl 3 rfl) ?_
  refine lv_iconst (v := nI 1) hx hb dL_law_447 (by decide) ?_
  refine lv_iadd hx hb dL_law_448 ?_
  refine kb_top (nI (i + 1)) (nI_add i 1) ?_
  refine va_sld hx hb hX hbl hbA hS (vp_in_nI (by omega) (by omega)) dL_law_449 ?_
  refine kb_top (xs (i + 1)) (congrArg xs (nI_clamp (by omega))) ?_
  refine kb_vR (As := [.int (xs (i + 1))]) (rest := [.int (seA g (xs (i + 1)))]) hx hb hml hts hown hN hK hP hD hS hA (c_X5_seat l D cI w5 hn iK n sP nU iS sN sR lE fI sC v5 g hv hs.2 (xs (i + 1))) gL_law_X5_seat rfl ⟨rfl, rfl⟩ hdX5_seat ⟨Nat.le_of_ble_eq_true rfl, Nat.le_of_ble_eq_true rfl⟩ [61, 62] [0] rfl rfl rfl (ci := 5) rfl rfl rfl rfl rfl hl.1 (Nat.le_of_ble_eq_true rfl) dL_law_450 ⟨Nat.le_of_ble_eq_true rfl, Nat.le_of_ble_eq_true rfl⟩ (fun H locs hP hS => ?_)
  refine lv_icmp_eq (tgt := 668) hx hb dL_law_453 (by decide) (fun c453 => ?_) (fun c453 => ?_)
  · exact K H locs ⟨kp, sT, sE, f, g, fd, gd, fs, gs, f0, g0, f1, g1, f2, g2, f3, g3, nx, hn, h, n, pl, kd, cr, ag, nu, t, tx, v5, k5, t5, m5, s5, l5, x5, iK, sP, nU, iS, sN, sR, lE, fI, sC, hin, hP, hD⟩ hS _ hl
  · exfalso; exact c453 (rfl)
set_option maxHeartbeats 4000000 in
set_option maxRecDepth 100000 in
theorem lw_c_waits {p : Program} {l : Launch} {e : Env} {s : State} {m : MethodId} {below : List Frame} {meth : Method} {c : Code} {b L : Nat} {xs : Nat → Int32} {D : va_G} {A : Nat → Prop} {cI cC cS : ClassId} {a w5 : Nat → Nat} {i : Nat} {Q : State → Prop} (C0 : lw_At p s m meth c b L xs) (hA : ∀ q : Nat, s.heap.size ≤ q → A q) (hbA : ¬ A b) (hN : kb_N s) (hK : va_K D vwCl [(cI, .int), (cC, .char), (cS, .object RX3)] s) (hi : i + 4 ≤ L) (hL : L ≤ 2048) {H : Heap} {locs : List Loc} (hw : lwP D A cI cC cS a w5 H) (hS : va_S A s.heap H locs) {ls : Array Slot} (hl : lv_has ls 4 [(0, .ref b), (1, .ref (a 0)), (2, .ref (w5 0)), (3, .int (nI i))]) (K : lwK p l e s m below meth c b D A cI cC cS a w5 i Q) : W p l e room_1 s m #[Value.ref b] below meth c H locs 600000 7302250 Q (F0 m 458 ls []) := by
  obtain ⟨hx, hb, hr, hml, hown, hts0, hX, hbl, hlocks, hgv⟩ := id C0
  have hb : c.code = cL_law := hb
  have hown : s.vm.findClass RL = some m.cls := hown
  have hts : ∀ w ∈ wsL_law, w.before #[Value.ref b] s = true := fun w h => hts0 w (wsL_law_in w h)
  obtain ⟨kp, sT, sE, f, g, fd, gd, fs, gs, f0, g0, f1, g1, f2, g2, f3, g3, nx, hn, h, n, pl, kd, cr, ag, nu, t, tx, v5, k5, t5, m5, s5, l5, x5, iK, sP, nU, iS, sN, sR, lE, fI, sC, hin, hP, hD⟩ := hw
  obtain ⟨hs, hsS, hh, htx, hv, hm, htm, hik, hsn, hst⟩ := id hin
  refine lv_aload_n hx hb dL_law_458 rfl (lv_at hl 1 rfl) ?_
  refine lv_aload_n hx hb dL_law_459 rfl (lv_at hl 0 rfl) ?_
  refine lv_iload_n hx hb dL_law_460 rfl (lv_at hl 3 rfl) ?_
  refine lv_iconst (v := nI 1) hx hb dL_law_461 (by decide) ?_
  refine lv_iadd hx hb dL_law_462 ?_
  refine kb_top (nI (i + 1)) (nI_add i 1) ?_
  refine va_sld hx hb hX hbl hbA hS (vp_in_nI (by omega) (by omega)) dL_law_463 ?_
  refine kb_top (xs (i + 1)) (congrArg xs (nI_clamp (by omega))) ?_
  refine kb_vR (As := [.int (xs (i + 1))]) (rest := []) hx hb hml hts hown hN hK hP hD hS hA (c_X4_waits l D cI a kp sT sE f g (xs (i + 1)) hs) gL_law_X4_waits rfl ⟨rfl, rfl⟩ hdX4_waits ⟨Nat.le_of_ble_eq_true rfl, Nat.le_of_ble_eq_true rfl⟩ [0, 1, 2, 3, 4, 5, 6, 7, 8] [0] rfl rfl rfl (ci := 4) rfl rfl rfl rfl rfl hl.1 (Nat.le_of_ble_eq_true rfl) dL_law_464 ⟨Nat.le_of_ble_eq_true rfl, Nat.le_of_ble_eq_true rfl⟩ (fun H locs hP hS => ?_)
  refine lv_aload_n hx hb dL_law_467 rfl (lv_at hl 2 rfl) ?_
  refine lv_aload_n hx hb dL_law_468 rfl (lv_at hl 0 rfl) ?_
  refine lv_iload_n hx hb dL_law_469 rfl (lv_at hl 3 rfl) ?_
  refine lv_iconst (v := nI 1) hx hb dL_law_470 (by decide) ?_
  refine lv_iadd hx hb dL_law_471 ?_
  refine kb_top (nI (i + 1)) (nI_add i 1) ?_
  refine va_sld hx hb hX hbl hbA hS (vp_in_nI (by omega) (by omega)) dL_law_472 ?_
  refine kb_top (xs (i + 1)) (congrArg xs (nI_clamp (by omega))) ?_
  refine kb_vR (As := [.int (xs (i + 1))]) (rest := [.int (waA g (xs (i + 1)))]) hx hb hml hts hown hN hK hP hD hS hA (c_X5_waits l D cI w5 hn iK n sP nU iS sN sR lE fI sC v5 g hv hs.2 (xs (i + 1))) gL_law_X5_waits rfl ⟨rfl, rfl⟩ hdX5_waits ⟨Nat.le_of_ble_eq_true rfl, Nat.le_of_ble_eq_true rfl⟩ [61, 62] [0] rfl rfl rfl (ci := 5) rfl rfl rfl rfl rfl hl.1 (Nat.le_of_ble_eq_true rfl) dL_law_473 ⟨Nat.le_of_ble_eq_true rfl, Nat.le_of_ble_eq_true rfl⟩ (fun H locs hP hS => ?_)
  refine lv_icmp_eq (tgt := 668) hx hb dL_law_476 (by decide) (fun c476 => ?_) (fun c476 => ?_)
  · exact K H locs ⟨kp, sT, sE, f, g, fd, gd, fs, gs, f0, g0, f1, g1, f2, g2, f3, g3, nx, hn, h, n, pl, kd, cr, ag, nu, t, tx, v5, k5, t5, m5, s5, l5, x5, iK, sP, nU, iS, sN, sR, lE, fI, sC, hin, hP, hD⟩ hS _ hl
  · exfalso; exact c476 (rfl)
