set_option maxHeartbeats 4000000 in
set_option maxRecDepth 100000 in
theorem lc_14 {p : Program} {l : Launch} {e : Env} {s : State} {m : MethodId} {below : List Frame} {meth : Method} {c : Code} {Q : State → Prop} {b L : Nat} {xs : Nat → Int32} {dC : Nat → ClassId} {dI : Nat → Nat → Nat} {dA : Nat → ClassId} {k : Nat → Nat} (hst : l.stackTraces = false) (F : kF p s m meth c b L xs dC dI dA k)
    {q : Nat → Nat} {m0 : Nat} {r : Nat → Nat → Nat} {o : Nat} {σ : Nat → Nat → Int} {th : Int} {H : Heap} {locs : List Loc} {cs ss : Nat} {i : Int} {ls : Array Slot} (hI : LI dC dI dA k q m0 r o σ th H) (hS : va_S (kN0 k) s.heap H locs) (hi : 0 ≤ i ∧ i + 5 ≤ (L : Int)) (hcs : cs + 600 ≤ 707594) (hss : ss + 4000 ≤ 6979453) (h80 : 0 ≤ σ 8 0 ∧ σ 8 0 ≤ 100000) (hl : lv_has ls 7 [(4, .int (iZ i)), (3, .ref o), (2, .ref m0), (1, .ref (q 0)), (0, .ref b)])
    (kk : ∀ (r' : Nat → Nat → Nat) (σ' : Nat → Nat → Int) (th' : Int) (H' : Heap) (locs' : List Loc) (ls' : Array Slot), LI dC dI dA k q m0 r' o σ' th' H' → va_S (kN0 k) s.heap H' locs' → σ 8 0 ≤ σ' 8 0 ∧ σ' 8 0 ≤ σ 8 0 + 1 → lv_has ls' 7 [(4, .int (iZ i)), (3, .ref o), (2, .ref m0), (1, .ref (q 0)), (0, .ref b)] → W p l e room_1 s m #[Value.ref b] below meth c H' locs' (cs + 600) (ss + 4000) Q (F0 m 4485 ls' [])) :
    W p l e room_1 s m #[Value.ref b] below meth c H locs cs ss Q (F0 m 43 ls [.int (iZ 14)]) := by
  obtain ⟨hx, hb, hr9, hml, hown, hts, hX, hbl, hL5, hMJ, hL, hk0, hlocks⟩ := F
  obtain ⟨hG, hOK, hq, hY, hr, hO0, hko, ho9, h1, h2⟩ := id hI
  obtain ⟨sn, sv, -, hO⟩ := id hO0
  have hM := hMJ.1
  have hbA : ¬ kN0 k b := fun z => absurd (show k 0 ≤ b from z) (by omega)
  have hN : ∀ a, kN0 k a → k 0 ≤ a := fun _ h => h
  have hkH : k 0 ≤ H.size := by have := hS.1; omega
  refine lv_tableIn (tgt := 1438) (off := 1395) hx hb dL_law_43 (by rw [iZ_toInt (z := 14) (by omega)]; omega) (by rw [iZ_toInt (z := 14) (by omega)]; omega) (by rw [iZ_toInt (z := 14) (by omega)]; rfl) (by decide) ?_
  refine lv_aload_n hx hb dL_law_1438 rfl (lv_at hl 3 rfl) ?_
  refine lv_aload_n hx hb dL_law_1439 rfl (lv_at hl 4 rfl) ?_
  refine lv_iload hx hb dL_law_1440 (lv_at hl 0 rfl) ?_
  refine lv_iconst (v := iZ 1) hx hb dL_law_1442 rfl ?_
  refine kz_iadd hx hb dL_law_1443 ?_
  refine kz_sld hx hb hX hbl hbA hS (by omega) hL5 dL_law_1444 ?_
  refine lv_aload_n hx hb dL_law_1445 rfl (lv_at hl 4 rfl) ?_
  refine lv_iload hx hb dL_law_1446 (lv_at hl 0 rfl) ?_
  refine lv_iconst (v := iZ 2) hx hb dL_law_1448 rfl ?_
  refine kz_iadd hx hb dL_law_1449 ?_
  refine kz_sld hx hb hX hbl hbA hS (by omega) hL5 dL_law_1450 ?_
  refine lv_aload_n hx hb dL_law_1451 rfl (lv_at hl 4 rfl) ?_
  refine lv_iload hx hb dL_law_1452 (lv_at hl 0 rfl) ?_
  refine lv_iconst (v := iZ 3) hx hb dL_law_1454 rfl ?_
  refine kz_iadd hx hb dL_law_1455 ?_
  refine kz_sld hx hb hX hbl hbA hS (by omega) hL5 dL_law_1456 ?_
  refine kz_b2i hx hb (fx_rng _ _) dL_law_1457 dL_law_1460 dL_law_1461 dL_law_1464 ?_
  refine lv_aload_n hx hb dL_law_1465 rfl (lv_at hl 1 rfl) ?_
  refine kc2 (vx_runSW (As := [.ref (q 0), .int (iZ (fx xs (i + 1))), .int (iZ (fx xs (i + 2))), .int (iZ (bZ (!decide (fx xs (i + 3) = 0)))), .ref o]) (rest := []) ⟨hx, hb, hml, hown, hts⟩ (c_L_later l hst dC dI dA k q σ _ hG hOK hq o sn sv hO hko ho9 ((fx xs (i + 1))) ((fx xs (i + 2))) (!decide (fx xs (i + 3) = 0)) (fx_rng _ _) (fx_rng _ _)) (vx_cwSW 5 hts (kg_S mw741 mw742 mw41 rfl mw743) rfl rfl rfl hdS_L_later ⟨Nat.le_of_ble_eq_true rfl, Nat.le_of_ble_eq_true rfl⟩) ⟨fun a U g mk q => ⟨q.1, q.2.1, kMJ_call q.2.2.1, kL_call q.2.2.2⟩, fun U hU hW => ⟨rfl, hU, kMJ_kept hMJ hS hN hU hW, kL_warm hL hW⟩⟩ rfl rfl hl.1 rfl (lv_room (Nat.le_of_ble_eq_true rfl)) dL_law_1466 ⟨kroomC (by omega), kroomS (by omega)⟩) hS (fun a _ h => kAO_N hq hko hkH a h) (fun a h => kAO_N hq hko hkH a h) (fun H1 locs hC hy9 hk9 hS => ?_)
  obtain ⟨hG1, hO1⟩ := hC
  have hY1 := kY_keptO hY hk9 h1 h2
  have h8 : kOK8 σ (if ex2 (!inb (fx xs (i + 1)) 0 3) (false) = 0 then (putYs σ ((fx xs (i + 1)).toNat) (σ 2 ((fx xs (i + 1)).toNat) + sgn (fx xs (i + 2)) (!decide (fx xs (i + 3) = 0)))) else σ) := k8_if hOK (fun h9 => k8m_later hOK ((fx xs (i + 1))) ((fx xs (i + 2))) (!decide (fx xs (i + 3) = 0)) h9)
  have hkH1 : k 0 ≤ H1.size := Nat.le_trans hkH hy9
  clear hk9
  refine lv_istore (lv' := [(5, .int (iZ (ex2 (!inb (fx xs (i + 1)) 0 3) (false)))), (4, .int (iZ i)), (3, .ref o), (2, .ref m0), (1, .ref (q 0)), (0, .ref b)]) hx hb dL_law_1469 hl (by decide) rfl (fun ls hl => ?_)
  refine lv_aload_n hx hb dL_law_1471 rfl (lv_at hl 3 rfl) ?_
  refine lv_aload_n hx hb dL_law_1472 rfl (lv_at hl 5 rfl) ?_
  refine lv_iload hx hb dL_law_1473 (lv_at hl 1 rfl) ?_
  refine lv_iconst (v := iZ 1) hx hb dL_law_1475 rfl ?_
  refine kz_iadd hx hb dL_law_1476 ?_
  refine kz_sld hx hb hX hbl hbA hS (by omega) hL5 dL_law_1477 ?_
  refine lv_aload_n hx hb dL_law_1478 rfl (lv_at hl 5 rfl) ?_
  refine lv_iload hx hb dL_law_1479 (lv_at hl 1 rfl) ?_
  refine lv_iconst (v := iZ 2) hx hb dL_law_1481 rfl ?_
  refine kz_iadd hx hb dL_law_1482 ?_
  refine kz_sld hx hb hX hbl hbA hS (by omega) hL5 dL_law_1483 ?_
  refine lv_aload_n hx hb dL_law_1484 rfl (lv_at hl 5 rfl) ?_
  refine lv_iload hx hb dL_law_1485 (lv_at hl 1 rfl) ?_
  refine lv_iconst (v := iZ 3) hx hb dL_law_1487 rfl ?_
  refine kz_iadd hx hb dL_law_1488 ?_
  refine kz_sld hx hb hX hbl hbA hS (by omega) hL5 dL_law_1489 ?_
  refine kz_b2i hx hb (fx_rng _ _) dL_law_1490 dL_law_1493 dL_law_1494 dL_law_1497 ?_
  refine kc2 (va_runV (As := [.int (iZ (fx xs (i + 1))), .int (iZ (fx xs (i + 2))), .int (iZ (bZ (!decide (fx xs (i + 3) = 0))))]) (rest := []) ⟨hx, hb, hml, hown, hts⟩ (c_X3_later l dC dI dA k m0 r σ th _ hY1 hr hOK ((fx xs (i + 1))) ((fx xs (i + 2))) (!decide (fx xs (i + 3) = 0)) (fx_rng _ _) (fx_rng _ _)) (cwV 3 hts (kg_V mw1154 mw1155 mw1156 mw47 rfl mw1157) rfl rfl rfl hdV_X3_later ⟨Nat.le_of_ble_eq_true rfl, Nat.le_of_ble_eq_true rfl⟩) ⟨fun a U g mk q => ⟨q.1, q.2.1, kM_call q.2.2⟩, va_recv hM.1 hY1 (ci := 6) (q0 := 0) rfl rfl, fun U hU hW => ⟨rfl, hU, kM_kept hM hS hN hU hW⟩⟩ rfl rfl hl.1 rfl (lv_room (Nat.le_of_ble_eq_true rfl)) dL_law_1498 ⟨kroomC (by omega), kroomS (by omega)⟩) hS (fun a _ h => kAy_N hr hkH1 a h) (fun a h => kAy_N hr hkH1 a h) (fun H2 locs hC2 hy8 hk8 hS => ?_)
  obtain ⟨r2, hI2, hO2⟩ := LI_step hI hG1 hO1 hC2 hk8 h8
  refine lv_istore (lv' := [(6, .int (iZ (if ex2 (!inb (fx xs (i + 1)) 0 3) (false) = 0 then (putYr (σ 2 ((fx xs (i + 1)).toNat) + sgn (fx xs (i + 2)) (!decide (fx xs (i + 3) = 0)))) else 0))), (5, .int (iZ (ex2 (!inb (fx xs (i + 1)) 0 3) (false)))), (4, .int (iZ i)), (3, .ref o), (2, .ref m0), (1, .ref (q 0)), (0, .ref b)]) hx hb dL_law_1501 hl (by decide) rfl (fun ls hl => ?_)
  refine lv_aload_n hx hb dL_law_1503 rfl (lv_at hl 4 rfl) ?_
  obtain ⟨hG2, hOK2, hq2, hY2, hr2, -⟩ := id hI2
  refine kc0 (fun _ q => q) (va_runV (As := []) (rest := []) ⟨hx, hb, hml, hown, hts⟩ (c_X3_thrown l dC dI dA k m0 r2 _ _ _ hY2 hr2 hOK2) (cwV 0 hts (kg_V mw1013 mw1014 mw1015 mw47 rfl mw1016) rfl rfl rfl hdV_X3_thrown ⟨Nat.le_of_ble_eq_true rfl, Nat.le_of_ble_eq_true rfl⟩) ⟨fun a U g mk q => ⟨q.1, q.2.1, kM_call q.2.2⟩, va_recv hM.1 hY2 (ci := 6) (q0 := 0) rfl rfl, fun U hU hW => ⟨rfl, hU, kM_kept hM hS hN hU hW⟩⟩ rfl rfl hl.1 rfl (lv_room (Nat.le_of_ble_eq_true rfl)) dL_law_1504 ⟨kroomC (by omega), kroomS (by omega)⟩) ?_
  refine lv_iload hx hb dL_law_1507 (lv_at hl 1 rfl) ?_
  refine kz_icmp_eq (tgt := 1514) hx hb (ex2_rng _ _) (ex2_rng _ _) dL_law_1509 (by decide) (fun c_1 => ?_) (fun c_1 => absurd rfl c_1)
  refine lv_iload hx hb dL_law_1514 (lv_at hl 1 rfl) ?_
  refine kz_if_ne (tgt := 1532) hx hb (ex2_rng _ _) dL_law_1516 (by decide) (fun c_2 => ?_) (fun c_2 => ?_)
  · refine lv_goto (tgt := 4485) hx hb dL_law_1532 (by decide) ?_
    refine W.widen (k := cs + 600) (n := ss + 4000) (by omega) (by omega) ?_
    exact kk r2 _ _ _ _ _ hI2 hS (by have h9 := h8.2; omega) (lv_sub hl [2, 3, 4, 5, 6] rfl)
  · refine lv_aload_n hx hb dL_law_1519 rfl (lv_at hl 3 rfl) ?_
    obtain ⟨nv, vv, hn, hPn⟩ := hO2
    have hn := hn c_2
    subst hn
    refine va_getN (D := (dC, dI)) (ci := 5) (v := .long (lZ (w32 (putYr (σ 2 ((fx xs (i + 1)).toNat) + sgn (fx xs (i + 2)) (!decide (fx xs (i + 3) = 0))))))) (C := RX2) (T := TX2) (N := 2) hx hb hts (fun w h => List.mem_cons_of_mem _ (gF_1_in h)) hown hM.1 hPn 0 rfl rfl 0 (by decide) (va_Nw.use rfl hL.1) (fun _ h9 => h9) rfl dL_law_1520 ?_
    refine lv_iload hx hb dL_law_1523 (lv_at hl 0 rfl) ?_
    refine kz_w32 ?_
    refine kz_i2l hx hb (w32_rng _) dL_law_1525 ?_
    refine kz_lcmp_eq (tgt := 1532) hx hb (by first | exact w32_lrng _ | exact bZ_lrng _) (by first | exact w32_lrng _ | exact bZ_lrng _) dL_law_1526 dL_law_1527 (by decide) (fun c_3 => ?_) (fun c_3 => absurd (by first | rw [if_pos c_2] | exact congrArg bZ (by rw [decide_eq_true c_2, Bool.true_and]) | (rw [decide_eq_true c_2]; rfl) | (simp [c_2]; done)) c_3)
    refine lv_goto (tgt := 4485) hx hb dL_law_1532 (by decide) ?_
    refine W.widen (k := cs + 600) (n := ss + 4000) (by omega) (by omega) ?_
    exact kk r2 _ _ _ _ _ hI2 hS (by have h9 := h8.2; omega) (lv_sub hl [2, 3, 4, 5, 6] rfl)

set_option maxHeartbeats 4000000 in
set_option maxRecDepth 100000 in
theorem lc_15 {p : Program} {l : Launch} {e : Env} {s : State} {m : MethodId} {below : List Frame} {meth : Method} {c : Code} {Q : State → Prop} {b L : Nat} {xs : Nat → Int32} {dC : Nat → ClassId} {dI : Nat → Nat → Nat} {dA : Nat → ClassId} {k : Nat → Nat} (hst : l.stackTraces = false) (F : kF p s m meth c b L xs dC dI dA k)
    {q : Nat → Nat} {m0 : Nat} {r : Nat → Nat → Nat} {o : Nat} {σ : Nat → Nat → Int} {th : Int} {H : Heap} {locs : List Loc} {cs ss : Nat} {i : Int} {ls : Array Slot} (hI : LI dC dI dA k q m0 r o σ th H) (hS : va_S (kN0 k) s.heap H locs) (hi : 0 ≤ i ∧ i + 5 ≤ (L : Int)) (hcs : cs + 600 ≤ 707594) (hss : ss + 4000 ≤ 6979453) (h80 : 0 ≤ σ 8 0 ∧ σ 8 0 ≤ 100000) (hl : lv_has ls 7 [(4, .int (iZ i)), (3, .ref o), (2, .ref m0), (1, .ref (q 0)), (0, .ref b)])
    (kk : ∀ (r' : Nat → Nat → Nat) (σ' : Nat → Nat → Int) (th' : Int) (H' : Heap) (locs' : List Loc) (ls' : Array Slot), LI dC dI dA k q m0 r' o σ' th' H' → va_S (kN0 k) s.heap H' locs' → σ 8 0 ≤ σ' 8 0 ∧ σ' 8 0 ≤ σ 8 0 + 1 → lv_has ls' 7 [(4, .int (iZ i)), (3, .ref o), (2, .ref m0), (1, .ref (q 0)), (0, .ref b)] → W p l e room_1 s m #[Value.ref b] below meth c H' locs' (cs + 600) (ss + 4000) Q (F0 m 4485 ls' [])) :
    W p l e room_1 s m #[Value.ref b] below meth c H locs cs ss Q (F0 m 43 ls [.int (iZ 15)]) := by
  obtain ⟨hx, hb, hr9, hml, hown, hts, hX, hbl, hL5, hMJ, hL, hk0, hlocks⟩ := F
  obtain ⟨hG, hOK, hq, hY, hr, hO0, hko, ho9, h1, h2⟩ := id hI
  obtain ⟨sn, sv, -, hO⟩ := id hO0
  have hM := hMJ.1
  have hbA : ¬ kN0 k b := fun z => absurd (show k 0 ≤ b from z) (by omega)
  have hN : ∀ a, kN0 k a → k 0 ≤ a := fun _ h => h
  have hkH : k 0 ≤ H.size := by have := hS.1; omega
  refine lv_tableIn (tgt := 1535) (off := 1492) hx hb dL_law_43 (by rw [iZ_toInt (z := 15) (by omega)]; omega) (by rw [iZ_toInt (z := 15) (by omega)]; omega) (by rw [iZ_toInt (z := 15) (by omega)]; rfl) (by decide) ?_
  refine lv_aload_n hx hb dL_law_1535 rfl (lv_at hl 3 rfl) ?_
  refine lv_aload_n hx hb dL_law_1536 rfl (lv_at hl 4 rfl) ?_
  refine lv_iload hx hb dL_law_1537 (lv_at hl 0 rfl) ?_
  refine lv_iconst (v := iZ 1) hx hb dL_law_1539 rfl ?_
  refine kz_iadd hx hb dL_law_1540 ?_
  refine kz_sld hx hb hX hbl hbA hS (by omega) hL5 dL_law_1541 ?_
  refine lv_aload_n hx hb dL_law_1542 rfl (lv_at hl 4 rfl) ?_
  refine lv_iload hx hb dL_law_1543 (lv_at hl 0 rfl) ?_
  refine lv_iconst (v := iZ 2) hx hb dL_law_1545 rfl ?_
  refine kz_iadd hx hb dL_law_1546 ?_
  refine kz_sld hx hb hX hbl hbA hS (by omega) hL5 dL_law_1547 ?_
  refine lv_aload_n hx hb dL_law_1548 rfl (lv_at hl 4 rfl) ?_
  refine lv_iload hx hb dL_law_1549 (lv_at hl 0 rfl) ?_
  refine lv_iconst (v := iZ 3) hx hb dL_law_1551 rfl ?_
  refine kz_iadd hx hb dL_law_1552 ?_
  refine kz_sld hx hb hX hbl hbA hS (by omega) hL5 dL_law_1553 ?_
  refine lv_aload_n hx hb dL_law_1554 rfl (lv_at hl 4 rfl) ?_
  refine lv_iload hx hb dL_law_1555 (lv_at hl 0 rfl) ?_
  refine lv_iconst (v := iZ 4) hx hb dL_law_1557 rfl ?_
  refine kz_iadd hx hb dL_law_1558 ?_
  refine kz_sld hx hb hX hbl hbA hS (by omega) hL5 dL_law_1559 ?_
  refine kz_b2i hx hb (fx_rng _ _) dL_law_1560 dL_law_1563 dL_law_1564 dL_law_1567 ?_
  refine lv_aload_n hx hb dL_law_1568 rfl (lv_at hl 1 rfl) ?_
  refine kc2 (vx_runSW (As := [.ref (q 0), .int (iZ (fx xs (i + 1))), .int (iZ (fx xs (i + 2))), .int (iZ (fx xs (i + 3))), .int (iZ (bZ (!decide (fx xs (i + 4) = 0)))), .ref o]) (rest := []) ⟨hx, hb, hml, hown, hts⟩ (c_L_yearUnits l hst dC dI dA k q σ _ hG hOK hq o sn sv hO hko ho9 ((fx xs (i + 1))) ((fx xs (i + 2))) ((fx xs (i + 3))) (!decide (fx xs (i + 4) = 0)) (fx_rng _ _) (fx_rng _ _) (fx_rng _ _)) (vx_cwSW 6 hts (kg_S mw751 mw752 mw41 rfl mw753) rfl rfl rfl hdS_L_yearUnits ⟨Nat.le_of_ble_eq_true rfl, Nat.le_of_ble_eq_true rfl⟩) ⟨fun a U g mk q => ⟨q.1, q.2.1, kMJ_call q.2.2.1, kL_call q.2.2.2⟩, fun U hU hW => ⟨rfl, hU, kMJ_kept hMJ hS hN hU hW, kL_warm hL hW⟩⟩ rfl rfl hl.1 rfl (lv_room (Nat.le_of_ble_eq_true rfl)) dL_law_1569 ⟨kroomC (by omega), kroomS (by omega)⟩) hS (fun a _ h => kAO_N hq hko hkH a h) (fun a h => kAO_N hq hko hkH a h) (fun H1 locs hC hy9 hk9 hS => ?_)
  obtain ⟨hG1, hO1⟩ := hC
  have hY1 := kY_keptO hY hk9 h1 h2
  have h8 : kOK8 σ (if ex2 (!inb (fx xs (i + 1)) 0 3) (!inb (fx xs (i + 2)) 1 4) = 0 then (putYs σ ((fx xs (i + 1)).toNat) (σ 2 ((fx xs (i + 1)).toNat) + sgn ((fx xs (i + 3)) * yus (fx xs (i + 2))) (!decide (fx xs (i + 4) = 0)))) else σ) := k8_if hOK (fun h9 => k8m_yearUnits hOK ((fx xs (i + 1))) ((fx xs (i + 2))) ((fx xs (i + 3))) (!decide (fx xs (i + 4) = 0)) h9)
  have hkH1 : k 0 ≤ H1.size := Nat.le_trans hkH hy9
  clear hk9
  refine lv_istore (lv' := [(5, .int (iZ (ex2 (!inb (fx xs (i + 1)) 0 3) (!inb (fx xs (i + 2)) 1 4)))), (4, .int (iZ i)), (3, .ref o), (2, .ref m0), (1, .ref (q 0)), (0, .ref b)]) hx hb dL_law_1572 hl (by decide) rfl (fun ls hl => ?_)
  refine lv_aload_n hx hb dL_law_1574 rfl (lv_at hl 3 rfl) ?_
  refine lv_aload_n hx hb dL_law_1575 rfl (lv_at hl 5 rfl) ?_
  refine lv_iload hx hb dL_law_1576 (lv_at hl 1 rfl) ?_
  refine lv_iconst (v := iZ 1) hx hb dL_law_1578 rfl ?_
  refine kz_iadd hx hb dL_law_1579 ?_
  refine kz_sld hx hb hX hbl hbA hS (by omega) hL5 dL_law_1580 ?_
  refine lv_aload_n hx hb dL_law_1581 rfl (lv_at hl 5 rfl) ?_
  refine lv_iload hx hb dL_law_1582 (lv_at hl 1 rfl) ?_
  refine lv_iconst (v := iZ 2) hx hb dL_law_1584 rfl ?_
  refine kz_iadd hx hb dL_law_1585 ?_
  refine kz_sld hx hb hX hbl hbA hS (by omega) hL5 dL_law_1586 ?_
  refine lv_aload_n hx hb dL_law_1587 rfl (lv_at hl 5 rfl) ?_
  refine lv_iload hx hb dL_law_1588 (lv_at hl 1 rfl) ?_
  refine lv_iconst (v := iZ 3) hx hb dL_law_1590 rfl ?_
  refine kz_iadd hx hb dL_law_1591 ?_
  refine kz_sld hx hb hX hbl hbA hS (by omega) hL5 dL_law_1592 ?_
  refine lv_aload_n hx hb dL_law_1593 rfl (lv_at hl 5 rfl) ?_
  refine lv_iload hx hb dL_law_1594 (lv_at hl 1 rfl) ?_
  refine lv_iconst (v := iZ 4) hx hb dL_law_1596 rfl ?_
  refine kz_iadd hx hb dL_law_1597 ?_
  refine kz_sld hx hb hX hbl hbA hS (by omega) hL5 dL_law_1598 ?_
  refine kz_b2i hx hb (fx_rng _ _) dL_law_1599 dL_law_1602 dL_law_1603 dL_law_1606 ?_
  refine kc2 (va_runV (As := [.int (iZ (fx xs (i + 1))), .int (iZ (fx xs (i + 2))), .int (iZ (fx xs (i + 3))), .int (iZ (bZ (!decide (fx xs (i + 4) = 0))))]) (rest := []) ⟨hx, hb, hml, hown, hts⟩ (c_X3_yearUnits l dC dI dA k m0 r σ th _ hY1 hr hOK ((fx xs (i + 1))) ((fx xs (i + 2))) ((fx xs (i + 3))) (!decide (fx xs (i + 4) = 0)) (fx_rng _ _) (fx_rng _ _) (fx_rng _ _)) (cwV 4 hts (kg_V mw1158 mw1159 mw1160 mw47 rfl mw1161) rfl rfl rfl hdV_X3_yearUnits ⟨Nat.le_of_ble_eq_true rfl, Nat.le_of_ble_eq_true rfl⟩) ⟨fun a U g mk q => ⟨q.1, q.2.1, kM_call q.2.2⟩, va_recv hM.1 hY1 (ci := 6) (q0 := 0) rfl rfl, fun U hU hW => ⟨rfl, hU, kM_kept hM hS hN hU hW⟩⟩ rfl rfl hl.1 rfl (lv_room (Nat.le_of_ble_eq_true rfl)) dL_law_1607 ⟨kroomC (by omega), kroomS (by omega)⟩) hS (fun a _ h => kAy_N hr hkH1 a h) (fun a h => kAy_N hr hkH1 a h) (fun H2 locs hC2 hy8 hk8 hS => ?_)
  obtain ⟨r2, hI2, hO2⟩ := LI_step hI hG1 hO1 hC2 hk8 h8
  refine lv_istore (lv' := [(6, .int (iZ (if ex2 (!inb (fx xs (i + 1)) 0 3) (!inb (fx xs (i + 2)) 1 4) = 0 then (putYr (σ 2 ((fx xs (i + 1)).toNat) + sgn ((fx xs (i + 3)) * yus (fx xs (i + 2))) (!decide (fx xs (i + 4) = 0)))) else 0))), (5, .int (iZ (ex2 (!inb (fx xs (i + 1)) 0 3) (!inb (fx xs (i + 2)) 1 4)))), (4, .int (iZ i)), (3, .ref o), (2, .ref m0), (1, .ref (q 0)), (0, .ref b)]) hx hb dL_law_1610 hl (by decide) rfl (fun ls hl => ?_)
  refine lv_aload_n hx hb dL_law_1612 rfl (lv_at hl 4 rfl) ?_
  obtain ⟨hG2, hOK2, hq2, hY2, hr2, -⟩ := id hI2
  refine kc0 (fun _ q => q) (va_runV (As := []) (rest := []) ⟨hx, hb, hml, hown, hts⟩ (c_X3_thrown l dC dI dA k m0 r2 _ _ _ hY2 hr2 hOK2) (cwV 0 hts (kg_V mw1013 mw1014 mw1015 mw47 rfl mw1016) rfl rfl rfl hdV_X3_thrown ⟨Nat.le_of_ble_eq_true rfl, Nat.le_of_ble_eq_true rfl⟩) ⟨fun a U g mk q => ⟨q.1, q.2.1, kM_call q.2.2⟩, va_recv hM.1 hY2 (ci := 6) (q0 := 0) rfl rfl, fun U hU hW => ⟨rfl, hU, kM_kept hM hS hN hU hW⟩⟩ rfl rfl hl.1 rfl (lv_room (Nat.le_of_ble_eq_true rfl)) dL_law_1613 ⟨kroomC (by omega), kroomS (by omega)⟩) ?_
  refine lv_iload hx hb dL_law_1616 (lv_at hl 1 rfl) ?_
  refine kz_icmp_eq (tgt := 1623) hx hb (ex2_rng _ _) (ex2_rng _ _) dL_law_1618 (by decide) (fun c_1 => ?_) (fun c_1 => absurd rfl c_1)
  refine lv_iload hx hb dL_law_1623 (lv_at hl 1 rfl) ?_
  refine kz_if_ne (tgt := 1641) hx hb (ex2_rng _ _) dL_law_1625 (by decide) (fun c_2 => ?_) (fun c_2 => ?_)
  · refine lv_goto (tgt := 4485) hx hb dL_law_1641 (by decide) ?_
    refine W.widen (k := cs + 600) (n := ss + 4000) (by omega) (by omega) ?_
    exact kk r2 _ _ _ _ _ hI2 hS (by have h9 := h8.2; omega) (lv_sub hl [2, 3, 4, 5, 6] rfl)
  · refine lv_aload_n hx hb dL_law_1628 rfl (lv_at hl 3 rfl) ?_
    obtain ⟨nv, vv, hn, hPn⟩ := hO2
    have hn := hn c_2
    subst hn
    refine va_getN (D := (dC, dI)) (ci := 5) (v := .long (lZ (w32 (putYr (σ 2 ((fx xs (i + 1)).toNat) + sgn ((fx xs (i + 3)) * yus (fx xs (i + 2))) (!decide (fx xs (i + 4) = 0))))))) (C := RX2) (T := TX2) (N := 2) hx hb hts (fun w h => List.mem_cons_of_mem _ (gF_1_in h)) hown hM.1 hPn 0 rfl rfl 0 (by decide) (va_Nw.use rfl hL.1) (fun _ h9 => h9) rfl dL_law_1629 ?_
    refine lv_iload hx hb dL_law_1632 (lv_at hl 0 rfl) ?_
    refine kz_w32 ?_
    refine kz_i2l hx hb (w32_rng _) dL_law_1634 ?_
    refine kz_lcmp_eq (tgt := 1641) hx hb (by first | exact w32_lrng _ | exact bZ_lrng _) (by first | exact w32_lrng _ | exact bZ_lrng _) dL_law_1635 dL_law_1636 (by decide) (fun c_3 => ?_) (fun c_3 => absurd (by first | rw [if_pos c_2] | exact congrArg bZ (by rw [decide_eq_true c_2, Bool.true_and]) | (rw [decide_eq_true c_2]; rfl) | (simp [c_2]; done)) c_3)
    refine lv_goto (tgt := 4485) hx hb dL_law_1641 (by decide) ?_
    refine W.widen (k := cs + 600) (n := ss + 4000) (by omega) (by omega) ?_
    exact kk r2 _ _ _ _ _ hI2 hS (by have h9 := h8.2; omega) (lv_sub hl [2, 3, 4, 5, 6] rfl)

set_option maxHeartbeats 4000000 in
set_option maxRecDepth 100000 in
theorem lc_16 {p : Program} {l : Launch} {e : Env} {s : State} {m : MethodId} {below : List Frame} {meth : Method} {c : Code} {Q : State → Prop} {b L : Nat} {xs : Nat → Int32} {dC : Nat → ClassId} {dI : Nat → Nat → Nat} {dA : Nat → ClassId} {k : Nat → Nat} (hst : l.stackTraces = false) (F : kF p s m meth c b L xs dC dI dA k)
    {q : Nat → Nat} {m0 : Nat} {r : Nat → Nat → Nat} {o : Nat} {σ : Nat → Nat → Int} {th : Int} {H : Heap} {locs : List Loc} {cs ss : Nat} {i : Int} {ls : Array Slot} (hI : LI dC dI dA k q m0 r o σ th H) (hS : va_S (kN0 k) s.heap H locs) (hi : 0 ≤ i ∧ i + 5 ≤ (L : Int)) (hcs : cs + 600 ≤ 707594) (hss : ss + 4000 ≤ 6979453) (h80 : 0 ≤ σ 8 0 ∧ σ 8 0 ≤ 100000) (hl : lv_has ls 7 [(4, .int (iZ i)), (3, .ref o), (2, .ref m0), (1, .ref (q 0)), (0, .ref b)])
    (kk : ∀ (r' : Nat → Nat → Nat) (σ' : Nat → Nat → Int) (th' : Int) (H' : Heap) (locs' : List Loc) (ls' : Array Slot), LI dC dI dA k q m0 r' o σ' th' H' → va_S (kN0 k) s.heap H' locs' → σ 8 0 ≤ σ' 8 0 ∧ σ' 8 0 ≤ σ 8 0 + 1 → lv_has ls' 7 [(4, .int (iZ i)), (3, .ref o), (2, .ref m0), (1, .ref (q 0)), (0, .ref b)] → W p l e room_1 s m #[Value.ref b] below meth c H' locs' (cs + 600) (ss + 4000) Q (F0 m 4485 ls' [])) :
    W p l e room_1 s m #[Value.ref b] below meth c H locs cs ss Q (F0 m 43 ls [.int (iZ 16)]) := by
  obtain ⟨hx, hb, hr9, hml, hown, hts, hX, hbl, hL5, hMJ, hL, hk0, hlocks⟩ := F
  obtain ⟨hG, hOK, hq, hY, hr, hO0, hko, ho9, h1, h2⟩ := id hI
  obtain ⟨sn, sv, -, hO⟩ := id hO0
  have hM := hMJ.1
  have hbA : ¬ kN0 k b := fun z => absurd (show k 0 ≤ b from z) (by omega)
  have hN : ∀ a, kN0 k a → k 0 ≤ a := fun _ h => h
  have hkH : k 0 ≤ H.size := by have := hS.1; omega
  refine lv_tableIn (tgt := 1644) (off := 1601) hx hb dL_law_43 (by rw [iZ_toInt (z := 16) (by omega)]; omega) (by rw [iZ_toInt (z := 16) (by omega)]; omega) (by rw [iZ_toInt (z := 16) (by omega)]; rfl) (by decide) ?_
  refine lv_aload_n hx hb dL_law_1644 rfl (lv_at hl 3 rfl) ?_
  refine lv_aload_n hx hb dL_law_1645 rfl (lv_at hl 4 rfl) ?_
  refine lv_iload hx hb dL_law_1646 (lv_at hl 0 rfl) ?_
  refine lv_iconst (v := iZ 1) hx hb dL_law_1648 rfl ?_
  refine kz_iadd hx hb dL_law_1649 ?_
  refine kz_sld hx hb hX hbl hbA hS (by omega) hL5 dL_law_1650 ?_
  refine lv_aload_n hx hb dL_law_1651 rfl (lv_at hl 4 rfl) ?_
  refine lv_iload hx hb dL_law_1652 (lv_at hl 0 rfl) ?_
  refine lv_iconst (v := iZ 2) hx hb dL_law_1654 rfl ?_
  refine kz_iadd hx hb dL_law_1655 ?_
  refine kz_sld hx hb hX hbl hbA hS (by omega) hL5 dL_law_1656 ?_
  refine lv_aload_n hx hb dL_law_1657 rfl (lv_at hl 4 rfl) ?_
  refine lv_iload hx hb dL_law_1658 (lv_at hl 0 rfl) ?_
  refine lv_iconst (v := iZ 3) hx hb dL_law_1660 rfl ?_
  refine kz_iadd hx hb dL_law_1661 ?_
  refine kz_sld hx hb hX hbl hbA hS (by omega) hL5 dL_law_1662 ?_
  refine lv_aload_n hx hb dL_law_1663 rfl (lv_at hl 1 rfl) ?_
  refine kc2 (vx_runSW (As := [.ref (q 0), .int (iZ (fx xs (i + 1))), .int (iZ (fx xs (i + 2))), .int (iZ (fx xs (i + 3))), .ref o]) (rest := []) ⟨hx, hb, hml, hown, hts⟩ (c_L_yearWith l hst dC dI dA k q σ _ hG hOK hq o sn sv hO hko ho9 ((fx xs (i + 1))) ((fx xs (i + 2))) ((fx xs (i + 3))) (fx_rng _ _) (fx_rng _ _) (fx_rng _ _)) (vx_cwSW 5 hts (kg_S mw759 mw760 mw41 rfl mw761) rfl rfl rfl hdS_L_yearWith ⟨Nat.le_of_ble_eq_true rfl, Nat.le_of_ble_eq_true rfl⟩) ⟨fun a U g mk q => ⟨q.1, q.2.1, kMJ_call q.2.2.1, kL_call q.2.2.2⟩, fun U hU hW => ⟨rfl, hU, kMJ_kept hMJ hS hN hU hW, kL_warm hL hW⟩⟩ rfl rfl hl.1 rfl (lv_room (Nat.le_of_ble_eq_true rfl)) dL_law_1664 ⟨kroomC (by omega), kroomS (by omega)⟩) hS (fun a _ h => kAO_N hq hko hkH a h) (fun a h => kAO_N hq hko hkH a h) (fun H1 locs hC hy9 hk9 hS => ?_)
  obtain ⟨hG1, hO1⟩ := hC
  have hY1 := kY_keptO hY hk9 h1 h2
  have h8 : kOK8 σ (if ex2 (!inb (fx xs (i + 1)) 0 3) (!inb (fx xs (i + 2)) 0 2 || noThing ((fx xs (i + 2)) + 1) (fx xs (i + 3))) = 0 then (putYs σ ((fx xs (i + 1)).toNat) (ywt (σ 2 ((fx xs (i + 1)).toNat)) (fx xs (i + 2)) (fx xs (i + 3)))) else σ) := k8_if hOK (fun h9 => k8m_yearWith hOK ((fx xs (i + 1))) ((fx xs (i + 2))) ((fx xs (i + 3))) h9)
  have hkH1 : k 0 ≤ H1.size := Nat.le_trans hkH hy9
  clear hk9
  refine lv_istore (lv' := [(5, .int (iZ (ex2 (!inb (fx xs (i + 1)) 0 3) (!inb (fx xs (i + 2)) 0 2 || noThing ((fx xs (i + 2)) + 1) (fx xs (i + 3)))))), (4, .int (iZ i)), (3, .ref o), (2, .ref m0), (1, .ref (q 0)), (0, .ref b)]) hx hb dL_law_1667 hl (by decide) rfl (fun ls hl => ?_)
  refine lv_aload_n hx hb dL_law_1669 rfl (lv_at hl 3 rfl) ?_
  refine lv_aload_n hx hb dL_law_1670 rfl (lv_at hl 5 rfl) ?_
  refine lv_iload hx hb dL_law_1671 (lv_at hl 1 rfl) ?_
  refine lv_iconst (v := iZ 1) hx hb dL_law_1673 rfl ?_
  refine kz_iadd hx hb dL_law_1674 ?_
  refine kz_sld hx hb hX hbl hbA hS (by omega) hL5 dL_law_1675 ?_
  refine lv_aload_n hx hb dL_law_1676 rfl (lv_at hl 5 rfl) ?_
  refine lv_iload hx hb dL_law_1677 (lv_at hl 1 rfl) ?_
  refine lv_iconst (v := iZ 2) hx hb dL_law_1679 rfl ?_
  refine kz_iadd hx hb dL_law_1680 ?_
  refine kz_sld hx hb hX hbl hbA hS (by omega) hL5 dL_law_1681 ?_
  refine lv_aload_n hx hb dL_law_1682 rfl (lv_at hl 5 rfl) ?_
  refine lv_iload hx hb dL_law_1683 (lv_at hl 1 rfl) ?_
  refine lv_iconst (v := iZ 3) hx hb dL_law_1685 rfl ?_
  refine kz_iadd hx hb dL_law_1686 ?_
  refine kz_sld hx hb hX hbl hbA hS (by omega) hL5 dL_law_1687 ?_
  refine kc2 (va_runV (As := [.int (iZ (fx xs (i + 1))), .int (iZ (fx xs (i + 2))), .int (iZ (fx xs (i + 3)))]) (rest := []) ⟨hx, hb, hml, hown, hts⟩ (c_X3_yearWith l dC dI dA k m0 r σ th _ hY1 hr hOK ((fx xs (i + 1))) ((fx xs (i + 2))) ((fx xs (i + 3))) (fx_rng _ _) (fx_rng _ _) (fx_rng _ _)) (cwV 3 hts (kg_V mw1162 mw1163 mw1164 mw47 rfl mw1165) rfl rfl rfl hdV_X3_yearWith ⟨Nat.le_of_ble_eq_true rfl, Nat.le_of_ble_eq_true rfl⟩) ⟨fun a U g mk q => ⟨q.1, q.2.1, kM_call q.2.2⟩, va_recv hM.1 hY1 (ci := 6) (q0 := 0) rfl rfl, fun U hU hW => ⟨rfl, hU, kM_kept hM hS hN hU hW⟩⟩ rfl rfl hl.1 rfl (lv_room (Nat.le_of_ble_eq_true rfl)) dL_law_1688 ⟨kroomC (by omega), kroomS (by omega)⟩) hS (fun a _ h => kAy_N hr hkH1 a h) (fun a h => kAy_N hr hkH1 a h) (fun H2 locs hC2 hy8 hk8 hS => ?_)
  obtain ⟨r2, hI2, hO2⟩ := LI_step hI hG1 hO1 hC2 hk8 h8
  refine lv_istore (lv' := [(6, .int (iZ (if ex2 (!inb (fx xs (i + 1)) 0 3) (!inb (fx xs (i + 2)) 0 2 || noThing ((fx xs (i + 2)) + 1) (fx xs (i + 3))) = 0 then (putYr (ywt (σ 2 ((fx xs (i + 1)).toNat)) (fx xs (i + 2)) (fx xs (i + 3)))) else 0))), (5, .int (iZ (ex2 (!inb (fx xs (i + 1)) 0 3) (!inb (fx xs (i + 2)) 0 2 || noThing ((fx xs (i + 2)) + 1) (fx xs (i + 3)))))), (4, .int (iZ i)), (3, .ref o), (2, .ref m0), (1, .ref (q 0)), (0, .ref b)]) hx hb dL_law_1691 hl (by decide) rfl (fun ls hl => ?_)
  refine lv_aload_n hx hb dL_law_1693 rfl (lv_at hl 4 rfl) ?_
  obtain ⟨hG2, hOK2, hq2, hY2, hr2, -⟩ := id hI2
  refine kc0 (fun _ q => q) (va_runV (As := []) (rest := []) ⟨hx, hb, hml, hown, hts⟩ (c_X3_thrown l dC dI dA k m0 r2 _ _ _ hY2 hr2 hOK2) (cwV 0 hts (kg_V mw1013 mw1014 mw1015 mw47 rfl mw1016) rfl rfl rfl hdV_X3_thrown ⟨Nat.le_of_ble_eq_true rfl, Nat.le_of_ble_eq_true rfl⟩) ⟨fun a U g mk q => ⟨q.1, q.2.1, kM_call q.2.2⟩, va_recv hM.1 hY2 (ci := 6) (q0 := 0) rfl rfl, fun U hU hW => ⟨rfl, hU, kM_kept hM hS hN hU hW⟩⟩ rfl rfl hl.1 rfl (lv_room (Nat.le_of_ble_eq_true rfl)) dL_law_1694 ⟨kroomC (by omega), kroomS (by omega)⟩) ?_
  refine lv_iload hx hb dL_law_1697 (lv_at hl 1 rfl) ?_
  refine kz_icmp_eq (tgt := 1704) hx hb (ex2_rng _ _) (ex2_rng _ _) dL_law_1699 (by decide) (fun c_1 => ?_) (fun c_1 => absurd rfl c_1)
  refine lv_iload hx hb dL_law_1704 (lv_at hl 1 rfl) ?_
  refine kz_if_ne (tgt := 1722) hx hb (ex2_rng _ _) dL_law_1706 (by decide) (fun c_2 => ?_) (fun c_2 => ?_)
  · refine lv_goto (tgt := 4485) hx hb dL_law_1722 (by decide) ?_
    refine W.widen (k := cs + 600) (n := ss + 4000) (by omega) (by omega) ?_
    exact kk r2 _ _ _ _ _ hI2 hS (by have h9 := h8.2; omega) (lv_sub hl [2, 3, 4, 5, 6] rfl)
  · refine lv_aload_n hx hb dL_law_1709 rfl (lv_at hl 3 rfl) ?_
    obtain ⟨nv, vv, hn, hPn⟩ := hO2
    have hn := hn c_2
    subst hn
    refine va_getN (D := (dC, dI)) (ci := 5) (v := .long (lZ (w32 (putYr (ywt (σ 2 ((fx xs (i + 1)).toNat)) (fx xs (i + 2)) (fx xs (i + 3))))))) (C := RX2) (T := TX2) (N := 2) hx hb hts (fun w h => List.mem_cons_of_mem _ (gF_1_in h)) hown hM.1 hPn 0 rfl rfl 0 (by decide) (va_Nw.use rfl hL.1) (fun _ h9 => h9) rfl dL_law_1710 ?_
    refine lv_iload hx hb dL_law_1713 (lv_at hl 0 rfl) ?_
    refine kz_w32 ?_
    refine kz_i2l hx hb (w32_rng _) dL_law_1715 ?_
    refine kz_lcmp_eq (tgt := 1722) hx hb (by first | exact w32_lrng _ | exact bZ_lrng _) (by first | exact w32_lrng _ | exact bZ_lrng _) dL_law_1716 dL_law_1717 (by decide) (fun c_3 => ?_) (fun c_3 => absurd (by first | rw [if_pos c_2] | exact congrArg bZ (by rw [decide_eq_true c_2, Bool.true_and]) | (rw [decide_eq_true c_2]; rfl) | (simp [c_2]; done)) c_3)
    refine lv_goto (tgt := 4485) hx hb dL_law_1722 (by decide) ?_
    refine W.widen (k := cs + 600) (n := ss + 4000) (by omega) (by omega) ?_
    exact kk r2 _ _ _ _ _ hI2 hS (by have h9 := h8.2; omega) (lv_sub hl [2, 3, 4, 5, 6] rfl)

set_option maxHeartbeats 4000000 in
set_option maxRecDepth 100000 in
theorem lc_17 {p : Program} {l : Launch} {e : Env} {s : State} {m : MethodId} {below : List Frame} {meth : Method} {c : Code} {Q : State → Prop} {b L : Nat} {xs : Nat → Int32} {dC : Nat → ClassId} {dI : Nat → Nat → Nat} {dA : Nat → ClassId} {k : Nat → Nat} (hst : l.stackTraces = false) (F : kF p s m meth c b L xs dC dI dA k)
    {q : Nat → Nat} {m0 : Nat} {r : Nat → Nat → Nat} {o : Nat} {σ : Nat → Nat → Int} {th : Int} {H : Heap} {locs : List Loc} {cs ss : Nat} {i : Int} {ls : Array Slot} (hI : LI dC dI dA k q m0 r o σ th H) (hS : va_S (kN0 k) s.heap H locs) (hi : 0 ≤ i ∧ i + 5 ≤ (L : Int)) (hcs : cs + 600 ≤ 707594) (hss : ss + 4000 ≤ 6979453) (h80 : 0 ≤ σ 8 0 ∧ σ 8 0 ≤ 100000) (hl : lv_has ls 7 [(4, .int (iZ i)), (3, .ref o), (2, .ref m0), (1, .ref (q 0)), (0, .ref b)])
    (kk : ∀ (r' : Nat → Nat → Nat) (σ' : Nat → Nat → Int) (th' : Int) (H' : Heap) (locs' : List Loc) (ls' : Array Slot), LI dC dI dA k q m0 r' o σ' th' H' → va_S (kN0 k) s.heap H' locs' → σ 8 0 ≤ σ' 8 0 ∧ σ' 8 0 ≤ σ 8 0 + 1 → lv_has ls' 7 [(4, .int (iZ i)), (3, .ref o), (2, .ref m0), (1, .ref (q 0)), (0, .ref b)] → W p l e room_1 s m #[Value.ref b] below meth c H' locs' (cs + 600) (ss + 4000) Q (F0 m 4485 ls' [])) :
    W p l e room_1 s m #[Value.ref b] below meth c H locs cs ss Q (F0 m 43 ls [.int (iZ 17)]) := by
  obtain ⟨hx, hb, hr9, hml, hown, hts, hX, hbl, hL5, hMJ, hL, hk0, hlocks⟩ := F
  obtain ⟨hG, hOK, hq, hY, hr, hO0, hko, ho9, h1, h2⟩ := id hI
  obtain ⟨sn, sv, -, hO⟩ := id hO0
  have hM := hMJ.1
  have hbA : ¬ kN0 k b := fun z => absurd (show k 0 ≤ b from z) (by omega)
  have hN : ∀ a, kN0 k a → k 0 ≤ a := fun _ h => h
  have hkH : k 0 ≤ H.size := by have := hS.1; omega
  refine lv_tableIn (tgt := 1725) (off := 1682) hx hb dL_law_43 (by rw [iZ_toInt (z := 17) (by omega)]; omega) (by rw [iZ_toInt (z := 17) (by omega)]; omega) (by rw [iZ_toInt (z := 17) (by omega)]; rfl) (by decide) ?_
  refine lv_aload_n hx hb dL_law_1725 rfl (lv_at hl 3 rfl) ?_
  refine lv_aload_n hx hb dL_law_1726 rfl (lv_at hl 4 rfl) ?_
  refine lv_iload hx hb dL_law_1727 (lv_at hl 0 rfl) ?_
  refine lv_iconst (v := iZ 1) hx hb dL_law_1729 rfl ?_
  refine kz_iadd hx hb dL_law_1730 ?_
  refine kz_sld hx hb hX hbl hbA hS (by omega) hL5 dL_law_1731 ?_
  refine lv_aload_n hx hb dL_law_1732 rfl (lv_at hl 4 rfl) ?_
  refine lv_iload hx hb dL_law_1733 (lv_at hl 0 rfl) ?_
  refine lv_iconst (v := iZ 2) hx hb dL_law_1735 rfl ?_
  refine kz_iadd hx hb dL_law_1736 ?_
  refine kz_sld hx hb hX hbl hbA hS (by omega) hL5 dL_law_1737 ?_
  refine kz_b2i hx hb (fx_rng _ _) dL_law_1738 dL_law_1741 dL_law_1742 dL_law_1745 ?_
  refine lv_aload_n hx hb dL_law_1746 rfl (lv_at hl 4 rfl) ?_
  refine lv_iload hx hb dL_law_1747 (lv_at hl 0 rfl) ?_
  refine lv_iconst (v := iZ 3) hx hb dL_law_1749 rfl ?_
  refine kz_iadd hx hb dL_law_1750 ?_
  refine kz_sld hx hb hX hbl hbA hS (by omega) hL5 dL_law_1751 ?_
  refine lv_aload_n hx hb dL_law_1752 rfl (lv_at hl 1 rfl) ?_
  refine kc2 (vx_runSW (As := [.ref (q 0), .int (iZ (fx xs (i + 1))), .int (iZ (bZ (!decide (fx xs (i + 2) = 0)))), .int (iZ (fx xs (i + 3))), .ref o]) (rest := []) ⟨hx, hb, hml, hown, hts⟩ (c_L_yearOf l hst dC dI dA k q σ _ hG hOK hq o sn sv hO hko ho9 ((fx xs (i + 1))) (!decide (fx xs (i + 2) = 0)) ((fx xs (i + 3))) (fx_rng _ _) (fx_rng _ _)) (vx_cwSW 5 hts (kg_S mw766 mw767 mw41 rfl mw768) rfl rfl rfl hdS_L_yearOf ⟨Nat.le_of_ble_eq_true rfl, Nat.le_of_ble_eq_true rfl⟩) ⟨fun a U g mk q => ⟨q.1, q.2.1, kMJ_call q.2.2.1, kL_call q.2.2.2⟩, fun U hU hW => ⟨rfl, hU, kMJ_kept hMJ hS hN hU hW, kL_warm hL hW⟩⟩ rfl rfl hl.1 rfl (lv_room (Nat.le_of_ble_eq_true rfl)) dL_law_1753 ⟨kroomC (by omega), kroomS (by omega)⟩) hS (fun a _ h => kAO_N hq hko hkH a h) (fun a h => kAO_N hq hko hkH a h) (fun H1 locs hC hy9 hk9 hS => ?_)
  obtain ⟨hG1, hO1⟩ := hC
  have hY1 := kY_keptO hY hk9 h1 h2
  have h8 : kOK8 σ (if ex2 (!inb (fx xs (i + 1)) 0 3 || !inb (fx xs (i + 3)) 0 3) (false) = 0 then (sU σ 2 ((fx xs (i + 1)).toNat) (if (!decide (fx xs (i + 2) = 0)) = true then σ 5 ((fx xs (i + 3)).toNat) else σ 0 ((fx xs (i + 3)).toNat))) else σ) := k8_if hOK (fun h9 => k8m_yearOf hOK ((fx xs (i + 1))) (!decide (fx xs (i + 2) = 0)) ((fx xs (i + 3))) h9)
  have hkH1 : k 0 ≤ H1.size := Nat.le_trans hkH hy9
  clear hk9
  refine lv_istore (lv' := [(5, .int (iZ (ex2 (!inb (fx xs (i + 1)) 0 3 || !inb (fx xs (i + 3)) 0 3) (false)))), (4, .int (iZ i)), (3, .ref o), (2, .ref m0), (1, .ref (q 0)), (0, .ref b)]) hx hb dL_law_1756 hl (by decide) rfl (fun ls hl => ?_)
  refine lv_aload_n hx hb dL_law_1758 rfl (lv_at hl 3 rfl) ?_
  refine lv_aload_n hx hb dL_law_1759 rfl (lv_at hl 5 rfl) ?_
  refine lv_iload hx hb dL_law_1760 (lv_at hl 1 rfl) ?_
  refine lv_iconst (v := iZ 1) hx hb dL_law_1762 rfl ?_
  refine kz_iadd hx hb dL_law_1763 ?_
  refine kz_sld hx hb hX hbl hbA hS (by omega) hL5 dL_law_1764 ?_
  refine lv_aload_n hx hb dL_law_1765 rfl (lv_at hl 5 rfl) ?_
  refine lv_iload hx hb dL_law_1766 (lv_at hl 1 rfl) ?_
  refine lv_iconst (v := iZ 2) hx hb dL_law_1768 rfl ?_
  refine kz_iadd hx hb dL_law_1769 ?_
  refine kz_sld hx hb hX hbl hbA hS (by omega) hL5 dL_law_1770 ?_
  refine kz_b2i hx hb (fx_rng _ _) dL_law_1771 dL_law_1774 dL_law_1775 dL_law_1778 ?_
  refine lv_aload_n hx hb dL_law_1779 rfl (lv_at hl 5 rfl) ?_
  refine lv_iload hx hb dL_law_1780 (lv_at hl 1 rfl) ?_
  refine lv_iconst (v := iZ 3) hx hb dL_law_1782 rfl ?_
  refine kz_iadd hx hb dL_law_1783 ?_
  refine kz_sld hx hb hX hbl hbA hS (by omega) hL5 dL_law_1784 ?_
  refine kc2 (va_runV (As := [.int (iZ (fx xs (i + 1))), .int (iZ (bZ (!decide (fx xs (i + 2) = 0)))), .int (iZ (fx xs (i + 3)))]) (rest := []) ⟨hx, hb, hml, hown, hts⟩ (c_X3_yearOf l dC dI dA k m0 r σ th _ hY1 hr hOK ((fx xs (i + 1))) (!decide (fx xs (i + 2) = 0)) ((fx xs (i + 3))) (fx_rng _ _) (fx_rng _ _)) (cwV 3 hts (kg_V mw1167 mw1168 mw1169 mw47 rfl mw1170) rfl rfl rfl hdV_X3_yearOf ⟨Nat.le_of_ble_eq_true rfl, Nat.le_of_ble_eq_true rfl⟩) ⟨fun a U g mk q => ⟨q.1, q.2.1, kM_call q.2.2⟩, va_recv hM.1 hY1 (ci := 6) (q0 := 0) rfl rfl, fun U hU hW => ⟨rfl, hU, kM_kept hM hS hN hU hW⟩⟩ rfl rfl hl.1 rfl (lv_room (Nat.le_of_ble_eq_true rfl)) dL_law_1785 ⟨kroomC (by omega), kroomS (by omega)⟩) hS (fun a _ h => kAy_N hr hkH1 a h) (fun a h => kAy_N hr hkH1 a h) (fun H2 locs hC2 hy8 hk8 hS => ?_)
  obtain ⟨r2, hI2, hO2⟩ := LI_step hI hG1 hO1 hC2 hk8 h8
  refine lv_istore (lv' := [(6, .int (iZ (if ex2 (!inb (fx xs (i + 1)) 0 3 || !inb (fx xs (i + 3)) 0 3) (false) = 0 then (ylen (if (!decide (fx xs (i + 2) = 0)) = true then σ 5 ((fx xs (i + 3)).toNat) else σ 0 ((fx xs (i + 3)).toNat))) else 0))), (5, .int (iZ (ex2 (!inb (fx xs (i + 1)) 0 3 || !inb (fx xs (i + 3)) 0 3) (false)))), (4, .int (iZ i)), (3, .ref o), (2, .ref m0), (1, .ref (q 0)), (0, .ref b)]) hx hb dL_law_1788 hl (by decide) rfl (fun ls hl => ?_)
  refine lv_aload_n hx hb dL_law_1790 rfl (lv_at hl 4 rfl) ?_
  obtain ⟨hG2, hOK2, hq2, hY2, hr2, -⟩ := id hI2
  refine kc0 (fun _ q => q) (va_runV (As := []) (rest := []) ⟨hx, hb, hml, hown, hts⟩ (c_X3_thrown l dC dI dA k m0 r2 _ _ _ hY2 hr2 hOK2) (cwV 0 hts (kg_V mw1013 mw1014 mw1015 mw47 rfl mw1016) rfl rfl rfl hdV_X3_thrown ⟨Nat.le_of_ble_eq_true rfl, Nat.le_of_ble_eq_true rfl⟩) ⟨fun a U g mk q => ⟨q.1, q.2.1, kM_call q.2.2⟩, va_recv hM.1 hY2 (ci := 6) (q0 := 0) rfl rfl, fun U hU hW => ⟨rfl, hU, kM_kept hM hS hN hU hW⟩⟩ rfl rfl hl.1 rfl (lv_room (Nat.le_of_ble_eq_true rfl)) dL_law_1791 ⟨kroomC (by omega), kroomS (by omega)⟩) ?_
  refine lv_iload hx hb dL_law_1794 (lv_at hl 1 rfl) ?_
  refine kz_icmp_eq (tgt := 1801) hx hb (ex2_rng _ _) (ex2_rng _ _) dL_law_1796 (by decide) (fun c_1 => ?_) (fun c_1 => absurd rfl c_1)
  refine lv_iload hx hb dL_law_1801 (lv_at hl 1 rfl) ?_
  refine kz_if_ne (tgt := 1819) hx hb (ex2_rng _ _) dL_law_1803 (by decide) (fun c_2 => ?_) (fun c_2 => ?_)
  · refine lv_goto (tgt := 4485) hx hb dL_law_1819 (by decide) ?_
    refine W.widen (k := cs + 600) (n := ss + 4000) (by omega) (by omega) ?_
    exact kk r2 _ _ _ _ _ hI2 hS (by have h9 := h8.2; omega) (lv_sub hl [2, 3, 4, 5, 6] rfl)
  · refine lv_aload_n hx hb dL_law_1806 rfl (lv_at hl 3 rfl) ?_
    obtain ⟨nv, vv, hn, hPn⟩ := hO2
    have hn := hn c_2
    subst hn
    refine va_getN (D := (dC, dI)) (ci := 5) (v := .long (lZ (w32 (ylen (if (!decide (fx xs (i + 2) = 0)) = true then σ 5 ((fx xs (i + 3)).toNat) else σ 0 ((fx xs (i + 3)).toNat)))))) (C := RX2) (T := TX2) (N := 2) hx hb hts (fun w h => List.mem_cons_of_mem _ (gF_1_in h)) hown hM.1 hPn 0 rfl rfl 0 (by decide) (va_Nw.use rfl hL.1) (fun _ h9 => h9) rfl dL_law_1807 ?_
    refine lv_iload hx hb dL_law_1810 (lv_at hl 0 rfl) ?_
    refine kz_w32 ?_
    refine kz_i2l hx hb (w32_rng _) dL_law_1812 ?_
    refine kz_lcmp_eq (tgt := 1819) hx hb (by first | exact w32_lrng _ | exact bZ_lrng _) (by first | exact w32_lrng _ | exact bZ_lrng _) dL_law_1813 dL_law_1814 (by decide) (fun c_3 => ?_) (fun c_3 => absurd (by first | rw [if_pos c_2] | exact congrArg bZ (by rw [decide_eq_true c_2, Bool.true_and]) | (rw [decide_eq_true c_2]; rfl) | (simp [c_2]; done)) c_3)
    refine lv_goto (tgt := 4485) hx hb dL_law_1819 (by decide) ?_
    refine W.widen (k := cs + 600) (n := ss + 4000) (by omega) (by omega) ?_
    exact kk r2 _ _ _ _ _ hI2 hS (by have h9 := h8.2; omega) (lv_sub hl [2, 3, 4, 5, 6] rfl)

set_option maxHeartbeats 4000000 in
set_option maxRecDepth 100000 in
theorem lc_18 {p : Program} {l : Launch} {e : Env} {s : State} {m : MethodId} {below : List Frame} {meth : Method} {c : Code} {Q : State → Prop} {b L : Nat} {xs : Nat → Int32} {dC : Nat → ClassId} {dI : Nat → Nat → Nat} {dA : Nat → ClassId} {k : Nat → Nat} (hst : l.stackTraces = false) (F : kF p s m meth c b L xs dC dI dA k)
    {q : Nat → Nat} {m0 : Nat} {r : Nat → Nat → Nat} {o : Nat} {σ : Nat → Nat → Int} {th : Int} {H : Heap} {locs : List Loc} {cs ss : Nat} {i : Int} {ls : Array Slot} (hI : LI dC dI dA k q m0 r o σ th H) (hS : va_S (kN0 k) s.heap H locs) (hi : 0 ≤ i ∧ i + 5 ≤ (L : Int)) (hcs : cs + 600 ≤ 707594) (hss : ss + 4000 ≤ 6979453) (h80 : 0 ≤ σ 8 0 ∧ σ 8 0 ≤ 100000) (hl : lv_has ls 7 [(4, .int (iZ i)), (3, .ref o), (2, .ref m0), (1, .ref (q 0)), (0, .ref b)])
    (kk : ∀ (r' : Nat → Nat → Nat) (σ' : Nat → Nat → Int) (th' : Int) (H' : Heap) (locs' : List Loc) (ls' : Array Slot), LI dC dI dA k q m0 r' o σ' th' H' → va_S (kN0 k) s.heap H' locs' → σ 8 0 ≤ σ' 8 0 ∧ σ' 8 0 ≤ σ 8 0 + 1 → lv_has ls' 7 [(4, .int (iZ i)), (3, .ref o), (2, .ref m0), (1, .ref (q 0)), (0, .ref b)] → W p l e room_1 s m #[Value.ref b] below meth c H' locs' (cs + 600) (ss + 4000) Q (F0 m 4485 ls' [])) :
    W p l e room_1 s m #[Value.ref b] below meth c H locs cs ss Q (F0 m 43 ls [.int (iZ 18)]) := by
  obtain ⟨hx, hb, hr9, hml, hown, hts, hX, hbl, hL5, hMJ, hL, hk0, hlocks⟩ := F
  obtain ⟨hG, hOK, hq, hY, hr, hO0, hko, ho9, h1, h2⟩ := id hI
  obtain ⟨sn, sv, -, hO⟩ := id hO0
  have hM := hMJ.1
  have hbA : ¬ kN0 k b := fun z => absurd (show k 0 ≤ b from z) (by omega)
  have hN : ∀ a, kN0 k a → k 0 ≤ a := fun _ h => h
  have hkH : k 0 ≤ H.size := by have := hS.1; omega
  refine lv_tableIn (tgt := 1822) (off := 1779) hx hb dL_law_43 (by rw [iZ_toInt (z := 18) (by omega)]; omega) (by rw [iZ_toInt (z := 18) (by omega)]; omega) (by rw [iZ_toInt (z := 18) (by omega)]; rfl) (by decide) ?_
  refine lv_aload_n hx hb dL_law_1822 rfl (lv_at hl 3 rfl) ?_
  refine lv_aload_n hx hb dL_law_1823 rfl (lv_at hl 4 rfl) ?_
  refine lv_iload hx hb dL_law_1824 (lv_at hl 0 rfl) ?_
  refine lv_iconst (v := iZ 1) hx hb dL_law_1826 rfl ?_
  refine kz_iadd hx hb dL_law_1827 ?_
  refine kz_sld hx hb hX hbl hbA hS (by omega) hL5 dL_law_1828 ?_
  refine lv_aload_n hx hb dL_law_1829 rfl (lv_at hl 4 rfl) ?_
  refine lv_iload hx hb dL_law_1830 (lv_at hl 0 rfl) ?_
  refine lv_iconst (v := iZ 2) hx hb dL_law_1832 rfl ?_
  refine kz_iadd hx hb dL_law_1833 ?_
  refine kz_sld hx hb hX hbl hbA hS (by omega) hL5 dL_law_1834 ?_
  refine lv_aload_n hx hb dL_law_1835 rfl (lv_at hl 1 rfl) ?_
  refine kc2 (vx_runSW (As := [.ref (q 0), .int (iZ (fx xs (i + 1))), .int (iZ (fx xs (i + 2))), .ref o]) (rest := []) ⟨hx, hb, hml, hown, hts⟩ (c_L_yearLike l hst dC dI dA k q σ _ hG hOK hq o sn sv hO hko ho9 ((fx xs (i + 1))) ((fx xs (i + 2))) (fx_rng _ _) (fx_rng _ _)) (vx_cwSW 4 hts (kg_S mw773 mw774 mw41 rfl mw775) rfl rfl rfl hdS_L_yearLike ⟨Nat.le_of_ble_eq_true rfl, Nat.le_of_ble_eq_true rfl⟩) ⟨fun a U g mk q => ⟨q.1, q.2.1, kMJ_call q.2.2.1, kL_call q.2.2.2⟩, fun U hU hW => ⟨rfl, hU, kMJ_kept hMJ hS hN hU hW, kL_warm hL hW⟩⟩ rfl rfl hl.1 rfl (lv_room (Nat.le_of_ble_eq_true rfl)) dL_law_1836 ⟨kroomC (by omega), kroomS (by omega)⟩) hS (fun a _ h => kAO_N hq hko hkH a h) (fun a h => kAO_N hq hko hkH a h) (fun H1 locs hC hy9 hk9 hS => ?_)
  obtain ⟨hG1, hO1⟩ := hC
  have hY1 := kY_keptO hY hk9 h1 h2
  have h8 : kOK8 σ (if ex2 (!inb (fx xs (i + 1)) 0 3 || !inb (fx xs (i + 2)) 0 3) (false) = 0 then (sU σ 2 ((fx xs (i + 1)).toNat) (σ 2 ((fx xs (i + 2)).toNat))) else σ) := k8_if hOK (fun h9 => k8m_yearLike hOK ((fx xs (i + 1))) ((fx xs (i + 2))) h9)
  have hkH1 : k 0 ≤ H1.size := Nat.le_trans hkH hy9
  clear hk9
  refine lv_istore (lv' := [(5, .int (iZ (ex2 (!inb (fx xs (i + 1)) 0 3 || !inb (fx xs (i + 2)) 0 3) (false)))), (4, .int (iZ i)), (3, .ref o), (2, .ref m0), (1, .ref (q 0)), (0, .ref b)]) hx hb dL_law_1839 hl (by decide) rfl (fun ls hl => ?_)
  refine lv_aload_n hx hb dL_law_1841 rfl (lv_at hl 3 rfl) ?_
  refine lv_aload_n hx hb dL_law_1842 rfl (lv_at hl 5 rfl) ?_
  refine lv_iload hx hb dL_law_1843 (lv_at hl 1 rfl) ?_
  refine lv_iconst (v := iZ 1) hx hb dL_law_1845 rfl ?_
  refine kz_iadd hx hb dL_law_1846 ?_
  refine kz_sld hx hb hX hbl hbA hS (by omega) hL5 dL_law_1847 ?_
  refine lv_aload_n hx hb dL_law_1848 rfl (lv_at hl 5 rfl) ?_
  refine lv_iload hx hb dL_law_1849 (lv_at hl 1 rfl) ?_
  refine lv_iconst (v := iZ 2) hx hb dL_law_1851 rfl ?_
  refine kz_iadd hx hb dL_law_1852 ?_
  refine kz_sld hx hb hX hbl hbA hS (by omega) hL5 dL_law_1853 ?_
  refine kc2 (va_runV (As := [.int (iZ (fx xs (i + 1))), .int (iZ (fx xs (i + 2)))]) (rest := []) ⟨hx, hb, hml, hown, hts⟩ (c_X3_yearLike l dC dI dA k m0 r σ th _ hY1 hr hOK ((fx xs (i + 1))) ((fx xs (i + 2))) (fx_rng _ _) (fx_rng _ _)) (cwV 2 hts (kg_V mw1171 mw1172 mw1173 mw47 rfl mw1174) rfl rfl rfl hdV_X3_yearLike ⟨Nat.le_of_ble_eq_true rfl, Nat.le_of_ble_eq_true rfl⟩) ⟨fun a U g mk q => ⟨q.1, q.2.1, kM_call q.2.2⟩, va_recv hM.1 hY1 (ci := 6) (q0 := 0) rfl rfl, fun U hU hW => ⟨rfl, hU, kM_kept hM hS hN hU hW⟩⟩ rfl rfl hl.1 rfl (lv_room (Nat.le_of_ble_eq_true rfl)) dL_law_1854 ⟨kroomC (by omega), kroomS (by omega)⟩) hS (fun a _ h => kAy_N hr hkH1 a h) (fun a h => kAy_N hr hkH1 a h) (fun H2 locs hC2 hy8 hk8 hS => ?_)
  obtain ⟨r2, hI2, hO2⟩ := LI_step hI hG1 hO1 hC2 hk8 h8
  refine lv_istore (lv' := [(6, .int (iZ (if ex2 (!inb (fx xs (i + 1)) 0 3 || !inb (fx xs (i + 2)) 0 3) (false) = 0 then (bZ (decide (σ 2 ((fx xs (i + 1)).toNat) = σ 2 ((fx xs (i + 2)).toNat)))) else 0))), (5, .int (iZ (ex2 (!inb (fx xs (i + 1)) 0 3 || !inb (fx xs (i + 2)) 0 3) (false)))), (4, .int (iZ i)), (3, .ref o), (2, .ref m0), (1, .ref (q 0)), (0, .ref b)]) hx hb dL_law_1857 hl (by decide) rfl (fun ls hl => ?_)
  refine lv_aload_n hx hb dL_law_1859 rfl (lv_at hl 4 rfl) ?_
  obtain ⟨hG2, hOK2, hq2, hY2, hr2, -⟩ := id hI2
  refine kc0 (fun _ q => q) (va_runV (As := []) (rest := []) ⟨hx, hb, hml, hown, hts⟩ (c_X3_thrown l dC dI dA k m0 r2 _ _ _ hY2 hr2 hOK2) (cwV 0 hts (kg_V mw1013 mw1014 mw1015 mw47 rfl mw1016) rfl rfl rfl hdV_X3_thrown ⟨Nat.le_of_ble_eq_true rfl, Nat.le_of_ble_eq_true rfl⟩) ⟨fun a U g mk q => ⟨q.1, q.2.1, kM_call q.2.2⟩, va_recv hM.1 hY2 (ci := 6) (q0 := 0) rfl rfl, fun U hU hW => ⟨rfl, hU, kM_kept hM hS hN hU hW⟩⟩ rfl rfl hl.1 rfl (lv_room (Nat.le_of_ble_eq_true rfl)) dL_law_1860 ⟨kroomC (by omega), kroomS (by omega)⟩) ?_
  refine lv_iload hx hb dL_law_1863 (lv_at hl 1 rfl) ?_
  refine kz_icmp_eq (tgt := 1870) hx hb (ex2_rng _ _) (ex2_rng _ _) dL_law_1865 (by decide) (fun c_1 => ?_) (fun c_1 => absurd rfl c_1)
  refine lv_iload hx hb dL_law_1870 (lv_at hl 1 rfl) ?_
  refine kz_if_ne (tgt := 1888) hx hb (ex2_rng _ _) dL_law_1872 (by decide) (fun c_2 => ?_) (fun c_2 => ?_)
  · refine lv_goto (tgt := 4485) hx hb dL_law_1888 (by decide) ?_
    refine W.widen (k := cs + 600) (n := ss + 4000) (by omega) (by omega) ?_
    exact kk r2 _ _ _ _ _ hI2 hS (by have h9 := h8.2; omega) (lv_sub hl [2, 3, 4, 5, 6] rfl)
  · refine lv_aload_n hx hb dL_law_1875 rfl (lv_at hl 3 rfl) ?_
    obtain ⟨nv, vv, hn, hPn⟩ := hO2
    have hn := hn c_2
    subst hn
    refine va_getN (D := (dC, dI)) (ci := 5) (v := .long (lZ (w32 (bZ (decide (σ 2 ((fx xs (i + 1)).toNat) = σ 2 ((fx xs (i + 2)).toNat))))))) (C := RX2) (T := TX2) (N := 2) hx hb hts (fun w h => List.mem_cons_of_mem _ (gF_1_in h)) hown hM.1 hPn 0 rfl rfl 0 (by decide) (va_Nw.use rfl hL.1) (fun _ h9 => h9) rfl dL_law_1876 ?_
    refine lv_iload hx hb dL_law_1879 (lv_at hl 0 rfl) ?_
    refine kz_w32 ?_
    refine kz_i2l hx hb (w32_rng _) dL_law_1881 ?_
    refine kz_lcmp_eq (tgt := 1888) hx hb (by first | exact w32_lrng _ | exact bZ_lrng _) (by first | exact w32_lrng _ | exact bZ_lrng _) dL_law_1882 dL_law_1883 (by decide) (fun c_3 => ?_) (fun c_3 => absurd (by first | rw [if_pos c_2] | exact congrArg bZ (by rw [decide_eq_true c_2, Bool.true_and]) | (rw [decide_eq_true c_2]; rfl) | (simp [c_2]; done)) c_3)
    refine lv_goto (tgt := 4485) hx hb dL_law_1888 (by decide) ?_
    refine W.widen (k := cs + 600) (n := ss + 4000) (by omega) (by omega) ?_
    exact kk r2 _ _ _ _ _ hI2 hS (by have h9 := h8.2; omega) (lv_sub hl [2, 3, 4, 5, 6] rfl)

set_option maxHeartbeats 4000000 in
set_option maxRecDepth 100000 in
theorem lc_19 {p : Program} {l : Launch} {e : Env} {s : State} {m : MethodId} {below : List Frame} {meth : Method} {c : Code} {Q : State → Prop} {b L : Nat} {xs : Nat → Int32} {dC : Nat → ClassId} {dI : Nat → Nat → Nat} {dA : Nat → ClassId} {k : Nat → Nat} (hst : l.stackTraces = false) (F : kF p s m meth c b L xs dC dI dA k)
    {q : Nat → Nat} {m0 : Nat} {r : Nat → Nat → Nat} {o : Nat} {σ : Nat → Nat → Int} {th : Int} {H : Heap} {locs : List Loc} {cs ss : Nat} {i : Int} {ls : Array Slot} (hI : LI dC dI dA k q m0 r o σ th H) (hS : va_S (kN0 k) s.heap H locs) (hi : 0 ≤ i ∧ i + 5 ≤ (L : Int)) (hcs : cs + 600 ≤ 707594) (hss : ss + 4000 ≤ 6979453) (h80 : 0 ≤ σ 8 0 ∧ σ 8 0 ≤ 100000) (hl : lv_has ls 7 [(4, .int (iZ i)), (3, .ref o), (2, .ref m0), (1, .ref (q 0)), (0, .ref b)])
    (kk : ∀ (r' : Nat → Nat → Nat) (σ' : Nat → Nat → Int) (th' : Int) (H' : Heap) (locs' : List Loc) (ls' : Array Slot), LI dC dI dA k q m0 r' o σ' th' H' → va_S (kN0 k) s.heap H' locs' → σ 8 0 ≤ σ' 8 0 ∧ σ' 8 0 ≤ σ 8 0 + 1 → lv_has ls' 7 [(4, .int (iZ i)), (3, .ref o), (2, .ref m0), (1, .ref (q 0)), (0, .ref b)] → W p l e room_1 s m #[Value.ref b] below meth c H' locs' (cs + 600) (ss + 4000) Q (F0 m 4485 ls' [])) :
    W p l e room_1 s m #[Value.ref b] below meth c H locs cs ss Q (F0 m 43 ls [.int (iZ 19)]) := by
  obtain ⟨hx, hb, hr9, hml, hown, hts, hX, hbl, hL5, hMJ, hL, hk0, hlocks⟩ := F
  obtain ⟨hG, hOK, hq, hY, hr, hO0, hko, ho9, h1, h2⟩ := id hI
  obtain ⟨sn, sv, -, hO⟩ := id hO0
  have hM := hMJ.1
  have hbA : ¬ kN0 k b := fun z => absurd (show k 0 ≤ b from z) (by omega)
  have hN : ∀ a, kN0 k a → k 0 ≤ a := fun _ h => h
  have hkH : k 0 ≤ H.size := by have := hS.1; omega
  refine lv_tableIn (tgt := 1891) (off := 1848) hx hb dL_law_43 (by rw [iZ_toInt (z := 19) (by omega)]; omega) (by rw [iZ_toInt (z := 19) (by omega)]; omega) (by rw [iZ_toInt (z := 19) (by omega)]; rfl) (by decide) ?_
  refine lv_aload_n hx hb dL_law_1891 rfl (lv_at hl 3 rfl) ?_
  refine lv_aload_n hx hb dL_law_1892 rfl (lv_at hl 4 rfl) ?_
  refine lv_iload hx hb dL_law_1893 (lv_at hl 0 rfl) ?_
  refine lv_iconst (v := iZ 1) hx hb dL_law_1895 rfl ?_
  refine kz_iadd hx hb dL_law_1896 ?_
  refine kz_sld hx hb hX hbl hbA hS (by omega) hL5 dL_law_1897 ?_
  refine lv_aload_n hx hb dL_law_1898 rfl (lv_at hl 4 rfl) ?_
  refine lv_iload hx hb dL_law_1899 (lv_at hl 0 rfl) ?_
  refine lv_iconst (v := iZ 2) hx hb dL_law_1901 rfl ?_
  refine kz_iadd hx hb dL_law_1902 ?_
  refine kz_sld hx hb hX hbl hbA hS (by omega) hL5 dL_law_1903 ?_
  refine lv_aload_n hx hb dL_law_1904 rfl (lv_at hl 4 rfl) ?_
  refine lv_iload hx hb dL_law_1905 (lv_at hl 0 rfl) ?_
  refine lv_iconst (v := iZ 3) hx hb dL_law_1907 rfl ?_
  refine kz_iadd hx hb dL_law_1908 ?_
  refine kz_sld hx hb hX hbl hbA hS (by omega) hL5 dL_law_1909 ?_
  refine lv_aload_n hx hb dL_law_1910 rfl (lv_at hl 1 rfl) ?_
  refine kc2 (vx_runSW (As := [.ref (q 0), .int (iZ (fx xs (i + 1))), .int (iZ (fx xs (i + 2))), .int (iZ (fx xs (i + 3))), .ref o]) (rest := []) ⟨hx, hb, hml, hown, hts⟩ (c_L_feast l hst dC dI dA k q σ _ hG hOK hq o sn sv hO hko ho9 ((fx xs (i + 1))) ((fx xs (i + 2))) ((fx xs (i + 3))) (fx_rng _ _) (fx_rng _ _) (fx_rng _ _)) (vx_cwSW 5 hts (kg_S mw780 mw781 mw41 rfl mw782) rfl rfl rfl hdS_L_feast ⟨Nat.le_of_ble_eq_true rfl, Nat.le_of_ble_eq_true rfl⟩) ⟨fun a U g mk q => ⟨q.1, q.2.1, kMJ_call q.2.2.1, kL_call q.2.2.2⟩, fun U hU hW => ⟨rfl, hU, kMJ_kept hMJ hS hN hU hW, kL_warm hL hW⟩⟩ rfl rfl hl.1 rfl (lv_room (Nat.le_of_ble_eq_true rfl)) dL_law_1911 ⟨kroomC (by omega), kroomS (by omega)⟩) hS (fun a _ h => kAO_N hq hko hkH a h) (fun a h => kAO_N hq hko hkH a h) (fun H1 locs hC hy9 hk9 hS => ?_)
  obtain ⟨hG1, hO1⟩ := hC
  have hY1 := kY_keptO hY hk9 h1 h2
  have h8 : kOK8 σ (if ex2 (!inb (fx xs (i + 1)) 0 3) (!inb (fx xs (i + 2)) 1 12 || !inb (fx xs (i + 3)) 1 31) = 0 then (putFs σ ((fx xs (i + 1)).toNat) (fx xs (i + 2)) (fx xs (i + 3))) else σ) := k8_if hOK (fun h9 => k8m_feast hOK ((fx xs (i + 1))) ((fx xs (i + 2))) ((fx xs (i + 3))) h9)
  have hkH1 : k 0 ≤ H1.size := Nat.le_trans hkH hy9
  clear hk9
  refine lv_istore (lv' := [(5, .int (iZ (ex2 (!inb (fx xs (i + 1)) 0 3) (!inb (fx xs (i + 2)) 1 12 || !inb (fx xs (i + 3)) 1 31)))), (4, .int (iZ i)), (3, .ref o), (2, .ref m0), (1, .ref (q 0)), (0, .ref b)]) hx hb dL_law_1914 hl (by decide) rfl (fun ls hl => ?_)
  refine lv_aload_n hx hb dL_law_1916 rfl (lv_at hl 3 rfl) ?_
  refine lv_aload_n hx hb dL_law_1917 rfl (lv_at hl 5 rfl) ?_
  refine lv_iload hx hb dL_law_1918 (lv_at hl 1 rfl) ?_
  refine lv_iconst (v := iZ 1) hx hb dL_law_1920 rfl ?_
  refine kz_iadd hx hb dL_law_1921 ?_
  refine kz_sld hx hb hX hbl hbA hS (by omega) hL5 dL_law_1922 ?_
  refine lv_aload_n hx hb dL_law_1923 rfl (lv_at hl 5 rfl) ?_
  refine lv_iload hx hb dL_law_1924 (lv_at hl 1 rfl) ?_
  refine lv_iconst (v := iZ 2) hx hb dL_law_1926 rfl ?_
  refine kz_iadd hx hb dL_law_1927 ?_
  refine kz_sld hx hb hX hbl hbA hS (by omega) hL5 dL_law_1928 ?_
  refine lv_aload_n hx hb dL_law_1929 rfl (lv_at hl 5 rfl) ?_
  refine lv_iload hx hb dL_law_1930 (lv_at hl 1 rfl) ?_
  refine lv_iconst (v := iZ 3) hx hb dL_law_1932 rfl ?_
  refine kz_iadd hx hb dL_law_1933 ?_
  refine kz_sld hx hb hX hbl hbA hS (by omega) hL5 dL_law_1934 ?_
  refine kc2 (va_runV (As := [.int (iZ (fx xs (i + 1))), .int (iZ (fx xs (i + 2))), .int (iZ (fx xs (i + 3)))]) (rest := []) ⟨hx, hb, hml, hown, hts⟩ (c_X3_feast l dC dI dA k m0 r σ th _ hY1 hr hOK ((fx xs (i + 1))) ((fx xs (i + 2))) ((fx xs (i + 3))) (fx_rng _ _) (fx_rng _ _) (fx_rng _ _)) (cwV 3 hts (kg_V mw1175 mw1176 mw1177 mw47 rfl mw1178) rfl rfl rfl hdV_X3_feast ⟨Nat.le_of_ble_eq_true rfl, Nat.le_of_ble_eq_true rfl⟩) ⟨fun a U g mk q => ⟨q.1, q.2.1, kM_call q.2.2⟩, va_recv hM.1 hY1 (ci := 6) (q0 := 0) rfl rfl, fun U hU hW => ⟨rfl, hU, kM_kept hM hS hN hU hW⟩⟩ rfl rfl hl.1 rfl (lv_room (Nat.le_of_ble_eq_true rfl)) dL_law_1935 ⟨kroomC (by omega), kroomS (by omega)⟩) hS (fun a _ h => kAy_N hr hkH1 a h) (fun a h => kAy_N hr hkH1 a h) (fun H2 locs hC2 hy8 hk8 hS => ?_)
  obtain ⟨r2, hI2, hO2⟩ := LI_step hI hG1 hO1 hC2 hk8 h8
  refine lv_istore (lv' := [(6, .int (iZ (if ex2 (!inb (fx xs (i + 1)) 0 3) (!inb (fx xs (i + 2)) 1 12 || !inb (fx xs (i + 3)) 1 31) = 0 then (if putFr (fx xs (i + 2)) (fx xs (i + 3)) = true then bZ (decide ((fx xs (i + 2)) ≠ 2 ∨ (fx xs (i + 3)) ≤ 28)) else -9) else 0))), (5, .int (iZ (ex2 (!inb (fx xs (i + 1)) 0 3) (!inb (fx xs (i + 2)) 1 12 || !inb (fx xs (i + 3)) 1 31)))), (4, .int (iZ i)), (3, .ref o), (2, .ref m0), (1, .ref (q 0)), (0, .ref b)]) hx hb dL_law_1938 hl (by decide) rfl (fun ls hl => ?_)
  refine lv_aload_n hx hb dL_law_1940 rfl (lv_at hl 4 rfl) ?_
  obtain ⟨hG2, hOK2, hq2, hY2, hr2, -⟩ := id hI2
  refine kc0 (fun _ q => q) (va_runV (As := []) (rest := []) ⟨hx, hb, hml, hown, hts⟩ (c_X3_thrown l dC dI dA k m0 r2 _ _ _ hY2 hr2 hOK2) (cwV 0 hts (kg_V mw1013 mw1014 mw1015 mw47 rfl mw1016) rfl rfl rfl hdV_X3_thrown ⟨Nat.le_of_ble_eq_true rfl, Nat.le_of_ble_eq_true rfl⟩) ⟨fun a U g mk q => ⟨q.1, q.2.1, kM_call q.2.2⟩, va_recv hM.1 hY2 (ci := 6) (q0 := 0) rfl rfl, fun U hU hW => ⟨rfl, hU, kM_kept hM hS hN hU hW⟩⟩ rfl rfl hl.1 rfl (lv_room (Nat.le_of_ble_eq_true rfl)) dL_law_1941 ⟨kroomC (by omega), kroomS (by omega)⟩) ?_
  refine lv_iload hx hb dL_law_1944 (lv_at hl 1 rfl) ?_
  refine kz_icmp_eq (tgt := 1951) hx hb (ex2_rng _ _) (ex2_rng _ _) dL_law_1946 (by decide) (fun c_1 => ?_) (fun c_1 => absurd rfl c_1)
  refine lv_iload hx hb dL_law_1951 (lv_at hl 1 rfl) ?_
  refine kz_if_ne (tgt := 1969) hx hb (ex2_rng _ _) dL_law_1953 (by decide) (fun c_2 => ?_) (fun c_2 => ?_)
  · refine lv_goto (tgt := 4485) hx hb dL_law_1969 (by decide) ?_
    refine W.widen (k := cs + 600) (n := ss + 4000) (by omega) (by omega) ?_
    exact kk r2 _ _ _ _ _ hI2 hS (by have h9 := h8.2; omega) (lv_sub hl [2, 3, 4, 5, 6] rfl)
  · refine lv_aload_n hx hb dL_law_1956 rfl (lv_at hl 3 rfl) ?_
    obtain ⟨nv, vv, hn, hPn⟩ := hO2
    have hn := hn c_2
    subst hn
    refine va_getN (D := (dC, dI)) (ci := 5) (v := .long (lZ (w32 (if putFr (fx xs (i + 2)) (fx xs (i + 3)) = true then bZ (decide ((fx xs (i + 2)) ≠ 2 ∨ (fx xs (i + 3)) ≤ 28)) else -9)))) (C := RX2) (T := TX2) (N := 2) hx hb hts (fun w h => List.mem_cons_of_mem _ (gF_1_in h)) hown hM.1 hPn 0 rfl rfl 0 (by decide) (va_Nw.use rfl hL.1) (fun _ h9 => h9) rfl dL_law_1957 ?_
    refine lv_iload hx hb dL_law_1960 (lv_at hl 0 rfl) ?_
    refine kz_w32 ?_
    refine kz_i2l hx hb (w32_rng _) dL_law_1962 ?_
    refine kz_lcmp_eq (tgt := 1969) hx hb (by first | exact w32_lrng _ | exact bZ_lrng _) (by first | exact w32_lrng _ | exact bZ_lrng _) dL_law_1963 dL_law_1964 (by decide) (fun c_3 => ?_) (fun c_3 => absurd (by first | rw [if_pos c_2] | exact congrArg bZ (by rw [decide_eq_true c_2, Bool.true_and]) | (rw [decide_eq_true c_2]; rfl) | (simp [c_2]; done)) c_3)
    refine lv_goto (tgt := 4485) hx hb dL_law_1969 (by decide) ?_
    refine W.widen (k := cs + 600) (n := ss + 4000) (by omega) (by omega) ?_
    exact kk r2 _ _ _ _ _ hI2 hS (by have h9 := h8.2; omega) (lv_sub hl [2, 3, 4, 5, 6] rfl)

set_option maxHeartbeats 4000000 in
set_option maxRecDepth 100000 in
theorem lc_20 {p : Program} {l : Launch} {e : Env} {s : State} {m : MethodId} {below : List Frame} {meth : Method} {c : Code} {Q : State → Prop} {b L : Nat} {xs : Nat → Int32} {dC : Nat → ClassId} {dI : Nat → Nat → Nat} {dA : Nat → ClassId} {k : Nat → Nat} (hst : l.stackTraces = false) (F : kF p s m meth c b L xs dC dI dA k)
    {q : Nat → Nat} {m0 : Nat} {r : Nat → Nat → Nat} {o : Nat} {σ : Nat → Nat → Int} {th : Int} {H : Heap} {locs : List Loc} {cs ss : Nat} {i : Int} {ls : Array Slot} (hI : LI dC dI dA k q m0 r o σ th H) (hS : va_S (kN0 k) s.heap H locs) (hi : 0 ≤ i ∧ i + 5 ≤ (L : Int)) (hcs : cs + 600 ≤ 707594) (hss : ss + 4000 ≤ 6979453) (h80 : 0 ≤ σ 8 0 ∧ σ 8 0 ≤ 100000) (hl : lv_has ls 7 [(4, .int (iZ i)), (3, .ref o), (2, .ref m0), (1, .ref (q 0)), (0, .ref b)])
    (kk : ∀ (r' : Nat → Nat → Nat) (σ' : Nat → Nat → Int) (th' : Int) (H' : Heap) (locs' : List Loc) (ls' : Array Slot), LI dC dI dA k q m0 r' o σ' th' H' → va_S (kN0 k) s.heap H' locs' → σ 8 0 ≤ σ' 8 0 ∧ σ' 8 0 ≤ σ 8 0 + 1 → lv_has ls' 7 [(4, .int (iZ i)), (3, .ref o), (2, .ref m0), (1, .ref (q 0)), (0, .ref b)] → W p l e room_1 s m #[Value.ref b] below meth c H' locs' (cs + 600) (ss + 4000) Q (F0 m 4485 ls' [])) :
    W p l e room_1 s m #[Value.ref b] below meth c H locs cs ss Q (F0 m 43 ls [.int (iZ 20)]) := by
  obtain ⟨hx, hb, hr9, hml, hown, hts, hX, hbl, hL5, hMJ, hL, hk0, hlocks⟩ := F
  obtain ⟨hG, hOK, hq, hY, hr, hO0, hko, ho9, h1, h2⟩ := id hI
  obtain ⟨sn, sv, -, hO⟩ := id hO0
  have hM := hMJ.1
  have hbA : ¬ kN0 k b := fun z => absurd (show k 0 ≤ b from z) (by omega)
  have hN : ∀ a, kN0 k a → k 0 ≤ a := fun _ h => h
  have hkH : k 0 ≤ H.size := by have := hS.1; omega
  refine lv_tableIn (tgt := 1972) (off := 1929) hx hb dL_law_43 (by rw [iZ_toInt (z := 20) (by omega)]; omega) (by rw [iZ_toInt (z := 20) (by omega)]; omega) (by rw [iZ_toInt (z := 20) (by omega)]; rfl) (by decide) ?_
  refine lv_aload_n hx hb dL_law_1972 rfl (lv_at hl 3 rfl) ?_
  refine lv_aload_n hx hb dL_law_1973 rfl (lv_at hl 4 rfl) ?_
  refine lv_iload hx hb dL_law_1974 (lv_at hl 0 rfl) ?_
  refine lv_iconst (v := iZ 1) hx hb dL_law_1976 rfl ?_
  refine kz_iadd hx hb dL_law_1977 ?_
  refine kz_sld hx hb hX hbl hbA hS (by omega) hL5 dL_law_1978 ?_
  refine lv_aload_n hx hb dL_law_1979 rfl (lv_at hl 4 rfl) ?_
  refine lv_iload hx hb dL_law_1980 (lv_at hl 0 rfl) ?_
  refine lv_iconst (v := iZ 2) hx hb dL_law_1982 rfl ?_
  refine kz_iadd hx hb dL_law_1983 ?_
  refine kz_sld hx hb hX hbl hbA hS (by omega) hL5 dL_law_1984 ?_
  refine lv_aload_n hx hb dL_law_1985 rfl (lv_at hl 4 rfl) ?_
  refine lv_iload hx hb dL_law_1986 (lv_at hl 0 rfl) ?_
  refine lv_iconst (v := iZ 3) hx hb dL_law_1988 rfl ?_
  refine kz_iadd hx hb dL_law_1989 ?_
  refine kz_sld hx hb hX hbl hbA hS (by omega) hL5 dL_law_1990 ?_
  refine lv_aload_n hx hb dL_law_1991 rfl (lv_at hl 1 rfl) ?_
  refine kc2 (vx_runSW (As := [.ref (q 0), .int (iZ (fx xs (i + 1))), .int (iZ (fx xs (i + 2))), .int (iZ (fx xs (i + 3))), .ref o]) (rest := []) ⟨hx, hb, hml, hown, hts⟩ (c_L_feastRound l hst dC dI dA k q σ _ hG hOK hq o sn sv hO hko ho9 ((fx xs (i + 1))) ((fx xs (i + 2))) ((fx xs (i + 3))) (fx_rng _ _) (fx_rng _ _) (fx_rng _ _)) (vx_cwSW 5 hts (kg_S mw793 mw794 mw41 rfl mw795) rfl rfl rfl hdS_L_feastRound ⟨Nat.le_of_ble_eq_true rfl, Nat.le_of_ble_eq_true rfl⟩) ⟨fun a U g mk q => ⟨q.1, q.2.1, kMJ_call q.2.2.1, kL_call q.2.2.2⟩, fun U hU hW => ⟨rfl, hU, kMJ_kept hMJ hS hN hU hW, kL_warm hL hW⟩⟩ rfl rfl hl.1 rfl (lv_room (Nat.le_of_ble_eq_true rfl)) dL_law_1992 ⟨kroomC (by omega), kroomS (by omega)⟩) hS (fun a _ h => kAO_N hq hko hkH a h) (fun a h => kAO_N hq hko hkH a h) (fun H1 locs hC hy9 hk9 hS => ?_)
  obtain ⟨hG1, hO1⟩ := hC
  have hY1 := kY_keptO hY hk9 h1 h2
  have h8 : kOK8 σ (if ex2 (!inb (fx xs (i + 1)) 0 3) (!inb (fx xs (i + 3)) 1 31) = 0 then (putFs σ ((fx xs (i + 1)).toNat) (1 + (fx xs (i + 2)) % 12) (fx xs (i + 3))) else σ) := k8_if hOK (fun h9 => k8m_feastRound hOK ((fx xs (i + 1))) ((fx xs (i + 2))) ((fx xs (i + 3))) h9)
  have hkH1 : k 0 ≤ H1.size := Nat.le_trans hkH hy9
  clear hk9
  refine lv_istore (lv' := [(5, .int (iZ (ex2 (!inb (fx xs (i + 1)) 0 3) (!inb (fx xs (i + 3)) 1 31)))), (4, .int (iZ i)), (3, .ref o), (2, .ref m0), (1, .ref (q 0)), (0, .ref b)]) hx hb dL_law_1995 hl (by decide) rfl (fun ls hl => ?_)
  refine lv_aload_n hx hb dL_law_1997 rfl (lv_at hl 3 rfl) ?_
  refine lv_aload_n hx hb dL_law_1998 rfl (lv_at hl 5 rfl) ?_
  refine lv_iload hx hb dL_law_1999 (lv_at hl 1 rfl) ?_
  refine lv_iconst (v := iZ 1) hx hb dL_law_2001 rfl ?_
  refine kz_iadd hx hb dL_law_2002 ?_
  refine kz_sld hx hb hX hbl hbA hS (by omega) hL5 dL_law_2003 ?_
  refine lv_aload_n hx hb dL_law_2004 rfl (lv_at hl 5 rfl) ?_
  refine lv_iload hx hb dL_law_2005 (lv_at hl 1 rfl) ?_
  refine lv_iconst (v := iZ 2) hx hb dL_law_2007 rfl ?_
  refine kz_iadd hx hb dL_law_2008 ?_
  refine kz_sld hx hb hX hbl hbA hS (by omega) hL5 dL_law_2009 ?_
  refine lv_aload_n hx hb dL_law_2010 rfl (lv_at hl 5 rfl) ?_
  refine lv_iload hx hb dL_law_2011 (lv_at hl 1 rfl) ?_
  refine lv_iconst (v := iZ 3) hx hb dL_law_2013 rfl ?_
  refine kz_iadd hx hb dL_law_2014 ?_
  refine kz_sld hx hb hX hbl hbA hS (by omega) hL5 dL_law_2015 ?_
  refine kc2 (va_runV (As := [.int (iZ (fx xs (i + 1))), .int (iZ (fx xs (i + 2))), .int (iZ (fx xs (i + 3)))]) (rest := []) ⟨hx, hb, hml, hown, hts⟩ (c_X3_feastRound l dC dI dA k m0 r σ th _ hY1 hr hOK ((fx xs (i + 1))) ((fx xs (i + 2))) ((fx xs (i + 3))) (fx_rng _ _) (fx_rng _ _) (fx_rng _ _)) (cwV 3 hts (kg_V mw1186 mw1187 mw1188 mw47 rfl mw1189) rfl rfl rfl hdV_X3_feastRound ⟨Nat.le_of_ble_eq_true rfl, Nat.le_of_ble_eq_true rfl⟩) ⟨fun a U g mk q => ⟨q.1, q.2.1, kM_call q.2.2⟩, va_recv hM.1 hY1 (ci := 6) (q0 := 0) rfl rfl, fun U hU hW => ⟨rfl, hU, kM_kept hM hS hN hU hW⟩⟩ rfl rfl hl.1 rfl (lv_room (Nat.le_of_ble_eq_true rfl)) dL_law_2016 ⟨kroomC (by omega), kroomS (by omega)⟩) hS (fun a _ h => kAy_N hr hkH1 a h) (fun a h => kAy_N hr hkH1 a h) (fun H2 locs hC2 hy8 hk8 hS => ?_)
  obtain ⟨r2, hI2, hO2⟩ := LI_step hI hG1 hO1 hC2 hk8 h8
  refine lv_istore (lv' := [(6, .int (iZ (if ex2 (!inb (fx xs (i + 1)) 0 3) (!inb (fx xs (i + 3)) 1 31) = 0 then (if putFr (1 + (fx xs (i + 2)) % 12) (fx xs (i + 3)) = true then 1 + (fx xs (i + 2)) % 12 else -9) else 0))), (5, .int (iZ (ex2 (!inb (fx xs (i + 1)) 0 3) (!inb (fx xs (i + 3)) 1 31)))), (4, .int (iZ i)), (3, .ref o), (2, .ref m0), (1, .ref (q 0)), (0, .ref b)]) hx hb dL_law_2019 hl (by decide) rfl (fun ls hl => ?_)
  refine lv_aload_n hx hb dL_law_2021 rfl (lv_at hl 4 rfl) ?_
  obtain ⟨hG2, hOK2, hq2, hY2, hr2, -⟩ := id hI2
  refine kc0 (fun _ q => q) (va_runV (As := []) (rest := []) ⟨hx, hb, hml, hown, hts⟩ (c_X3_thrown l dC dI dA k m0 r2 _ _ _ hY2 hr2 hOK2) (cwV 0 hts (kg_V mw1013 mw1014 mw1015 mw47 rfl mw1016) rfl rfl rfl hdV_X3_thrown ⟨Nat.le_of_ble_eq_true rfl, Nat.le_of_ble_eq_true rfl⟩) ⟨fun a U g mk q => ⟨q.1, q.2.1, kM_call q.2.2⟩, va_recv hM.1 hY2 (ci := 6) (q0 := 0) rfl rfl, fun U hU hW => ⟨rfl, hU, kM_kept hM hS hN hU hW⟩⟩ rfl rfl hl.1 rfl (lv_room (Nat.le_of_ble_eq_true rfl)) dL_law_2022 ⟨kroomC (by omega), kroomS (by omega)⟩) ?_
  refine lv_iload hx hb dL_law_2025 (lv_at hl 1 rfl) ?_
  refine kz_icmp_eq (tgt := 2032) hx hb (ex2_rng _ _) (ex2_rng _ _) dL_law_2027 (by decide) (fun c_1 => ?_) (fun c_1 => absurd rfl c_1)
  refine lv_iload hx hb dL_law_2032 (lv_at hl 1 rfl) ?_
  refine kz_if_ne (tgt := 2050) hx hb (ex2_rng _ _) dL_law_2034 (by decide) (fun c_2 => ?_) (fun c_2 => ?_)
  · refine lv_goto (tgt := 4485) hx hb dL_law_2050 (by decide) ?_
    refine W.widen (k := cs + 600) (n := ss + 4000) (by omega) (by omega) ?_
    exact kk r2 _ _ _ _ _ hI2 hS (by have h9 := h8.2; omega) (lv_sub hl [2, 3, 4, 5, 6] rfl)
  · refine lv_aload_n hx hb dL_law_2037 rfl (lv_at hl 3 rfl) ?_
    obtain ⟨nv, vv, hn, hPn⟩ := hO2
    have hn := hn c_2
    subst hn
    refine va_getN (D := (dC, dI)) (ci := 5) (v := .long (lZ (w32 (if putFr (1 + (fx xs (i + 2)) % 12) (fx xs (i + 3)) = true then 1 + (fx xs (i + 2)) % 12 else -9)))) (C := RX2) (T := TX2) (N := 2) hx hb hts (fun w h => List.mem_cons_of_mem _ (gF_1_in h)) hown hM.1 hPn 0 rfl rfl 0 (by decide) (va_Nw.use rfl hL.1) (fun _ h9 => h9) rfl dL_law_2038 ?_
    refine lv_iload hx hb dL_law_2041 (lv_at hl 0 rfl) ?_
    refine kz_w32 ?_
    refine kz_i2l hx hb (w32_rng _) dL_law_2043 ?_
    refine kz_lcmp_eq (tgt := 2050) hx hb (by first | exact w32_lrng _ | exact bZ_lrng _) (by first | exact w32_lrng _ | exact bZ_lrng _) dL_law_2044 dL_law_2045 (by decide) (fun c_3 => ?_) (fun c_3 => absurd (by first | rw [if_pos c_2] | exact congrArg bZ (by rw [decide_eq_true c_2, Bool.true_and]) | (rw [decide_eq_true c_2]; rfl) | (simp [c_2]; done)) c_3)
    refine lv_goto (tgt := 4485) hx hb dL_law_2050 (by decide) ?_
    refine W.widen (k := cs + 600) (n := ss + 4000) (by omega) (by omega) ?_
    exact kk r2 _ _ _ _ _ hI2 hS (by have h9 := h8.2; omega) (lv_sub hl [2, 3, 4, 5, 6] rfl)

set_option maxHeartbeats 4000000 in
set_option maxRecDepth 100000 in
theorem lc_21 {p : Program} {l : Launch} {e : Env} {s : State} {m : MethodId} {below : List Frame} {meth : Method} {c : Code} {Q : State → Prop} {b L : Nat} {xs : Nat → Int32} {dC : Nat → ClassId} {dI : Nat → Nat → Nat} {dA : Nat → ClassId} {k : Nat → Nat} (hst : l.stackTraces = false) (F : kF p s m meth c b L xs dC dI dA k)
    {q : Nat → Nat} {m0 : Nat} {r : Nat → Nat → Nat} {o : Nat} {σ : Nat → Nat → Int} {th : Int} {H : Heap} {locs : List Loc} {cs ss : Nat} {i : Int} {ls : Array Slot} (hI : LI dC dI dA k q m0 r o σ th H) (hS : va_S (kN0 k) s.heap H locs) (hi : 0 ≤ i ∧ i + 5 ≤ (L : Int)) (hcs : cs + 600 ≤ 707594) (hss : ss + 4000 ≤ 6979453) (h80 : 0 ≤ σ 8 0 ∧ σ 8 0 ≤ 100000) (hl : lv_has ls 7 [(4, .int (iZ i)), (3, .ref o), (2, .ref m0), (1, .ref (q 0)), (0, .ref b)])
    (kk : ∀ (r' : Nat → Nat → Nat) (σ' : Nat → Nat → Int) (th' : Int) (H' : Heap) (locs' : List Loc) (ls' : Array Slot), LI dC dI dA k q m0 r' o σ' th' H' → va_S (kN0 k) s.heap H' locs' → σ 8 0 ≤ σ' 8 0 ∧ σ' 8 0 ≤ σ 8 0 + 1 → lv_has ls' 7 [(4, .int (iZ i)), (3, .ref o), (2, .ref m0), (1, .ref (q 0)), (0, .ref b)] → W p l e room_1 s m #[Value.ref b] below meth c H' locs' (cs + 600) (ss + 4000) Q (F0 m 4485 ls' [])) :
    W p l e room_1 s m #[Value.ref b] below meth c H locs cs ss Q (F0 m 43 ls [.int (iZ 21)]) := by
  obtain ⟨hx, hb, hr9, hml, hown, hts, hX, hbl, hL5, hMJ, hL, hk0, hlocks⟩ := F
  obtain ⟨hG, hOK, hq, hY, hr, hO0, hko, ho9, h1, h2⟩ := id hI
  obtain ⟨sn, sv, -, hO⟩ := id hO0
  have hM := hMJ.1
  have hbA : ¬ kN0 k b := fun z => absurd (show k 0 ≤ b from z) (by omega)
  have hN : ∀ a, kN0 k a → k 0 ≤ a := fun _ h => h
  have hkH : k 0 ≤ H.size := by have := hS.1; omega
  refine lv_tableIn (tgt := 2053) (off := 2010) hx hb dL_law_43 (by rw [iZ_toInt (z := 21) (by omega)]; omega) (by rw [iZ_toInt (z := 21) (by omega)]; omega) (by rw [iZ_toInt (z := 21) (by omega)]; rfl) (by decide) ?_
  refine lv_aload_n hx hb dL_law_2053 rfl (lv_at hl 3 rfl) ?_
  refine lv_aload_n hx hb dL_law_2054 rfl (lv_at hl 4 rfl) ?_
  refine lv_iload hx hb dL_law_2055 (lv_at hl 0 rfl) ?_
  refine lv_iconst (v := iZ 1) hx hb dL_law_2057 rfl ?_
  refine kz_iadd hx hb dL_law_2058 ?_
  refine kz_sld hx hb hX hbl hbA hS (by omega) hL5 dL_law_2059 ?_
  refine lv_aload_n hx hb dL_law_2060 rfl (lv_at hl 4 rfl) ?_
  refine lv_iload hx hb dL_law_2061 (lv_at hl 0 rfl) ?_
  refine lv_iconst (v := iZ 2) hx hb dL_law_2063 rfl ?_
  refine kz_iadd hx hb dL_law_2064 ?_
  refine kz_sld hx hb hX hbl hbA hS (by omega) hL5 dL_law_2065 ?_
  refine lv_aload_n hx hb dL_law_2066 rfl (lv_at hl 4 rfl) ?_
  refine lv_iload hx hb dL_law_2067 (lv_at hl 0 rfl) ?_
  refine lv_iconst (v := iZ 3) hx hb dL_law_2069 rfl ?_
  refine kz_iadd hx hb dL_law_2070 ?_
  refine kz_sld hx hb hX hbl hbA hS (by omega) hL5 dL_law_2071 ?_
  refine kz_b2i hx hb (fx_rng _ _) dL_law_2072 dL_law_2075 dL_law_2076 dL_law_2079 ?_
  refine lv_aload_n hx hb dL_law_2080 rfl (lv_at hl 1 rfl) ?_
  refine kc2 (vx_runSW (As := [.ref (q 0), .int (iZ (fx xs (i + 1))), .int (iZ (fx xs (i + 2))), .int (iZ (bZ (!decide (fx xs (i + 3) = 0)))), .ref o]) (rest := []) ⟨hx, hb, hml, hown, hts⟩ (c_L_feastMonth l hst dC dI dA k q σ _ hG hOK hq o sn sv hO hko ho9 ((fx xs (i + 1))) ((fx xs (i + 2))) (!decide (fx xs (i + 3) = 0)) (fx_rng _ _) (fx_rng _ _)) (vx_cwSW 5 hts (kg_S mw800 mw801 mw41 rfl mw802) rfl rfl rfl hdS_L_feastMonth ⟨Nat.le_of_ble_eq_true rfl, Nat.le_of_ble_eq_true rfl⟩) ⟨fun a U g mk q => ⟨q.1, q.2.1, kMJ_call q.2.2.1, kL_call q.2.2.2⟩, fun U hU hW => ⟨rfl, hU, kMJ_kept hMJ hS hN hU hW, kL_warm hL hW⟩⟩ rfl rfl hl.1 rfl (lv_room (Nat.le_of_ble_eq_true rfl)) dL_law_2081 ⟨kroomC (by omega), kroomS (by omega)⟩) hS (fun a _ h => kAO_N hq hko hkH a h) (fun a h => kAO_N hq hko hkH a h) (fun H1 locs hC hy9 hk9 hS => ?_)
  obtain ⟨hG1, hO1⟩ := hC
  have hY1 := kY_keptO hY hk9 h1 h2
  have h8 : kOK8 σ (if ex2 (!inb (fx xs (i + 1)) 0 3) (!inb (fx xs (i + 2)) 1 12) = 0 then (putFs σ ((fx xs (i + 1)).toNat) (fx xs (i + 2)) (mn2 (σ 4 ((fx xs (i + 1)).toNat)) (mlen true (fx xs (i + 2))))) else σ) := k8_if hOK (fun h9 => k8m_feastMonth hOK ((fx xs (i + 1))) ((fx xs (i + 2))) (!decide (fx xs (i + 3) = 0)) h9)
  have hkH1 : k 0 ≤ H1.size := Nat.le_trans hkH hy9
  clear hk9
  refine lv_istore (lv' := [(5, .int (iZ (ex2 (!inb (fx xs (i + 1)) 0 3) (!inb (fx xs (i + 2)) 1 12)))), (4, .int (iZ i)), (3, .ref o), (2, .ref m0), (1, .ref (q 0)), (0, .ref b)]) hx hb dL_law_2084 hl (by decide) rfl (fun ls hl => ?_)
  refine lv_aload_n hx hb dL_law_2086 rfl (lv_at hl 3 rfl) ?_
  refine lv_aload_n hx hb dL_law_2087 rfl (lv_at hl 5 rfl) ?_
  refine lv_iload hx hb dL_law_2088 (lv_at hl 1 rfl) ?_
  refine lv_iconst (v := iZ 1) hx hb dL_law_2090 rfl ?_
  refine kz_iadd hx hb dL_law_2091 ?_
  refine kz_sld hx hb hX hbl hbA hS (by omega) hL5 dL_law_2092 ?_
  refine lv_aload_n hx hb dL_law_2093 rfl (lv_at hl 5 rfl) ?_
  refine lv_iload hx hb dL_law_2094 (lv_at hl 1 rfl) ?_
  refine lv_iconst (v := iZ 2) hx hb dL_law_2096 rfl ?_
  refine kz_iadd hx hb dL_law_2097 ?_
  refine kz_sld hx hb hX hbl hbA hS (by omega) hL5 dL_law_2098 ?_
  refine lv_aload_n hx hb dL_law_2099 rfl (lv_at hl 5 rfl) ?_
  refine lv_iload hx hb dL_law_2100 (lv_at hl 1 rfl) ?_
  refine lv_iconst (v := iZ 3) hx hb dL_law_2102 rfl ?_
  refine kz_iadd hx hb dL_law_2103 ?_
  refine kz_sld hx hb hX hbl hbA hS (by omega) hL5 dL_law_2104 ?_
  refine kz_b2i hx hb (fx_rng _ _) dL_law_2105 dL_law_2108 dL_law_2109 dL_law_2112 ?_
  refine kc2 (va_runV (As := [.int (iZ (fx xs (i + 1))), .int (iZ (fx xs (i + 2))), .int (iZ (bZ (!decide (fx xs (i + 3) = 0))))]) (rest := []) ⟨hx, hb, hml, hown, hts⟩ (c_X3_feastMonth l dC dI dA k m0 r σ th _ hY1 hr hOK ((fx xs (i + 1))) ((fx xs (i + 2))) (!decide (fx xs (i + 3) = 0)) (fx_rng _ _) (fx_rng _ _)) (cwV 3 hts (kg_V mw1190 mw1191 mw1192 mw47 rfl mw1193) rfl rfl rfl hdV_X3_feastMonth ⟨Nat.le_of_ble_eq_true rfl, Nat.le_of_ble_eq_true rfl⟩) ⟨fun a U g mk q => ⟨q.1, q.2.1, kM_call q.2.2⟩, va_recv hM.1 hY1 (ci := 6) (q0 := 0) rfl rfl, fun U hU hW => ⟨rfl, hU, kM_kept hM hS hN hU hW⟩⟩ rfl rfl hl.1 rfl (lv_room (Nat.le_of_ble_eq_true rfl)) dL_law_2113 ⟨kroomC (by omega), kroomS (by omega)⟩) hS (fun a _ h => kAy_N hr hkH1 a h) (fun a h => kAy_N hr hkH1 a h) (fun H2 locs hC2 hy8 hk8 hS => ?_)
  obtain ⟨r2, hI2, hO2⟩ := LI_step hI hG1 hO1 hC2 hk8 h8
  refine lv_istore (lv' := [(6, .int (iZ (if ex2 (!inb (fx xs (i + 1)) 0 3) (!inb (fx xs (i + 2)) 1 12) = 0 then (mn2 (σ 4 ((fx xs (i + 1)).toNat)) (mlen true (fx xs (i + 2)))) else 0))), (5, .int (iZ (ex2 (!inb (fx xs (i + 1)) 0 3) (!inb (fx xs (i + 2)) 1 12)))), (4, .int (iZ i)), (3, .ref o), (2, .ref m0), (1, .ref (q 0)), (0, .ref b)]) hx hb dL_law_2116 hl (by decide) rfl (fun ls hl => ?_)
  refine lv_aload_n hx hb dL_law_2118 rfl (lv_at hl 4 rfl) ?_
  obtain ⟨hG2, hOK2, hq2, hY2, hr2, -⟩ := id hI2
  refine kc0 (fun _ q => q) (va_runV (As := []) (rest := []) ⟨hx, hb, hml, hown, hts⟩ (c_X3_thrown l dC dI dA k m0 r2 _ _ _ hY2 hr2 hOK2) (cwV 0 hts (kg_V mw1013 mw1014 mw1015 mw47 rfl mw1016) rfl rfl rfl hdV_X3_thrown ⟨Nat.le_of_ble_eq_true rfl, Nat.le_of_ble_eq_true rfl⟩) ⟨fun a U g mk q => ⟨q.1, q.2.1, kM_call q.2.2⟩, va_recv hM.1 hY2 (ci := 6) (q0 := 0) rfl rfl, fun U hU hW => ⟨rfl, hU, kM_kept hM hS hN hU hW⟩⟩ rfl rfl hl.1 rfl (lv_room (Nat.le_of_ble_eq_true rfl)) dL_law_2119 ⟨kroomC (by omega), kroomS (by omega)⟩) ?_
  refine lv_iload hx hb dL_law_2122 (lv_at hl 1 rfl) ?_
  refine kz_icmp_eq (tgt := 2129) hx hb (ex2_rng _ _) (ex2_rng _ _) dL_law_2124 (by decide) (fun c_1 => ?_) (fun c_1 => absurd rfl c_1)
  refine lv_iload hx hb dL_law_2129 (lv_at hl 1 rfl) ?_
  refine kz_if_ne (tgt := 2147) hx hb (ex2_rng _ _) dL_law_2131 (by decide) (fun c_2 => ?_) (fun c_2 => ?_)
  · refine lv_goto (tgt := 4485) hx hb dL_law_2147 (by decide) ?_
    refine W.widen (k := cs + 600) (n := ss + 4000) (by omega) (by omega) ?_
    exact kk r2 _ _ _ _ _ hI2 hS (by have h9 := h8.2; omega) (lv_sub hl [2, 3, 4, 5, 6] rfl)
  · refine lv_aload_n hx hb dL_law_2134 rfl (lv_at hl 3 rfl) ?_
    obtain ⟨nv, vv, hn, hPn⟩ := hO2
    have hn := hn c_2
    subst hn
    refine va_getN (D := (dC, dI)) (ci := 5) (v := .long (lZ (w32 (mn2 (σ 4 ((fx xs (i + 1)).toNat)) (mlen true (fx xs (i + 2))))))) (C := RX2) (T := TX2) (N := 2) hx hb hts (fun w h => List.mem_cons_of_mem _ (gF_1_in h)) hown hM.1 hPn 0 rfl rfl 0 (by decide) (va_Nw.use rfl hL.1) (fun _ h9 => h9) rfl dL_law_2135 ?_
    refine lv_iload hx hb dL_law_2138 (lv_at hl 0 rfl) ?_
    refine kz_w32 ?_
    refine kz_i2l hx hb (w32_rng _) dL_law_2140 ?_
    refine kz_lcmp_eq (tgt := 2147) hx hb (by first | exact w32_lrng _ | exact bZ_lrng _) (by first | exact w32_lrng _ | exact bZ_lrng _) dL_law_2141 dL_law_2142 (by decide) (fun c_3 => ?_) (fun c_3 => absurd (by first | rw [if_pos c_2] | exact congrArg bZ (by rw [decide_eq_true c_2, Bool.true_and]) | (rw [decide_eq_true c_2]; rfl) | (simp [c_2]; done)) c_3)
    refine lv_goto (tgt := 4485) hx hb dL_law_2147 (by decide) ?_
    refine W.widen (k := cs + 600) (n := ss + 4000) (by omega) (by omega) ?_
    exact kk r2 _ _ _ _ _ hI2 hS (by have h9 := h8.2; omega) (lv_sub hl [2, 3, 4, 5, 6] rfl)

set_option maxHeartbeats 4000000 in
set_option maxRecDepth 100000 in
theorem lc_22 {p : Program} {l : Launch} {e : Env} {s : State} {m : MethodId} {below : List Frame} {meth : Method} {c : Code} {Q : State → Prop} {b L : Nat} {xs : Nat → Int32} {dC : Nat → ClassId} {dI : Nat → Nat → Nat} {dA : Nat → ClassId} {k : Nat → Nat} (hst : l.stackTraces = false) (F : kF p s m meth c b L xs dC dI dA k)
    {q : Nat → Nat} {m0 : Nat} {r : Nat → Nat → Nat} {o : Nat} {σ : Nat → Nat → Int} {th : Int} {H : Heap} {locs : List Loc} {cs ss : Nat} {i : Int} {ls : Array Slot} (hI : LI dC dI dA k q m0 r o σ th H) (hS : va_S (kN0 k) s.heap H locs) (hi : 0 ≤ i ∧ i + 5 ≤ (L : Int)) (hcs : cs + 600 ≤ 707594) (hss : ss + 4000 ≤ 6979453) (h80 : 0 ≤ σ 8 0 ∧ σ 8 0 ≤ 100000) (hl : lv_has ls 7 [(4, .int (iZ i)), (3, .ref o), (2, .ref m0), (1, .ref (q 0)), (0, .ref b)])
    (kk : ∀ (r' : Nat → Nat → Nat) (σ' : Nat → Nat → Int) (th' : Int) (H' : Heap) (locs' : List Loc) (ls' : Array Slot), LI dC dI dA k q m0 r' o σ' th' H' → va_S (kN0 k) s.heap H' locs' → σ 8 0 ≤ σ' 8 0 ∧ σ' 8 0 ≤ σ 8 0 + 1 → lv_has ls' 7 [(4, .int (iZ i)), (3, .ref o), (2, .ref m0), (1, .ref (q 0)), (0, .ref b)] → W p l e room_1 s m #[Value.ref b] below meth c H' locs' (cs + 600) (ss + 4000) Q (F0 m 4485 ls' [])) :
    W p l e room_1 s m #[Value.ref b] below meth c H locs cs ss Q (F0 m 43 ls [.int (iZ 22)]) := by
  obtain ⟨hx, hb, hr9, hml, hown, hts, hX, hbl, hL5, hMJ, hL, hk0, hlocks⟩ := F
  obtain ⟨hG, hOK, hq, hY, hr, hO0, hko, ho9, h1, h2⟩ := id hI
  obtain ⟨sn, sv, -, hO⟩ := id hO0
  have hM := hMJ.1
  have hbA : ¬ kN0 k b := fun z => absurd (show k 0 ≤ b from z) (by omega)
  have hN : ∀ a, kN0 k a → k 0 ≤ a := fun _ h => h
  have hkH : k 0 ≤ H.size := by have := hS.1; omega
  refine lv_tableIn (tgt := 2150) (off := 2107) hx hb dL_law_43 (by rw [iZ_toInt (z := 22) (by omega)]; omega) (by rw [iZ_toInt (z := 22) (by omega)]; omega) (by rw [iZ_toInt (z := 22) (by omega)]; rfl) (by decide) ?_
  refine lv_aload_n hx hb dL_law_2150 rfl (lv_at hl 3 rfl) ?_
  refine lv_aload_n hx hb dL_law_2151 rfl (lv_at hl 4 rfl) ?_
  refine lv_iload hx hb dL_law_2152 (lv_at hl 0 rfl) ?_
  refine lv_iconst (v := iZ 1) hx hb dL_law_2154 rfl ?_
  refine kz_iadd hx hb dL_law_2155 ?_
  refine kz_sld hx hb hX hbl hbA hS (by omega) hL5 dL_law_2156 ?_
  refine lv_aload_n hx hb dL_law_2157 rfl (lv_at hl 4 rfl) ?_
  refine lv_iload hx hb dL_law_2158 (lv_at hl 0 rfl) ?_
  refine lv_iconst (v := iZ 2) hx hb dL_law_2160 rfl ?_
  refine kz_iadd hx hb dL_law_2161 ?_
  refine kz_sld hx hb hX hbl hbA hS (by omega) hL5 dL_law_2162 ?_
  refine lv_aload_n hx hb dL_law_2163 rfl (lv_at hl 4 rfl) ?_
  refine lv_iload hx hb dL_law_2164 (lv_at hl 0 rfl) ?_
  refine lv_iconst (v := iZ 3) hx hb dL_law_2166 rfl ?_
  refine kz_iadd hx hb dL_law_2167 ?_
  refine kz_sld hx hb hX hbl hbA hS (by omega) hL5 dL_law_2168 ?_
  refine kz_b2i hx hb (fx_rng _ _) dL_law_2169 dL_law_2172 dL_law_2173 dL_law_2176 ?_
  refine lv_aload_n hx hb dL_law_2177 rfl (lv_at hl 1 rfl) ?_
  refine kc2 (vx_runSW (As := [.ref (q 0), .int (iZ (fx xs (i + 1))), .int (iZ (fx xs (i + 2))), .int (iZ (bZ (!decide (fx xs (i + 3) = 0)))), .ref o]) (rest := []) ⟨hx, hb, hml, hown, hts⟩ (c_L_feastDay l hst dC dI dA k q σ _ hG hOK hq o sn sv hO hko ho9 ((fx xs (i + 1))) ((fx xs (i + 2))) (!decide (fx xs (i + 3) = 0)) (fx_rng _ _) (fx_rng _ _)) (vx_cwSW 5 hts (kg_S mw808 mw809 mw41 rfl mw810) rfl rfl rfl hdS_L_feastDay ⟨Nat.le_of_ble_eq_true rfl, Nat.le_of_ble_eq_true rfl⟩) ⟨fun a U g mk q => ⟨q.1, q.2.1, kMJ_call q.2.2.1, kL_call q.2.2.2⟩, fun U hU hW => ⟨rfl, hU, kMJ_kept hMJ hS hN hU hW, kL_warm hL hW⟩⟩ rfl rfl hl.1 rfl (lv_room (Nat.le_of_ble_eq_true rfl)) dL_law_2178 ⟨kroomC (by omega), kroomS (by omega)⟩) hS (fun a _ h => kAO_N hq hko hkH a h) (fun a h => kAO_N hq hko hkH a h) (fun H1 locs hC hy9 hk9 hS => ?_)
  obtain ⟨hG1, hO1⟩ := hC
  have hY1 := kY_keptO hY hk9 h1 h2
  have h8 : kOK8 σ (if ex2 (!inb (fx xs (i + 1)) 0 3) (!inb (fx xs (i + 2)) 1 31) = 0 then (putFs σ ((fx xs (i + 1)).toNat) (σ 3 ((fx xs (i + 1)).toNat)) (fx xs (i + 2))) else σ) := k8_if hOK (fun h9 => k8m_feastDay hOK ((fx xs (i + 1))) ((fx xs (i + 2))) (!decide (fx xs (i + 3) = 0)) h9)
  have hkH1 : k 0 ≤ H1.size := Nat.le_trans hkH hy9
  clear hk9
  refine lv_istore (lv' := [(5, .int (iZ (ex2 (!inb (fx xs (i + 1)) 0 3) (!inb (fx xs (i + 2)) 1 31)))), (4, .int (iZ i)), (3, .ref o), (2, .ref m0), (1, .ref (q 0)), (0, .ref b)]) hx hb dL_law_2181 hl (by decide) rfl (fun ls hl => ?_)
  refine lv_aload_n hx hb dL_law_2183 rfl (lv_at hl 3 rfl) ?_
  refine lv_aload_n hx hb dL_law_2184 rfl (lv_at hl 5 rfl) ?_
  refine lv_iload hx hb dL_law_2185 (lv_at hl 1 rfl) ?_
  refine lv_iconst (v := iZ 1) hx hb dL_law_2187 rfl ?_
  refine kz_iadd hx hb dL_law_2188 ?_
  refine kz_sld hx hb hX hbl hbA hS (by omega) hL5 dL_law_2189 ?_
  refine lv_aload_n hx hb dL_law_2190 rfl (lv_at hl 5 rfl) ?_
  refine lv_iload hx hb dL_law_2191 (lv_at hl 1 rfl) ?_
  refine lv_iconst (v := iZ 2) hx hb dL_law_2193 rfl ?_
  refine kz_iadd hx hb dL_law_2194 ?_
  refine kz_sld hx hb hX hbl hbA hS (by omega) hL5 dL_law_2195 ?_
  refine lv_aload_n hx hb dL_law_2196 rfl (lv_at hl 5 rfl) ?_
  refine lv_iload hx hb dL_law_2197 (lv_at hl 1 rfl) ?_
  refine lv_iconst (v := iZ 3) hx hb dL_law_2199 rfl ?_
  refine kz_iadd hx hb dL_law_2200 ?_
  refine kz_sld hx hb hX hbl hbA hS (by omega) hL5 dL_law_2201 ?_
  refine kz_b2i hx hb (fx_rng _ _) dL_law_2202 dL_law_2205 dL_law_2206 dL_law_2209 ?_
  refine kc2 (va_runV (As := [.int (iZ (fx xs (i + 1))), .int (iZ (fx xs (i + 2))), .int (iZ (bZ (!decide (fx xs (i + 3) = 0))))]) (rest := []) ⟨hx, hb, hml, hown, hts⟩ (c_X3_feastDay l dC dI dA k m0 r σ th _ hY1 hr hOK ((fx xs (i + 1))) ((fx xs (i + 2))) (!decide (fx xs (i + 3) = 0)) (fx_rng _ _) (fx_rng _ _)) (cwV 3 hts (kg_V mw1195 mw1196 mw1197 mw47 rfl mw1198) rfl rfl rfl hdV_X3_feastDay ⟨Nat.le_of_ble_eq_true rfl, Nat.le_of_ble_eq_true rfl⟩) ⟨fun a U g mk q => ⟨q.1, q.2.1, kM_call q.2.2⟩, va_recv hM.1 hY1 (ci := 6) (q0 := 0) rfl rfl, fun U hU hW => ⟨rfl, hU, kM_kept hM hS hN hU hW⟩⟩ rfl rfl hl.1 rfl (lv_room (Nat.le_of_ble_eq_true rfl)) dL_law_2210 ⟨kroomC (by omega), kroomS (by omega)⟩) hS (fun a _ h => kAy_N hr hkH1 a h) (fun a h => kAy_N hr hkH1 a h) (fun H2 locs hC2 hy8 hk8 hS => ?_)
  obtain ⟨r2, hI2, hO2⟩ := LI_step hI hG1 hO1 hC2 hk8 h8
  refine lv_istore (lv' := [(6, .int (iZ (if ex2 (!inb (fx xs (i + 1)) 0 3) (!inb (fx xs (i + 2)) 1 31) = 0 then (if putFr (σ 3 ((fx xs (i + 1)).toNat)) (fx xs (i + 2)) = true then σ 4 ((fx xs (i + 1)).toNat) else -9) else 0))), (5, .int (iZ (ex2 (!inb (fx xs (i + 1)) 0 3) (!inb (fx xs (i + 2)) 1 31)))), (4, .int (iZ i)), (3, .ref o), (2, .ref m0), (1, .ref (q 0)), (0, .ref b)]) hx hb dL_law_2213 hl (by decide) rfl (fun ls hl => ?_)
  refine lv_aload_n hx hb dL_law_2215 rfl (lv_at hl 4 rfl) ?_
  obtain ⟨hG2, hOK2, hq2, hY2, hr2, -⟩ := id hI2
  refine kc0 (fun _ q => q) (va_runV (As := []) (rest := []) ⟨hx, hb, hml, hown, hts⟩ (c_X3_thrown l dC dI dA k m0 r2 _ _ _ hY2 hr2 hOK2) (cwV 0 hts (kg_V mw1013 mw1014 mw1015 mw47 rfl mw1016) rfl rfl rfl hdV_X3_thrown ⟨Nat.le_of_ble_eq_true rfl, Nat.le_of_ble_eq_true rfl⟩) ⟨fun a U g mk q => ⟨q.1, q.2.1, kM_call q.2.2⟩, va_recv hM.1 hY2 (ci := 6) (q0 := 0) rfl rfl, fun U hU hW => ⟨rfl, hU, kM_kept hM hS hN hU hW⟩⟩ rfl rfl hl.1 rfl (lv_room (Nat.le_of_ble_eq_true rfl)) dL_law_2216 ⟨kroomC (by omega), kroomS (by omega)⟩) ?_
  refine lv_iload hx hb dL_law_2219 (lv_at hl 1 rfl) ?_
  refine kz_icmp_eq (tgt := 2226) hx hb (ex2_rng _ _) (ex2_rng _ _) dL_law_2221 (by decide) (fun c_1 => ?_) (fun c_1 => absurd rfl c_1)
  refine lv_iload hx hb dL_law_2226 (lv_at hl 1 rfl) ?_
  refine kz_if_ne (tgt := 2244) hx hb (ex2_rng _ _) dL_law_2228 (by decide) (fun c_2 => ?_) (fun c_2 => ?_)
  · refine lv_goto (tgt := 4485) hx hb dL_law_2244 (by decide) ?_
    refine W.widen (k := cs + 600) (n := ss + 4000) (by omega) (by omega) ?_
    exact kk r2 _ _ _ _ _ hI2 hS (by have h9 := h8.2; omega) (lv_sub hl [2, 3, 4, 5, 6] rfl)
  · refine lv_aload_n hx hb dL_law_2231 rfl (lv_at hl 3 rfl) ?_
    obtain ⟨nv, vv, hn, hPn⟩ := hO2
    have hn := hn c_2
    subst hn
    refine va_getN (D := (dC, dI)) (ci := 5) (v := .long (lZ (w32 (if putFr (σ 3 ((fx xs (i + 1)).toNat)) (fx xs (i + 2)) = true then σ 4 ((fx xs (i + 1)).toNat) else -9)))) (C := RX2) (T := TX2) (N := 2) hx hb hts (fun w h => List.mem_cons_of_mem _ (gF_1_in h)) hown hM.1 hPn 0 rfl rfl 0 (by decide) (va_Nw.use rfl hL.1) (fun _ h9 => h9) rfl dL_law_2232 ?_
    refine lv_iload hx hb dL_law_2235 (lv_at hl 0 rfl) ?_
    refine kz_w32 ?_
    refine kz_i2l hx hb (w32_rng _) dL_law_2237 ?_
    refine kz_lcmp_eq (tgt := 2244) hx hb (by first | exact w32_lrng _ | exact bZ_lrng _) (by first | exact w32_lrng _ | exact bZ_lrng _) dL_law_2238 dL_law_2239 (by decide) (fun c_3 => ?_) (fun c_3 => absurd (by first | rw [if_pos c_2] | exact congrArg bZ (by rw [decide_eq_true c_2, Bool.true_and]) | (rw [decide_eq_true c_2]; rfl) | (simp [c_2]; done)) c_3)
    refine lv_goto (tgt := 4485) hx hb dL_law_2244 (by decide) ?_
    refine W.widen (k := cs + 600) (n := ss + 4000) (by omega) (by omega) ?_
    exact kk r2 _ _ _ _ _ hI2 hS (by have h9 := h8.2; omega) (lv_sub hl [2, 3, 4, 5, 6] rfl)

set_option maxHeartbeats 4000000 in
set_option maxRecDepth 100000 in
theorem lc_23 {p : Program} {l : Launch} {e : Env} {s : State} {m : MethodId} {below : List Frame} {meth : Method} {c : Code} {Q : State → Prop} {b L : Nat} {xs : Nat → Int32} {dC : Nat → ClassId} {dI : Nat → Nat → Nat} {dA : Nat → ClassId} {k : Nat → Nat} (hst : l.stackTraces = false) (F : kF p s m meth c b L xs dC dI dA k)
    {q : Nat → Nat} {m0 : Nat} {r : Nat → Nat → Nat} {o : Nat} {σ : Nat → Nat → Int} {th : Int} {H : Heap} {locs : List Loc} {cs ss : Nat} {i : Int} {ls : Array Slot} (hI : LI dC dI dA k q m0 r o σ th H) (hS : va_S (kN0 k) s.heap H locs) (hi : 0 ≤ i ∧ i + 5 ≤ (L : Int)) (hcs : cs + 600 ≤ 707594) (hss : ss + 4000 ≤ 6979453) (h80 : 0 ≤ σ 8 0 ∧ σ 8 0 ≤ 100000) (hl : lv_has ls 7 [(4, .int (iZ i)), (3, .ref o), (2, .ref m0), (1, .ref (q 0)), (0, .ref b)])
    (kk : ∀ (r' : Nat → Nat → Nat) (σ' : Nat → Nat → Int) (th' : Int) (H' : Heap) (locs' : List Loc) (ls' : Array Slot), LI dC dI dA k q m0 r' o σ' th' H' → va_S (kN0 k) s.heap H' locs' → σ 8 0 ≤ σ' 8 0 ∧ σ' 8 0 ≤ σ 8 0 + 1 → lv_has ls' 7 [(4, .int (iZ i)), (3, .ref o), (2, .ref m0), (1, .ref (q 0)), (0, .ref b)] → W p l e room_1 s m #[Value.ref b] below meth c H' locs' (cs + 600) (ss + 4000) Q (F0 m 4485 ls' [])) :
    W p l e room_1 s m #[Value.ref b] below meth c H locs cs ss Q (F0 m 43 ls [.int (iZ 23)]) := by
  obtain ⟨hx, hb, hr9, hml, hown, hts, hX, hbl, hL5, hMJ, hL, hk0, hlocks⟩ := F
  obtain ⟨hG, hOK, hq, hY, hr, hO0, hko, ho9, h1, h2⟩ := id hI
  obtain ⟨sn, sv, -, hO⟩ := id hO0
  have hM := hMJ.1
  have hbA : ¬ kN0 k b := fun z => absurd (show k 0 ≤ b from z) (by omega)
  have hN : ∀ a, kN0 k a → k 0 ≤ a := fun _ h => h
  have hkH : k 0 ≤ H.size := by have := hS.1; omega
  refine lv_tableIn (tgt := 2247) (off := 2204) hx hb dL_law_43 (by rw [iZ_toInt (z := 23) (by omega)]; omega) (by rw [iZ_toInt (z := 23) (by omega)]; omega) (by rw [iZ_toInt (z := 23) (by omega)]; rfl) (by decide) ?_
  refine lv_aload_n hx hb dL_law_2247 rfl (lv_at hl 3 rfl) ?_
  refine lv_aload_n hx hb dL_law_2248 rfl (lv_at hl 4 rfl) ?_
  refine lv_iload hx hb dL_law_2249 (lv_at hl 0 rfl) ?_
  refine lv_iconst (v := iZ 1) hx hb dL_law_2251 rfl ?_
  refine kz_iadd hx hb dL_law_2252 ?_
  refine kz_sld hx hb hX hbl hbA hS (by omega) hL5 dL_law_2253 ?_
  refine lv_aload_n hx hb dL_law_2254 rfl (lv_at hl 4 rfl) ?_
  refine lv_iload hx hb dL_law_2255 (lv_at hl 0 rfl) ?_
  refine lv_iconst (v := iZ 2) hx hb dL_law_2257 rfl ?_
  refine kz_iadd hx hb dL_law_2258 ?_
  refine kz_sld hx hb hX hbl hbA hS (by omega) hL5 dL_law_2259 ?_
  refine lv_aload_n hx hb dL_law_2260 rfl (lv_at hl 1 rfl) ?_
  refine kc2 (vx_runSW (As := [.ref (q 0), .int (iZ (fx xs (i + 1))), .int (iZ (fx xs (i + 2))), .ref o]) (rest := []) ⟨hx, hb, hml, hown, hts⟩ (c_L_feastOf l hst dC dI dA k q σ _ hG hOK hq o sn sv hO hko ho9 ((fx xs (i + 1))) ((fx xs (i + 2))) (fx_rng _ _) (fx_rng _ _)) (vx_cwSW 4 hts (kg_S mw815 mw816 mw41 rfl mw817) rfl rfl rfl hdS_L_feastOf ⟨Nat.le_of_ble_eq_true rfl, Nat.le_of_ble_eq_true rfl⟩) ⟨fun a U g mk q => ⟨q.1, q.2.1, kMJ_call q.2.2.1, kL_call q.2.2.2⟩, fun U hU hW => ⟨rfl, hU, kMJ_kept hMJ hS hN hU hW, kL_warm hL hW⟩⟩ rfl rfl hl.1 rfl (lv_room (Nat.le_of_ble_eq_true rfl)) dL_law_2261 ⟨kroomC (by omega), kroomS (by omega)⟩) hS (fun a _ h => kAO_N hq hko hkH a h) (fun a h => kAO_N hq hko hkH a h) (fun H1 locs hC hy9 hk9 hS => ?_)
  obtain ⟨hG1, hO1⟩ := hC
  have hY1 := kY_keptO hY hk9 h1 h2
  have h8 : kOK8 σ (if ex2 (!inb (fx xs (i + 1)) 0 3 || !inb (fx xs (i + 2)) 0 3) (false) = 0 then (putFs σ ((fx xs (i + 1)).toNat) (σ 6 ((fx xs (i + 2)).toNat)) (σ 7 ((fx xs (i + 2)).toNat))) else σ) := k8_if hOK (fun h9 => k8m_feastOf hOK ((fx xs (i + 1))) ((fx xs (i + 2))) h9)
  have hkH1 : k 0 ≤ H1.size := Nat.le_trans hkH hy9
  clear hk9
  refine lv_istore (lv' := [(5, .int (iZ (ex2 (!inb (fx xs (i + 1)) 0 3 || !inb (fx xs (i + 2)) 0 3) (false)))), (4, .int (iZ i)), (3, .ref o), (2, .ref m0), (1, .ref (q 0)), (0, .ref b)]) hx hb dL_law_2264 hl (by decide) rfl (fun ls hl => ?_)
  refine lv_aload_n hx hb dL_law_2266 rfl (lv_at hl 3 rfl) ?_
  refine lv_aload_n hx hb dL_law_2267 rfl (lv_at hl 5 rfl) ?_
  refine lv_iload hx hb dL_law_2268 (lv_at hl 1 rfl) ?_
  refine lv_iconst (v := iZ 1) hx hb dL_law_2270 rfl ?_
  refine kz_iadd hx hb dL_law_2271 ?_
  refine kz_sld hx hb hX hbl hbA hS (by omega) hL5 dL_law_2272 ?_
  refine lv_aload_n hx hb dL_law_2273 rfl (lv_at hl 5 rfl) ?_
  refine lv_iload hx hb dL_law_2274 (lv_at hl 1 rfl) ?_
  refine lv_iconst (v := iZ 2) hx hb dL_law_2276 rfl ?_
  refine kz_iadd hx hb dL_law_2277 ?_
  refine kz_sld hx hb hX hbl hbA hS (by omega) hL5 dL_law_2278 ?_
  refine kc2 (va_runV (As := [.int (iZ (fx xs (i + 1))), .int (iZ (fx xs (i + 2)))]) (rest := []) ⟨hx, hb, hml, hown, hts⟩ (c_X3_feastOf l dC dI dA k m0 r σ th _ hY1 hr hOK ((fx xs (i + 1))) ((fx xs (i + 2))) (fx_rng _ _) (fx_rng _ _)) (cwV 2 hts (kg_V mw1199 mw1200 mw1201 mw47 rfl mw1202) rfl rfl rfl hdV_X3_feastOf ⟨Nat.le_of_ble_eq_true rfl, Nat.le_of_ble_eq_true rfl⟩) ⟨fun a U g mk q => ⟨q.1, q.2.1, kM_call q.2.2⟩, va_recv hM.1 hY1 (ci := 6) (q0 := 0) rfl rfl, fun U hU hW => ⟨rfl, hU, kM_kept hM hS hN hU hW⟩⟩ rfl rfl hl.1 rfl (lv_room (Nat.le_of_ble_eq_true rfl)) dL_law_2279 ⟨kroomC (by omega), kroomS (by omega)⟩) hS (fun a _ h => kAy_N hr hkH1 a h) (fun a h => kAy_N hr hkH1 a h) (fun H2 locs hC2 hy8 hk8 hS => ?_)
  obtain ⟨r2, hI2, hO2⟩ := LI_step hI hG1 hO1 hC2 hk8 h8
  refine lv_istore (lv' := [(6, .int (iZ (if ex2 (!inb (fx xs (i + 1)) 0 3 || !inb (fx xs (i + 2)) 0 3) (false) = 0 then (bZ (decide (σ 6 ((fx xs (i + 2)).toNat) ≠ 2 ∨ σ 7 ((fx xs (i + 2)).toNat) ≤ 28))) else 0))), (5, .int (iZ (ex2 (!inb (fx xs (i + 1)) 0 3 || !inb (fx xs (i + 2)) 0 3) (false)))), (4, .int (iZ i)), (3, .ref o), (2, .ref m0), (1, .ref (q 0)), (0, .ref b)]) hx hb dL_law_2282 hl (by decide) rfl (fun ls hl => ?_)
  refine lv_aload_n hx hb dL_law_2284 rfl (lv_at hl 4 rfl) ?_
  obtain ⟨hG2, hOK2, hq2, hY2, hr2, -⟩ := id hI2
  refine kc0 (fun _ q => q) (va_runV (As := []) (rest := []) ⟨hx, hb, hml, hown, hts⟩ (c_X3_thrown l dC dI dA k m0 r2 _ _ _ hY2 hr2 hOK2) (cwV 0 hts (kg_V mw1013 mw1014 mw1015 mw47 rfl mw1016) rfl rfl rfl hdV_X3_thrown ⟨Nat.le_of_ble_eq_true rfl, Nat.le_of_ble_eq_true rfl⟩) ⟨fun a U g mk q => ⟨q.1, q.2.1, kM_call q.2.2⟩, va_recv hM.1 hY2 (ci := 6) (q0 := 0) rfl rfl, fun U hU hW => ⟨rfl, hU, kM_kept hM hS hN hU hW⟩⟩ rfl rfl hl.1 rfl (lv_room (Nat.le_of_ble_eq_true rfl)) dL_law_2285 ⟨kroomC (by omega), kroomS (by omega)⟩) ?_
  refine lv_iload hx hb dL_law_2288 (lv_at hl 1 rfl) ?_
  refine kz_icmp_eq (tgt := 2295) hx hb (ex2_rng _ _) (ex2_rng _ _) dL_law_2290 (by decide) (fun c_1 => ?_) (fun c_1 => absurd rfl c_1)
  refine lv_iload hx hb dL_law_2295 (lv_at hl 1 rfl) ?_
  refine kz_if_ne (tgt := 2313) hx hb (ex2_rng _ _) dL_law_2297 (by decide) (fun c_2 => ?_) (fun c_2 => ?_)
  · refine lv_goto (tgt := 4485) hx hb dL_law_2313 (by decide) ?_
    refine W.widen (k := cs + 600) (n := ss + 4000) (by omega) (by omega) ?_
    exact kk r2 _ _ _ _ _ hI2 hS (by have h9 := h8.2; omega) (lv_sub hl [2, 3, 4, 5, 6] rfl)
  · refine lv_aload_n hx hb dL_law_2300 rfl (lv_at hl 3 rfl) ?_
    obtain ⟨nv, vv, hn, hPn⟩ := hO2
    have hn := hn c_2
    subst hn
    refine va_getN (D := (dC, dI)) (ci := 5) (v := .long (lZ (w32 (bZ (decide (σ 6 ((fx xs (i + 2)).toNat) ≠ 2 ∨ σ 7 ((fx xs (i + 2)).toNat) ≤ 28)))))) (C := RX2) (T := TX2) (N := 2) hx hb hts (fun w h => List.mem_cons_of_mem _ (gF_1_in h)) hown hM.1 hPn 0 rfl rfl 0 (by decide) (va_Nw.use rfl hL.1) (fun _ h9 => h9) rfl dL_law_2301 ?_
    refine lv_iload hx hb dL_law_2304 (lv_at hl 0 rfl) ?_
    refine kz_w32 ?_
    refine kz_i2l hx hb (w32_rng _) dL_law_2306 ?_
    refine kz_lcmp_eq (tgt := 2313) hx hb (by first | exact w32_lrng _ | exact bZ_lrng _) (by first | exact w32_lrng _ | exact bZ_lrng _) dL_law_2307 dL_law_2308 (by decide) (fun c_3 => ?_) (fun c_3 => absurd (by first | rw [if_pos c_2] | exact congrArg bZ (by rw [decide_eq_true c_2, Bool.true_and]) | (rw [decide_eq_true c_2]; rfl) | (simp [c_2]; done)) c_3)
    refine lv_goto (tgt := 4485) hx hb dL_law_2313 (by decide) ?_
    refine W.widen (k := cs + 600) (n := ss + 4000) (by omega) (by omega) ?_
    exact kk r2 _ _ _ _ _ hI2 hS (by have h9 := h8.2; omega) (lv_sub hl [2, 3, 4, 5, 6] rfl)

set_option maxHeartbeats 4000000 in
set_option maxRecDepth 100000 in
theorem lc_24 {p : Program} {l : Launch} {e : Env} {s : State} {m : MethodId} {below : List Frame} {meth : Method} {c : Code} {Q : State → Prop} {b L : Nat} {xs : Nat → Int32} {dC : Nat → ClassId} {dI : Nat → Nat → Nat} {dA : Nat → ClassId} {k : Nat → Nat} (hst : l.stackTraces = false) (F : kF p s m meth c b L xs dC dI dA k)
    {q : Nat → Nat} {m0 : Nat} {r : Nat → Nat → Nat} {o : Nat} {σ : Nat → Nat → Int} {th : Int} {H : Heap} {locs : List Loc} {cs ss : Nat} {i : Int} {ls : Array Slot} (hI : LI dC dI dA k q m0 r o σ th H) (hS : va_S (kN0 k) s.heap H locs) (hi : 0 ≤ i ∧ i + 5 ≤ (L : Int)) (hcs : cs + 600 ≤ 707594) (hss : ss + 4000 ≤ 6979453) (h80 : 0 ≤ σ 8 0 ∧ σ 8 0 ≤ 100000) (hl : lv_has ls 7 [(4, .int (iZ i)), (3, .ref o), (2, .ref m0), (1, .ref (q 0)), (0, .ref b)])
    (kk : ∀ (r' : Nat → Nat → Nat) (σ' : Nat → Nat → Int) (th' : Int) (H' : Heap) (locs' : List Loc) (ls' : Array Slot), LI dC dI dA k q m0 r' o σ' th' H' → va_S (kN0 k) s.heap H' locs' → σ 8 0 ≤ σ' 8 0 ∧ σ' 8 0 ≤ σ 8 0 + 1 → lv_has ls' 7 [(4, .int (iZ i)), (3, .ref o), (2, .ref m0), (1, .ref (q 0)), (0, .ref b)] → W p l e room_1 s m #[Value.ref b] below meth c H' locs' (cs + 600) (ss + 4000) Q (F0 m 4485 ls' [])) :
    W p l e room_1 s m #[Value.ref b] below meth c H locs cs ss Q (F0 m 43 ls [.int (iZ 24)]) := by
  obtain ⟨hx, hb, hr9, hml, hown, hts, hX, hbl, hL5, hMJ, hL, hk0, hlocks⟩ := F
  obtain ⟨hG, hOK, hq, hY, hr, hO0, hko, ho9, h1, h2⟩ := id hI
  obtain ⟨sn, sv, -, hO⟩ := id hO0
  have hM := hMJ.1
  have hbA : ¬ kN0 k b := fun z => absurd (show k 0 ≤ b from z) (by omega)
  have hN : ∀ a, kN0 k a → k 0 ≤ a := fun _ h => h
  have hkH : k 0 ≤ H.size := by have := hS.1; omega
  refine lv_tableIn (tgt := 2316) (off := 2273) hx hb dL_law_43 (by rw [iZ_toInt (z := 24) (by omega)]; omega) (by rw [iZ_toInt (z := 24) (by omega)]; omega) (by rw [iZ_toInt (z := 24) (by omega)]; rfl) (by decide) ?_
  refine lv_aload_n hx hb dL_law_2316 rfl (lv_at hl 3 rfl) ?_
  refine lv_aload_n hx hb dL_law_2317 rfl (lv_at hl 4 rfl) ?_
  refine lv_iload hx hb dL_law_2318 (lv_at hl 0 rfl) ?_
  refine lv_iconst (v := iZ 1) hx hb dL_law_2320 rfl ?_
  refine kz_iadd hx hb dL_law_2321 ?_
  refine kz_sld hx hb hX hbl hbA hS (by omega) hL5 dL_law_2322 ?_
  refine lv_aload_n hx hb dL_law_2323 rfl (lv_at hl 4 rfl) ?_
  refine lv_iload hx hb dL_law_2324 (lv_at hl 0 rfl) ?_
  refine lv_iconst (v := iZ 2) hx hb dL_law_2326 rfl ?_
  refine kz_iadd hx hb dL_law_2327 ?_
  refine kz_sld hx hb hX hbl hbA hS (by omega) hL5 dL_law_2328 ?_
  refine lv_aload_n hx hb dL_law_2329 rfl (lv_at hl 1 rfl) ?_
  refine kc2 (vx_runSW (As := [.ref (q 0), .int (iZ (fx xs (i + 1))), .int (iZ (fx xs (i + 2))), .ref o]) (rest := []) ⟨hx, hb, hml, hown, hts⟩ (c_L_feastLike l hst dC dI dA k q σ _ hG hOK hq o sn sv hO hko ho9 ((fx xs (i + 1))) ((fx xs (i + 2))) (fx_rng _ _) (fx_rng _ _)) (vx_cwSW 4 hts (kg_S mw822 mw823 mw41 rfl mw824) rfl rfl rfl hdS_L_feastLike ⟨Nat.le_of_ble_eq_true rfl, Nat.le_of_ble_eq_true rfl⟩) ⟨fun a U g mk q => ⟨q.1, q.2.1, kMJ_call q.2.2.1, kL_call q.2.2.2⟩, fun U hU hW => ⟨rfl, hU, kMJ_kept hMJ hS hN hU hW, kL_warm hL hW⟩⟩ rfl rfl hl.1 rfl (lv_room (Nat.le_of_ble_eq_true rfl)) dL_law_2330 ⟨kroomC (by omega), kroomS (by omega)⟩) hS (fun a _ h => kAO_N hq hko hkH a h) (fun a h => kAO_N hq hko hkH a h) (fun H1 locs hC hy9 hk9 hS => ?_)
  obtain ⟨hG1, hO1⟩ := hC
  have hY1 := kY_keptO hY hk9 h1 h2
  have h8 : kOK8 σ (if ex2 (!inb (fx xs (i + 1)) 0 3 || !inb (fx xs (i + 2)) 0 3) (false) = 0 then (sU (sU σ 3 ((fx xs (i + 1)).toNat) (σ 3 ((fx xs (i + 2)).toNat))) 4 ((fx xs (i + 1)).toNat) (σ 4 ((fx xs (i + 2)).toNat))) else σ) := k8_if hOK (fun h9 => k8m_feastLike hOK ((fx xs (i + 1))) ((fx xs (i + 2))) h9)
  have hkH1 : k 0 ≤ H1.size := Nat.le_trans hkH hy9
  clear hk9
  refine lv_istore (lv' := [(5, .int (iZ (ex2 (!inb (fx xs (i + 1)) 0 3 || !inb (fx xs (i + 2)) 0 3) (false)))), (4, .int (iZ i)), (3, .ref o), (2, .ref m0), (1, .ref (q 0)), (0, .ref b)]) hx hb dL_law_2333 hl (by decide) rfl (fun ls hl => ?_)
  refine lv_aload_n hx hb dL_law_2335 rfl (lv_at hl 3 rfl) ?_
  refine lv_aload_n hx hb dL_law_2336 rfl (lv_at hl 5 rfl) ?_
  refine lv_iload hx hb dL_law_2337 (lv_at hl 1 rfl) ?_
  refine lv_iconst (v := iZ 1) hx hb dL_law_2339 rfl ?_
  refine kz_iadd hx hb dL_law_2340 ?_
  refine kz_sld hx hb hX hbl hbA hS (by omega) hL5 dL_law_2341 ?_
  refine lv_aload_n hx hb dL_law_2342 rfl (lv_at hl 5 rfl) ?_
  refine lv_iload hx hb dL_law_2343 (lv_at hl 1 rfl) ?_
  refine lv_iconst (v := iZ 2) hx hb dL_law_2345 rfl ?_
  refine kz_iadd hx hb dL_law_2346 ?_
  refine kz_sld hx hb hX hbl hbA hS (by omega) hL5 dL_law_2347 ?_
  refine kc2 (va_runV (As := [.int (iZ (fx xs (i + 1))), .int (iZ (fx xs (i + 2)))]) (rest := []) ⟨hx, hb, hml, hown, hts⟩ (c_X3_feastLike l dC dI dA k m0 r σ th _ hY1 hr hOK ((fx xs (i + 1))) ((fx xs (i + 2))) (fx_rng _ _) (fx_rng _ _)) (cwV 2 hts (kg_V mw1203 mw1204 mw1205 mw47 rfl mw1206) rfl rfl rfl hdV_X3_feastLike ⟨Nat.le_of_ble_eq_true rfl, Nat.le_of_ble_eq_true rfl⟩) ⟨fun a U g mk q => ⟨q.1, q.2.1, kM_call q.2.2⟩, va_recv hM.1 hY1 (ci := 6) (q0 := 0) rfl rfl, fun U hU hW => ⟨rfl, hU, kM_kept hM hS hN hU hW⟩⟩ rfl rfl hl.1 rfl (lv_room (Nat.le_of_ble_eq_true rfl)) dL_law_2348 ⟨kroomC (by omega), kroomS (by omega)⟩) hS (fun a _ h => kAy_N hr hkH1 a h) (fun a h => kAy_N hr hkH1 a h) (fun H2 locs hC2 hy8 hk8 hS => ?_)
  obtain ⟨r2, hI2, hO2⟩ := LI_step hI hG1 hO1 hC2 hk8 h8
  refine lv_istore (lv' := [(6, .int (iZ (if ex2 (!inb (fx xs (i + 1)) 0 3 || !inb (fx xs (i + 2)) 0 3) (false) = 0 then (bZ (decide (σ 3 ((fx xs (i + 1)).toNat) = σ 3 ((fx xs (i + 2)).toNat) ∧ σ 4 ((fx xs (i + 1)).toNat) = σ 4 ((fx xs (i + 2)).toNat)))) else 0))), (5, .int (iZ (ex2 (!inb (fx xs (i + 1)) 0 3 || !inb (fx xs (i + 2)) 0 3) (false)))), (4, .int (iZ i)), (3, .ref o), (2, .ref m0), (1, .ref (q 0)), (0, .ref b)]) hx hb dL_law_2351 hl (by decide) rfl (fun ls hl => ?_)
  refine lv_aload_n hx hb dL_law_2353 rfl (lv_at hl 4 rfl) ?_
  obtain ⟨hG2, hOK2, hq2, hY2, hr2, -⟩ := id hI2
  refine kc0 (fun _ q => q) (va_runV (As := []) (rest := []) ⟨hx, hb, hml, hown, hts⟩ (c_X3_thrown l dC dI dA k m0 r2 _ _ _ hY2 hr2 hOK2) (cwV 0 hts (kg_V mw1013 mw1014 mw1015 mw47 rfl mw1016) rfl rfl rfl hdV_X3_thrown ⟨Nat.le_of_ble_eq_true rfl, Nat.le_of_ble_eq_true rfl⟩) ⟨fun a U g mk q => ⟨q.1, q.2.1, kM_call q.2.2⟩, va_recv hM.1 hY2 (ci := 6) (q0 := 0) rfl rfl, fun U hU hW => ⟨rfl, hU, kM_kept hM hS hN hU hW⟩⟩ rfl rfl hl.1 rfl (lv_room (Nat.le_of_ble_eq_true rfl)) dL_law_2354 ⟨kroomC (by omega), kroomS (by omega)⟩) ?_
  refine lv_iload hx hb dL_law_2357 (lv_at hl 1 rfl) ?_
  refine kz_icmp_eq (tgt := 2364) hx hb (ex2_rng _ _) (ex2_rng _ _) dL_law_2359 (by decide) (fun c_1 => ?_) (fun c_1 => absurd rfl c_1)
  refine lv_iload hx hb dL_law_2364 (lv_at hl 1 rfl) ?_
  refine kz_if_ne (tgt := 2382) hx hb (ex2_rng _ _) dL_law_2366 (by decide) (fun c_2 => ?_) (fun c_2 => ?_)
  · refine lv_goto (tgt := 4485) hx hb dL_law_2382 (by decide) ?_
    refine W.widen (k := cs + 600) (n := ss + 4000) (by omega) (by omega) ?_
    exact kk r2 _ _ _ _ _ hI2 hS (by have h9 := h8.2; omega) (lv_sub hl [2, 3, 4, 5, 6] rfl)
  · refine lv_aload_n hx hb dL_law_2369 rfl (lv_at hl 3 rfl) ?_
    obtain ⟨nv, vv, hn, hPn⟩ := hO2
    have hn := hn c_2
    subst hn
    refine va_getN (D := (dC, dI)) (ci := 5) (v := .long (lZ (w32 (bZ (decide (σ 3 ((fx xs (i + 1)).toNat) = σ 3 ((fx xs (i + 2)).toNat) ∧ σ 4 ((fx xs (i + 1)).toNat) = σ 4 ((fx xs (i + 2)).toNat))))))) (C := RX2) (T := TX2) (N := 2) hx hb hts (fun w h => List.mem_cons_of_mem _ (gF_1_in h)) hown hM.1 hPn 0 rfl rfl 0 (by decide) (va_Nw.use rfl hL.1) (fun _ h9 => h9) rfl dL_law_2370 ?_
    refine lv_iload hx hb dL_law_2373 (lv_at hl 0 rfl) ?_
    refine kz_w32 ?_
    refine kz_i2l hx hb (w32_rng _) dL_law_2375 ?_
    refine kz_lcmp_eq (tgt := 2382) hx hb (by first | exact w32_lrng _ | exact bZ_lrng _) (by first | exact w32_lrng _ | exact bZ_lrng _) dL_law_2376 dL_law_2377 (by decide) (fun c_3 => ?_) (fun c_3 => absurd (by first | rw [if_pos c_2] | exact congrArg bZ (by rw [decide_eq_true c_2, Bool.true_and]) | (rw [decide_eq_true c_2]; rfl) | (simp [c_2]; done)) c_3)
    refine lv_goto (tgt := 4485) hx hb dL_law_2382 (by decide) ?_
    refine W.widen (k := cs + 600) (n := ss + 4000) (by omega) (by omega) ?_
    exact kk r2 _ _ _ _ _ hI2 hS (by have h9 := h8.2; omega) (lv_sub hl [2, 3, 4, 5, 6] rfl)

set_option maxHeartbeats 4000000 in
set_option maxRecDepth 100000 in
theorem lc_25 {p : Program} {l : Launch} {e : Env} {s : State} {m : MethodId} {below : List Frame} {meth : Method} {c : Code} {Q : State → Prop} {b L : Nat} {xs : Nat → Int32} {dC : Nat → ClassId} {dI : Nat → Nat → Nat} {dA : Nat → ClassId} {k : Nat → Nat} (hst : l.stackTraces = false) (F : kF p s m meth c b L xs dC dI dA k)
    {q : Nat → Nat} {m0 : Nat} {r : Nat → Nat → Nat} {o : Nat} {σ : Nat → Nat → Int} {th : Int} {H : Heap} {locs : List Loc} {cs ss : Nat} {i : Int} {ls : Array Slot} (hI : LI dC dI dA k q m0 r o σ th H) (hS : va_S (kN0 k) s.heap H locs) (hi : 0 ≤ i ∧ i + 5 ≤ (L : Int)) (hcs : cs + 600 ≤ 707594) (hss : ss + 4000 ≤ 6979453) (h80 : 0 ≤ σ 8 0 ∧ σ 8 0 ≤ 100000) (hl : lv_has ls 7 [(4, .int (iZ i)), (3, .ref o), (2, .ref m0), (1, .ref (q 0)), (0, .ref b)])
    (kk : ∀ (r' : Nat → Nat → Nat) (σ' : Nat → Nat → Int) (th' : Int) (H' : Heap) (locs' : List Loc) (ls' : Array Slot), LI dC dI dA k q m0 r' o σ' th' H' → va_S (kN0 k) s.heap H' locs' → σ 8 0 ≤ σ' 8 0 ∧ σ' 8 0 ≤ σ 8 0 + 1 → lv_has ls' 7 [(4, .int (iZ i)), (3, .ref o), (2, .ref m0), (1, .ref (q 0)), (0, .ref b)] → W p l e room_1 s m #[Value.ref b] below meth c H' locs' (cs + 600) (ss + 4000) Q (F0 m 4485 ls' [])) :
    W p l e room_1 s m #[Value.ref b] below meth c H locs cs ss Q (F0 m 43 ls [.int (iZ 25)]) := by
  obtain ⟨hx, hb, hr9, hml, hown, hts, hX, hbl, hL5, hMJ, hL, hk0, hlocks⟩ := F
  obtain ⟨hG, hOK, hq, hY, hr, hO0, hko, ho9, h1, h2⟩ := id hI
  obtain ⟨sn, sv, -, hO⟩ := id hO0
  have hM := hMJ.1
  have hbA : ¬ kN0 k b := fun z => absurd (show k 0 ≤ b from z) (by omega)
  have hN : ∀ a, kN0 k a → k 0 ≤ a := fun _ h => h
  have hkH : k 0 ≤ H.size := by have := hS.1; omega
  refine lv_tableIn (tgt := 2385) (off := 2342) hx hb dL_law_43 (by rw [iZ_toInt (z := 25) (by omega)]; omega) (by rw [iZ_toInt (z := 25) (by omega)]; omega) (by rw [iZ_toInt (z := 25) (by omega)]; rfl) (by decide) ?_
  refine lv_aload_n hx hb dL_law_2385 rfl (lv_at hl 3 rfl) ?_
  refine lv_aload_n hx hb dL_law_2386 rfl (lv_at hl 4 rfl) ?_
  refine lv_iload hx hb dL_law_2387 (lv_at hl 0 rfl) ?_
  refine lv_iconst (v := iZ 1) hx hb dL_law_2389 rfl ?_
  refine kz_iadd hx hb dL_law_2390 ?_
  refine kz_sld hx hb hX hbl hbA hS (by omega) hL5 dL_law_2391 ?_
  refine lv_aload_n hx hb dL_law_2392 rfl (lv_at hl 4 rfl) ?_
  refine lv_iload hx hb dL_law_2393 (lv_at hl 0 rfl) ?_
  refine lv_iconst (v := iZ 2) hx hb dL_law_2395 rfl ?_
  refine kz_iadd hx hb dL_law_2396 ?_
  refine kz_sld hx hb hX hbl hbA hS (by omega) hL5 dL_law_2397 ?_
  refine lv_aload_n hx hb dL_law_2398 rfl (lv_at hl 4 rfl) ?_
  refine lv_iload hx hb dL_law_2399 (lv_at hl 0 rfl) ?_
  refine lv_iconst (v := iZ 3) hx hb dL_law_2401 rfl ?_
  refine kz_iadd hx hb dL_law_2402 ?_
  refine kz_sld hx hb hX hbl hbA hS (by omega) hL5 dL_law_2403 ?_
  refine lv_aload_n hx hb dL_law_2404 rfl (lv_at hl 1 rfl) ?_
  refine kc2 (vx_runSW (As := [.ref (q 0), .int (iZ (fx xs (i + 1))), .int (iZ (fx xs (i + 2))), .int (iZ (fx xs (i + 3))), .ref o]) (rest := []) ⟨hx, hb, hml, hown, hts⟩ (c_L_dayAt l hst dC dI dA k q σ _ hG hOK hq o sn sv hO hko ho9 ((fx xs (i + 1))) ((fx xs (i + 2))) ((fx xs (i + 3))) (fx_rng _ _) (fx_rng _ _) (fx_rng _ _)) (vx_cwSW 5 hts (kg_S mw829 mw830 mw41 rfl mw831) rfl rfl rfl hdS_L_dayAt ⟨Nat.le_of_ble_eq_true rfl, Nat.le_of_ble_eq_true rfl⟩) ⟨fun a U g mk q => ⟨q.1, q.2.1, kMJ_call q.2.2.1, kL_call q.2.2.2⟩, fun U hU hW => ⟨rfl, hU, kMJ_kept hMJ hS hN hU hW, kL_warm hL hW⟩⟩ rfl rfl hl.1 rfl (lv_room (Nat.le_of_ble_eq_true rfl)) dL_law_2405 ⟨kroomC (by omega), kroomS (by omega)⟩) hS (fun a _ h => kAO_N hq hko hkH a h) (fun a h => kAO_N hq hko hkH a h) (fun H1 locs hC hy9 hk9 hS => ?_)
  obtain ⟨hG1, hO1⟩ := hC
  have hY1 := kY_keptO hY hk9 h1 h2
  have h8 : kOK8 σ (if ex2 (!inb (fx xs (i + 1)) 0 3 || !inb (fx xs (i + 2)) 0 3) (!inb (fx xs (i + 3)) 1 31) = 0 then (if (fx xs (i + 3)) ≤ mlen (leap (σ 0 ((fx xs (i + 2)).toNat))) (σ 1 ((fx xs (i + 2)).toNat)) then setD σ ((fx xs (i + 1)).toNat) (σ 0 ((fx xs (i + 2)).toNat)) (σ 1 ((fx xs (i + 2)).toNat)) (fx xs (i + 3)) else σ) else σ) := k8_if hOK (fun h9 => k8m_dayAt hOK ((fx xs (i + 1))) ((fx xs (i + 2))) ((fx xs (i + 3))) h9)
  have hkH1 : k 0 ≤ H1.size := Nat.le_trans hkH hy9
  clear hk9
  refine lv_istore (lv' := [(5, .int (iZ (ex2 (!inb (fx xs (i + 1)) 0 3 || !inb (fx xs (i + 2)) 0 3) (!inb (fx xs (i + 3)) 1 31)))), (4, .int (iZ i)), (3, .ref o), (2, .ref m0), (1, .ref (q 0)), (0, .ref b)]) hx hb dL_law_2408 hl (by decide) rfl (fun ls hl => ?_)
  refine lv_aload_n hx hb dL_law_2410 rfl (lv_at hl 3 rfl) ?_
  refine lv_aload_n hx hb dL_law_2411 rfl (lv_at hl 5 rfl) ?_
  refine lv_iload hx hb dL_law_2412 (lv_at hl 1 rfl) ?_
  refine lv_iconst (v := iZ 1) hx hb dL_law_2414 rfl ?_
  refine kz_iadd hx hb dL_law_2415 ?_
  refine kz_sld hx hb hX hbl hbA hS (by omega) hL5 dL_law_2416 ?_
  refine lv_aload_n hx hb dL_law_2417 rfl (lv_at hl 5 rfl) ?_
  refine lv_iload hx hb dL_law_2418 (lv_at hl 1 rfl) ?_
  refine lv_iconst (v := iZ 2) hx hb dL_law_2420 rfl ?_
  refine kz_iadd hx hb dL_law_2421 ?_
  refine kz_sld hx hb hX hbl hbA hS (by omega) hL5 dL_law_2422 ?_
  refine lv_aload_n hx hb dL_law_2423 rfl (lv_at hl 5 rfl) ?_
  refine lv_iload hx hb dL_law_2424 (lv_at hl 1 rfl) ?_
  refine lv_iconst (v := iZ 3) hx hb dL_law_2426 rfl ?_
  refine kz_iadd hx hb dL_law_2427 ?_
  refine kz_sld hx hb hX hbl hbA hS (by omega) hL5 dL_law_2428 ?_
  refine kc2 (va_runV (As := [.int (iZ (fx xs (i + 1))), .int (iZ (fx xs (i + 2))), .int (iZ (fx xs (i + 3)))]) (rest := []) ⟨hx, hb, hml, hown, hts⟩ (c_X3_dayAt l dC dI dA k m0 r σ th _ hY1 hr hOK ((fx xs (i + 1))) ((fx xs (i + 2))) ((fx xs (i + 3))) (fx_rng _ _) (fx_rng _ _) (fx_rng _ _)) (cwV 3 hts (kg_V mw1207 mw1208 mw1209 mw47 rfl mw1210) rfl rfl rfl hdV_X3_dayAt ⟨Nat.le_of_ble_eq_true rfl, Nat.le_of_ble_eq_true rfl⟩) ⟨fun a U g mk q => ⟨q.1, q.2.1, kM_call q.2.2⟩, va_recv hM.1 hY1 (ci := 6) (q0 := 0) rfl rfl, fun U hU hW => ⟨rfl, hU, kM_kept hM hS hN hU hW⟩⟩ rfl rfl hl.1 rfl (lv_room (Nat.le_of_ble_eq_true rfl)) dL_law_2429 ⟨kroomC (by omega), kroomS (by omega)⟩) hS (fun a _ h => kAy_N hr hkH1 a h) (fun a h => kAy_N hr hkH1 a h) (fun H2 locs hC2 hy8 hk8 hS => ?_)
  obtain ⟨r2, hI2, hO2⟩ := LI_step hI hG1 hO1 hC2 hk8 h8
  refine lv_istore (lv' := [(6, .int (iZ (if ex2 (!inb (fx xs (i + 1)) 0 3 || !inb (fx xs (i + 2)) 0 3) (!inb (fx xs (i + 3)) 1 31) = 0 then (if (fx xs (i + 3)) ≤ mlen (leap (σ 0 ((fx xs (i + 2)).toNat))) (σ 1 ((fx xs (i + 2)).toNat)) then 1 + (dnum (σ 0 ((fx xs (i + 2)).toNat)) (σ 1 ((fx xs (i + 2)).toNat)) (fx xs (i + 3)) + 3) % 7 else -9) else 0))), (5, .int (iZ (ex2 (!inb (fx xs (i + 1)) 0 3 || !inb (fx xs (i + 2)) 0 3) (!inb (fx xs (i + 3)) 1 31)))), (4, .int (iZ i)), (3, .ref o), (2, .ref m0), (1, .ref (q 0)), (0, .ref b)]) hx hb dL_law_2432 hl (by decide) rfl (fun ls hl => ?_)
  refine lv_aload_n hx hb dL_law_2434 rfl (lv_at hl 4 rfl) ?_
  obtain ⟨hG2, hOK2, hq2, hY2, hr2, -⟩ := id hI2
  refine kc0 (fun _ q => q) (va_runV (As := []) (rest := []) ⟨hx, hb, hml, hown, hts⟩ (c_X3_thrown l dC dI dA k m0 r2 _ _ _ hY2 hr2 hOK2) (cwV 0 hts (kg_V mw1013 mw1014 mw1015 mw47 rfl mw1016) rfl rfl rfl hdV_X3_thrown ⟨Nat.le_of_ble_eq_true rfl, Nat.le_of_ble_eq_true rfl⟩) ⟨fun a U g mk q => ⟨q.1, q.2.1, kM_call q.2.2⟩, va_recv hM.1 hY2 (ci := 6) (q0 := 0) rfl rfl, fun U hU hW => ⟨rfl, hU, kM_kept hM hS hN hU hW⟩⟩ rfl rfl hl.1 rfl (lv_room (Nat.le_of_ble_eq_true rfl)) dL_law_2435 ⟨kroomC (by omega), kroomS (by omega)⟩) ?_
  refine lv_iload hx hb dL_law_2438 (lv_at hl 1 rfl) ?_
  refine kz_icmp_eq (tgt := 2445) hx hb (ex2_rng _ _) (ex2_rng _ _) dL_law_2440 (by decide) (fun c_1 => ?_) (fun c_1 => absurd rfl c_1)
  refine lv_iload hx hb dL_law_2445 (lv_at hl 1 rfl) ?_
  refine kz_if_ne (tgt := 2463) hx hb (ex2_rng _ _) dL_law_2447 (by decide) (fun c_2 => ?_) (fun c_2 => ?_)
  · refine lv_goto (tgt := 4485) hx hb dL_law_2463 (by decide) ?_
    refine W.widen (k := cs + 600) (n := ss + 4000) (by omega) (by omega) ?_
    exact kk r2 _ _ _ _ _ hI2 hS (by have h9 := h8.2; omega) (lv_sub hl [2, 3, 4, 5, 6] rfl)
  · refine lv_aload_n hx hb dL_law_2450 rfl (lv_at hl 3 rfl) ?_
    obtain ⟨nv, vv, hn, hPn⟩ := hO2
    have hn := hn c_2
    subst hn
    refine va_getN (D := (dC, dI)) (ci := 5) (v := .long (lZ (w32 (if (fx xs (i + 3)) ≤ mlen (leap (σ 0 ((fx xs (i + 2)).toNat))) (σ 1 ((fx xs (i + 2)).toNat)) then 1 + (dnum (σ 0 ((fx xs (i + 2)).toNat)) (σ 1 ((fx xs (i + 2)).toNat)) (fx xs (i + 3)) + 3) % 7 else -9)))) (C := RX2) (T := TX2) (N := 2) hx hb hts (fun w h => List.mem_cons_of_mem _ (gF_1_in h)) hown hM.1 hPn 0 rfl rfl 0 (by decide) (va_Nw.use rfl hL.1) (fun _ h9 => h9) rfl dL_law_2451 ?_
    refine lv_iload hx hb dL_law_2454 (lv_at hl 0 rfl) ?_
    refine kz_w32 ?_
    refine kz_i2l hx hb (w32_rng _) dL_law_2456 ?_
    refine kz_lcmp_eq (tgt := 2463) hx hb (by first | exact w32_lrng _ | exact bZ_lrng _) (by first | exact w32_lrng _ | exact bZ_lrng _) dL_law_2457 dL_law_2458 (by decide) (fun c_3 => ?_) (fun c_3 => absurd (by first | rw [if_pos c_2] | exact congrArg bZ (by rw [decide_eq_true c_2, Bool.true_and]) | (rw [decide_eq_true c_2]; rfl) | (simp [c_2]; done)) c_3)
    refine lv_goto (tgt := 4485) hx hb dL_law_2463 (by decide) ?_
    refine W.widen (k := cs + 600) (n := ss + 4000) (by omega) (by omega) ?_
    exact kk r2 _ _ _ _ _ hI2 hS (by have h9 := h8.2; omega) (lv_sub hl [2, 3, 4, 5, 6] rfl)

set_option maxHeartbeats 4000000 in
set_option maxRecDepth 100000 in
theorem lc_26 {p : Program} {l : Launch} {e : Env} {s : State} {m : MethodId} {below : List Frame} {meth : Method} {c : Code} {Q : State → Prop} {b L : Nat} {xs : Nat → Int32} {dC : Nat → ClassId} {dI : Nat → Nat → Nat} {dA : Nat → ClassId} {k : Nat → Nat} (hst : l.stackTraces = false) (F : kF p s m meth c b L xs dC dI dA k)
    {q : Nat → Nat} {m0 : Nat} {r : Nat → Nat → Nat} {o : Nat} {σ : Nat → Nat → Int} {th : Int} {H : Heap} {locs : List Loc} {cs ss : Nat} {i : Int} {ls : Array Slot} (hI : LI dC dI dA k q m0 r o σ th H) (hS : va_S (kN0 k) s.heap H locs) (hi : 0 ≤ i ∧ i + 5 ≤ (L : Int)) (hcs : cs + 600 ≤ 707594) (hss : ss + 4000 ≤ 6979453) (h80 : 0 ≤ σ 8 0 ∧ σ 8 0 ≤ 100000) (hl : lv_has ls 7 [(4, .int (iZ i)), (3, .ref o), (2, .ref m0), (1, .ref (q 0)), (0, .ref b)])
    (kk : ∀ (r' : Nat → Nat → Nat) (σ' : Nat → Nat → Int) (th' : Int) (H' : Heap) (locs' : List Loc) (ls' : Array Slot), LI dC dI dA k q m0 r' o σ' th' H' → va_S (kN0 k) s.heap H' locs' → σ 8 0 ≤ σ' 8 0 ∧ σ' 8 0 ≤ σ 8 0 + 1 → lv_has ls' 7 [(4, .int (iZ i)), (3, .ref o), (2, .ref m0), (1, .ref (q 0)), (0, .ref b)] → W p l e room_1 s m #[Value.ref b] below meth c H' locs' (cs + 600) (ss + 4000) Q (F0 m 4485 ls' [])) :
    W p l e room_1 s m #[Value.ref b] below meth c H locs cs ss Q (F0 m 43 ls [.int (iZ 26)]) := by
  obtain ⟨hx, hb, hr9, hml, hown, hts, hX, hbl, hL5, hMJ, hL, hk0, hlocks⟩ := F
  obtain ⟨hG, hOK, hq, hY, hr, hO0, hko, ho9, h1, h2⟩ := id hI
  obtain ⟨sn, sv, -, hO⟩ := id hO0
  have hM := hMJ.1
  have hbA : ¬ kN0 k b := fun z => absurd (show k 0 ≤ b from z) (by omega)
  have hN : ∀ a, kN0 k a → k 0 ≤ a := fun _ h => h
  have hkH : k 0 ≤ H.size := by have := hS.1; omega
  refine lv_tableIn (tgt := 2466) (off := 2423) hx hb dL_law_43 (by rw [iZ_toInt (z := 26) (by omega)]; omega) (by rw [iZ_toInt (z := 26) (by omega)]; omega) (by rw [iZ_toInt (z := 26) (by omega)]; rfl) (by decide) ?_
  refine lv_aload_n hx hb dL_law_2466 rfl (lv_at hl 3 rfl) ?_
  refine lv_aload_n hx hb dL_law_2467 rfl (lv_at hl 4 rfl) ?_
  refine lv_iload hx hb dL_law_2468 (lv_at hl 0 rfl) ?_
  refine lv_iconst (v := iZ 1) hx hb dL_law_2470 rfl ?_
  refine kz_iadd hx hb dL_law_2471 ?_
  refine kz_sld hx hb hX hbl hbA hS (by omega) hL5 dL_law_2472 ?_
  refine lv_aload_n hx hb dL_law_2473 rfl (lv_at hl 4 rfl) ?_
  refine lv_iload hx hb dL_law_2474 (lv_at hl 0 rfl) ?_
  refine lv_iconst (v := iZ 2) hx hb dL_law_2476 rfl ?_
  refine kz_iadd hx hb dL_law_2477 ?_
  refine kz_sld hx hb hX hbl hbA hS (by omega) hL5 dL_law_2478 ?_
  refine lv_aload_n hx hb dL_law_2479 rfl (lv_at hl 1 rfl) ?_
  refine kc2 (vx_runSW (As := [.ref (q 0), .int (iZ (fx xs (i + 1))), .int (iZ (fx xs (i + 2))), .ref o]) (rest := []) ⟨hx, hb, hml, hown, hts⟩ (c_L_dayEnd l hst dC dI dA k q σ _ hG hOK hq o sn sv hO hko ho9 ((fx xs (i + 1))) ((fx xs (i + 2))) (fx_rng _ _) (fx_rng _ _)) (vx_cwSW 4 hts (kg_S mw839 mw840 mw41 rfl mw841) rfl rfl rfl hdS_L_dayEnd ⟨Nat.le_of_ble_eq_true rfl, Nat.le_of_ble_eq_true rfl⟩) ⟨fun a U g mk q => ⟨q.1, q.2.1, kMJ_call q.2.2.1, kL_call q.2.2.2⟩, fun U hU hW => ⟨rfl, hU, kMJ_kept hMJ hS hN hU hW, kL_warm hL hW⟩⟩ rfl rfl hl.1 rfl (lv_room (Nat.le_of_ble_eq_true rfl)) dL_law_2480 ⟨kroomC (by omega), kroomS (by omega)⟩) hS (fun a _ h => kAO_N hq hko hkH a h) (fun a h => kAO_N hq hko hkH a h) (fun H1 locs hC hy9 hk9 hS => ?_)
  obtain ⟨hG1, hO1⟩ := hC
  have hY1 := kY_keptO hY hk9 h1 h2
  have h8 : kOK8 σ (if ex2 (!inb (fx xs (i + 1)) 0 3 || !inb (fx xs (i + 2)) 0 3) (false) = 0 then (setD σ ((fx xs (i + 1)).toNat) (σ 0 ((fx xs (i + 2)).toNat)) (σ 1 ((fx xs (i + 2)).toNat)) (mlen (leap (σ 0 ((fx xs (i + 2)).toNat))) (σ 1 ((fx xs (i + 2)).toNat)))) else σ) := k8_if hOK (fun h9 => k8m_dayEnd hOK ((fx xs (i + 1))) ((fx xs (i + 2))) h9)
  have hkH1 : k 0 ≤ H1.size := Nat.le_trans hkH hy9
  clear hk9
  refine lv_istore (lv' := [(5, .int (iZ (ex2 (!inb (fx xs (i + 1)) 0 3 || !inb (fx xs (i + 2)) 0 3) (false)))), (4, .int (iZ i)), (3, .ref o), (2, .ref m0), (1, .ref (q 0)), (0, .ref b)]) hx hb dL_law_2483 hl (by decide) rfl (fun ls hl => ?_)
  refine lv_aload_n hx hb dL_law_2485 rfl (lv_at hl 3 rfl) ?_
  refine lv_aload_n hx hb dL_law_2486 rfl (lv_at hl 5 rfl) ?_
  refine lv_iload hx hb dL_law_2487 (lv_at hl 1 rfl) ?_
  refine lv_iconst (v := iZ 1) hx hb dL_law_2489 rfl ?_
  refine kz_iadd hx hb dL_law_2490 ?_
  refine kz_sld hx hb hX hbl hbA hS (by omega) hL5 dL_law_2491 ?_
  refine lv_aload_n hx hb dL_law_2492 rfl (lv_at hl 5 rfl) ?_
  refine lv_iload hx hb dL_law_2493 (lv_at hl 1 rfl) ?_
  refine lv_iconst (v := iZ 2) hx hb dL_law_2495 rfl ?_
  refine kz_iadd hx hb dL_law_2496 ?_
  refine kz_sld hx hb hX hbl hbA hS (by omega) hL5 dL_law_2497 ?_
  refine kc2 (va_runV (As := [.int (iZ (fx xs (i + 1))), .int (iZ (fx xs (i + 2)))]) (rest := []) ⟨hx, hb, hml, hown, hts⟩ (c_X3_dayEnd l dC dI dA k m0 r σ th _ hY1 hr hOK ((fx xs (i + 1))) ((fx xs (i + 2))) (fx_rng _ _) (fx_rng _ _)) (cwV 2 hts (kg_V mw1227 mw1228 mw1229 mw47 rfl mw1230) rfl rfl rfl hdV_X3_dayEnd ⟨Nat.le_of_ble_eq_true rfl, Nat.le_of_ble_eq_true rfl⟩) ⟨fun a U g mk q => ⟨q.1, q.2.1, kM_call q.2.2⟩, va_recv hM.1 hY1 (ci := 6) (q0 := 0) rfl rfl, fun U hU hW => ⟨rfl, hU, kM_kept hM hS hN hU hW⟩⟩ rfl rfl hl.1 rfl (lv_room (Nat.le_of_ble_eq_true rfl)) dL_law_2498 ⟨kroomC (by omega), kroomS (by omega)⟩) hS (fun a _ h => kAy_N hr hkH1 a h) (fun a h => kAy_N hr hkH1 a h) (fun H2 locs hC2 hy8 hk8 hS => ?_)
  obtain ⟨r2, hI2, hO2⟩ := LI_step hI hG1 hO1 hC2 hk8 h8
  refine lv_istore (lv' := [(6, .int (iZ (if ex2 (!inb (fx xs (i + 1)) 0 3 || !inb (fx xs (i + 2)) 0 3) (false) = 0 then (mlen (leap (σ 0 ((fx xs (i + 2)).toNat))) (σ 1 ((fx xs (i + 2)).toNat))) else 0))), (5, .int (iZ (ex2 (!inb (fx xs (i + 1)) 0 3 || !inb (fx xs (i + 2)) 0 3) (false)))), (4, .int (iZ i)), (3, .ref o), (2, .ref m0), (1, .ref (q 0)), (0, .ref b)]) hx hb dL_law_2501 hl (by decide) rfl (fun ls hl => ?_)
  refine lv_aload_n hx hb dL_law_2503 rfl (lv_at hl 4 rfl) ?_
  obtain ⟨hG2, hOK2, hq2, hY2, hr2, -⟩ := id hI2
  refine kc0 (fun _ q => q) (va_runV (As := []) (rest := []) ⟨hx, hb, hml, hown, hts⟩ (c_X3_thrown l dC dI dA k m0 r2 _ _ _ hY2 hr2 hOK2) (cwV 0 hts (kg_V mw1013 mw1014 mw1015 mw47 rfl mw1016) rfl rfl rfl hdV_X3_thrown ⟨Nat.le_of_ble_eq_true rfl, Nat.le_of_ble_eq_true rfl⟩) ⟨fun a U g mk q => ⟨q.1, q.2.1, kM_call q.2.2⟩, va_recv hM.1 hY2 (ci := 6) (q0 := 0) rfl rfl, fun U hU hW => ⟨rfl, hU, kM_kept hM hS hN hU hW⟩⟩ rfl rfl hl.1 rfl (lv_room (Nat.le_of_ble_eq_true rfl)) dL_law_2504 ⟨kroomC (by omega), kroomS (by omega)⟩) ?_
  refine lv_iload hx hb dL_law_2507 (lv_at hl 1 rfl) ?_
  refine kz_icmp_eq (tgt := 2514) hx hb (ex2_rng _ _) (ex2_rng _ _) dL_law_2509 (by decide) (fun c_1 => ?_) (fun c_1 => absurd rfl c_1)
  refine lv_iload hx hb dL_law_2514 (lv_at hl 1 rfl) ?_
  refine kz_if_ne (tgt := 2532) hx hb (ex2_rng _ _) dL_law_2516 (by decide) (fun c_2 => ?_) (fun c_2 => ?_)
  · refine lv_goto (tgt := 4485) hx hb dL_law_2532 (by decide) ?_
    refine W.widen (k := cs + 600) (n := ss + 4000) (by omega) (by omega) ?_
    exact kk r2 _ _ _ _ _ hI2 hS (by have h9 := h8.2; omega) (lv_sub hl [2, 3, 4, 5, 6] rfl)
  · refine lv_aload_n hx hb dL_law_2519 rfl (lv_at hl 3 rfl) ?_
    obtain ⟨nv, vv, hn, hPn⟩ := hO2
    have hn := hn c_2
    subst hn
    refine va_getN (D := (dC, dI)) (ci := 5) (v := .long (lZ (w32 (mlen (leap (σ 0 ((fx xs (i + 2)).toNat))) (σ 1 ((fx xs (i + 2)).toNat)))))) (C := RX2) (T := TX2) (N := 2) hx hb hts (fun w h => List.mem_cons_of_mem _ (gF_1_in h)) hown hM.1 hPn 0 rfl rfl 0 (by decide) (va_Nw.use rfl hL.1) (fun _ h9 => h9) rfl dL_law_2520 ?_
    refine lv_iload hx hb dL_law_2523 (lv_at hl 0 rfl) ?_
    refine kz_w32 ?_
    refine kz_i2l hx hb (w32_rng _) dL_law_2525 ?_
    refine kz_lcmp_eq (tgt := 2532) hx hb (by first | exact w32_lrng _ | exact bZ_lrng _) (by first | exact w32_lrng _ | exact bZ_lrng _) dL_law_2526 dL_law_2527 (by decide) (fun c_3 => ?_) (fun c_3 => absurd (by first | rw [if_pos c_2] | exact congrArg bZ (by rw [decide_eq_true c_2, Bool.true_and]) | (rw [decide_eq_true c_2]; rfl) | (simp [c_2]; done)) c_3)
    refine lv_goto (tgt := 4485) hx hb dL_law_2532 (by decide) ?_
    refine W.widen (k := cs + 600) (n := ss + 4000) (by omega) (by omega) ?_
    exact kk r2 _ _ _ _ _ hI2 hS (by have h9 := h8.2; omega) (lv_sub hl [2, 3, 4, 5, 6] rfl)

set_option maxHeartbeats 4000000 in
set_option maxRecDepth 100000 in
theorem lc_27 {p : Program} {l : Launch} {e : Env} {s : State} {m : MethodId} {below : List Frame} {meth : Method} {c : Code} {Q : State → Prop} {b L : Nat} {xs : Nat → Int32} {dC : Nat → ClassId} {dI : Nat → Nat → Nat} {dA : Nat → ClassId} {k : Nat → Nat} (hst : l.stackTraces = false) (F : kF p s m meth c b L xs dC dI dA k)
    {q : Nat → Nat} {m0 : Nat} {r : Nat → Nat → Nat} {o : Nat} {σ : Nat → Nat → Int} {th : Int} {H : Heap} {locs : List Loc} {cs ss : Nat} {i : Int} {ls : Array Slot} (hI : LI dC dI dA k q m0 r o σ th H) (hS : va_S (kN0 k) s.heap H locs) (hi : 0 ≤ i ∧ i + 5 ≤ (L : Int)) (hcs : cs + 600 ≤ 707594) (hss : ss + 4000 ≤ 6979453) (h80 : 0 ≤ σ 8 0 ∧ σ 8 0 ≤ 100000) (hl : lv_has ls 7 [(4, .int (iZ i)), (3, .ref o), (2, .ref m0), (1, .ref (q 0)), (0, .ref b)])
    (kk : ∀ (r' : Nat → Nat → Nat) (σ' : Nat → Nat → Int) (th' : Int) (H' : Heap) (locs' : List Loc) (ls' : Array Slot), LI dC dI dA k q m0 r' o σ' th' H' → va_S (kN0 k) s.heap H' locs' → σ 8 0 ≤ σ' 8 0 ∧ σ' 8 0 ≤ σ 8 0 + 1 → lv_has ls' 7 [(4, .int (iZ i)), (3, .ref o), (2, .ref m0), (1, .ref (q 0)), (0, .ref b)] → W p l e room_1 s m #[Value.ref b] below meth c H' locs' (cs + 600) (ss + 4000) Q (F0 m 4485 ls' [])) :
    W p l e room_1 s m #[Value.ref b] below meth c H locs cs ss Q (F0 m 43 ls [.int (iZ 27)]) := by
  obtain ⟨hx, hb, hr9, hml, hown, hts, hX, hbl, hL5, hMJ, hL, hk0, hlocks⟩ := F
  obtain ⟨hG, hOK, hq, hY, hr, hO0, hko, ho9, h1, h2⟩ := id hI
  obtain ⟨sn, sv, -, hO⟩ := id hO0
  have hM := hMJ.1
  have hbA : ¬ kN0 k b := fun z => absurd (show k 0 ≤ b from z) (by omega)
  have hN : ∀ a, kN0 k a → k 0 ≤ a := fun _ h => h
  have hkH : k 0 ≤ H.size := by have := hS.1; omega
  refine lv_tableIn (tgt := 2535) (off := 2492) hx hb dL_law_43 (by rw [iZ_toInt (z := 27) (by omega)]; omega) (by rw [iZ_toInt (z := 27) (by omega)]; omega) (by rw [iZ_toInt (z := 27) (by omega)]; rfl) (by decide) ?_
  refine lv_aload_n hx hb dL_law_2535 rfl (lv_at hl 3 rfl) ?_
  refine lv_aload_n hx hb dL_law_2536 rfl (lv_at hl 4 rfl) ?_
  refine lv_iload hx hb dL_law_2537 (lv_at hl 0 rfl) ?_
  refine lv_iconst (v := iZ 1) hx hb dL_law_2539 rfl ?_
  refine kz_iadd hx hb dL_law_2540 ?_
  refine kz_sld hx hb hX hbl hbA hS (by omega) hL5 dL_law_2541 ?_
  refine lv_aload_n hx hb dL_law_2542 rfl (lv_at hl 4 rfl) ?_
  refine lv_iload hx hb dL_law_2543 (lv_at hl 0 rfl) ?_
  refine lv_iconst (v := iZ 2) hx hb dL_law_2545 rfl ?_
  refine kz_iadd hx hb dL_law_2546 ?_
  refine kz_sld hx hb hX hbl hbA hS (by omega) hL5 dL_law_2547 ?_
  refine lv_aload_n hx hb dL_law_2548 rfl (lv_at hl 4 rfl) ?_
  refine lv_iload hx hb dL_law_2549 (lv_at hl 0 rfl) ?_
  refine lv_iconst (v := iZ 3) hx hb dL_law_2551 rfl ?_
  refine kz_iadd hx hb dL_law_2552 ?_
  refine kz_sld hx hb hX hbl hbA hS (by omega) hL5 dL_law_2553 ?_
  refine lv_aload_n hx hb dL_law_2554 rfl (lv_at hl 1 rfl) ?_
  refine kc2 (vx_runSW (As := [.ref (q 0), .int (iZ (fx xs (i + 1))), .int (iZ (fx xs (i + 2))), .int (iZ (fx xs (i + 3))), .ref o]) (rest := []) ⟨hx, hb, hml, hown, hts⟩ (c_L_dayInYear l hst dC dI dA k q σ _ hG hOK hq o sn sv hO hko ho9 ((fx xs (i + 1))) ((fx xs (i + 2))) ((fx xs (i + 3))) (fx_rng _ _) (fx_rng _ _) (fx_rng _ _)) (vx_cwSW 5 hts (kg_S mw846 mw847 mw41 rfl mw848) rfl rfl rfl hdS_L_dayInYear ⟨Nat.le_of_ble_eq_true rfl, Nat.le_of_ble_eq_true rfl⟩) ⟨fun a U g mk q => ⟨q.1, q.2.1, kMJ_call q.2.2.1, kL_call q.2.2.2⟩, fun U hU hW => ⟨rfl, hU, kMJ_kept hMJ hS hN hU hW, kL_warm hL hW⟩⟩ rfl rfl hl.1 rfl (lv_room (Nat.le_of_ble_eq_true rfl)) dL_law_2555 ⟨kroomC (by omega), kroomS (by omega)⟩) hS (fun a _ h => kAO_N hq hko hkH a h) (fun a h => kAO_N hq hko hkH a h) (fun H1 locs hC hy9 hk9 hS => ?_)
  obtain ⟨hG1, hO1⟩ := hC
  have hY1 := kY_keptO hY hk9 h1 h2
  have h8 : kOK8 σ (if ex2 (!inb (fx xs (i + 1)) 0 3 || !inb (fx xs (i + 2)) 0 3) (!inb (fx xs (i + 3)) 1 366) = 0 then (if (fx xs (i + 3)) ≤ ylen (σ 2 ((fx xs (i + 2)).toNat)) then setD σ ((fx xs (i + 1)).toNat) (σ 2 ((fx xs (i + 2)).toNat)) (mop (leap (σ 2 ((fx xs (i + 2)).toNat))) (fx xs (i + 3))) ((fx xs (i + 3)) - ahead (leap (σ 2 ((fx xs (i + 2)).toNat))) (mop (leap (σ 2 ((fx xs (i + 2)).toNat))) (fx xs (i + 3)))) else σ) else σ) := k8_if hOK (fun h9 => k8m_dayInYear hOK ((fx xs (i + 1))) ((fx xs (i + 2))) ((fx xs (i + 3))) h9)
  have hkH1 : k 0 ≤ H1.size := Nat.le_trans hkH hy9
  clear hk9
  refine lv_istore (lv' := [(5, .int (iZ (ex2 (!inb (fx xs (i + 1)) 0 3 || !inb (fx xs (i + 2)) 0 3) (!inb (fx xs (i + 3)) 1 366)))), (4, .int (iZ i)), (3, .ref o), (2, .ref m0), (1, .ref (q 0)), (0, .ref b)]) hx hb dL_law_2558 hl (by decide) rfl (fun ls hl => ?_)
  refine lv_aload_n hx hb dL_law_2560 rfl (lv_at hl 3 rfl) ?_
  refine lv_aload_n hx hb dL_law_2561 rfl (lv_at hl 5 rfl) ?_
  refine lv_iload hx hb dL_law_2562 (lv_at hl 1 rfl) ?_
  refine lv_iconst (v := iZ 1) hx hb dL_law_2564 rfl ?_
  refine kz_iadd hx hb dL_law_2565 ?_
  refine kz_sld hx hb hX hbl hbA hS (by omega) hL5 dL_law_2566 ?_
  refine lv_aload_n hx hb dL_law_2567 rfl (lv_at hl 5 rfl) ?_
  refine lv_iload hx hb dL_law_2568 (lv_at hl 1 rfl) ?_
  refine lv_iconst (v := iZ 2) hx hb dL_law_2570 rfl ?_
  refine kz_iadd hx hb dL_law_2571 ?_
  refine kz_sld hx hb hX hbl hbA hS (by omega) hL5 dL_law_2572 ?_
  refine lv_aload_n hx hb dL_law_2573 rfl (lv_at hl 5 rfl) ?_
  refine lv_iload hx hb dL_law_2574 (lv_at hl 1 rfl) ?_
  refine lv_iconst (v := iZ 3) hx hb dL_law_2576 rfl ?_
  refine kz_iadd hx hb dL_law_2577 ?_
  refine kz_sld hx hb hX hbl hbA hS (by omega) hL5 dL_law_2578 ?_
  refine kc2 (va_runV (As := [.int (iZ (fx xs (i + 1))), .int (iZ (fx xs (i + 2))), .int (iZ (fx xs (i + 3)))]) (rest := []) ⟨hx, hb, hml, hown, hts⟩ (c_X3_dayInYear l dC dI dA k m0 r σ th _ hY1 hr hOK ((fx xs (i + 1))) ((fx xs (i + 2))) ((fx xs (i + 3))) (fx_rng _ _) (fx_rng _ _) (fx_rng _ _)) (cwV 3 hts (kg_V mw1231 mw1232 mw1233 mw47 rfl mw1234) rfl rfl rfl hdV_X3_dayInYear ⟨Nat.le_of_ble_eq_true rfl, Nat.le_of_ble_eq_true rfl⟩) ⟨fun a U g mk q => ⟨q.1, q.2.1, kM_call q.2.2⟩, va_recv hM.1 hY1 (ci := 6) (q0 := 0) rfl rfl, fun U hU hW => ⟨rfl, hU, kM_kept hM hS hN hU hW⟩⟩ rfl rfl hl.1 rfl (lv_room (Nat.le_of_ble_eq_true rfl)) dL_law_2579 ⟨kroomC (by omega), kroomS (by omega)⟩) hS (fun a _ h => kAy_N hr hkH1 a h) (fun a h => kAy_N hr hkH1 a h) (fun H2 locs hC2 hy8 hk8 hS => ?_)
  obtain ⟨r2, hI2, hO2⟩ := LI_step hI hG1 hO1 hC2 hk8 h8
  refine lv_istore (lv' := [(6, .int (iZ (if ex2 (!inb (fx xs (i + 1)) 0 3 || !inb (fx xs (i + 2)) 0 3) (!inb (fx xs (i + 3)) 1 366) = 0 then (if (fx xs (i + 3)) ≤ ylen (σ 2 ((fx xs (i + 2)).toNat)) then mop (leap (σ 2 ((fx xs (i + 2)).toNat))) (fx xs (i + 3)) else -9) else 0))), (5, .int (iZ (ex2 (!inb (fx xs (i + 1)) 0 3 || !inb (fx xs (i + 2)) 0 3) (!inb (fx xs (i + 3)) 1 366)))), (4, .int (iZ i)), (3, .ref o), (2, .ref m0), (1, .ref (q 0)), (0, .ref b)]) hx hb dL_law_2582 hl (by decide) rfl (fun ls hl => ?_)
  refine lv_aload_n hx hb dL_law_2584 rfl (lv_at hl 4 rfl) ?_
  obtain ⟨hG2, hOK2, hq2, hY2, hr2, -⟩ := id hI2
  refine kc0 (fun _ q => q) (va_runV (As := []) (rest := []) ⟨hx, hb, hml, hown, hts⟩ (c_X3_thrown l dC dI dA k m0 r2 _ _ _ hY2 hr2 hOK2) (cwV 0 hts (kg_V mw1013 mw1014 mw1015 mw47 rfl mw1016) rfl rfl rfl hdV_X3_thrown ⟨Nat.le_of_ble_eq_true rfl, Nat.le_of_ble_eq_true rfl⟩) ⟨fun a U g mk q => ⟨q.1, q.2.1, kM_call q.2.2⟩, va_recv hM.1 hY2 (ci := 6) (q0 := 0) rfl rfl, fun U hU hW => ⟨rfl, hU, kM_kept hM hS hN hU hW⟩⟩ rfl rfl hl.1 rfl (lv_room (Nat.le_of_ble_eq_true rfl)) dL_law_2585 ⟨kroomC (by omega), kroomS (by omega)⟩) ?_
  refine lv_iload hx hb dL_law_2588 (lv_at hl 1 rfl) ?_
  refine kz_icmp_eq (tgt := 2595) hx hb (ex2_rng _ _) (ex2_rng _ _) dL_law_2590 (by decide) (fun c_1 => ?_) (fun c_1 => absurd rfl c_1)
  refine lv_iload hx hb dL_law_2595 (lv_at hl 1 rfl) ?_
  refine kz_if_ne (tgt := 2613) hx hb (ex2_rng _ _) dL_law_2597 (by decide) (fun c_2 => ?_) (fun c_2 => ?_)
  · refine lv_goto (tgt := 4485) hx hb dL_law_2613 (by decide) ?_
    refine W.widen (k := cs + 600) (n := ss + 4000) (by omega) (by omega) ?_
    exact kk r2 _ _ _ _ _ hI2 hS (by have h9 := h8.2; omega) (lv_sub hl [2, 3, 4, 5, 6] rfl)
  · refine lv_aload_n hx hb dL_law_2600 rfl (lv_at hl 3 rfl) ?_
    obtain ⟨nv, vv, hn, hPn⟩ := hO2
    have hn := hn c_2
    subst hn
    refine va_getN (D := (dC, dI)) (ci := 5) (v := .long (lZ (w32 (if (fx xs (i + 3)) ≤ ylen (σ 2 ((fx xs (i + 2)).toNat)) then mop (leap (σ 2 ((fx xs (i + 2)).toNat))) (fx xs (i + 3)) else -9)))) (C := RX2) (T := TX2) (N := 2) hx hb hts (fun w h => List.mem_cons_of_mem _ (gF_1_in h)) hown hM.1 hPn 0 rfl rfl 0 (by decide) (va_Nw.use rfl hL.1) (fun _ h9 => h9) rfl dL_law_2601 ?_
    refine lv_iload hx hb dL_law_2604 (lv_at hl 0 rfl) ?_
    refine kz_w32 ?_
    refine kz_i2l hx hb (w32_rng _) dL_law_2606 ?_
    refine kz_lcmp_eq (tgt := 2613) hx hb (by first | exact w32_lrng _ | exact bZ_lrng _) (by first | exact w32_lrng _ | exact bZ_lrng _) dL_law_2607 dL_law_2608 (by decide) (fun c_3 => ?_) (fun c_3 => absurd (by first | rw [if_pos c_2] | exact congrArg bZ (by rw [decide_eq_true c_2, Bool.true_and]) | (rw [decide_eq_true c_2]; rfl) | (simp [c_2]; done)) c_3)
    refine lv_goto (tgt := 4485) hx hb dL_law_2613 (by decide) ?_
    refine W.widen (k := cs + 600) (n := ss + 4000) (by omega) (by omega) ?_
    exact kk r2 _ _ _ _ _ hI2 hS (by have h9 := h8.2; omega) (lv_sub hl [2, 3, 4, 5, 6] rfl)

