set_option maxHeartbeats 4000000 in
set_option maxRecDepth 100000 in
theorem lc_42 {p : Program} {l : Launch} {e : Env} {s : State} {m : MethodId} {below : List Frame} {meth : Method} {c : Code} {Q : State → Prop} {b L : Nat} {xs : Nat → Int32} {dC : Nat → ClassId} {dI : Nat → Nat → Nat} {dA : Nat → ClassId} {k : Nat → Nat} (hst : l.stackTraces = false) (F : kF p s m meth c b L xs dC dI dA k)
    {q : Nat → Nat} {m0 : Nat} {r : Nat → Nat → Nat} {o : Nat} {σ : Nat → Nat → Int} {th : Int} {H : Heap} {locs : List Loc} {cs ss : Nat} {i : Int} {ls : Array Slot} (hI : LI dC dI dA k q m0 r o σ th H) (hS : va_S (kN0 k) s.heap H locs) (hi : 0 ≤ i ∧ i + 5 ≤ (L : Int)) (hcs : cs + 600 ≤ 652095) (hss : ss + 4000 ≤ 7139820) (h80 : 0 ≤ σ 8 0 ∧ σ 8 0 ≤ 100000) (hl : lv_has ls 7 [(4, .int (iZ i)), (3, .ref o), (2, .ref m0), (1, .ref (q 0)), (0, .ref b)])
    (kk : ∀ (r' : Nat → Nat → Nat) (σ' : Nat → Nat → Int) (th' : Int) (H' : Heap) (locs' : List Loc) (ls' : Array Slot), LI dC dI dA k q m0 r' o σ' th' H' → va_S (kN0 k) s.heap H' locs' → σ 8 0 ≤ σ' 8 0 ∧ σ' 8 0 ≤ σ 8 0 + 1 → lv_has ls' 7 [(4, .int (iZ i)), (3, .ref o), (2, .ref m0), (1, .ref (q 0)), (0, .ref b)] → W p l e room_1 s m #[Value.ref b] below meth c H' locs' (cs + 600) (ss + 4000) Q (F0 m 3011 ls' [])) :
    W p l e room_1 s m #[Value.ref b] below meth c H locs cs ss Q (F0 m 43 ls [.int (iZ 42)]) := by
  obtain ⟨hx, hb, hr9, hml, hown, hts, hX, hbl, hL5, hMJ, hL, hk0, hlocks⟩ := F
  obtain ⟨hG, hOK, hq, hY, hr, hO0, hko, ho9, h1, h2⟩ := id hI
  obtain ⟨sn, sv, -, hO⟩ := id hO0
  have hM := hMJ.1
  have hbA : ¬ kN0 k b := fun z => absurd (show k 0 ≤ b from z) (by omega)
  have hN : ∀ a, kN0 k a → k 0 ≤ a := fun _ h => h
  have hkH : k 0 ≤ H.size := by have := hS.1; omega
  refine lv_tableIn (tgt := 2529) (off := 2486) hx hb dL_law_43 (by rw [iZ_toInt (z := 42) (by omega)]; omega) (by rw [iZ_toInt (z := 42) (by omega)]; omega) (by rw [iZ_toInt (z := 42) (by omega)]; rfl) (by decide) ?_
  refine lv_aload_n hx hb dL_law_2529 rfl (lv_at hl 3 rfl) ?_
  refine lv_aload_n hx hb dL_law_2530 rfl (lv_at hl 4 rfl) ?_
  refine lv_iload hx hb dL_law_2531 (lv_at hl 0 rfl) ?_
  refine lv_iconst (v := iZ 1) hx hb dL_law_2533 rfl ?_
  refine kz_iadd hx hb dL_law_2534 ?_
  refine kz_sld hx hb hX hbl hbA hS (by omega) hL5 dL_law_2535 ?_
  refine lv_aload_n hx hb dL_law_2536 rfl (lv_at hl 4 rfl) ?_
  refine lv_iload hx hb dL_law_2537 (lv_at hl 0 rfl) ?_
  refine lv_iconst (v := iZ 2) hx hb dL_law_2539 rfl ?_
  refine kz_iadd hx hb dL_law_2540 ?_
  refine kz_sld hx hb hX hbl hbA hS (by omega) hL5 dL_law_2541 ?_
  refine lv_aload_n hx hb dL_law_2542 rfl (lv_at hl 1 rfl) ?_
  refine kc2 (vx_runSW (As := [.ref (q 0), .int (iZ (fx xs (i + 1))), .int (iZ (fx xs (i + 2))), .ref o]) (rest := []) ⟨hx, hb, hml, hown, hts⟩ (c_L_ofFeast l hst dC dI dA k q σ _ hG hOK hq o sn sv hO hko ho9 ((fx xs (i + 1))) ((fx xs (i + 2))) (fx_rng _ _) (fx_rng _ _)) (vx_cwSW 4 hts (kg_S mw946 mw947 mw41 rfl mw948) rfl rfl rfl hdS_L_ofFeast ⟨Nat.le_of_ble_eq_true rfl, Nat.le_of_ble_eq_true rfl⟩) ⟨fun a U g mk q => ⟨q.1, q.2.1, kMJ_call q.2.2.1, kL_call q.2.2.2⟩, fun U hU hW => ⟨rfl, hU, kMJ_kept hMJ hS hN hU hW, kL_warm hL hW⟩⟩ rfl rfl hl.1 rfl (lv_room (Nat.le_of_ble_eq_true rfl)) dL_law_2543 ⟨kroomC (by omega), kroomS (by omega)⟩) hS (fun a _ h => kAO_N hq hko hkH a h) (fun a h => kAO_N hq hko hkH a h) (fun H1 locs hC hy9 hk9 hS => ?_)
  obtain ⟨hG1, hO1⟩ := hC
  have hY1 := kY_keptO hY hk9 h1 h2
  have hG1 := gX_cast hG1 (kif_same _)
  have h8 : kOK8 σ σ := ⟨hOK, rfl⟩
  have hkH1 : k 0 ≤ H1.size := Nat.le_trans hkH hy9
  clear hk9
  refine lv_istore (lv' := [(5, .int (iZ (ex2 (!inb (fx xs (i + 1)) 0 3) (!inb (fx xs (i + 2)) 0 4)))), (4, .int (iZ i)), (3, .ref o), (2, .ref m0), (1, .ref (q 0)), (0, .ref b)]) hx hb dL_law_2546 hl (by decide) rfl (fun ls hl => ?_)
  refine lv_aload_n hx hb dL_law_2548 rfl (lv_at hl 3 rfl) ?_
  refine lv_aload_n hx hb dL_law_2549 rfl (lv_at hl 5 rfl) ?_
  refine lv_iload hx hb dL_law_2550 (lv_at hl 1 rfl) ?_
  refine lv_iconst (v := iZ 1) hx hb dL_law_2552 rfl ?_
  refine kz_iadd hx hb dL_law_2553 ?_
  refine kz_sld hx hb hX hbl hbA hS (by omega) hL5 dL_law_2554 ?_
  refine lv_aload_n hx hb dL_law_2555 rfl (lv_at hl 5 rfl) ?_
  refine lv_iload hx hb dL_law_2556 (lv_at hl 1 rfl) ?_
  refine lv_iconst (v := iZ 2) hx hb dL_law_2558 rfl ?_
  refine kz_iadd hx hb dL_law_2559 ?_
  refine kz_sld hx hb hX hbl hbA hS (by omega) hL5 dL_law_2560 ?_
  refine kc2 (va_runV (As := [.int (iZ (fx xs (i + 1))), .int (iZ (fx xs (i + 2)))]) (rest := []) ⟨hx, hb, hml, hown, hts⟩ (c_X3_ofFeast l dC dI dA k m0 r σ th _ hY1 hr hOK ((fx xs (i + 1))) ((fx xs (i + 2))) (fx_rng _ _) (fx_rng _ _)) (cwV 2 hts (kg_V mw1348 mw1349 mw1350 mw47 rfl mw1351) rfl rfl rfl hdV_X3_ofFeast ⟨Nat.le_of_ble_eq_true rfl, Nat.le_of_ble_eq_true rfl⟩) ⟨fun a U g mk q => ⟨q.1, q.2.1, kM_call q.2.2⟩, va_recv hM.1 hY1 (ci := 6) (q0 := 0) rfl rfl, fun U hU hW => ⟨rfl, hU, kM_kept hM hS hN hU hW⟩⟩ rfl rfl hl.1 rfl (lv_room (Nat.le_of_ble_eq_true rfl)) dL_law_2561 ⟨kroomC (by omega), kroomS (by omega)⟩) hS (fun a _ h => kAy_N hr hkH1 a h) (fun a h => kAy_N hr hkH1 a h) (fun H2 locs hC2 hy8 hk8 hS => ?_)
  obtain ⟨r2, hI2, hO2⟩ := LI_step hI hG1 hO1 hC2 hk8 h8
  refine lv_istore (lv' := [(6, .int (iZ (if ex2 (!inb (fx xs (i + 1)) 0 3) (!inb (fx xs (i + 2)) 0 4) = 0 then (ofF σ ((fx xs (i + 1)).toNat) (fx xs (i + 2))) else 0))), (5, .int (iZ (ex2 (!inb (fx xs (i + 1)) 0 3) (!inb (fx xs (i + 2)) 0 4)))), (4, .int (iZ i)), (3, .ref o), (2, .ref m0), (1, .ref (q 0)), (0, .ref b)]) hx hb dL_law_2564 hl (by decide) rfl (fun ls hl => ?_)
  refine lv_goto (tgt := 3011) hx hb dL_law_2566 (by decide) ?_
  refine W.widen (k := cs + 600) (n := ss + 4000) (by omega) (by omega) ?_
  exact kk r2 _ _ _ _ _ hI2 hS (by have h9 := h8.2; omega) (lv_sub hl [2, 3, 4, 5, 6] rfl)

set_option maxHeartbeats 4000000 in
set_option maxRecDepth 100000 in
theorem lc_43 {p : Program} {l : Launch} {e : Env} {s : State} {m : MethodId} {below : List Frame} {meth : Method} {c : Code} {Q : State → Prop} {b L : Nat} {xs : Nat → Int32} {dC : Nat → ClassId} {dI : Nat → Nat → Nat} {dA : Nat → ClassId} {k : Nat → Nat} (hst : l.stackTraces = false) (F : kF p s m meth c b L xs dC dI dA k)
    {q : Nat → Nat} {m0 : Nat} {r : Nat → Nat → Nat} {o : Nat} {σ : Nat → Nat → Int} {th : Int} {H : Heap} {locs : List Loc} {cs ss : Nat} {i : Int} {ls : Array Slot} (hI : LI dC dI dA k q m0 r o σ th H) (hS : va_S (kN0 k) s.heap H locs) (hi : 0 ≤ i ∧ i + 5 ≤ (L : Int)) (hcs : cs + 600 ≤ 652095) (hss : ss + 4000 ≤ 7139820) (h80 : 0 ≤ σ 8 0 ∧ σ 8 0 ≤ 100000) (hl : lv_has ls 7 [(4, .int (iZ i)), (3, .ref o), (2, .ref m0), (1, .ref (q 0)), (0, .ref b)])
    (kk : ∀ (r' : Nat → Nat → Nat) (σ' : Nat → Nat → Int) (th' : Int) (H' : Heap) (locs' : List Loc) (ls' : Array Slot), LI dC dI dA k q m0 r' o σ' th' H' → va_S (kN0 k) s.heap H' locs' → σ 8 0 ≤ σ' 8 0 ∧ σ' 8 0 ≤ σ 8 0 + 1 → lv_has ls' 7 [(4, .int (iZ i)), (3, .ref o), (2, .ref m0), (1, .ref (q 0)), (0, .ref b)] → W p l e room_1 s m #[Value.ref b] below meth c H' locs' (cs + 600) (ss + 4000) Q (F0 m 3011 ls' [])) :
    W p l e room_1 s m #[Value.ref b] below meth c H locs cs ss Q (F0 m 43 ls [.int (iZ 43)]) := by
  obtain ⟨hx, hb, hr9, hml, hown, hts, hX, hbl, hL5, hMJ, hL, hk0, hlocks⟩ := F
  obtain ⟨hG, hOK, hq, hY, hr, hO0, hko, ho9, h1, h2⟩ := id hI
  obtain ⟨sn, sv, -, hO⟩ := id hO0
  have hM := hMJ.1
  have hbA : ¬ kN0 k b := fun z => absurd (show k 0 ≤ b from z) (by omega)
  have hN : ∀ a, kN0 k a → k 0 ≤ a := fun _ h => h
  have hkH : k 0 ≤ H.size := by have := hS.1; omega
  refine lv_tableIn (tgt := 2569) (off := 2526) hx hb dL_law_43 (by rw [iZ_toInt (z := 43) (by omega)]; omega) (by rw [iZ_toInt (z := 43) (by omega)]; omega) (by rw [iZ_toInt (z := 43) (by omega)]; rfl) (by decide) ?_
  refine lv_aload_n hx hb dL_law_2569 rfl (lv_at hl 3 rfl) ?_
  refine lv_aload_n hx hb dL_law_2570 rfl (lv_at hl 4 rfl) ?_
  refine lv_iload hx hb dL_law_2571 (lv_at hl 0 rfl) ?_
  refine lv_iconst (v := iZ 1) hx hb dL_law_2573 rfl ?_
  refine kz_iadd hx hb dL_law_2574 ?_
  refine kz_sld hx hb hX hbl hbA hS (by omega) hL5 dL_law_2575 ?_
  refine lv_aload_n hx hb dL_law_2576 rfl (lv_at hl 4 rfl) ?_
  refine lv_iload hx hb dL_law_2577 (lv_at hl 0 rfl) ?_
  refine lv_iconst (v := iZ 2) hx hb dL_law_2579 rfl ?_
  refine kz_iadd hx hb dL_law_2580 ?_
  refine kz_sld hx hb hX hbl hbA hS (by omega) hL5 dL_law_2581 ?_
  refine lv_aload_n hx hb dL_law_2582 rfl (lv_at hl 1 rfl) ?_
  refine kc2 (vx_runSW (As := [.ref (q 0), .int (iZ (fx xs (i + 1))), .int (iZ (fx xs (i + 2))), .ref o]) (rest := []) ⟨hx, hb, hml, hown, hts⟩ (c_L_isInYear l hst dC dI dA k q σ _ hG hOK hq o sn sv hO hko ho9 ((fx xs (i + 1))) ((fx xs (i + 2))) (fx_rng _ _) (fx_rng _ _)) (vx_cwSW 4 hts (kg_S mw950 mw951 mw41 rfl mw952) rfl rfl rfl hdS_L_isInYear ⟨Nat.le_of_ble_eq_true rfl, Nat.le_of_ble_eq_true rfl⟩) ⟨fun a U g mk q => ⟨q.1, q.2.1, kMJ_call q.2.2.1, kL_call q.2.2.2⟩, fun U hU hW => ⟨rfl, hU, kMJ_kept hMJ hS hN hU hW, kL_warm hL hW⟩⟩ rfl rfl hl.1 rfl (lv_room (Nat.le_of_ble_eq_true rfl)) dL_law_2583 ⟨kroomC (by omega), kroomS (by omega)⟩) hS (fun a _ h => kAO_N hq hko hkH a h) (fun a h => kAO_N hq hko hkH a h) (fun H1 locs hC hy9 hk9 hS => ?_)
  obtain ⟨hG1, hO1⟩ := hC
  have hY1 := kY_keptO hY hk9 h1 h2
  have hG1 := gX_cast hG1 (kif_same _)
  have h8 : kOK8 σ σ := ⟨hOK, rfl⟩
  have hkH1 : k 0 ≤ H1.size := Nat.le_trans hkH hy9
  clear hk9
  refine lv_istore (lv' := [(5, .int (iZ (ex2 (!inb (fx xs (i + 1)) 0 3) (!inb (fx xs (i + 2)) (-999999999) 999999999)))), (4, .int (iZ i)), (3, .ref o), (2, .ref m0), (1, .ref (q 0)), (0, .ref b)]) hx hb dL_law_2586 hl (by decide) rfl (fun ls hl => ?_)
  refine lv_aload_n hx hb dL_law_2588 rfl (lv_at hl 3 rfl) ?_
  refine lv_aload_n hx hb dL_law_2589 rfl (lv_at hl 5 rfl) ?_
  refine lv_iload hx hb dL_law_2590 (lv_at hl 1 rfl) ?_
  refine lv_iconst (v := iZ 1) hx hb dL_law_2592 rfl ?_
  refine kz_iadd hx hb dL_law_2593 ?_
  refine kz_sld hx hb hX hbl hbA hS (by omega) hL5 dL_law_2594 ?_
  refine lv_aload_n hx hb dL_law_2595 rfl (lv_at hl 5 rfl) ?_
  refine lv_iload hx hb dL_law_2596 (lv_at hl 1 rfl) ?_
  refine lv_iconst (v := iZ 2) hx hb dL_law_2598 rfl ?_
  refine kz_iadd hx hb dL_law_2599 ?_
  refine kz_sld hx hb hX hbl hbA hS (by omega) hL5 dL_law_2600 ?_
  refine kc2 (va_runV (As := [.int (iZ (fx xs (i + 1))), .int (iZ (fx xs (i + 2)))]) (rest := []) ⟨hx, hb, hml, hown, hts⟩ (c_X3_isInYear l dC dI dA k m0 r σ th _ hY1 hr hOK ((fx xs (i + 1))) ((fx xs (i + 2))) (fx_rng _ _) (fx_rng _ _)) (cwV 2 hts (kg_V mw1355 mw1356 mw1357 mw47 rfl mw1358) rfl rfl rfl hdV_X3_isInYear ⟨Nat.le_of_ble_eq_true rfl, Nat.le_of_ble_eq_true rfl⟩) ⟨fun a U g mk q => ⟨q.1, q.2.1, kM_call q.2.2⟩, va_recv hM.1 hY1 (ci := 6) (q0 := 0) rfl rfl, fun U hU hW => ⟨rfl, hU, kM_kept hM hS hN hU hW⟩⟩ rfl rfl hl.1 rfl (lv_room (Nat.le_of_ble_eq_true rfl)) dL_law_2601 ⟨kroomC (by omega), kroomS (by omega)⟩) hS (fun a _ h => kAy_N hr hkH1 a h) (fun a h => kAy_N hr hkH1 a h) (fun H2 locs hC2 hy8 hk8 hS => ?_)
  obtain ⟨r2, hI2, hO2⟩ := LI_step hI hG1 hO1 hC2 hk8 h8
  refine lv_istore (lv' := [(6, .int (iZ (bZ (decide (ex2 (!inb (fx xs (i + 1)) 0 3) (!inb (fx xs (i + 2)) (-999999999) 999999999) = 0) && (inYr σ ((fx xs (i + 1)).toNat) (fx xs (i + 2))))))), (5, .int (iZ (ex2 (!inb (fx xs (i + 1)) 0 3) (!inb (fx xs (i + 2)) (-999999999) 999999999)))), (4, .int (iZ i)), (3, .ref o), (2, .ref m0), (1, .ref (q 0)), (0, .ref b)]) hx hb dL_law_2604 hl (by decide) rfl (fun ls hl => ?_)
  refine lv_goto (tgt := 3011) hx hb dL_law_2606 (by decide) ?_
  refine W.widen (k := cs + 600) (n := ss + 4000) (by omega) (by omega) ?_
  exact kk r2 _ _ _ _ _ hI2 hS (by have h9 := h8.2; omega) (lv_sub hl [2, 3, 4, 5, 6] rfl)

set_option maxHeartbeats 4000000 in
set_option maxRecDepth 100000 in
theorem lc_44 {p : Program} {l : Launch} {e : Env} {s : State} {m : MethodId} {below : List Frame} {meth : Method} {c : Code} {Q : State → Prop} {b L : Nat} {xs : Nat → Int32} {dC : Nat → ClassId} {dI : Nat → Nat → Nat} {dA : Nat → ClassId} {k : Nat → Nat} (hst : l.stackTraces = false) (F : kF p s m meth c b L xs dC dI dA k)
    {q : Nat → Nat} {m0 : Nat} {r : Nat → Nat → Nat} {o : Nat} {σ : Nat → Nat → Int} {th : Int} {H : Heap} {locs : List Loc} {cs ss : Nat} {i : Int} {ls : Array Slot} (hI : LI dC dI dA k q m0 r o σ th H) (hS : va_S (kN0 k) s.heap H locs) (hi : 0 ≤ i ∧ i + 5 ≤ (L : Int)) (hcs : cs + 600 ≤ 652095) (hss : ss + 4000 ≤ 7139820) (h80 : 0 ≤ σ 8 0 ∧ σ 8 0 ≤ 100000) (hl : lv_has ls 7 [(4, .int (iZ i)), (3, .ref o), (2, .ref m0), (1, .ref (q 0)), (0, .ref b)])
    (kk : ∀ (r' : Nat → Nat → Nat) (σ' : Nat → Nat → Int) (th' : Int) (H' : Heap) (locs' : List Loc) (ls' : Array Slot), LI dC dI dA k q m0 r' o σ' th' H' → va_S (kN0 k) s.heap H' locs' → σ 8 0 ≤ σ' 8 0 ∧ σ' 8 0 ≤ σ 8 0 + 1 → lv_has ls' 7 [(4, .int (iZ i)), (3, .ref o), (2, .ref m0), (1, .ref (q 0)), (0, .ref b)] → W p l e room_1 s m #[Value.ref b] below meth c H' locs' (cs + 600) (ss + 4000) Q (F0 m 3011 ls' [])) :
    W p l e room_1 s m #[Value.ref b] below meth c H locs cs ss Q (F0 m 43 ls [.int (iZ 44)]) := by
  obtain ⟨hx, hb, hr9, hml, hown, hts, hX, hbl, hL5, hMJ, hL, hk0, hlocks⟩ := F
  obtain ⟨hG, hOK, hq, hY, hr, hO0, hko, ho9, h1, h2⟩ := id hI
  obtain ⟨sn, sv, -, hO⟩ := id hO0
  have hM := hMJ.1
  have hbA : ¬ kN0 k b := fun z => absurd (show k 0 ≤ b from z) (by omega)
  have hN : ∀ a, kN0 k a → k 0 ≤ a := fun _ h => h
  have hkH : k 0 ≤ H.size := by have := hS.1; omega
  refine lv_tableIn (tgt := 2609) (off := 2566) hx hb dL_law_43 (by rw [iZ_toInt (z := 44) (by omega)]; omega) (by rw [iZ_toInt (z := 44) (by omega)]; omega) (by rw [iZ_toInt (z := 44) (by omega)]; rfl) (by decide) ?_
  refine lv_aload_n hx hb dL_law_2609 rfl (lv_at hl 3 rfl) ?_
  refine lv_aload_n hx hb dL_law_2610 rfl (lv_at hl 4 rfl) ?_
  refine lv_iload hx hb dL_law_2611 (lv_at hl 0 rfl) ?_
  refine lv_iconst (v := iZ 1) hx hb dL_law_2613 rfl ?_
  refine kz_iadd hx hb dL_law_2614 ?_
  refine kz_sld hx hb hX hbl hbA hS (by omega) hL5 dL_law_2615 ?_
  refine lv_aload_n hx hb dL_law_2616 rfl (lv_at hl 4 rfl) ?_
  refine lv_iload hx hb dL_law_2617 (lv_at hl 0 rfl) ?_
  refine lv_iconst (v := iZ 2) hx hb dL_law_2619 rfl ?_
  refine kz_iadd hx hb dL_law_2620 ?_
  refine kz_sld hx hb hX hbl hbA hS (by omega) hL5 dL_law_2621 ?_
  refine lv_aload_n hx hb dL_law_2622 rfl (lv_at hl 4 rfl) ?_
  refine lv_iload hx hb dL_law_2623 (lv_at hl 0 rfl) ?_
  refine lv_iconst (v := iZ 3) hx hb dL_law_2625 rfl ?_
  refine kz_iadd hx hb dL_law_2626 ?_
  refine kz_sld hx hb hX hbl hbA hS (by omega) hL5 dL_law_2627 ?_
  refine lv_aload_n hx hb dL_law_2628 rfl (lv_at hl 1 rfl) ?_
  refine kc2 (vx_runSW (As := [.ref (q 0), .int (iZ (fx xs (i + 1))), .int (iZ (fx xs (i + 2))), .int (iZ (fx xs (i + 3))), .ref o]) (rest := []) ⟨hx, hb, hml, hown, hts⟩ (c_L_feastOrder l hst dC dI dA k q σ _ hG hOK hq o sn sv hO hko ho9 ((fx xs (i + 1))) ((fx xs (i + 2))) ((fx xs (i + 3))) (fx_rng _ _) (fx_rng _ _) (fx_rng _ _)) (vx_cwSW 5 hts (kg_S mw957 mw958 mw41 rfl mw959) rfl rfl rfl hdS_L_feastOrder ⟨Nat.le_of_ble_eq_true rfl, Nat.le_of_ble_eq_true rfl⟩) ⟨fun a U g mk q => ⟨q.1, q.2.1, kMJ_call q.2.2.1, kL_call q.2.2.2⟩, fun U hU hW => ⟨rfl, hU, kMJ_kept hMJ hS hN hU hW, kL_warm hL hW⟩⟩ rfl rfl hl.1 rfl (lv_room (Nat.le_of_ble_eq_true rfl)) dL_law_2629 ⟨kroomC (by omega), kroomS (by omega)⟩) hS (fun a _ h => kAO_N hq hko hkH a h) (fun a h => kAO_N hq hko hkH a h) (fun H1 locs hC hy9 hk9 hS => ?_)
  obtain ⟨hG1, hO1⟩ := hC
  have hY1 := kY_keptO hY hk9 h1 h2
  have hG1 := gX_cast hG1 (kif_same _)
  have h8 : kOK8 σ σ := ⟨hOK, rfl⟩
  have hkH1 : k 0 ≤ H1.size := Nat.le_trans hkH hy9
  clear hk9
  refine lv_istore (lv' := [(5, .int (iZ (ex2 (!inb (fx xs (i + 1)) 0 3 || !inb (fx xs (i + 2)) 0 3) (!inb (fx xs (i + 3)) 0 2)))), (4, .int (iZ i)), (3, .ref o), (2, .ref m0), (1, .ref (q 0)), (0, .ref b)]) hx hb dL_law_2632 hl (by decide) rfl (fun ls hl => ?_)
  refine lv_aload_n hx hb dL_law_2634 rfl (lv_at hl 3 rfl) ?_
  refine lv_aload_n hx hb dL_law_2635 rfl (lv_at hl 5 rfl) ?_
  refine lv_iload hx hb dL_law_2636 (lv_at hl 1 rfl) ?_
  refine lv_iconst (v := iZ 1) hx hb dL_law_2638 rfl ?_
  refine kz_iadd hx hb dL_law_2639 ?_
  refine kz_sld hx hb hX hbl hbA hS (by omega) hL5 dL_law_2640 ?_
  refine lv_aload_n hx hb dL_law_2641 rfl (lv_at hl 5 rfl) ?_
  refine lv_iload hx hb dL_law_2642 (lv_at hl 1 rfl) ?_
  refine lv_iconst (v := iZ 2) hx hb dL_law_2644 rfl ?_
  refine kz_iadd hx hb dL_law_2645 ?_
  refine kz_sld hx hb hX hbl hbA hS (by omega) hL5 dL_law_2646 ?_
  refine lv_aload_n hx hb dL_law_2647 rfl (lv_at hl 5 rfl) ?_
  refine lv_iload hx hb dL_law_2648 (lv_at hl 1 rfl) ?_
  refine lv_iconst (v := iZ 3) hx hb dL_law_2650 rfl ?_
  refine kz_iadd hx hb dL_law_2651 ?_
  refine kz_sld hx hb hX hbl hbA hS (by omega) hL5 dL_law_2652 ?_
  refine kc2 (va_runV (As := [.int (iZ (fx xs (i + 1))), .int (iZ (fx xs (i + 2))), .int (iZ (fx xs (i + 3)))]) (rest := []) ⟨hx, hb, hml, hown, hts⟩ (c_X3_feastOrder l dC dI dA k m0 r σ th _ hY1 hr hOK ((fx xs (i + 1))) ((fx xs (i + 2))) ((fx xs (i + 3))) (fx_rng _ _) (fx_rng _ _) (fx_rng _ _)) (cwV 3 hts (kg_V mw1359 mw1360 mw1361 mw47 rfl mw1362) rfl rfl rfl hdV_X3_feastOrder ⟨Nat.le_of_ble_eq_true rfl, Nat.le_of_ble_eq_true rfl⟩) ⟨fun a U g mk q => ⟨q.1, q.2.1, kM_call q.2.2⟩, va_recv hM.1 hY1 (ci := 6) (q0 := 0) rfl rfl, fun U hU hW => ⟨rfl, hU, kM_kept hM hS hN hU hW⟩⟩ rfl rfl hl.1 rfl (lv_room (Nat.le_of_ble_eq_true rfl)) dL_law_2653 ⟨kroomC (by omega), kroomS (by omega)⟩) hS (fun a _ h => kAy_N hr hkH1 a h) (fun a h => kAy_N hr hkH1 a h) (fun H2 locs hC2 hy8 hk8 hS => ?_)
  obtain ⟨r2, hI2, hO2⟩ := LI_step hI hG1 hO1 hC2 hk8 h8
  refine lv_istore (lv' := [(6, .int (iZ (if ex2 (!inb (fx xs (i + 1)) 0 3 || !inb (fx xs (i + 2)) 0 3) (!inb (fx xs (i + 3)) 0 2) = 0 then (ordT (32 * σ 3 ((fx xs (i + 1)).toNat) + σ 4 ((fx xs (i + 1)).toNat)) (32 * σ 3 ((fx xs (i + 2)).toNat) + σ 4 ((fx xs (i + 2)).toNat)) (fx xs (i + 3))) else 0))), (5, .int (iZ (ex2 (!inb (fx xs (i + 1)) 0 3 || !inb (fx xs (i + 2)) 0 3) (!inb (fx xs (i + 3)) 0 2)))), (4, .int (iZ i)), (3, .ref o), (2, .ref m0), (1, .ref (q 0)), (0, .ref b)]) hx hb dL_law_2656 hl (by decide) rfl (fun ls hl => ?_)
  refine lv_goto (tgt := 3011) hx hb dL_law_2658 (by decide) ?_
  refine W.widen (k := cs + 600) (n := ss + 4000) (by omega) (by omega) ?_
  exact kk r2 _ _ _ _ _ hI2 hS (by have h9 := h8.2; omega) (lv_sub hl [2, 3, 4, 5, 6] rfl)

set_option maxHeartbeats 4000000 in
set_option maxRecDepth 100000 in
theorem lc_45 {p : Program} {l : Launch} {e : Env} {s : State} {m : MethodId} {below : List Frame} {meth : Method} {c : Code} {Q : State → Prop} {b L : Nat} {xs : Nat → Int32} {dC : Nat → ClassId} {dI : Nat → Nat → Nat} {dA : Nat → ClassId} {k : Nat → Nat} (hst : l.stackTraces = false) (F : kF p s m meth c b L xs dC dI dA k)
    {q : Nat → Nat} {m0 : Nat} {r : Nat → Nat → Nat} {o : Nat} {σ : Nat → Nat → Int} {th : Int} {H : Heap} {locs : List Loc} {cs ss : Nat} {i : Int} {ls : Array Slot} (hI : LI dC dI dA k q m0 r o σ th H) (hS : va_S (kN0 k) s.heap H locs) (hi : 0 ≤ i ∧ i + 5 ≤ (L : Int)) (hcs : cs + 600 ≤ 652095) (hss : ss + 4000 ≤ 7139820) (h80 : 0 ≤ σ 8 0 ∧ σ 8 0 ≤ 100000) (hl : lv_has ls 7 [(4, .int (iZ i)), (3, .ref o), (2, .ref m0), (1, .ref (q 0)), (0, .ref b)])
    (kk : ∀ (r' : Nat → Nat → Nat) (σ' : Nat → Nat → Int) (th' : Int) (H' : Heap) (locs' : List Loc) (ls' : Array Slot), LI dC dI dA k q m0 r' o σ' th' H' → va_S (kN0 k) s.heap H' locs' → σ 8 0 ≤ σ' 8 0 ∧ σ' 8 0 ≤ σ 8 0 + 1 → lv_has ls' 7 [(4, .int (iZ i)), (3, .ref o), (2, .ref m0), (1, .ref (q 0)), (0, .ref b)] → W p l e room_1 s m #[Value.ref b] below meth c H' locs' (cs + 600) (ss + 4000) Q (F0 m 3011 ls' [])) :
    W p l e room_1 s m #[Value.ref b] below meth c H locs cs ss Q (F0 m 43 ls [.int (iZ 45)]) := by
  obtain ⟨hx, hb, hr9, hml, hown, hts, hX, hbl, hL5, hMJ, hL, hk0, hlocks⟩ := F
  obtain ⟨hG, hOK, hq, hY, hr, hO0, hko, ho9, h1, h2⟩ := id hI
  obtain ⟨sn, sv, -, hO⟩ := id hO0
  have hM := hMJ.1
  have hbA : ¬ kN0 k b := fun z => absurd (show k 0 ≤ b from z) (by omega)
  have hN : ∀ a, kN0 k a → k 0 ≤ a := fun _ h => h
  have hkH : k 0 ≤ H.size := by have := hS.1; omega
  refine lv_tableIn (tgt := 2661) (off := 2618) hx hb dL_law_43 (by rw [iZ_toInt (z := 45) (by omega)]; omega) (by rw [iZ_toInt (z := 45) (by omega)]; omega) (by rw [iZ_toInt (z := 45) (by omega)]; rfl) (by decide) ?_
  refine lv_aload_n hx hb dL_law_2661 rfl (lv_at hl 3 rfl) ?_
  refine lv_aload_n hx hb dL_law_2662 rfl (lv_at hl 4 rfl) ?_
  refine lv_iload hx hb dL_law_2663 (lv_at hl 0 rfl) ?_
  refine lv_iconst (v := iZ 1) hx hb dL_law_2665 rfl ?_
  refine kz_iadd hx hb dL_law_2666 ?_
  refine kz_sld hx hb hX hbl hbA hS (by omega) hL5 dL_law_2667 ?_
  refine lv_aload_n hx hb dL_law_2668 rfl (lv_at hl 4 rfl) ?_
  refine lv_iload hx hb dL_law_2669 (lv_at hl 0 rfl) ?_
  refine lv_iconst (v := iZ 2) hx hb dL_law_2671 rfl ?_
  refine kz_iadd hx hb dL_law_2672 ?_
  refine kz_sld hx hb hX hbl hbA hS (by omega) hL5 dL_law_2673 ?_
  refine lv_aload_n hx hb dL_law_2674 rfl (lv_at hl 4 rfl) ?_
  refine lv_iload hx hb dL_law_2675 (lv_at hl 0 rfl) ?_
  refine lv_iconst (v := iZ 3) hx hb dL_law_2677 rfl ?_
  refine kz_iadd hx hb dL_law_2678 ?_
  refine kz_sld hx hb hX hbl hbA hS (by omega) hL5 dL_law_2679 ?_
  refine lv_aload_n hx hb dL_law_2680 rfl (lv_at hl 1 rfl) ?_
  refine kc2 (vx_runSW (As := [.ref (q 0), .int (iZ (fx xs (i + 1))), .int (iZ (fx xs (i + 2))), .int (iZ (fx xs (i + 3))), .ref o]) (rest := []) ⟨hx, hb, hml, hown, hts⟩ (c_L_isFeast l hst dC dI dA k q σ _ hG hOK hq o sn sv hO hko ho9 ((fx xs (i + 1))) ((fx xs (i + 2))) ((fx xs (i + 3))) (fx_rng _ _) (fx_rng _ _) (fx_rng _ _)) (vx_cwSW 5 hts (kg_S mw964 mw965 mw41 rfl mw966) rfl rfl rfl hdS_L_isFeast ⟨Nat.le_of_ble_eq_true rfl, Nat.le_of_ble_eq_true rfl⟩) ⟨fun a U g mk q => ⟨q.1, q.2.1, kMJ_call q.2.2.1, kL_call q.2.2.2⟩, fun U hU hW => ⟨rfl, hU, kMJ_kept hMJ hS hN hU hW, kL_warm hL hW⟩⟩ rfl rfl hl.1 rfl (lv_room (Nat.le_of_ble_eq_true rfl)) dL_law_2681 ⟨kroomC (by omega), kroomS (by omega)⟩) hS (fun a _ h => kAO_N hq hko hkH a h) (fun a h => kAO_N hq hko hkH a h) (fun H1 locs hC hy9 hk9 hS => ?_)
  obtain ⟨hG1, hO1⟩ := hC
  have hY1 := kY_keptO hY hk9 h1 h2
  have hG1 := gX_cast hG1 (kif_same _)
  have h8 : kOK8 σ σ := ⟨hOK, rfl⟩
  have hkH1 : k 0 ≤ H1.size := Nat.le_trans hkH hy9
  clear hk9
  refine lv_istore (lv' := [(5, .int (iZ (ex2 (!inb (fx xs (i + 1)) 0 3 || !inb (fx xs (i + 3)) 0 3) (!inb (fx xs (i + 2)) 0 4)))), (4, .int (iZ i)), (3, .ref o), (2, .ref m0), (1, .ref (q 0)), (0, .ref b)]) hx hb dL_law_2684 hl (by decide) rfl (fun ls hl => ?_)
  refine lv_aload_n hx hb dL_law_2686 rfl (lv_at hl 3 rfl) ?_
  refine lv_aload_n hx hb dL_law_2687 rfl (lv_at hl 5 rfl) ?_
  refine lv_iload hx hb dL_law_2688 (lv_at hl 1 rfl) ?_
  refine lv_iconst (v := iZ 1) hx hb dL_law_2690 rfl ?_
  refine kz_iadd hx hb dL_law_2691 ?_
  refine kz_sld hx hb hX hbl hbA hS (by omega) hL5 dL_law_2692 ?_
  refine lv_aload_n hx hb dL_law_2693 rfl (lv_at hl 5 rfl) ?_
  refine lv_iload hx hb dL_law_2694 (lv_at hl 1 rfl) ?_
  refine lv_iconst (v := iZ 2) hx hb dL_law_2696 rfl ?_
  refine kz_iadd hx hb dL_law_2697 ?_
  refine kz_sld hx hb hX hbl hbA hS (by omega) hL5 dL_law_2698 ?_
  refine lv_aload_n hx hb dL_law_2699 rfl (lv_at hl 5 rfl) ?_
  refine lv_iload hx hb dL_law_2700 (lv_at hl 1 rfl) ?_
  refine lv_iconst (v := iZ 3) hx hb dL_law_2702 rfl ?_
  refine kz_iadd hx hb dL_law_2703 ?_
  refine kz_sld hx hb hX hbl hbA hS (by omega) hL5 dL_law_2704 ?_
  refine kc2 (va_runV (As := [.int (iZ (fx xs (i + 1))), .int (iZ (fx xs (i + 2))), .int (iZ (fx xs (i + 3)))]) (rest := []) ⟨hx, hb, hml, hown, hts⟩ (c_X3_isFeast l dC dI dA k m0 r σ th _ hY1 hr hOK ((fx xs (i + 1))) ((fx xs (i + 2))) ((fx xs (i + 3))) (fx_rng _ _) (fx_rng _ _) (fx_rng _ _)) (cwV 3 hts (kg_V mw1363 mw1364 mw1365 mw47 rfl mw1366) rfl rfl rfl hdV_X3_isFeast ⟨Nat.le_of_ble_eq_true rfl, Nat.le_of_ble_eq_true rfl⟩) ⟨fun a U g mk q => ⟨q.1, q.2.1, kM_call q.2.2⟩, va_recv hM.1 hY1 (ci := 6) (q0 := 0) rfl rfl, fun U hU hW => ⟨rfl, hU, kM_kept hM hS hN hU hW⟩⟩ rfl rfl hl.1 rfl (lv_room (Nat.le_of_ble_eq_true rfl)) dL_law_2705 ⟨kroomC (by omega), kroomS (by omega)⟩) hS (fun a _ h => kAy_N hr hkH1 a h) (fun a h => kAy_N hr hkH1 a h) (fun H2 locs hC2 hy8 hk8 hS => ?_)
  obtain ⟨r2, hI2, hO2⟩ := LI_step hI hG1 hO1 hC2 hk8 h8
  refine lv_istore (lv' := [(6, .int (iZ (bZ (decide (ex2 (!inb (fx xs (i + 1)) 0 3 || !inb (fx xs (i + 3)) 0 3) (!inb (fx xs (i + 2)) 0 4) = 0) && (decide ((fx xs (i + 2)) = 2 ∧ σ 3 ((fx xs (i + 1)).toNat) = σ 3 ((fx xs (i + 3)).toNat) ∧ σ 4 ((fx xs (i + 1)).toNat) = σ 4 ((fx xs (i + 3)).toNat))))))), (5, .int (iZ (ex2 (!inb (fx xs (i + 1)) 0 3 || !inb (fx xs (i + 3)) 0 3) (!inb (fx xs (i + 2)) 0 4)))), (4, .int (iZ i)), (3, .ref o), (2, .ref m0), (1, .ref (q 0)), (0, .ref b)]) hx hb dL_law_2708 hl (by decide) rfl (fun ls hl => ?_)
  refine lv_goto (tgt := 3011) hx hb dL_law_2710 (by decide) ?_
  refine W.widen (k := cs + 600) (n := ss + 4000) (by omega) (by omega) ?_
  exact kk r2 _ _ _ _ _ hI2 hS (by have h9 := h8.2; omega) (lv_sub hl [2, 3, 4, 5, 6] rfl)

set_option maxHeartbeats 4000000 in
set_option maxRecDepth 100000 in
theorem lc_46 {p : Program} {l : Launch} {e : Env} {s : State} {m : MethodId} {below : List Frame} {meth : Method} {c : Code} {Q : State → Prop} {b L : Nat} {xs : Nat → Int32} {dC : Nat → ClassId} {dI : Nat → Nat → Nat} {dA : Nat → ClassId} {k : Nat → Nat} (hst : l.stackTraces = false) (F : kF p s m meth c b L xs dC dI dA k)
    {q : Nat → Nat} {m0 : Nat} {r : Nat → Nat → Nat} {o : Nat} {σ : Nat → Nat → Int} {th : Int} {H : Heap} {locs : List Loc} {cs ss : Nat} {i : Int} {ls : Array Slot} (hI : LI dC dI dA k q m0 r o σ th H) (hS : va_S (kN0 k) s.heap H locs) (hi : 0 ≤ i ∧ i + 5 ≤ (L : Int)) (hcs : cs + 600 ≤ 652095) (hss : ss + 4000 ≤ 7139820) (h80 : 0 ≤ σ 8 0 ∧ σ 8 0 ≤ 100000) (hl : lv_has ls 7 [(4, .int (iZ i)), (3, .ref o), (2, .ref m0), (1, .ref (q 0)), (0, .ref b)])
    (kk : ∀ (r' : Nat → Nat → Nat) (σ' : Nat → Nat → Int) (th' : Int) (H' : Heap) (locs' : List Loc) (ls' : Array Slot), LI dC dI dA k q m0 r' o σ' th' H' → va_S (kN0 k) s.heap H' locs' → σ 8 0 ≤ σ' 8 0 ∧ σ' 8 0 ≤ σ 8 0 + 1 → lv_has ls' 7 [(4, .int (iZ i)), (3, .ref o), (2, .ref m0), (1, .ref (q 0)), (0, .ref b)] → W p l e room_1 s m #[Value.ref b] below meth c H' locs' (cs + 600) (ss + 4000) Q (F0 m 3011 ls' [])) :
    W p l e room_1 s m #[Value.ref b] below meth c H locs cs ss Q (F0 m 43 ls [.int (iZ 46)]) := by
  obtain ⟨hx, hb, hr9, hml, hown, hts, hX, hbl, hL5, hMJ, hL, hk0, hlocks⟩ := F
  obtain ⟨hG, hOK, hq, hY, hr, hO0, hko, ho9, h1, h2⟩ := id hI
  obtain ⟨sn, sv, -, hO⟩ := id hO0
  have hM := hMJ.1
  have hbA : ¬ kN0 k b := fun z => absurd (show k 0 ≤ b from z) (by omega)
  have hN : ∀ a, kN0 k a → k 0 ≤ a := fun _ h => h
  have hkH : k 0 ≤ H.size := by have := hS.1; omega
  refine lv_tableIn (tgt := 2713) (off := 2670) hx hb dL_law_43 (by rw [iZ_toInt (z := 46) (by omega)]; omega) (by rw [iZ_toInt (z := 46) (by omega)]; omega) (by rw [iZ_toInt (z := 46) (by omega)]; rfl) (by decide) ?_
  refine lv_aload_n hx hb dL_law_2713 rfl (lv_at hl 3 rfl) ?_
  refine lv_aload_n hx hb dL_law_2714 rfl (lv_at hl 4 rfl) ?_
  refine lv_iload hx hb dL_law_2715 (lv_at hl 0 rfl) ?_
  refine lv_iconst (v := iZ 1) hx hb dL_law_2717 rfl ?_
  refine kz_iadd hx hb dL_law_2718 ?_
  refine kz_sld hx hb hX hbl hbA hS (by omega) hL5 dL_law_2719 ?_
  refine lv_aload_n hx hb dL_law_2720 rfl (lv_at hl 4 rfl) ?_
  refine lv_iload hx hb dL_law_2721 (lv_at hl 0 rfl) ?_
  refine lv_iconst (v := iZ 2) hx hb dL_law_2723 rfl ?_
  refine kz_iadd hx hb dL_law_2724 ?_
  refine kz_sld hx hb hX hbl hbA hS (by omega) hL5 dL_law_2725 ?_
  refine lv_aload_n hx hb dL_law_2726 rfl (lv_at hl 1 rfl) ?_
  refine kc2 (vx_runSW (As := [.ref (q 0), .int (iZ (fx xs (i + 1))), .int (iZ (fx xs (i + 2))), .ref o]) (rest := []) ⟨hx, hb, hml, hown, hts⟩ (c_L_ofDay l hst dC dI dA k q σ _ hG hOK hq o sn sv hO hko ho9 ((fx xs (i + 1))) ((fx xs (i + 2))) (fx_rng _ _) (fx_rng _ _)) (vx_cwSW 4 hts (kg_S mw971 mw972 mw41 rfl mw973) rfl rfl rfl hdS_L_ofDay ⟨Nat.le_of_ble_eq_true rfl, Nat.le_of_ble_eq_true rfl⟩) ⟨fun a U g mk q => ⟨q.1, q.2.1, kMJ_call q.2.2.1, kL_call q.2.2.2⟩, fun U hU hW => ⟨rfl, hU, kMJ_kept hMJ hS hN hU hW, kL_warm hL hW⟩⟩ rfl rfl hl.1 rfl (lv_room (Nat.le_of_ble_eq_true rfl)) dL_law_2727 ⟨kroomC (by omega), kroomS (by omega)⟩) hS (fun a _ h => kAO_N hq hko hkH a h) (fun a h => kAO_N hq hko hkH a h) (fun H1 locs hC hy9 hk9 hS => ?_)
  obtain ⟨hG1, hO1⟩ := hC
  have hY1 := kY_keptO hY hk9 h1 h2
  have hG1 := gX_cast hG1 (kif_same _)
  have h8 : kOK8 σ σ := ⟨hOK, rfl⟩
  have hkH1 : k 0 ≤ H1.size := Nat.le_trans hkH hy9
  clear hk9
  refine lv_istore (lv' := [(5, .int (iZ (ex2 (!inb (fx xs (i + 1)) 0 3) (!inb (fx xs (i + 2)) 0 5)))), (4, .int (iZ i)), (3, .ref o), (2, .ref m0), (1, .ref (q 0)), (0, .ref b)]) hx hb dL_law_2730 hl (by decide) rfl (fun ls hl => ?_)
  refine lv_aload_n hx hb dL_law_2732 rfl (lv_at hl 3 rfl) ?_
  refine lv_aload_n hx hb dL_law_2733 rfl (lv_at hl 5 rfl) ?_
  refine lv_iload hx hb dL_law_2734 (lv_at hl 1 rfl) ?_
  refine lv_iconst (v := iZ 1) hx hb dL_law_2736 rfl ?_
  refine kz_iadd hx hb dL_law_2737 ?_
  refine kz_sld hx hb hX hbl hbA hS (by omega) hL5 dL_law_2738 ?_
  refine lv_aload_n hx hb dL_law_2739 rfl (lv_at hl 5 rfl) ?_
  refine lv_iload hx hb dL_law_2740 (lv_at hl 1 rfl) ?_
  refine lv_iconst (v := iZ 2) hx hb dL_law_2742 rfl ?_
  refine kz_iadd hx hb dL_law_2743 ?_
  refine kz_sld hx hb hX hbl hbA hS (by omega) hL5 dL_law_2744 ?_
  refine kc2 (va_runV (As := [.int (iZ (fx xs (i + 1))), .int (iZ (fx xs (i + 2)))]) (rest := []) ⟨hx, hb, hml, hown, hts⟩ (c_X3_ofDay l dC dI dA k m0 r σ th _ hY1 hr hOK ((fx xs (i + 1))) ((fx xs (i + 2))) (fx_rng _ _) (fx_rng _ _)) (cwV 2 hts (kg_V mw1367 mw1368 mw1369 mw47 rfl mw1370) rfl rfl rfl hdV_X3_ofDay ⟨Nat.le_of_ble_eq_true rfl, Nat.le_of_ble_eq_true rfl⟩) ⟨fun a U g mk q => ⟨q.1, q.2.1, kM_call q.2.2⟩, va_recv hM.1 hY1 (ci := 6) (q0 := 0) rfl rfl, fun U hU hW => ⟨rfl, hU, kM_kept hM hS hN hU hW⟩⟩ rfl rfl hl.1 rfl (lv_room (Nat.le_of_ble_eq_true rfl)) dL_law_2745 ⟨kroomC (by omega), kroomS (by omega)⟩) hS (fun a _ h => kAy_N hr hkH1 a h) (fun a h => kAy_N hr hkH1 a h) (fun H2 locs hC2 hy8 hk8 hS => ?_)
  obtain ⟨r2, hI2, hO2⟩ := LI_step hI hG1 hO1 hC2 hk8 h8
  refine lv_istore (lv' := [(6, .int (iZ (if ex2 (!inb (fx xs (i + 1)) 0 3) (!inb (fx xs (i + 2)) 0 5) = 0 then (ofD σ ((fx xs (i + 1)).toNat) (fx xs (i + 2))) else 0))), (5, .int (iZ (ex2 (!inb (fx xs (i + 1)) 0 3) (!inb (fx xs (i + 2)) 0 5)))), (4, .int (iZ i)), (3, .ref o), (2, .ref m0), (1, .ref (q 0)), (0, .ref b)]) hx hb dL_law_2748 hl (by decide) rfl (fun ls hl => ?_)
  refine lv_goto (tgt := 3011) hx hb dL_law_2750 (by decide) ?_
  refine W.widen (k := cs + 600) (n := ss + 4000) (by omega) (by omega) ?_
  exact kk r2 _ _ _ _ _ hI2 hS (by have h9 := h8.2; omega) (lv_sub hl [2, 3, 4, 5, 6] rfl)

set_option maxHeartbeats 4000000 in
set_option maxRecDepth 100000 in
theorem lc_47 {p : Program} {l : Launch} {e : Env} {s : State} {m : MethodId} {below : List Frame} {meth : Method} {c : Code} {Q : State → Prop} {b L : Nat} {xs : Nat → Int32} {dC : Nat → ClassId} {dI : Nat → Nat → Nat} {dA : Nat → ClassId} {k : Nat → Nat} (hst : l.stackTraces = false) (F : kF p s m meth c b L xs dC dI dA k)
    {q : Nat → Nat} {m0 : Nat} {r : Nat → Nat → Nat} {o : Nat} {σ : Nat → Nat → Int} {th : Int} {H : Heap} {locs : List Loc} {cs ss : Nat} {i : Int} {ls : Array Slot} (hI : LI dC dI dA k q m0 r o σ th H) (hS : va_S (kN0 k) s.heap H locs) (hi : 0 ≤ i ∧ i + 5 ≤ (L : Int)) (hcs : cs + 600 ≤ 652095) (hss : ss + 4000 ≤ 7139820) (h80 : 0 ≤ σ 8 0 ∧ σ 8 0 ≤ 100000) (hl : lv_has ls 7 [(4, .int (iZ i)), (3, .ref o), (2, .ref m0), (1, .ref (q 0)), (0, .ref b)])
    (kk : ∀ (r' : Nat → Nat → Nat) (σ' : Nat → Nat → Int) (th' : Int) (H' : Heap) (locs' : List Loc) (ls' : Array Slot), LI dC dI dA k q m0 r' o σ' th' H' → va_S (kN0 k) s.heap H' locs' → σ 8 0 ≤ σ' 8 0 ∧ σ' 8 0 ≤ σ 8 0 + 1 → lv_has ls' 7 [(4, .int (iZ i)), (3, .ref o), (2, .ref m0), (1, .ref (q 0)), (0, .ref b)] → W p l e room_1 s m #[Value.ref b] below meth c H' locs' (cs + 600) (ss + 4000) Q (F0 m 3011 ls' [])) :
    W p l e room_1 s m #[Value.ref b] below meth c H locs cs ss Q (F0 m 43 ls [.int (iZ 47)]) := by
  obtain ⟨hx, hb, hr9, hml, hown, hts, hX, hbl, hL5, hMJ, hL, hk0, hlocks⟩ := F
  obtain ⟨hG, hOK, hq, hY, hr, hO0, hko, ho9, h1, h2⟩ := id hI
  obtain ⟨sn, sv, -, hO⟩ := id hO0
  have hM := hMJ.1
  have hbA : ¬ kN0 k b := fun z => absurd (show k 0 ≤ b from z) (by omega)
  have hN : ∀ a, kN0 k a → k 0 ≤ a := fun _ h => h
  have hkH : k 0 ≤ H.size := by have := hS.1; omega
  refine lv_tableIn (tgt := 2753) (off := 2710) hx hb dL_law_43 (by rw [iZ_toInt (z := 47) (by omega)]; omega) (by rw [iZ_toInt (z := 47) (by omega)]; omega) (by rw [iZ_toInt (z := 47) (by omega)]; rfl) (by decide) ?_
  refine lv_aload_n hx hb dL_law_2753 rfl (lv_at hl 3 rfl) ?_
  refine lv_aload_n hx hb dL_law_2754 rfl (lv_at hl 4 rfl) ?_
  refine lv_iload hx hb dL_law_2755 (lv_at hl 0 rfl) ?_
  refine lv_iconst (v := iZ 1) hx hb dL_law_2757 rfl ?_
  refine kz_iadd hx hb dL_law_2758 ?_
  refine kz_sld hx hb hX hbl hbA hS (by omega) hL5 dL_law_2759 ?_
  refine lv_aload_n hx hb dL_law_2760 rfl (lv_at hl 1 rfl) ?_
  refine kc2 (vx_runSW (As := [.ref (q 0), .int (iZ (fx xs (i + 1))), .ref o]) (rest := []) ⟨hx, hb, hml, hown, hts⟩ (c_L_number l hst dC dI dA k q σ _ hG hOK hq o sn sv hO hko ho9 ((fx xs (i + 1))) (fx_rng _ _)) (vx_cwSW 3 hts (kg_S mw975 mw976 mw41 rfl mw977) rfl rfl rfl hdS_L_number ⟨Nat.le_of_ble_eq_true rfl, Nat.le_of_ble_eq_true rfl⟩) ⟨fun a U g mk q => ⟨q.1, q.2.1, kMJ_call q.2.2.1, kL_call q.2.2.2⟩, fun U hU hW => ⟨rfl, hU, kMJ_kept hMJ hS hN hU hW, kL_warm hL hW⟩⟩ rfl rfl hl.1 rfl (lv_room (Nat.le_of_ble_eq_true rfl)) dL_law_2761 ⟨kroomC (by omega), kroomS (by omega)⟩) hS (fun a _ h => kAO_N hq hko hkH a h) (fun a h => kAO_N hq hko hkH a h) (fun H1 locs hC hy9 hk9 hS => ?_)
  obtain ⟨hG1, hO1⟩ := hC
  have hY1 := kY_keptO hY hk9 h1 h2
  have hG1 := gX_cast hG1 (kif_same _)
  have h8 : kOK8 σ σ := ⟨hOK, rfl⟩
  have hkH1 : k 0 ≤ H1.size := Nat.le_trans hkH hy9
  clear hk9
  refine lv_istore (lv' := [(5, .int (iZ (ex2 (!inb (fx xs (i + 1)) 0 3) (false)))), (4, .int (iZ i)), (3, .ref o), (2, .ref m0), (1, .ref (q 0)), (0, .ref b)]) hx hb dL_law_2764 hl (by decide) rfl (fun ls hl => ?_)
  refine lv_aload_n hx hb dL_law_2766 rfl (lv_at hl 3 rfl) ?_
  refine lv_aload_n hx hb dL_law_2767 rfl (lv_at hl 5 rfl) ?_
  refine lv_iload hx hb dL_law_2768 (lv_at hl 1 rfl) ?_
  refine lv_iconst (v := iZ 1) hx hb dL_law_2770 rfl ?_
  refine kz_iadd hx hb dL_law_2771 ?_
  refine kz_sld hx hb hX hbl hbA hS (by omega) hL5 dL_law_2772 ?_
  refine kc2r (va_runV (As := [.int (iZ (fx xs (i + 1)))]) (rest := []) ⟨hx, hb, hml, hown, hts⟩ (c_X3_number l dC dI dA k m0 r σ th _ hY1 hr hOK ((fx xs (i + 1))) (fx_rng _ _)) (cwV 1 hts (kg_V mw1375 mw1376 mw1377 mw47 rfl mw1378) rfl rfl rfl hdV_X3_number ⟨Nat.le_of_ble_eq_true rfl, Nat.le_of_ble_eq_true rfl⟩) ⟨fun a U g mk q => ⟨q.1, q.2.1, kMJ_call q.2.2⟩, va_recv hM.1 hY1 (ci := 6) (q0 := 0) rfl rfl, fun U hU hW => ⟨rfl, hU, kMJ_kept hMJ hS hN hU hW⟩⟩ rfl rfl hl.1 rfl (lv_room (Nat.le_of_ble_eq_true rfl)) dL_law_2773 ⟨kroomC (by omega), kroomS (by omega)⟩) hS (fun a _ h => kAy_N hr hkH1 a h) (fun a h => kAy_N hr hkH1 a h) (fun x9 H2 locs hC2 hy8 hk8 hS => ?_)
  obtain ⟨hC2, hT2⟩ := hC2
  have hC2 := gY_id (sz := H1.size) hr hC2
  obtain ⟨r2, hI2, -⟩ := LI_step hI hG1 (gOS_O hO1) hC2 hk8 h8
  have hO2 := gOS_step hI hO1 hk8
  refine lv_astore (lv' := [(6, .ref x9), (5, .int (iZ (ex2 (!inb (fx xs (i + 1)) 0 3) (false)))), (4, .int (iZ i)), (3, .ref o), (2, .ref m0), (1, .ref (q 0)), (0, .ref b)]) hx hb dL_law_2776 hl (by decide) rfl (fun ls hl => ?_)
  refine lv_aload_n hx hb dL_law_2778 rfl (lv_at hl 4 rfl) ?_
  obtain ⟨hG2, hOK2, hq2, hY2, hr2, -⟩ := id hI2
  refine kc0 (fun _ q => q) (va_runV (As := []) (rest := []) ⟨hx, hb, hml, hown, hts⟩ (c_X3_thrown l dC dI dA k m0 r2 _ _ _ hY2 hr2 hOK2) (cwV 0 hts (kg_V mw1013 mw1014 mw1015 mw47 rfl mw1016) rfl rfl rfl hdV_X3_thrown ⟨Nat.le_of_ble_eq_true rfl, Nat.le_of_ble_eq_true rfl⟩) ⟨fun a U g mk q => ⟨q.1, q.2.1, kM_call q.2.2⟩, va_recv hM.1 hY2 (ci := 6) (q0 := 0) rfl rfl, fun U hU hW => ⟨rfl, hU, kM_kept hM hS hN hU hW⟩⟩ rfl rfl hl.1 rfl (lv_room (Nat.le_of_ble_eq_true rfl)) dL_law_2779 ⟨kroomC (by omega), kroomS (by omega)⟩) ?_
  refine lv_iload hx hb dL_law_2782 (lv_at hl 1 rfl) ?_
  refine kz_icmp_eq (tgt := 2789) hx hb (ex2_rng _ _) (ex2_rng _ _) dL_law_2784 (by decide) (fun c_1 => ?_) (fun c_1 => absurd rfl c_1)
  refine lv_iload hx hb dL_law_2789 (lv_at hl 1 rfl) ?_
  refine kz_if_ne (tgt := 2808) hx hb (ex2_rng _ _) dL_law_2791 (by decide) (fun c_2 => ?_) (fun c_2 => ?_)
  · refine lv_goto (tgt := 3011) hx hb dL_law_2808 (by decide) ?_
    refine W.widen (k := cs + 600) (n := ss + 4000) (by omega) (by omega) ?_
    exact kk r2 _ _ _ _ _ hI2 hS (by have h9 := h8.2; omega) (lv_sub hl [2, 3, 4, 5, 6] rfl)
  · refine lv_aload_n hx hb dL_law_2794 rfl (lv_at hl 3 rfl) ?_
    obtain ⟨nv, vv, hPn, hT1⟩ := hO2
    obtain ⟨x8, hvv, w8, g8, -, ht8, hT8⟩ := hT1 c_2
    subst hvv
    obtain ⟨w9, g9, hn9, ht9, hT9⟩ := hT2 c_2
    refine va_getN (D := (dC, dI)) (ci := 5) (v := .ref x8) (C := RX2) (T := TX2) (N := 2) hx hb hts (fun w h => List.mem_cons_of_mem _ (gF_1_in h)) hown hM.1 hPn 0 rfl rfl 1 (by decide) (va_Nw.use rfl hL.2.1) (fun _ h9 => h9) rfl dL_law_2795 ?_
    refine lv_aload hx hb dL_law_2798 (lv_at hl 0 rfl) ?_
    refine kc0 (fun _ q => q) (va_runV (As := [.ref x9]) (rest := []) ⟨hx, hb, hml, hown, hts⟩ (c_J0_equals_9ea2dD l dC dI dA k x8 w8 x9 w9 g8 g9 _ _ (hT8.app hT9) (Nat.lt_of_le_of_lt hn9 (by decide)) (fun j hj => kTX_b (ht8 j hj)) (fun j hj => (ht8 j hj).trans (ht9 j hj).symm)) (cwV 1 hts (kg_V mw1435 mw1436 mw1437 mw45 rfl mw1438) rfl rfl rfl hdV_J0_equals_9ea2d ⟨Nat.le_of_ble_eq_true rfl, Nat.le_of_ble_eq_true rfl⟩) ⟨fun a U g mk q => ⟨q.1, q.2.1, kMJ_call q.2.2⟩, va_recv hM.1 hT8 (ci := 0) (q0 := 0) rfl rfl, fun U hU hW => ⟨rfl, hU, kMJ_kept hMJ hS hN hU hW⟩⟩ rfl rfl hl.1 rfl (lv_room (Nat.le_of_ble_eq_true rfl)) dL_law_2800 ⟨kroomC (by omega), kroomS (by omega)⟩) ?_
    refine kz_ifb_ne (tgt := 2808) hx hb  dL_law_2803 (by decide) (fun c_3 => ?_) (fun c_3 => absurd c_3 (by decide))
    refine lv_goto (tgt := 3011) hx hb dL_law_2808 (by decide) ?_
    refine W.widen (k := cs + 600) (n := ss + 4000) (by omega) (by omega) ?_
    exact kk r2 _ _ _ _ _ hI2 hS (by have h9 := h8.2; omega) (lv_sub hl [2, 3, 4, 5, 6] rfl)

set_option maxHeartbeats 4000000 in
set_option maxRecDepth 100000 in
theorem lc_48 {p : Program} {l : Launch} {e : Env} {s : State} {m : MethodId} {below : List Frame} {meth : Method} {c : Code} {Q : State → Prop} {b L : Nat} {xs : Nat → Int32} {dC : Nat → ClassId} {dI : Nat → Nat → Nat} {dA : Nat → ClassId} {k : Nat → Nat} (hst : l.stackTraces = false) (F : kF p s m meth c b L xs dC dI dA k)
    {q : Nat → Nat} {m0 : Nat} {r : Nat → Nat → Nat} {o : Nat} {σ : Nat → Nat → Int} {th : Int} {H : Heap} {locs : List Loc} {cs ss : Nat} {i : Int} {ls : Array Slot} (hI : LI dC dI dA k q m0 r o σ th H) (hS : va_S (kN0 k) s.heap H locs) (hi : 0 ≤ i ∧ i + 5 ≤ (L : Int)) (hcs : cs + 600 ≤ 652095) (hss : ss + 4000 ≤ 7139820) (h80 : 0 ≤ σ 8 0 ∧ σ 8 0 ≤ 100000) (hl : lv_has ls 7 [(4, .int (iZ i)), (3, .ref o), (2, .ref m0), (1, .ref (q 0)), (0, .ref b)])
    (kk : ∀ (r' : Nat → Nat → Nat) (σ' : Nat → Nat → Int) (th' : Int) (H' : Heap) (locs' : List Loc) (ls' : Array Slot), LI dC dI dA k q m0 r' o σ' th' H' → va_S (kN0 k) s.heap H' locs' → σ 8 0 ≤ σ' 8 0 ∧ σ' 8 0 ≤ σ 8 0 + 1 → lv_has ls' 7 [(4, .int (iZ i)), (3, .ref o), (2, .ref m0), (1, .ref (q 0)), (0, .ref b)] → W p l e room_1 s m #[Value.ref b] below meth c H' locs' (cs + 600) (ss + 4000) Q (F0 m 3011 ls' [])) :
    W p l e room_1 s m #[Value.ref b] below meth c H locs cs ss Q (F0 m 43 ls [.int (iZ 48)]) := by
  obtain ⟨hx, hb, hr9, hml, hown, hts, hX, hbl, hL5, hMJ, hL, hk0, hlocks⟩ := F
  obtain ⟨hG, hOK, hq, hY, hr, hO0, hko, ho9, h1, h2⟩ := id hI
  obtain ⟨sn, sv, -, hO⟩ := id hO0
  have hM := hMJ.1
  have hbA : ¬ kN0 k b := fun z => absurd (show k 0 ≤ b from z) (by omega)
  have hN : ∀ a, kN0 k a → k 0 ≤ a := fun _ h => h
  have hkH : k 0 ≤ H.size := by have := hS.1; omega
  refine lv_tableIn (tgt := 2811) (off := 2768) hx hb dL_law_43 (by rw [iZ_toInt (z := 48) (by omega)]; omega) (by rw [iZ_toInt (z := 48) (by omega)]; omega) (by rw [iZ_toInt (z := 48) (by omega)]; rfl) (by decide) ?_
  refine lv_aload_n hx hb dL_law_2811 rfl (lv_at hl 3 rfl) ?_
  refine lv_aload_n hx hb dL_law_2812 rfl (lv_at hl 4 rfl) ?_
  refine lv_iload hx hb dL_law_2813 (lv_at hl 0 rfl) ?_
  refine lv_iconst (v := iZ 1) hx hb dL_law_2815 rfl ?_
  refine kz_iadd hx hb dL_law_2816 ?_
  refine kz_sld hx hb hX hbl hbA hS (by omega) hL5 dL_law_2817 ?_
  refine lv_aload_n hx hb dL_law_2818 rfl (lv_at hl 4 rfl) ?_
  refine lv_iload hx hb dL_law_2819 (lv_at hl 0 rfl) ?_
  refine lv_iconst (v := iZ 2) hx hb dL_law_2821 rfl ?_
  refine kz_iadd hx hb dL_law_2822 ?_
  refine kz_sld hx hb hX hbl hbA hS (by omega) hL5 dL_law_2823 ?_
  refine lv_aload_n hx hb dL_law_2824 rfl (lv_at hl 4 rfl) ?_
  refine lv_iload hx hb dL_law_2825 (lv_at hl 0 rfl) ?_
  refine lv_iconst (v := iZ 3) hx hb dL_law_2827 rfl ?_
  refine kz_iadd hx hb dL_law_2828 ?_
  refine kz_sld hx hb hX hbl hbA hS (by omega) hL5 dL_law_2829 ?_
  refine lv_aload_n hx hb dL_law_2830 rfl (lv_at hl 1 rfl) ?_
  refine kc2 (vx_runSW (As := [.ref (q 0), .int (iZ (fx xs (i + 1))), .int (iZ (fx xs (i + 2))), .int (iZ (fx xs (i + 3))), .ref o]) (rest := []) ⟨hx, hb, hml, hown, hts⟩ (c_L_dayOrder l hst dC dI dA k q σ _ hG hOK hq o sn sv hO hko ho9 ((fx xs (i + 1))) ((fx xs (i + 2))) ((fx xs (i + 3))) (fx_rng _ _) (fx_rng _ _) (fx_rng _ _)) (vx_cwSW 5 hts (kg_S mw982 mw983 mw41 rfl mw984) rfl rfl rfl hdS_L_dayOrder ⟨Nat.le_of_ble_eq_true rfl, Nat.le_of_ble_eq_true rfl⟩) ⟨fun a U g mk q => ⟨q.1, q.2.1, kMJ_call q.2.2.1, kL_call q.2.2.2⟩, fun U hU hW => ⟨rfl, hU, kMJ_kept hMJ hS hN hU hW, kL_warm hL hW⟩⟩ rfl rfl hl.1 rfl (lv_room (Nat.le_of_ble_eq_true rfl)) dL_law_2831 ⟨kroomC (by omega), kroomS (by omega)⟩) hS (fun a _ h => kAO_N hq hko hkH a h) (fun a h => kAO_N hq hko hkH a h) (fun H1 locs hC hy9 hk9 hS => ?_)
  obtain ⟨hG1, hO1⟩ := hC
  have hY1 := kY_keptO hY hk9 h1 h2
  have hG1 := gX_cast hG1 (kif_same _)
  have h8 : kOK8 σ σ := ⟨hOK, rfl⟩
  have hkH1 : k 0 ≤ H1.size := Nat.le_trans hkH hy9
  clear hk9
  refine lv_istore (lv' := [(5, .int (iZ (ex2 (!inb (fx xs (i + 1)) 0 3 || !inb (fx xs (i + 2)) 0 3) (!inb (fx xs (i + 3)) 0 2)))), (4, .int (iZ i)), (3, .ref o), (2, .ref m0), (1, .ref (q 0)), (0, .ref b)]) hx hb dL_law_2834 hl (by decide) rfl (fun ls hl => ?_)
  refine lv_aload_n hx hb dL_law_2836 rfl (lv_at hl 3 rfl) ?_
  refine lv_aload_n hx hb dL_law_2837 rfl (lv_at hl 5 rfl) ?_
  refine lv_iload hx hb dL_law_2838 (lv_at hl 1 rfl) ?_
  refine lv_iconst (v := iZ 1) hx hb dL_law_2840 rfl ?_
  refine kz_iadd hx hb dL_law_2841 ?_
  refine kz_sld hx hb hX hbl hbA hS (by omega) hL5 dL_law_2842 ?_
  refine lv_aload_n hx hb dL_law_2843 rfl (lv_at hl 5 rfl) ?_
  refine lv_iload hx hb dL_law_2844 (lv_at hl 1 rfl) ?_
  refine lv_iconst (v := iZ 2) hx hb dL_law_2846 rfl ?_
  refine kz_iadd hx hb dL_law_2847 ?_
  refine kz_sld hx hb hX hbl hbA hS (by omega) hL5 dL_law_2848 ?_
  refine lv_aload_n hx hb dL_law_2849 rfl (lv_at hl 5 rfl) ?_
  refine lv_iload hx hb dL_law_2850 (lv_at hl 1 rfl) ?_
  refine lv_iconst (v := iZ 3) hx hb dL_law_2852 rfl ?_
  refine kz_iadd hx hb dL_law_2853 ?_
  refine kz_sld hx hb hX hbl hbA hS (by omega) hL5 dL_law_2854 ?_
  refine kc2 (va_runV (As := [.int (iZ (fx xs (i + 1))), .int (iZ (fx xs (i + 2))), .int (iZ (fx xs (i + 3)))]) (rest := []) ⟨hx, hb, hml, hown, hts⟩ (c_X3_dayOrder l dC dI dA k m0 r σ th _ hY1 hr hOK ((fx xs (i + 1))) ((fx xs (i + 2))) ((fx xs (i + 3))) (fx_rng _ _) (fx_rng _ _) (fx_rng _ _)) (cwV 3 hts (kg_V mw1379 mw1380 mw1381 mw47 rfl mw1382) rfl rfl rfl hdV_X3_dayOrder ⟨Nat.le_of_ble_eq_true rfl, Nat.le_of_ble_eq_true rfl⟩) ⟨fun a U g mk q => ⟨q.1, q.2.1, kM_call q.2.2⟩, va_recv hM.1 hY1 (ci := 6) (q0 := 0) rfl rfl, fun U hU hW => ⟨rfl, hU, kM_kept hM hS hN hU hW⟩⟩ rfl rfl hl.1 rfl (lv_room (Nat.le_of_ble_eq_true rfl)) dL_law_2855 ⟨kroomC (by omega), kroomS (by omega)⟩) hS (fun a _ h => kAy_N hr hkH1 a h) (fun a h => kAy_N hr hkH1 a h) (fun H2 locs hC2 hy8 hk8 hS => ?_)
  obtain ⟨r2, hI2, hO2⟩ := LI_step hI hG1 hO1 hC2 hk8 h8
  refine lv_istore (lv' := [(6, .int (iZ (if ex2 (!inb (fx xs (i + 1)) 0 3 || !inb (fx xs (i + 2)) 0 3) (!inb (fx xs (i + 3)) 0 2) = 0 then (ordT (dnum (σ 5 ((fx xs (i + 1)).toNat)) (σ 6 ((fx xs (i + 1)).toNat)) (σ 7 ((fx xs (i + 1)).toNat))) (dnum (σ 5 ((fx xs (i + 2)).toNat)) (σ 6 ((fx xs (i + 2)).toNat)) (σ 7 ((fx xs (i + 2)).toNat))) (fx xs (i + 3))) else 0))), (5, .int (iZ (ex2 (!inb (fx xs (i + 1)) 0 3 || !inb (fx xs (i + 2)) 0 3) (!inb (fx xs (i + 3)) 0 2)))), (4, .int (iZ i)), (3, .ref o), (2, .ref m0), (1, .ref (q 0)), (0, .ref b)]) hx hb dL_law_2858 hl (by decide) rfl (fun ls hl => ?_)
  refine lv_goto (tgt := 3011) hx hb dL_law_2860 (by decide) ?_
  refine W.widen (k := cs + 600) (n := ss + 4000) (by omega) (by omega) ?_
  exact kk r2 _ _ _ _ _ hI2 hS (by have h9 := h8.2; omega) (lv_sub hl [2, 3, 4, 5, 6] rfl)

set_option maxHeartbeats 4000000 in
set_option maxRecDepth 100000 in
theorem lc_49 {p : Program} {l : Launch} {e : Env} {s : State} {m : MethodId} {below : List Frame} {meth : Method} {c : Code} {Q : State → Prop} {b L : Nat} {xs : Nat → Int32} {dC : Nat → ClassId} {dI : Nat → Nat → Nat} {dA : Nat → ClassId} {k : Nat → Nat} (hst : l.stackTraces = false) (F : kF p s m meth c b L xs dC dI dA k)
    {q : Nat → Nat} {m0 : Nat} {r : Nat → Nat → Nat} {o : Nat} {σ : Nat → Nat → Int} {th : Int} {H : Heap} {locs : List Loc} {cs ss : Nat} {i : Int} {ls : Array Slot} (hI : LI dC dI dA k q m0 r o σ th H) (hS : va_S (kN0 k) s.heap H locs) (hi : 0 ≤ i ∧ i + 5 ≤ (L : Int)) (hcs : cs + 600 ≤ 652095) (hss : ss + 4000 ≤ 7139820) (h80 : 0 ≤ σ 8 0 ∧ σ 8 0 ≤ 100000) (hl : lv_has ls 7 [(4, .int (iZ i)), (3, .ref o), (2, .ref m0), (1, .ref (q 0)), (0, .ref b)])
    (kk : ∀ (r' : Nat → Nat → Nat) (σ' : Nat → Nat → Int) (th' : Int) (H' : Heap) (locs' : List Loc) (ls' : Array Slot), LI dC dI dA k q m0 r' o σ' th' H' → va_S (kN0 k) s.heap H' locs' → σ 8 0 ≤ σ' 8 0 ∧ σ' 8 0 ≤ σ 8 0 + 1 → lv_has ls' 7 [(4, .int (iZ i)), (3, .ref o), (2, .ref m0), (1, .ref (q 0)), (0, .ref b)] → W p l e room_1 s m #[Value.ref b] below meth c H' locs' (cs + 600) (ss + 4000) Q (F0 m 3011 ls' [])) :
    W p l e room_1 s m #[Value.ref b] below meth c H locs cs ss Q (F0 m 43 ls [.int (iZ 49)]) := by
  obtain ⟨hx, hb, hr9, hml, hown, hts, hX, hbl, hL5, hMJ, hL, hk0, hlocks⟩ := F
  obtain ⟨hG, hOK, hq, hY, hr, hO0, hko, ho9, h1, h2⟩ := id hI
  obtain ⟨sn, sv, -, hO⟩ := id hO0
  have hM := hMJ.1
  have hbA : ¬ kN0 k b := fun z => absurd (show k 0 ≤ b from z) (by omega)
  have hN : ∀ a, kN0 k a → k 0 ≤ a := fun _ h => h
  have hkH : k 0 ≤ H.size := by have := hS.1; omega
  refine lv_tableIn (tgt := 2863) (off := 2820) hx hb dL_law_43 (by rw [iZ_toInt (z := 49) (by omega)]; omega) (by rw [iZ_toInt (z := 49) (by omega)]; omega) (by rw [iZ_toInt (z := 49) (by omega)]; rfl) (by decide) ?_
  refine lv_aload_n hx hb dL_law_2863 rfl (lv_at hl 3 rfl) ?_
  refine lv_aload_n hx hb dL_law_2864 rfl (lv_at hl 4 rfl) ?_
  refine lv_iload hx hb dL_law_2865 (lv_at hl 0 rfl) ?_
  refine lv_iconst (v := iZ 1) hx hb dL_law_2867 rfl ?_
  refine kz_iadd hx hb dL_law_2868 ?_
  refine kz_sld hx hb hX hbl hbA hS (by omega) hL5 dL_law_2869 ?_
  refine lv_aload_n hx hb dL_law_2870 rfl (lv_at hl 4 rfl) ?_
  refine lv_iload hx hb dL_law_2871 (lv_at hl 0 rfl) ?_
  refine lv_iconst (v := iZ 2) hx hb dL_law_2873 rfl ?_
  refine kz_iadd hx hb dL_law_2874 ?_
  refine kz_sld hx hb hX hbl hbA hS (by omega) hL5 dL_law_2875 ?_
  refine lv_aload_n hx hb dL_law_2876 rfl (lv_at hl 1 rfl) ?_
  refine kc2 (vx_runSW (As := [.ref (q 0), .int (iZ (fx xs (i + 1))), .int (iZ (fx xs (i + 2))), .ref o]) (rest := []) ⟨hx, hb, hml, hown, hts⟩ (c_L_knows l hst dC dI dA k q σ _ hG hOK hq o sn sv hO hko ho9 ((fx xs (i + 1))) ((fx xs (i + 2))) (fx_rng _ _) (fx_rng _ _)) (vx_cwSW 4 hts (kg_S mw989 mw990 mw41 rfl mw991) rfl rfl rfl hdS_L_knows ⟨Nat.le_of_ble_eq_true rfl, Nat.le_of_ble_eq_true rfl⟩) ⟨fun a U g mk q => ⟨q.1, q.2.1, kMJ_call q.2.2.1, kL_call q.2.2.2⟩, fun U hU hW => ⟨rfl, hU, kMJ_kept hMJ hS hN hU hW, kL_warm hL hW⟩⟩ rfl rfl hl.1 rfl (lv_room (Nat.le_of_ble_eq_true rfl)) dL_law_2877 ⟨kroomC (by omega), kroomS (by omega)⟩) hS (fun a _ h => kAO_N hq hko hkH a h) (fun a h => kAO_N hq hko hkH a h) (fun H1 locs hC hy9 hk9 hS => ?_)
  obtain ⟨hG1, hO1⟩ := hC
  have hY1 := kY_keptO hY hk9 h1 h2
  have hG1 := gX_cast hG1 (kif_same _)
  have h8 : kOK8 σ σ := ⟨hOK, rfl⟩
  have hkH1 : k 0 ≤ H1.size := Nat.le_trans hkH hy9
  clear hk9
  refine lv_istore (lv' := [(5, .int (iZ (ex2 (!inb (fx xs (i + 1)) 0 2 || !inb (fx xs (i + 2)) 0 12) (false)))), (4, .int (iZ i)), (3, .ref o), (2, .ref m0), (1, .ref (q 0)), (0, .ref b)]) hx hb dL_law_2880 hl (by decide) rfl (fun ls hl => ?_)
  refine lv_aload_n hx hb dL_law_2882 rfl (lv_at hl 3 rfl) ?_
  refine lv_aload_n hx hb dL_law_2883 rfl (lv_at hl 5 rfl) ?_
  refine lv_iload hx hb dL_law_2884 (lv_at hl 1 rfl) ?_
  refine lv_iconst (v := iZ 1) hx hb dL_law_2886 rfl ?_
  refine kz_iadd hx hb dL_law_2887 ?_
  refine kz_sld hx hb hX hbl hbA hS (by omega) hL5 dL_law_2888 ?_
  refine lv_aload_n hx hb dL_law_2889 rfl (lv_at hl 5 rfl) ?_
  refine lv_iload hx hb dL_law_2890 (lv_at hl 1 rfl) ?_
  refine lv_iconst (v := iZ 2) hx hb dL_law_2892 rfl ?_
  refine kz_iadd hx hb dL_law_2893 ?_
  refine kz_sld hx hb hX hbl hbA hS (by omega) hL5 dL_law_2894 ?_
  refine kc2 (va_runV (As := [.int (iZ (fx xs (i + 1))), .int (iZ (fx xs (i + 2)))]) (rest := []) ⟨hx, hb, hml, hown, hts⟩ (c_X3_knows l dC dI dA k m0 r σ th _ hY1 hr hOK ((fx xs (i + 1))) ((fx xs (i + 2))) (fx_rng _ _) (fx_rng _ _)) (cwV 2 hts (kg_V mw1383 mw1384 mw1385 mw47 rfl mw1386) rfl rfl rfl hdV_X3_knows ⟨Nat.le_of_ble_eq_true rfl, Nat.le_of_ble_eq_true rfl⟩) ⟨fun a U g mk q => ⟨q.1, q.2.1, kM_call q.2.2⟩, va_recv hM.1 hY1 (ci := 6) (q0 := 0) rfl rfl, fun U hU hW => ⟨rfl, hU, kM_kept hM hS hN hU hW⟩⟩ rfl rfl hl.1 rfl (lv_room (Nat.le_of_ble_eq_true rfl)) dL_law_2895 ⟨kroomC (by omega), kroomS (by omega)⟩) hS (fun a _ h => kAy_N hr hkH1 a h) (fun a h => kAy_N hr hkH1 a h) (fun H2 locs hC2 hy8 hk8 hS => ?_)
  obtain ⟨r2, hI2, hO2⟩ := LI_step hI hG1 hO1 hC2 hk8 h8
  refine lv_istore (lv' := [(6, .int (iZ (bZ (decide (ex2 (!inb (fx xs (i + 1)) 0 2 || !inb (fx xs (i + 2)) 0 12) (false) = 0) && (knw (fx xs (i + 1)) (fx xs (i + 2))))))), (5, .int (iZ (ex2 (!inb (fx xs (i + 1)) 0 2 || !inb (fx xs (i + 2)) 0 12) (false)))), (4, .int (iZ i)), (3, .ref o), (2, .ref m0), (1, .ref (q 0)), (0, .ref b)]) hx hb dL_law_2898 hl (by decide) rfl (fun ls hl => ?_)
  refine lv_goto (tgt := 3011) hx hb dL_law_2900 (by decide) ?_
  refine W.widen (k := cs + 600) (n := ss + 4000) (by omega) (by omega) ?_
  exact kk r2 _ _ _ _ _ hI2 hS (by have h9 := h8.2; omega) (lv_sub hl [2, 3, 4, 5, 6] rfl)

set_option maxHeartbeats 4000000 in
set_option maxRecDepth 100000 in
theorem lc_50 {p : Program} {l : Launch} {e : Env} {s : State} {m : MethodId} {below : List Frame} {meth : Method} {c : Code} {Q : State → Prop} {b L : Nat} {xs : Nat → Int32} {dC : Nat → ClassId} {dI : Nat → Nat → Nat} {dA : Nat → ClassId} {k : Nat → Nat} (hst : l.stackTraces = false) (F : kF p s m meth c b L xs dC dI dA k)
    {q : Nat → Nat} {m0 : Nat} {r : Nat → Nat → Nat} {o : Nat} {σ : Nat → Nat → Int} {th : Int} {H : Heap} {locs : List Loc} {cs ss : Nat} {i : Int} {ls : Array Slot} (hI : LI dC dI dA k q m0 r o σ th H) (hS : va_S (kN0 k) s.heap H locs) (hi : 0 ≤ i ∧ i + 5 ≤ (L : Int)) (hcs : cs + 600 ≤ 652095) (hss : ss + 4000 ≤ 7139820) (h80 : 0 ≤ σ 8 0 ∧ σ 8 0 ≤ 100000) (hl : lv_has ls 7 [(4, .int (iZ i)), (3, .ref o), (2, .ref m0), (1, .ref (q 0)), (0, .ref b)])
    (kk : ∀ (r' : Nat → Nat → Nat) (σ' : Nat → Nat → Int) (th' : Int) (H' : Heap) (locs' : List Loc) (ls' : Array Slot), LI dC dI dA k q m0 r' o σ' th' H' → va_S (kN0 k) s.heap H' locs' → σ 8 0 ≤ σ' 8 0 ∧ σ' 8 0 ≤ σ 8 0 + 1 → lv_has ls' 7 [(4, .int (iZ i)), (3, .ref o), (2, .ref m0), (1, .ref (q 0)), (0, .ref b)] → W p l e room_1 s m #[Value.ref b] below meth c H' locs' (cs + 600) (ss + 4000) Q (F0 m 3011 ls' [])) :
    W p l e room_1 s m #[Value.ref b] below meth c H locs cs ss Q (F0 m 43 ls [.int (iZ 50)]) := by
  obtain ⟨hx, hb, hr9, hml, hown, hts, hX, hbl, hL5, hMJ, hL, hk0, hlocks⟩ := F
  obtain ⟨hG, hOK, hq, hY, hr, hO0, hko, ho9, h1, h2⟩ := id hI
  obtain ⟨sn, sv, -, hO⟩ := id hO0
  have hM := hMJ.1
  have hbA : ¬ kN0 k b := fun z => absurd (show k 0 ≤ b from z) (by omega)
  have hN : ∀ a, kN0 k a → k 0 ≤ a := fun _ h => h
  have hkH : k 0 ≤ H.size := by have := hS.1; omega
  refine lv_tableIn (tgt := 2903) (off := 2860) hx hb dL_law_43 (by rw [iZ_toInt (z := 50) (by omega)]; omega) (by rw [iZ_toInt (z := 50) (by omega)]; omega) (by rw [iZ_toInt (z := 50) (by omega)]; rfl) (by decide) ?_
  refine lv_aload_n hx hb dL_law_2903 rfl (lv_at hl 3 rfl) ?_
  refine lv_aload_n hx hb dL_law_2904 rfl (lv_at hl 4 rfl) ?_
  refine lv_iload hx hb dL_law_2905 (lv_at hl 0 rfl) ?_
  refine lv_iconst (v := iZ 1) hx hb dL_law_2907 rfl ?_
  refine kz_iadd hx hb dL_law_2908 ?_
  refine kz_sld hx hb hX hbl hbA hS (by omega) hL5 dL_law_2909 ?_
  refine kz_b2i hx hb (fx_rng _ _) dL_law_2910 dL_law_2913 dL_law_2914 dL_law_2917 ?_
  obtain ⟨tb, tn, tm, htn, hfit, htm, hPx⟩ := id hG
  refine kc0 (fun _ q => q) (va_runV (As := [.int (iZ (bZ (!decide (fx xs (i + 1) = 0))))]) (rest := []) ⟨hx, hb, hml, hown, hts⟩ (c_X1_edge l dC dI dA k q σ _ hG hOK (!decide (fx xs (i + 1) = 0)) ) (cwV 1 hts (kg_V mw115 mw116 mw117 mw42 rfl mw118) rfl rfl rfl hdV_X1_edge ⟨Nat.le_of_ble_eq_true rfl, Nat.le_of_ble_eq_true rfl⟩) ⟨fun a U g mk q => ⟨q.1, q.2.1, kM_call q.2.2⟩, va_recv hM.1 hPx (ci := 4) (q0 := 0) rfl rfl, fun U hU hW => ⟨rfl, hU, kM_kept hM hS hN hU hW⟩⟩ rfl rfl hl.1 rfl (lv_room (Nat.le_of_ble_eq_true rfl)) dL_law_2918 ⟨kroomC (by omega), kroomS (by omega)⟩) ?_
  have hG1 := hG
  have hO1 := hO0
  have hY1 := hY
  have h8 : kOK8 σ σ := ⟨hOK, rfl⟩
  have hkH1 := hkH
  refine lv_pop hx hb dL_law_2921 rfl ?_
  refine lv_aload_n hx hb dL_law_2922 rfl (lv_at hl 2 rfl) ?_
  refine lv_aload_n hx hb dL_law_2923 rfl (lv_at hl 4 rfl) ?_
  refine lv_iload hx hb dL_law_2924 (lv_at hl 0 rfl) ?_
  refine lv_iconst (v := iZ 1) hx hb dL_law_2926 rfl ?_
  refine kz_iadd hx hb dL_law_2927 ?_
  refine kz_sld hx hb hX hbl hbA hS (by omega) hL5 dL_law_2928 ?_
  refine kz_b2i hx hb (fx_rng _ _) dL_law_2929 dL_law_2932 dL_law_2933 dL_law_2936 ?_
  refine kc2 (va_runV (As := [.int (iZ (bZ (!decide (fx xs (i + 1) = 0))))]) (rest := []) ⟨hx, hb, hml, hown, hts⟩ (c_X3_edge l dC dI dA k m0 r σ th _ hY1 hr hOK (!decide (fx xs (i + 1) = 0)) ) (cwV 1 hts (kg_V mw1387 mw1388 mw1389 mw47 rfl mw1390) rfl rfl rfl hdV_X3_edge ⟨Nat.le_of_ble_eq_true rfl, Nat.le_of_ble_eq_true rfl⟩) ⟨fun a U g mk q => ⟨q.1, q.2.1, kM_call q.2.2⟩, va_recv hM.1 hY1 (ci := 6) (q0 := 0) rfl rfl, fun U hU hW => ⟨rfl, hU, kM_kept hM hS hN hU hW⟩⟩ rfl rfl hl.1 rfl (lv_room (Nat.le_of_ble_eq_true rfl)) dL_law_2937 ⟨kroomC (by omega), kroomS (by omega)⟩) hS (fun a _ h => kAy_N hr hkH1 a h) (fun a h => kAy_N hr hkH1 a h) (fun H2 locs hC2 hy8 hk8 hS => ?_)
  obtain ⟨r2, hI2, hO2⟩ := LI_step hI hG1 hO1 hC2 hk8 h8
  refine lv_pop hx hb dL_law_2940 rfl ?_
  refine lv_goto (tgt := 3011) hx hb dL_law_2941 (by decide) ?_
  refine W.widen (k := cs + 600) (n := ss + 4000) (by omega) (by omega) ?_
  exact kk r2 _ _ _ _ _ hI2 hS (by have h9 := h8.2; omega) (lv_sub hl [0, 1, 2, 3, 4] rfl)

set_option maxHeartbeats 4000000 in
set_option maxRecDepth 100000 in
theorem lc_51 {p : Program} {l : Launch} {e : Env} {s : State} {m : MethodId} {below : List Frame} {meth : Method} {c : Code} {Q : State → Prop} {b L : Nat} {xs : Nat → Int32} {dC : Nat → ClassId} {dI : Nat → Nat → Nat} {dA : Nat → ClassId} {k : Nat → Nat} (hst : l.stackTraces = false) (F : kF p s m meth c b L xs dC dI dA k)
    {q : Nat → Nat} {m0 : Nat} {r : Nat → Nat → Nat} {o : Nat} {σ : Nat → Nat → Int} {th : Int} {H : Heap} {locs : List Loc} {cs ss : Nat} {i : Int} {ls : Array Slot} (hI : LI dC dI dA k q m0 r o σ th H) (hS : va_S (kN0 k) s.heap H locs) (hi : 0 ≤ i ∧ i + 5 ≤ (L : Int)) (hcs : cs + 600 ≤ 652095) (hss : ss + 4000 ≤ 7139820) (h80 : 0 ≤ σ 8 0 ∧ σ 8 0 ≤ 100000) (hl : lv_has ls 7 [(4, .int (iZ i)), (3, .ref o), (2, .ref m0), (1, .ref (q 0)), (0, .ref b)])
    (kk : ∀ (r' : Nat → Nat → Nat) (σ' : Nat → Nat → Int) (th' : Int) (H' : Heap) (locs' : List Loc) (ls' : Array Slot), LI dC dI dA k q m0 r' o σ' th' H' → va_S (kN0 k) s.heap H' locs' → σ 8 0 ≤ σ' 8 0 ∧ σ' 8 0 ≤ σ 8 0 + 1 → lv_has ls' 7 [(4, .int (iZ i)), (3, .ref o), (2, .ref m0), (1, .ref (q 0)), (0, .ref b)] → W p l e room_1 s m #[Value.ref b] below meth c H' locs' (cs + 600) (ss + 4000) Q (F0 m 3011 ls' [])) :
    W p l e room_1 s m #[Value.ref b] below meth c H locs cs ss Q (F0 m 43 ls [.int (iZ 51)]) := by
  obtain ⟨hx, hb, hr9, hml, hown, hts, hX, hbl, hL5, hMJ, hL, hk0, hlocks⟩ := F
  obtain ⟨hG, hOK, hq, hY, hr, hO0, hko, ho9, h1, h2⟩ := id hI
  obtain ⟨sn, sv, -, hO⟩ := id hO0
  have hM := hMJ.1
  have hbA : ¬ kN0 k b := fun z => absurd (show k 0 ≤ b from z) (by omega)
  have hN : ∀ a, kN0 k a → k 0 ≤ a := fun _ h => h
  have hkH : k 0 ≤ H.size := by have := hS.1; omega
  refine lv_tableIn (tgt := 2944) (off := 2901) hx hb dL_law_43 (by rw [iZ_toInt (z := 51) (by omega)]; omega) (by rw [iZ_toInt (z := 51) (by omega)]; omega) (by rw [iZ_toInt (z := 51) (by omega)]; rfl) (by decide) ?_
  refine lv_aload_n hx hb dL_law_2944 rfl (lv_at hl 3 rfl) ?_
  obtain ⟨tb, tn, tm, htn, hfit, htm, hPx⟩ := id hG
  refine kc2 (va_runV (As := []) (rest := []) ⟨hx, hb, hml, hown, hts⟩ (kMet_noX (c_X1_knock l hst dC dI dA k q σ _ hG hOK hq) (fun E h => by rcases h with ⟨h, -⟩ | ⟨h, -⟩ <;> exact absurd h (by decide))) (cwV 0 hts (kg_V mw121 mw122 mw123 mw42 rfl mw124) rfl rfl rfl hdV_X1_knock ⟨Nat.le_of_ble_eq_true rfl, Nat.le_of_ble_eq_true rfl⟩) ⟨fun a U g mk q => ⟨q.1, q.2.1, kM_call q.2.2⟩, va_recv hM.1 hPx (ci := 4) (q0 := 0) rfl rfl, fun U hU hW => ⟨rfl, hU, kM_kept hM hS hN hU hW⟩⟩ rfl rfl hl.1 rfl (lv_room (Nat.le_of_ble_eq_true rfl)) dL_law_2945 ⟨kroomC (by omega), kroomS (by omega)⟩) hS (fun a _ h => kA_N hq hkH a h) (fun a h => kA_N hq hkH a h) (fun H1 locs hG1 hy9 hk9 hS => ?_)
  have hno : o < H.size → ¬ kA q H.size o := fun h z => z.elim (fun ⟨i, hi, e9⟩ => ho9 i hi e9.symm) (fun y => absurd h (Nat.not_lt.mpr y))
  have hO1 := gO_kept hO0 (H1 := H1) (fun h => hk9 _ h (hno h))
  have hY1 := kY_keptO (q := q) (o := o) hY (fun a h z => hk9 a h (fun y => z (Or.inl y))) h1 h2
  have hG1 : gX dC dI dA q (if ex2 (false) (false) = 0 then (sU σ 8 0 (σ 8 0 + 1)) else σ) H1 := hG1
  have hkH1 : k 0 ≤ H1.size := Nat.le_trans hkH hy9
  refine lv_pop hx hb dL_law_2948 rfl ?_
  refine lv_aload_n hx hb dL_law_2949 rfl (lv_at hl 2 rfl) ?_
  refine kc2 (va_runV (As := []) (rest := []) ⟨hx, hb, hml, hown, hts⟩ (c_X3_knock l dC dI dA k m0 r σ th _ hY1 hr hOK  ) (cwV 0 hts (kg_V mw1393 mw1394 mw1395 mw47 rfl mw1396) rfl rfl rfl hdV_X3_knock ⟨Nat.le_of_ble_eq_true rfl, Nat.le_of_ble_eq_true rfl⟩) ⟨fun a U g mk q => ⟨q.1, q.2.1, kM_call q.2.2⟩, va_recv hM.1 hY1 (ci := 6) (q0 := 0) rfl rfl, fun U hU hW => ⟨rfl, hU, kM_kept hM hS hN hU hW⟩⟩ rfl rfl hl.1 rfl (lv_room (Nat.le_of_ble_eq_true rfl)) dL_law_2950 ⟨kroomC (by omega), kroomS (by omega)⟩) hS (fun a _ h => kAy_N hr hkH1 a h) (fun a h => kAy_N hr hkH1 a h) (fun H2 locs hC2 hy8 hk8 hS => ?_)
  have h8 : kOK8 σ σ := ⟨hOK, rfl⟩
  obtain ⟨r2, hI2, hO2⟩ := LI_step8 hI hG1 hO1 hC2 hk8 (show kOK (sU σ 8 0 (σ 8 0 + 1)) from kOK_knock hOK)
  refine lv_pop hx hb dL_law_2953 rfl ?_
  refine lv_goto (tgt := 3011) hx hb dL_law_2954 (by decide) ?_
  refine W.widen (k := cs + 600) (n := ss + 4000) (by omega) (by omega) ?_
  have e9 : (sU σ 8 0 (σ 8 0 + 1)) 8 0 = σ 8 0 + 1 := by simp [sU]
  exact kk r2 _ _ _ _ _ hI2 hS ⟨Int.le_trans (show σ 8 0 ≤ σ 8 0 + 1 by omega) (Int.le_of_eq e9.symm), Int.le_of_eq e9⟩ (lv_sub hl [0, 1, 2, 3, 4] rfl)

set_option maxHeartbeats 4000000 in
set_option maxRecDepth 100000 in
theorem lc_52 {p : Program} {l : Launch} {e : Env} {s : State} {m : MethodId} {below : List Frame} {meth : Method} {c : Code} {Q : State → Prop} {b L : Nat} {xs : Nat → Int32} {dC : Nat → ClassId} {dI : Nat → Nat → Nat} {dA : Nat → ClassId} {k : Nat → Nat} (hst : l.stackTraces = false) (F : kF p s m meth c b L xs dC dI dA k)
    {q : Nat → Nat} {m0 : Nat} {r : Nat → Nat → Nat} {o : Nat} {σ : Nat → Nat → Int} {th : Int} {H : Heap} {locs : List Loc} {cs ss : Nat} {i : Int} {ls : Array Slot} (hI : LI dC dI dA k q m0 r o σ th H) (hS : va_S (kN0 k) s.heap H locs) (hi : 0 ≤ i ∧ i + 5 ≤ (L : Int)) (hcs : cs + 600 ≤ 652095) (hss : ss + 4000 ≤ 7139820) (h80 : 0 ≤ σ 8 0 ∧ σ 8 0 ≤ 100000) (hl : lv_has ls 7 [(4, .int (iZ i)), (3, .ref o), (2, .ref m0), (1, .ref (q 0)), (0, .ref b)])
    (kk : ∀ (r' : Nat → Nat → Nat) (σ' : Nat → Nat → Int) (th' : Int) (H' : Heap) (locs' : List Loc) (ls' : Array Slot), LI dC dI dA k q m0 r' o σ' th' H' → va_S (kN0 k) s.heap H' locs' → σ 8 0 ≤ σ' 8 0 ∧ σ' 8 0 ≤ σ 8 0 + 1 → lv_has ls' 7 [(4, .int (iZ i)), (3, .ref o), (2, .ref m0), (1, .ref (q 0)), (0, .ref b)] → W p l e room_1 s m #[Value.ref b] below meth c H' locs' (cs + 600) (ss + 4000) Q (F0 m 3011 ls' [])) :
    W p l e room_1 s m #[Value.ref b] below meth c H locs cs ss Q (F0 m 43 ls [.int (iZ 52)]) := by
  obtain ⟨hx, hb, hr9, hml, hown, hts, hX, hbl, hL5, hMJ, hL, hk0, hlocks⟩ := F
  obtain ⟨hG, hOK, hq, hY, hr, hO0, hko, ho9, h1, h2⟩ := id hI
  obtain ⟨sn, sv, -, hO⟩ := id hO0
  have hM := hMJ.1
  have hbA : ¬ kN0 k b := fun z => absurd (show k 0 ≤ b from z) (by omega)
  have hN : ∀ a, kN0 k a → k 0 ≤ a := fun _ h => h
  have hkH : k 0 ≤ H.size := by have := hS.1; omega
  refine lv_tableIn (tgt := 2957) (off := 2914) hx hb dL_law_43 (by rw [iZ_toInt (z := 52) (by omega)]; omega) (by rw [iZ_toInt (z := 52) (by omega)]; omega) (by rw [iZ_toInt (z := 52) (by omega)]; rfl) (by decide) ?_
  refine lv_aload_n hx hb dL_law_2957 rfl (lv_at hl 3 rfl) ?_
  refine lv_aload_n hx hb dL_law_2958 rfl (lv_at hl 4 rfl) ?_
  refine lv_iload hx hb dL_law_2959 (lv_at hl 0 rfl) ?_
  refine lv_iconst (v := iZ 1) hx hb dL_law_2961 rfl ?_
  refine kz_iadd hx hb dL_law_2962 ?_
  refine kz_sld hx hb hX hbl hbA hS (by omega) hL5 dL_law_2963 ?_
  refine lv_aload_n hx hb dL_law_2964 rfl (lv_at hl 1 rfl) ?_
  refine kc2 (vx_runSW (As := [.ref (q 0), .int (iZ (fx xs (i + 1))), .ref o]) (rest := []) ⟨hx, hb, hml, hown, hts⟩ (c_L_house l hst dC dI dA k q σ _ hG hOK hq o sn sv hO hko ho9 ((fx xs (i + 1))) (fx_rng _ _)) (vx_cwSW 3 hts (kg_S mw996 mw997 mw41 rfl mw998) rfl rfl rfl hdS_L_house ⟨Nat.le_of_ble_eq_true rfl, Nat.le_of_ble_eq_true rfl⟩) ⟨fun a U g mk q => ⟨q.1, q.2.1, kMJ_call q.2.2.1, kL_call q.2.2.2⟩, fun U hU hW => ⟨rfl, hU, kMJ_kept hMJ hS hN hU hW, kL_warm hL hW⟩⟩ rfl rfl hl.1 rfl (lv_room (Nat.le_of_ble_eq_true rfl)) dL_law_2965 ⟨kroomC (by omega), kroomS (by omega)⟩) hS (fun a _ h => kAO_N hq hko hkH a h) (fun a h => kAO_N hq hko hkH a h) (fun H1 locs hC hy9 hk9 hS => ?_)
  obtain ⟨hG1, hO1⟩ := hC
  have hY1 := kY_keptO hY hk9 h1 h2
  have hG1 := gX_cast hG1 (kif_same _)
  have h8 : kOK8 σ σ := ⟨hOK, rfl⟩
  have hkH1 : k 0 ≤ H1.size := Nat.le_trans hkH hy9
  clear hk9
  refine lv_istore (lv' := [(5, .int (iZ (ex2 (!inb (fx xs (i + 1)) 0 4) (false)))), (4, .int (iZ i)), (3, .ref o), (2, .ref m0), (1, .ref (q 0)), (0, .ref b)]) hx hb dL_law_2968 hl (by decide) rfl (fun ls hl => ?_)
  refine lv_aload_n hx hb dL_law_2970 rfl (lv_at hl 3 rfl) ?_
  refine lv_aload_n hx hb dL_law_2971 rfl (lv_at hl 5 rfl) ?_
  refine lv_iload hx hb dL_law_2972 (lv_at hl 1 rfl) ?_
  refine lv_iconst (v := iZ 1) hx hb dL_law_2974 rfl ?_
  refine kz_iadd hx hb dL_law_2975 ?_
  refine kz_sld hx hb hX hbl hbA hS (by omega) hL5 dL_law_2976 ?_
  refine kc2 (va_runV (As := [.int (iZ (fx xs (i + 1)))]) (rest := []) ⟨hx, hb, hml, hown, hts⟩ (c_X3_house l dC dI dA k m0 r σ th _ hY1 hr hOK ((fx xs (i + 1))) (fx_rng _ _)) (cwV 1 hts (kg_V mw1397 mw1398 mw1399 mw47 rfl mw1400) rfl rfl rfl hdV_X3_house ⟨Nat.le_of_ble_eq_true rfl, Nat.le_of_ble_eq_true rfl⟩) ⟨fun a U g mk q => ⟨q.1, q.2.1, kM_call q.2.2⟩, va_recv hM.1 hY1 (ci := 6) (q0 := 0) rfl rfl, fun U hU hW => ⟨rfl, hU, kM_kept hM hS hN hU hW⟩⟩ rfl rfl hl.1 rfl (lv_room (Nat.le_of_ble_eq_true rfl)) dL_law_2977 ⟨kroomC (by omega), kroomS (by omega)⟩) hS (fun a _ h => kAy_N hr hkH1 a h) (fun a h => kAy_N hr hkH1 a h) (fun H2 locs hC2 hy8 hk8 hS => ?_)
  obtain ⟨r2, hI2, hO2⟩ := LI_step hI hG1 hO1 hC2 hk8 h8
  refine lv_istore (lv' := [(6, .int (iZ (if ex2 (!inb (fx xs (i + 1)) 0 4) (false) = 0 then (hsR σ (fx xs (i + 1))) else 0))), (5, .int (iZ (ex2 (!inb (fx xs (i + 1)) 0 4) (false)))), (4, .int (iZ i)), (3, .ref o), (2, .ref m0), (1, .ref (q 0)), (0, .ref b)]) hx hb dL_law_2980 hl (by decide) rfl (fun ls hl => ?_)
  refine lv_goto (tgt := 3011) hx hb dL_law_2982 (by decide) ?_
  refine W.widen (k := cs + 600) (n := ss + 4000) (by omega) (by omega) ?_
  exact kk r2 _ _ _ _ _ hI2 hS (by have h9 := h8.2; omega) (lv_sub hl [2, 3, 4, 5, 6] rfl)

set_option maxHeartbeats 4000000 in
set_option maxRecDepth 100000 in
theorem lc_53 {p : Program} {l : Launch} {e : Env} {s : State} {m : MethodId} {below : List Frame} {meth : Method} {c : Code} {Q : State → Prop} {b L : Nat} {xs : Nat → Int32} {dC : Nat → ClassId} {dI : Nat → Nat → Nat} {dA : Nat → ClassId} {k : Nat → Nat} (hst : l.stackTraces = false) (F : kF p s m meth c b L xs dC dI dA k)
    {q : Nat → Nat} {m0 : Nat} {r : Nat → Nat → Nat} {o : Nat} {σ : Nat → Nat → Int} {th : Int} {H : Heap} {locs : List Loc} {cs ss : Nat} {i : Int} {ls : Array Slot} (hI : LI dC dI dA k q m0 r o σ th H) (hS : va_S (kN0 k) s.heap H locs) (hi : 0 ≤ i ∧ i + 5 ≤ (L : Int)) (hcs : cs + 600 ≤ 652095) (hss : ss + 4000 ≤ 7139820) (h80 : 0 ≤ σ 8 0 ∧ σ 8 0 ≤ 100000) (hl : lv_has ls 7 [(4, .int (iZ i)), (3, .ref o), (2, .ref m0), (1, .ref (q 0)), (0, .ref b)])
    (kk : ∀ (r' : Nat → Nat → Nat) (σ' : Nat → Nat → Int) (th' : Int) (H' : Heap) (locs' : List Loc) (ls' : Array Slot), LI dC dI dA k q m0 r' o σ' th' H' → va_S (kN0 k) s.heap H' locs' → σ 8 0 ≤ σ' 8 0 ∧ σ' 8 0 ≤ σ 8 0 + 1 → lv_has ls' 7 [(4, .int (iZ i)), (3, .ref o), (2, .ref m0), (1, .ref (q 0)), (0, .ref b)] → W p l e room_1 s m #[Value.ref b] below meth c H' locs' (cs + 600) (ss + 4000) Q (F0 m 3011 ls' [])) :
    W p l e room_1 s m #[Value.ref b] below meth c H locs cs ss Q (F0 m 43 ls [.int (iZ 53)]) := by
  obtain ⟨hx, hb, hr9, hml, hown, hts, hX, hbl, hL5, hMJ, hL, hk0, hlocks⟩ := F
  obtain ⟨hG, hOK, hq, hY, hr, hO0, hko, ho9, h1, h2⟩ := id hI
  obtain ⟨sn, sv, -, hO⟩ := id hO0
  have hM := hMJ.1
  have hbA : ¬ kN0 k b := fun z => absurd (show k 0 ≤ b from z) (by omega)
  have hN : ∀ a, kN0 k a → k 0 ≤ a := fun _ h => h
  have hkH : k 0 ≤ H.size := by have := hS.1; omega
  refine lv_tableIn (tgt := 2985) (off := 2942) hx hb dL_law_43 (by rw [iZ_toInt (z := 53) (by omega)]; omega) (by rw [iZ_toInt (z := 53) (by omega)]; omega) (by rw [iZ_toInt (z := 53) (by omega)]; rfl) (by decide) ?_
  refine lv_aload_n hx hb dL_law_2985 rfl (lv_at hl 3 rfl) ?_
  obtain ⟨tb, tn, tm, htn, hfit, htm, hPx⟩ := id hG
  refine kc0 (fun _ q => q) (va_runV (As := []) (rest := []) ⟨hx, hb, hml, hown, hts⟩ (c_X1_isSound l dC dI dA k q σ _ hG hOK  ) (cwV 0 hts (kg_V mw125 mw126 mw127 mw42 rfl mw128) rfl rfl rfl hdV_X1_isSound ⟨Nat.le_of_ble_eq_true rfl, Nat.le_of_ble_eq_true rfl⟩) ⟨fun a U g mk q => ⟨q.1, q.2.1, kM_call q.2.2⟩, va_recv hM.1 hPx (ci := 4) (q0 := 0) rfl rfl, fun U hU hW => ⟨rfl, hU, kM_kept hM hS hN hU hW⟩⟩ rfl rfl hl.1 rfl (lv_room (Nat.le_of_ble_eq_true rfl)) dL_law_2986 ⟨kroomC (by omega), kroomS (by omega)⟩) ?_
  have hG1 := hG
  have hO1 := hO0
  have hY1 := hY
  have h8 : kOK8 σ σ := ⟨hOK, rfl⟩
  have hkH1 := hkH
  refine lv_pop hx hb dL_law_2989 rfl ?_
  refine lv_aload_n hx hb dL_law_2990 rfl (lv_at hl 2 rfl) ?_
  refine kc2 (va_runV (As := []) (rest := []) ⟨hx, hb, hml, hown, hts⟩ (c_X3_isSound l dC dI dA k m0 r σ th _ hY1 hr hOK  ) (cwV 0 hts (kg_V mw1404 mw1405 mw1406 mw47 rfl mw1407) rfl rfl rfl hdV_X3_isSound ⟨Nat.le_of_ble_eq_true rfl, Nat.le_of_ble_eq_true rfl⟩) ⟨fun a U g mk q => ⟨q.1, q.2.1, kM_call q.2.2⟩, va_recv hM.1 hY1 (ci := 6) (q0 := 0) rfl rfl, fun U hU hW => ⟨rfl, hU, kM_kept hM hS hN hU hW⟩⟩ rfl rfl hl.1 rfl (lv_room (Nat.le_of_ble_eq_true rfl)) dL_law_2991 ⟨kroomC (by omega), kroomS (by omega)⟩) hS (fun a _ h => kAy_N hr hkH1 a h) (fun a h => kAy_N hr hkH1 a h) (fun H2 locs hC2 hy8 hk8 hS => ?_)
  obtain ⟨r2, hI2, hO2⟩ := LI_step hI hG1 hO1 hC2 hk8 h8
  refine lv_pop hx hb dL_law_2994 rfl ?_
  refine lv_goto (tgt := 3011) hx hb dL_law_2995 (by decide) ?_
  refine W.widen (k := cs + 600) (n := ss + 4000) (by omega) (by omega) ?_
  exact kk r2 _ _ _ _ _ hI2 hS (by have h9 := h8.2; omega) (lv_sub hl [0, 1, 2, 3, 4] rfl)

set_option maxHeartbeats 4000000 in
set_option maxRecDepth 100000 in
theorem lc_54 {p : Program} {l : Launch} {e : Env} {s : State} {m : MethodId} {below : List Frame} {meth : Method} {c : Code} {Q : State → Prop} {b L : Nat} {xs : Nat → Int32} {dC : Nat → ClassId} {dI : Nat → Nat → Nat} {dA : Nat → ClassId} {k : Nat → Nat} (hst : l.stackTraces = false) (F : kF p s m meth c b L xs dC dI dA k)
    {q : Nat → Nat} {m0 : Nat} {r : Nat → Nat → Nat} {o : Nat} {σ : Nat → Nat → Int} {th : Int} {H : Heap} {locs : List Loc} {cs ss : Nat} {i : Int} {ls : Array Slot} (hI : LI dC dI dA k q m0 r o σ th H) (hS : va_S (kN0 k) s.heap H locs) (hi : 0 ≤ i ∧ i + 5 ≤ (L : Int)) (hcs : cs + 600 ≤ 652095) (hss : ss + 4000 ≤ 7139820) (h80 : 0 ≤ σ 8 0 ∧ σ 8 0 ≤ 100000) (hl : lv_has ls 7 [(4, .int (iZ i)), (3, .ref o), (2, .ref m0), (1, .ref (q 0)), (0, .ref b)])
    (kk : ∀ (r' : Nat → Nat → Nat) (σ' : Nat → Nat → Int) (th' : Int) (H' : Heap) (locs' : List Loc) (ls' : Array Slot), LI dC dI dA k q m0 r' o σ' th' H' → va_S (kN0 k) s.heap H' locs' → σ 8 0 ≤ σ' 8 0 ∧ σ' 8 0 ≤ σ 8 0 + 1 → lv_has ls' 7 [(4, .int (iZ i)), (3, .ref o), (2, .ref m0), (1, .ref (q 0)), (0, .ref b)] → W p l e room_1 s m #[Value.ref b] below meth c H' locs' (cs + 600) (ss + 4000) Q (F0 m 3011 ls' [])) :
    W p l e room_1 s m #[Value.ref b] below meth c H locs cs ss Q (F0 m 43 ls [.int (iZ 54)]) := by
  obtain ⟨hx, hb, hr9, hml, hown, hts, hX, hbl, hL5, hMJ, hL, hk0, hlocks⟩ := F
  obtain ⟨hG, hOK, hq, hY, hr, hO0, hko, ho9, h1, h2⟩ := id hI
  obtain ⟨sn, sv, -, hO⟩ := id hO0
  have hM := hMJ.1
  have hbA : ¬ kN0 k b := fun z => absurd (show k 0 ≤ b from z) (by omega)
  have hN : ∀ a, kN0 k a → k 0 ≤ a := fun _ h => h
  have hkH : k 0 ≤ H.size := by have := hS.1; omega
  refine lv_tableIn (tgt := 2998) (off := 2955) hx hb dL_law_43 (by rw [iZ_toInt (z := 54) (by omega)]; omega) (by rw [iZ_toInt (z := 54) (by omega)]; omega) (by rw [iZ_toInt (z := 54) (by omega)]; rfl) (by decide) ?_
  refine lv_aload_n hx hb dL_law_2998 rfl (lv_at hl 3 rfl) ?_
  obtain ⟨tb, tn, tm, htn, hfit, htm, hPx⟩ := id hG
  refine kc2 (va_runV (As := []) (rest := []) ⟨hx, hb, hml, hown, hts⟩ (c_X1_digest l hst dC dI dA k q σ _ hG hOK hq ⟨by omega, by omega⟩) (cwV 0 hts (kg_V mw211 mw212 mw213 mw42 rfl mw214) rfl rfl rfl hdV_X1_digest ⟨Nat.le_of_ble_eq_true rfl, Nat.le_of_ble_eq_true rfl⟩) ⟨fun a U g mk q => ⟨q.1, q.2.1, kMJ_call q.2.2⟩, va_recv hM.1 hPx (ci := 4) (q0 := 0) rfl rfl, fun U hU hW => ⟨rfl, hU, kMJ_kept hMJ hS hN hU hW⟩⟩ rfl rfl hl.1 rfl (lv_room (Nat.le_of_ble_eq_true rfl)) dL_law_2999 ⟨kroomC (by omega), kroomS (by omega)⟩) hS (fun a _ h => kA_N hq hkH a h) (fun a h => kA_N hq hkH a h) (fun H1 locs hG1 hy9 hk9 hS => ?_)
  have hno : o < H.size → ¬ kA q H.size o := fun h z => z.elim (fun ⟨i, hi, e9⟩ => ho9 i hi e9.symm) (fun y => absurd h (Nat.not_lt.mpr y))
  have hO1 := gO_kept hO0 (H1 := H1) (fun h => hk9 _ h (hno h))
  have hY1 := kY_keptO (q := q) (o := o) hY (fun a h z => hk9 a h (fun y => z (Or.inl y))) h1 h2
  have h8 : kOK8 σ σ := ⟨hOK, rfl⟩
  have hkH1 : k 0 ≤ H1.size := Nat.le_trans hkH hy9
  refine lv_pop2_2 hx hb dL_law_3002 rfl ?_
  refine lv_aload_n hx hb dL_law_3003 rfl (lv_at hl 2 rfl) ?_
  refine kc2 (va_runV (As := []) (rest := []) ⟨hx, hb, hml, hown, hts⟩ (c_X3_digest l dC dI dA k m0 r σ th _ hY1 hr hOK  ⟨by omega, by omega⟩) (cwV 0 hts (kg_V mw1408 mw1409 mw1410 mw47 rfl mw1411) rfl rfl rfl hdV_X3_digest ⟨Nat.le_of_ble_eq_true rfl, Nat.le_of_ble_eq_true rfl⟩) ⟨fun a U g mk q => ⟨q.1, q.2.1, kMJ_call q.2.2⟩, va_recv hM.1 hY1 (ci := 6) (q0 := 0) rfl rfl, fun U hU hW => ⟨rfl, hU, kMJ_kept hMJ hS hN hU hW⟩⟩ rfl rfl hl.1 rfl (lv_room (Nat.le_of_ble_eq_true rfl)) dL_law_3004 ⟨kroomC (by omega), kroomS (by omega)⟩) hS (fun a _ h => kAy_N hr hkH1 a h) (fun a h => kAy_N hr hkH1 a h) (fun H2 locs hC2 hy8 hk8 hS => ?_)
  have hC2 := gY_id (sz := H1.size) hr hC2
  obtain ⟨r2, hI2, hO2⟩ := LI_step hI hG1 hO1 hC2 hk8 h8
  refine lv_pop2_2 hx hb dL_law_3007 rfl ?_
  refine lv_goto (tgt := 3011) hx hb dL_law_3008 (by decide) ?_
  refine W.widen (k := cs + 600) (n := ss + 4000) (by omega) (by omega) ?_
  exact kk r2 _ _ _ _ _ hI2 hS (by have h9 := h8.2; omega) (lv_sub hl [0, 1, 2, 3, 4] rfl)

