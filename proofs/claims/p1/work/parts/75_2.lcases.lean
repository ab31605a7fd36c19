set_option maxHeartbeats 4000000 in
set_option maxRecDepth 100000 in
theorem lc_28 {p : Program} {l : Launch} {e : Env} {s : State} {m : MethodId} {below : List Frame} {meth : Method} {c : Code} {Q : State → Prop} {b L : Nat} {xs : Nat → Int32} {dC : Nat → ClassId} {dI : Nat → Nat → Nat} {dA : Nat → ClassId} {k : Nat → Nat} (hst : l.stackTraces = false) (F : kF p s m meth c b L xs dC dI dA k)
    {q : Nat → Nat} {m0 : Nat} {r : Nat → Nat → Nat} {o : Nat} {σ : Nat → Nat → Int} {th : Int} {H : Heap} {locs : List Loc} {cs ss : Nat} {i : Int} {ls : Array Slot} (hI : LI dC dI dA k q m0 r o σ th H) (hS : va_S (kN0 k) s.heap H locs) (hi : 0 ≤ i ∧ i + 5 ≤ (L : Int)) (hcs : cs + 600 ≤ 707594) (hss : ss + 4000 ≤ 6979453) (h80 : 0 ≤ σ 8 0 ∧ σ 8 0 ≤ 100000) (hl : lv_has ls 7 [(4, .int (iZ i)), (3, .ref o), (2, .ref m0), (1, .ref (q 0)), (0, .ref b)])
    (kk : ∀ (r' : Nat → Nat → Nat) (σ' : Nat → Nat → Int) (th' : Int) (H' : Heap) (locs' : List Loc) (ls' : Array Slot), LI dC dI dA k q m0 r' o σ' th' H' → va_S (kN0 k) s.heap H' locs' → σ 8 0 ≤ σ' 8 0 ∧ σ' 8 0 ≤ σ 8 0 + 1 → lv_has ls' 7 [(4, .int (iZ i)), (3, .ref o), (2, .ref m0), (1, .ref (q 0)), (0, .ref b)] → W p l e room_1 s m #[Value.ref b] below meth c H' locs' (cs + 600) (ss + 4000) Q (F0 m 4485 ls' [])) :
    W p l e room_1 s m #[Value.ref b] below meth c H locs cs ss Q (F0 m 43 ls [.int (iZ 28)]) := by
  obtain ⟨hx, hb, hr9, hml, hown, hts, hX, hbl, hL5, hMJ, hL, hk0, hlocks⟩ := F
  obtain ⟨hG, hOK, hq, hY, hr, hO0, hko, ho9, h1, h2⟩ := id hI
  obtain ⟨sn, sv, -, hO⟩ := id hO0
  have hM := hMJ.1
  have hbA : ¬ kN0 k b := fun z => absurd (show k 0 ≤ b from z) (by omega)
  have hN : ∀ a, kN0 k a → k 0 ≤ a := fun _ h => h
  have hkH : k 0 ≤ H.size := by have := hS.1; omega
  refine lv_tableIn (tgt := 2616) (off := 2573) hx hb dL_law_43 (by rw [iZ_toInt (z := 28) (by omega)]; omega) (by rw [iZ_toInt (z := 28) (by omega)]; omega) (by rw [iZ_toInt (z := 28) (by omega)]; rfl) (by decide) ?_
  refine lv_aload_n hx hb dL_law_2616 rfl (lv_at hl 3 rfl) ?_
  refine lv_aload_n hx hb dL_law_2617 rfl (lv_at hl 4 rfl) ?_
  refine lv_iload hx hb dL_law_2618 (lv_at hl 0 rfl) ?_
  refine lv_iconst (v := iZ 1) hx hb dL_law_2620 rfl ?_
  refine kz_iadd hx hb dL_law_2621 ?_
  refine kz_sld hx hb hX hbl hbA hS (by omega) hL5 dL_law_2622 ?_
  refine lv_aload_n hx hb dL_law_2623 rfl (lv_at hl 4 rfl) ?_
  refine lv_iload hx hb dL_law_2624 (lv_at hl 0 rfl) ?_
  refine lv_iconst (v := iZ 2) hx hb dL_law_2626 rfl ?_
  refine kz_iadd hx hb dL_law_2627 ?_
  refine kz_sld hx hb hX hbl hbA hS (by omega) hL5 dL_law_2628 ?_
  refine lv_aload_n hx hb dL_law_2629 rfl (lv_at hl 4 rfl) ?_
  refine lv_iload hx hb dL_law_2630 (lv_at hl 0 rfl) ?_
  refine lv_iconst (v := iZ 3) hx hb dL_law_2632 rfl ?_
  refine kz_iadd hx hb dL_law_2633 ?_
  refine kz_sld hx hb hX hbl hbA hS (by omega) hL5 dL_law_2634 ?_
  refine lv_aload_n hx hb dL_law_2635 rfl (lv_at hl 1 rfl) ?_
  refine kc2 (vx_runSW (As := [.ref (q 0), .int (iZ (fx xs (i + 1))), .int (iZ (fx xs (i + 2))), .int (iZ (fx xs (i + 3))), .ref o]) (rest := []) ⟨hx, hb, hml, hown, hts⟩ (c_L_dayOfFeast l hst dC dI dA k q σ _ hG hOK hq o sn sv hO hko ho9 ((fx xs (i + 1))) ((fx xs (i + 2))) ((fx xs (i + 3))) (fx_rng _ _) (fx_rng _ _) (fx_rng _ _)) (vx_cwSW 5 hts (kg_S mw857 mw858 mw41 rfl mw859) rfl rfl rfl hdS_L_dayOfFeast ⟨Nat.le_of_ble_eq_true rfl, Nat.le_of_ble_eq_true rfl⟩) ⟨fun a U g mk q => ⟨q.1, q.2.1, kMJ_call q.2.2.1, kL_call q.2.2.2⟩, fun U hU hW => ⟨rfl, hU, kMJ_kept hMJ hS hN hU hW, kL_warm hL hW⟩⟩ rfl rfl hl.1 rfl (lv_room (Nat.le_of_ble_eq_true rfl)) dL_law_2636 ⟨kroomC (by omega), kroomS (by omega)⟩) hS (fun a _ h => kAO_N hq hko hkH a h) (fun a h => kAO_N hq hko hkH a h) (fun H1 locs hC hy9 hk9 hS => ?_)
  obtain ⟨hG1, hO1⟩ := hC
  have hY1 := kY_keptO hY hk9 h1 h2
  have h8 : kOK8 σ (if ex2 (!inb (fx xs (i + 1)) 0 3 || !inb (fx xs (i + 2)) 0 3) (!inb (fx xs (i + 3)) (-999999999) 999999999) = 0 then (setD σ ((fx xs (i + 1)).toNat) (fx xs (i + 3)) (σ 3 ((fx xs (i + 2)).toNat)) (dayIn σ ((fx xs (i + 2)).toNat) (fx xs (i + 3)))) else σ) := k8_if hOK (fun h9 => k8m_dayOfFeast hOK ((fx xs (i + 1))) ((fx xs (i + 2))) ((fx xs (i + 3))) h9)
  have hkH1 : k 0 ≤ H1.size := Nat.le_trans hkH hy9
  clear hk9
  refine lv_istore (lv' := [(5, .int (iZ (ex2 (!inb (fx xs (i + 1)) 0 3 || !inb (fx xs (i + 2)) 0 3) (!inb (fx xs (i + 3)) (-999999999) 999999999)))), (4, .int (iZ i)), (3, .ref o), (2, .ref m0), (1, .ref (q 0)), (0, .ref b)]) hx hb dL_law_2639 hl (by decide) rfl (fun ls hl => ?_)
  refine lv_aload_n hx hb dL_law_2641 rfl (lv_at hl 3 rfl) ?_
  refine lv_aload_n hx hb dL_law_2642 rfl (lv_at hl 5 rfl) ?_
  refine lv_iload hx hb dL_law_2643 (lv_at hl 1 rfl) ?_
  refine lv_iconst (v := iZ 1) hx hb dL_law_2645 rfl ?_
  refine kz_iadd hx hb dL_law_2646 ?_
  refine kz_sld hx hb hX hbl hbA hS (by omega) hL5 dL_law_2647 ?_
  refine lv_aload_n hx hb dL_law_2648 rfl (lv_at hl 5 rfl) ?_
  refine lv_iload hx hb dL_law_2649 (lv_at hl 1 rfl) ?_
  refine lv_iconst (v := iZ 2) hx hb dL_law_2651 rfl ?_
  refine kz_iadd hx hb dL_law_2652 ?_
  refine kz_sld hx hb hX hbl hbA hS (by omega) hL5 dL_law_2653 ?_
  refine lv_aload_n hx hb dL_law_2654 rfl (lv_at hl 5 rfl) ?_
  refine lv_iload hx hb dL_law_2655 (lv_at hl 1 rfl) ?_
  refine lv_iconst (v := iZ 3) hx hb dL_law_2657 rfl ?_
  refine kz_iadd hx hb dL_law_2658 ?_
  refine kz_sld hx hb hX hbl hbA hS (by omega) hL5 dL_law_2659 ?_
  refine kc2 (va_runV (As := [.int (iZ (fx xs (i + 1))), .int (iZ (fx xs (i + 2))), .int (iZ (fx xs (i + 3)))]) (rest := []) ⟨hx, hb, hml, hown, hts⟩ (c_X3_dayOfFeast l dC dI dA k m0 r σ th _ hY1 hr hOK ((fx xs (i + 1))) ((fx xs (i + 2))) ((fx xs (i + 3))) (fx_rng _ _) (fx_rng _ _) (fx_rng _ _)) (cwV 3 hts (kg_V mw1236 mw1237 mw1238 mw47 rfl mw1239) rfl rfl rfl hdV_X3_dayOfFeast ⟨Nat.le_of_ble_eq_true rfl, Nat.le_of_ble_eq_true rfl⟩) ⟨fun a U g mk q => ⟨q.1, q.2.1, kM_call q.2.2⟩, va_recv hM.1 hY1 (ci := 6) (q0 := 0) rfl rfl, fun U hU hW => ⟨rfl, hU, kM_kept hM hS hN hU hW⟩⟩ rfl rfl hl.1 rfl (lv_room (Nat.le_of_ble_eq_true rfl)) dL_law_2660 ⟨kroomC (by omega), kroomS (by omega)⟩) hS (fun a _ h => kAy_N hr hkH1 a h) (fun a h => kAy_N hr hkH1 a h) (fun H2 locs hC2 hy8 hk8 hS => ?_)
  obtain ⟨r2, hI2, hO2⟩ := LI_step hI hG1 hO1 hC2 hk8 h8
  refine lv_istore (lv' := [(6, .int (iZ (if ex2 (!inb (fx xs (i + 1)) 0 3 || !inb (fx xs (i + 2)) 0 3) (!inb (fx xs (i + 3)) (-999999999) 999999999) = 0 then (1 + (dnum (fx xs (i + 3)) (σ 3 ((fx xs (i + 2)).toNat)) (dayIn σ ((fx xs (i + 2)).toNat) (fx xs (i + 3))) + 3) % 7) else 0))), (5, .int (iZ (ex2 (!inb (fx xs (i + 1)) 0 3 || !inb (fx xs (i + 2)) 0 3) (!inb (fx xs (i + 3)) (-999999999) 999999999)))), (4, .int (iZ i)), (3, .ref o), (2, .ref m0), (1, .ref (q 0)), (0, .ref b)]) hx hb dL_law_2663 hl (by decide) rfl (fun ls hl => ?_)
  refine lv_aload_n hx hb dL_law_2665 rfl (lv_at hl 4 rfl) ?_
  obtain ⟨hG2, hOK2, hq2, hY2, hr2, -⟩ := id hI2
  refine kc0 (fun _ q => q) (va_runV (As := []) (rest := []) ⟨hx, hb, hml, hown, hts⟩ (c_X3_thrown l dC dI dA k m0 r2 _ _ _ hY2 hr2 hOK2) (cwV 0 hts (kg_V mw1013 mw1014 mw1015 mw47 rfl mw1016) rfl rfl rfl hdV_X3_thrown ⟨Nat.le_of_ble_eq_true rfl, Nat.le_of_ble_eq_true rfl⟩) ⟨fun a U g mk q => ⟨q.1, q.2.1, kM_call q.2.2⟩, va_recv hM.1 hY2 (ci := 6) (q0 := 0) rfl rfl, fun U hU hW => ⟨rfl, hU, kM_kept hM hS hN hU hW⟩⟩ rfl rfl hl.1 rfl (lv_room (Nat.le_of_ble_eq_true rfl)) dL_law_2666 ⟨kroomC (by omega), kroomS (by omega)⟩) ?_
  refine lv_iload hx hb dL_law_2669 (lv_at hl 1 rfl) ?_
  refine kz_icmp_eq (tgt := 2676) hx hb (ex2_rng _ _) (ex2_rng _ _) dL_law_2671 (by decide) (fun c_1 => ?_) (fun c_1 => absurd rfl c_1)
  refine lv_iload hx hb dL_law_2676 (lv_at hl 1 rfl) ?_
  refine kz_if_ne (tgt := 2694) hx hb (ex2_rng _ _) dL_law_2678 (by decide) (fun c_2 => ?_) (fun c_2 => ?_)
  · refine lv_goto (tgt := 4485) hx hb dL_law_2694 (by decide) ?_
    refine W.widen (k := cs + 600) (n := ss + 4000) (by omega) (by omega) ?_
    exact kk r2 _ _ _ _ _ hI2 hS (by have h9 := h8.2; omega) (lv_sub hl [2, 3, 4, 5, 6] rfl)
  · refine lv_aload_n hx hb dL_law_2681 rfl (lv_at hl 3 rfl) ?_
    obtain ⟨nv, vv, hn, hPn⟩ := hO2
    have hn := hn c_2
    subst hn
    refine va_getN (D := (dC, dI)) (ci := 5) (v := .long (lZ (w32 (1 + (dnum (fx xs (i + 3)) (σ 3 ((fx xs (i + 2)).toNat)) (dayIn σ ((fx xs (i + 2)).toNat) (fx xs (i + 3))) + 3) % 7)))) (C := RX2) (T := TX2) (N := 2) hx hb hts (fun w h => List.mem_cons_of_mem _ (gF_1_in h)) hown hM.1 hPn 0 rfl rfl 0 (by decide) (va_Nw.use rfl hL.1) (fun _ h9 => h9) rfl dL_law_2682 ?_
    refine lv_iload hx hb dL_law_2685 (lv_at hl 0 rfl) ?_
    refine kz_w32 ?_
    refine kz_i2l hx hb (w32_rng _) dL_law_2687 ?_
    refine kz_lcmp_eq (tgt := 2694) hx hb (by first | exact w32_lrng _ | exact bZ_lrng _) (by first | exact w32_lrng _ | exact bZ_lrng _) dL_law_2688 dL_law_2689 (by decide) (fun c_3 => ?_) (fun c_3 => absurd (by first | rw [if_pos c_2] | exact congrArg bZ (by rw [decide_eq_true c_2, Bool.true_and]) | (rw [decide_eq_true c_2]; rfl) | (simp [c_2]; done)) c_3)
    refine lv_goto (tgt := 4485) hx hb dL_law_2694 (by decide) ?_
    refine W.widen (k := cs + 600) (n := ss + 4000) (by omega) (by omega) ?_
    exact kk r2 _ _ _ _ _ hI2 hS (by have h9 := h8.2; omega) (lv_sub hl [2, 3, 4, 5, 6] rfl)

set_option maxHeartbeats 4000000 in
set_option maxRecDepth 100000 in
theorem lc_29 {p : Program} {l : Launch} {e : Env} {s : State} {m : MethodId} {below : List Frame} {meth : Method} {c : Code} {Q : State → Prop} {b L : Nat} {xs : Nat → Int32} {dC : Nat → ClassId} {dI : Nat → Nat → Nat} {dA : Nat → ClassId} {k : Nat → Nat} (hst : l.stackTraces = false) (F : kF p s m meth c b L xs dC dI dA k)
    {q : Nat → Nat} {m0 : Nat} {r : Nat → Nat → Nat} {o : Nat} {σ : Nat → Nat → Int} {th : Int} {H : Heap} {locs : List Loc} {cs ss : Nat} {i : Int} {ls : Array Slot} (hI : LI dC dI dA k q m0 r o σ th H) (hS : va_S (kN0 k) s.heap H locs) (hi : 0 ≤ i ∧ i + 5 ≤ (L : Int)) (hcs : cs + 600 ≤ 707594) (hss : ss + 4000 ≤ 6979453) (h80 : 0 ≤ σ 8 0 ∧ σ 8 0 ≤ 100000) (hl : lv_has ls 7 [(4, .int (iZ i)), (3, .ref o), (2, .ref m0), (1, .ref (q 0)), (0, .ref b)])
    (kk : ∀ (r' : Nat → Nat → Nat) (σ' : Nat → Nat → Int) (th' : Int) (H' : Heap) (locs' : List Loc) (ls' : Array Slot), LI dC dI dA k q m0 r' o σ' th' H' → va_S (kN0 k) s.heap H' locs' → σ 8 0 ≤ σ' 8 0 ∧ σ' 8 0 ≤ σ 8 0 + 1 → lv_has ls' 7 [(4, .int (iZ i)), (3, .ref o), (2, .ref m0), (1, .ref (q 0)), (0, .ref b)] → W p l e room_1 s m #[Value.ref b] below meth c H' locs' (cs + 600) (ss + 4000) Q (F0 m 4485 ls' [])) :
    W p l e room_1 s m #[Value.ref b] below meth c H locs cs ss Q (F0 m 43 ls [.int (iZ 29)]) := by
  obtain ⟨hx, hb, hr9, hml, hown, hts, hX, hbl, hL5, hMJ, hL, hk0, hlocks⟩ := F
  obtain ⟨hG, hOK, hq, hY, hr, hO0, hko, ho9, h1, h2⟩ := id hI
  obtain ⟨sn, sv, -, hO⟩ := id hO0
  have hM := hMJ.1
  have hbA : ¬ kN0 k b := fun z => absurd (show k 0 ≤ b from z) (by omega)
  have hN : ∀ a, kN0 k a → k 0 ≤ a := fun _ h => h
  have hkH : k 0 ≤ H.size := by have := hS.1; omega
  refine lv_tableIn (tgt := 2697) (off := 2654) hx hb dL_law_43 (by rw [iZ_toInt (z := 29) (by omega)]; omega) (by rw [iZ_toInt (z := 29) (by omega)]; omega) (by rw [iZ_toInt (z := 29) (by omega)]; rfl) (by decide) ?_
  refine lv_aload_n hx hb dL_law_2697 rfl (lv_at hl 3 rfl) ?_
  refine lv_aload_n hx hb dL_law_2698 rfl (lv_at hl 4 rfl) ?_
  refine lv_iload hx hb dL_law_2699 (lv_at hl 0 rfl) ?_
  refine lv_iconst (v := iZ 1) hx hb dL_law_2701 rfl ?_
  refine kz_iadd hx hb dL_law_2702 ?_
  refine kz_sld hx hb hX hbl hbA hS (by omega) hL5 dL_law_2703 ?_
  refine lv_aload_n hx hb dL_law_2704 rfl (lv_at hl 4 rfl) ?_
  refine lv_iload hx hb dL_law_2705 (lv_at hl 0 rfl) ?_
  refine lv_iconst (v := iZ 2) hx hb dL_law_2707 rfl ?_
  refine kz_iadd hx hb dL_law_2708 ?_
  refine kz_sld hx hb hX hbl hbA hS (by omega) hL5 dL_law_2709 ?_
  refine lv_aload_n hx hb dL_law_2710 rfl (lv_at hl 4 rfl) ?_
  refine lv_iload hx hb dL_law_2711 (lv_at hl 0 rfl) ?_
  refine lv_iconst (v := iZ 3) hx hb dL_law_2713 rfl ?_
  refine kz_iadd hx hb dL_law_2714 ?_
  refine kz_sld hx hb hX hbl hbA hS (by omega) hL5 dL_law_2715 ?_
  refine lv_aload_n hx hb dL_law_2716 rfl (lv_at hl 1 rfl) ?_
  refine kc2 (vx_runSW (As := [.ref (q 0), .int (iZ (fx xs (i + 1))), .int (iZ (fx xs (i + 2))), .int (iZ (fx xs (i + 3))), .ref o]) (rest := []) ⟨hx, hb, hml, hown, hts⟩ (c_L_dayOfYear l hst dC dI dA k q σ _ hG hOK hq o sn sv hO hko ho9 ((fx xs (i + 1))) ((fx xs (i + 2))) ((fx xs (i + 3))) (fx_rng _ _) (fx_rng _ _) (fx_rng _ _)) (vx_cwSW 5 hts (kg_S mw867 mw868 mw41 rfl mw869) rfl rfl rfl hdS_L_dayOfYear ⟨Nat.le_of_ble_eq_true rfl, Nat.le_of_ble_eq_true rfl⟩) ⟨fun a U g mk q => ⟨q.1, q.2.1, kMJ_call q.2.2.1, kL_call q.2.2.2⟩, fun U hU hW => ⟨rfl, hU, kMJ_kept hMJ hS hN hU hW, kL_warm hL hW⟩⟩ rfl rfl hl.1 rfl (lv_room (Nat.le_of_ble_eq_true rfl)) dL_law_2717 ⟨kroomC (by omega), kroomS (by omega)⟩) hS (fun a _ h => kAO_N hq hko hkH a h) (fun a h => kAO_N hq hko hkH a h) (fun H1 locs hC hy9 hk9 hS => ?_)
  obtain ⟨hG1, hO1⟩ := hC
  have hY1 := kY_keptO hY hk9 h1 h2
  have h8 : kOK8 σ (if ex2 ((!inb (fx xs (i + 1)) 0 3 || !inb (fx xs (i + 2)) 0 3) || !inb (fx xs (i + 3)) 0 3) (false) = 0 then (setD σ ((fx xs (i + 1)).toNat) (σ 2 ((fx xs (i + 2)).toNat)) (σ 3 ((fx xs (i + 3)).toNat)) (dayIn σ ((fx xs (i + 3)).toNat) (σ 2 ((fx xs (i + 2)).toNat)))) else σ) := k8_if hOK (fun h9 => k8m_dayOfYear hOK ((fx xs (i + 1))) ((fx xs (i + 2))) ((fx xs (i + 3))) h9)
  have hkH1 : k 0 ≤ H1.size := Nat.le_trans hkH hy9
  clear hk9
  refine lv_istore (lv' := [(5, .int (iZ (ex2 ((!inb (fx xs (i + 1)) 0 3 || !inb (fx xs (i + 2)) 0 3) || !inb (fx xs (i + 3)) 0 3) (false)))), (4, .int (iZ i)), (3, .ref o), (2, .ref m0), (1, .ref (q 0)), (0, .ref b)]) hx hb dL_law_2720 hl (by decide) rfl (fun ls hl => ?_)
  refine lv_aload_n hx hb dL_law_2722 rfl (lv_at hl 3 rfl) ?_
  refine lv_aload_n hx hb dL_law_2723 rfl (lv_at hl 5 rfl) ?_
  refine lv_iload hx hb dL_law_2724 (lv_at hl 1 rfl) ?_
  refine lv_iconst (v := iZ 1) hx hb dL_law_2726 rfl ?_
  refine kz_iadd hx hb dL_law_2727 ?_
  refine kz_sld hx hb hX hbl hbA hS (by omega) hL5 dL_law_2728 ?_
  refine lv_aload_n hx hb dL_law_2729 rfl (lv_at hl 5 rfl) ?_
  refine lv_iload hx hb dL_law_2730 (lv_at hl 1 rfl) ?_
  refine lv_iconst (v := iZ 2) hx hb dL_law_2732 rfl ?_
  refine kz_iadd hx hb dL_law_2733 ?_
  refine kz_sld hx hb hX hbl hbA hS (by omega) hL5 dL_law_2734 ?_
  refine lv_aload_n hx hb dL_law_2735 rfl (lv_at hl 5 rfl) ?_
  refine lv_iload hx hb dL_law_2736 (lv_at hl 1 rfl) ?_
  refine lv_iconst (v := iZ 3) hx hb dL_law_2738 rfl ?_
  refine kz_iadd hx hb dL_law_2739 ?_
  refine kz_sld hx hb hX hbl hbA hS (by omega) hL5 dL_law_2740 ?_
  refine kc2 (va_runV (As := [.int (iZ (fx xs (i + 1))), .int (iZ (fx xs (i + 2))), .int (iZ (fx xs (i + 3)))]) (rest := []) ⟨hx, hb, hml, hown, hts⟩ (c_X3_dayOfYear l dC dI dA k m0 r σ th _ hY1 hr hOK ((fx xs (i + 1))) ((fx xs (i + 2))) ((fx xs (i + 3))) (fx_rng _ _) (fx_rng _ _) (fx_rng _ _)) (cwV 3 hts (kg_V mw1246 mw1247 mw1248 mw47 rfl mw1249) rfl rfl rfl hdV_X3_dayOfYear ⟨Nat.le_of_ble_eq_true rfl, Nat.le_of_ble_eq_true rfl⟩) ⟨fun a U g mk q => ⟨q.1, q.2.1, kM_call q.2.2⟩, va_recv hM.1 hY1 (ci := 6) (q0 := 0) rfl rfl, fun U hU hW => ⟨rfl, hU, kM_kept hM hS hN hU hW⟩⟩ rfl rfl hl.1 rfl (lv_room (Nat.le_of_ble_eq_true rfl)) dL_law_2741 ⟨kroomC (by omega), kroomS (by omega)⟩) hS (fun a _ h => kAy_N hr hkH1 a h) (fun a h => kAy_N hr hkH1 a h) (fun H2 locs hC2 hy8 hk8 hS => ?_)
  obtain ⟨r2, hI2, hO2⟩ := LI_step hI hG1 hO1 hC2 hk8 h8
  refine lv_istore (lv' := [(6, .int (iZ (if ex2 ((!inb (fx xs (i + 1)) 0 3 || !inb (fx xs (i + 2)) 0 3) || !inb (fx xs (i + 3)) 0 3) (false) = 0 then (dayIn σ ((fx xs (i + 3)).toNat) (σ 2 ((fx xs (i + 2)).toNat))) else 0))), (5, .int (iZ (ex2 ((!inb (fx xs (i + 1)) 0 3 || !inb (fx xs (i + 2)) 0 3) || !inb (fx xs (i + 3)) 0 3) (false)))), (4, .int (iZ i)), (3, .ref o), (2, .ref m0), (1, .ref (q 0)), (0, .ref b)]) hx hb dL_law_2744 hl (by decide) rfl (fun ls hl => ?_)
  refine lv_aload_n hx hb dL_law_2746 rfl (lv_at hl 4 rfl) ?_
  obtain ⟨hG2, hOK2, hq2, hY2, hr2, -⟩ := id hI2
  refine kc0 (fun _ q => q) (va_runV (As := []) (rest := []) ⟨hx, hb, hml, hown, hts⟩ (c_X3_thrown l dC dI dA k m0 r2 _ _ _ hY2 hr2 hOK2) (cwV 0 hts (kg_V mw1013 mw1014 mw1015 mw47 rfl mw1016) rfl rfl rfl hdV_X3_thrown ⟨Nat.le_of_ble_eq_true rfl, Nat.le_of_ble_eq_true rfl⟩) ⟨fun a U g mk q => ⟨q.1, q.2.1, kM_call q.2.2⟩, va_recv hM.1 hY2 (ci := 6) (q0 := 0) rfl rfl, fun U hU hW => ⟨rfl, hU, kM_kept hM hS hN hU hW⟩⟩ rfl rfl hl.1 rfl (lv_room (Nat.le_of_ble_eq_true rfl)) dL_law_2747 ⟨kroomC (by omega), kroomS (by omega)⟩) ?_
  refine lv_iload hx hb dL_law_2750 (lv_at hl 1 rfl) ?_
  refine kz_icmp_eq (tgt := 2757) hx hb (ex2_rng _ _) (ex2_rng _ _) dL_law_2752 (by decide) (fun c_1 => ?_) (fun c_1 => absurd rfl c_1)
  refine lv_iload hx hb dL_law_2757 (lv_at hl 1 rfl) ?_
  refine kz_if_ne (tgt := 2775) hx hb (ex2_rng _ _) dL_law_2759 (by decide) (fun c_2 => ?_) (fun c_2 => ?_)
  · refine lv_goto (tgt := 4485) hx hb dL_law_2775 (by decide) ?_
    refine W.widen (k := cs + 600) (n := ss + 4000) (by omega) (by omega) ?_
    exact kk r2 _ _ _ _ _ hI2 hS (by have h9 := h8.2; omega) (lv_sub hl [2, 3, 4, 5, 6] rfl)
  · refine lv_aload_n hx hb dL_law_2762 rfl (lv_at hl 3 rfl) ?_
    obtain ⟨nv, vv, hn, hPn⟩ := hO2
    have hn := hn c_2
    subst hn
    refine va_getN (D := (dC, dI)) (ci := 5) (v := .long (lZ (w32 (dayIn σ ((fx xs (i + 3)).toNat) (σ 2 ((fx xs (i + 2)).toNat)))))) (C := RX2) (T := TX2) (N := 2) hx hb hts (fun w h => List.mem_cons_of_mem _ (gF_1_in h)) hown hM.1 hPn 0 rfl rfl 0 (by decide) (va_Nw.use rfl hL.1) (fun _ h9 => h9) rfl dL_law_2763 ?_
    refine lv_iload hx hb dL_law_2766 (lv_at hl 0 rfl) ?_
    refine kz_w32 ?_
    refine kz_i2l hx hb (w32_rng _) dL_law_2768 ?_
    refine kz_lcmp_eq (tgt := 2775) hx hb (by first | exact w32_lrng _ | exact bZ_lrng _) (by first | exact w32_lrng _ | exact bZ_lrng _) dL_law_2769 dL_law_2770 (by decide) (fun c_3 => ?_) (fun c_3 => absurd (by first | rw [if_pos c_2] | exact congrArg bZ (by rw [decide_eq_true c_2, Bool.true_and]) | (rw [decide_eq_true c_2]; rfl) | (simp [c_2]; done)) c_3)
    refine lv_goto (tgt := 4485) hx hb dL_law_2775 (by decide) ?_
    refine W.widen (k := cs + 600) (n := ss + 4000) (by omega) (by omega) ?_
    exact kk r2 _ _ _ _ _ hI2 hS (by have h9 := h8.2; omega) (lv_sub hl [2, 3, 4, 5, 6] rfl)

set_option maxHeartbeats 4000000 in
set_option maxRecDepth 100000 in
theorem lc_30 {p : Program} {l : Launch} {e : Env} {s : State} {m : MethodId} {below : List Frame} {meth : Method} {c : Code} {Q : State → Prop} {b L : Nat} {xs : Nat → Int32} {dC : Nat → ClassId} {dI : Nat → Nat → Nat} {dA : Nat → ClassId} {k : Nat → Nat} (hst : l.stackTraces = false) (F : kF p s m meth c b L xs dC dI dA k)
    {q : Nat → Nat} {m0 : Nat} {r : Nat → Nat → Nat} {o : Nat} {σ : Nat → Nat → Int} {th : Int} {H : Heap} {locs : List Loc} {cs ss : Nat} {i : Int} {ls : Array Slot} (hI : LI dC dI dA k q m0 r o σ th H) (hS : va_S (kN0 k) s.heap H locs) (hi : 0 ≤ i ∧ i + 5 ≤ (L : Int)) (hcs : cs + 600 ≤ 707594) (hss : ss + 4000 ≤ 6979453) (h80 : 0 ≤ σ 8 0 ∧ σ 8 0 ≤ 100000) (hl : lv_has ls 7 [(4, .int (iZ i)), (3, .ref o), (2, .ref m0), (1, .ref (q 0)), (0, .ref b)])
    (kk : ∀ (r' : Nat → Nat → Nat) (σ' : Nat → Nat → Int) (th' : Int) (H' : Heap) (locs' : List Loc) (ls' : Array Slot), LI dC dI dA k q m0 r' o σ' th' H' → va_S (kN0 k) s.heap H' locs' → σ 8 0 ≤ σ' 8 0 ∧ σ' 8 0 ≤ σ 8 0 + 1 → lv_has ls' 7 [(4, .int (iZ i)), (3, .ref o), (2, .ref m0), (1, .ref (q 0)), (0, .ref b)] → W p l e room_1 s m #[Value.ref b] below meth c H' locs' (cs + 600) (ss + 4000) Q (F0 m 4485 ls' [])) :
    W p l e room_1 s m #[Value.ref b] below meth c H locs cs ss Q (F0 m 43 ls [.int (iZ 30)]) := by
  obtain ⟨hx, hb, hr9, hml, hown, hts, hX, hbl, hL5, hMJ, hL, hk0, hlocks⟩ := F
  obtain ⟨hG, hOK, hq, hY, hr, hO0, hko, ho9, h1, h2⟩ := id hI
  obtain ⟨sn, sv, -, hO⟩ := id hO0
  have hM := hMJ.1
  have hbA : ¬ kN0 k b := fun z => absurd (show k 0 ≤ b from z) (by omega)
  have hN : ∀ a, kN0 k a → k 0 ≤ a := fun _ h => h
  have hkH : k 0 ≤ H.size := by have := hS.1; omega
  refine lv_tableIn (tgt := 2778) (off := 2735) hx hb dL_law_43 (by rw [iZ_toInt (z := 30) (by omega)]; omega) (by rw [iZ_toInt (z := 30) (by omega)]; omega) (by rw [iZ_toInt (z := 30) (by omega)]; rfl) (by decide) ?_
  refine lv_aload_n hx hb dL_law_2778 rfl (lv_at hl 3 rfl) ?_
  refine lv_aload_n hx hb dL_law_2779 rfl (lv_at hl 4 rfl) ?_
  refine lv_iload hx hb dL_law_2780 (lv_at hl 0 rfl) ?_
  refine lv_iconst (v := iZ 1) hx hb dL_law_2782 rfl ?_
  refine kz_iadd hx hb dL_law_2783 ?_
  refine kz_sld hx hb hX hbl hbA hS (by omega) hL5 dL_law_2784 ?_
  refine lv_aload_n hx hb dL_law_2785 rfl (lv_at hl 4 rfl) ?_
  refine lv_iload hx hb dL_law_2786 (lv_at hl 0 rfl) ?_
  refine lv_iconst (v := iZ 2) hx hb dL_law_2788 rfl ?_
  refine kz_iadd hx hb dL_law_2789 ?_
  refine kz_sld hx hb hX hbl hbA hS (by omega) hL5 dL_law_2790 ?_
  refine lv_aload_n hx hb dL_law_2791 rfl (lv_at hl 1 rfl) ?_
  refine kc2 (vx_runSW (As := [.ref (q 0), .int (iZ (fx xs (i + 1))), .int (iZ (fx xs (i + 2))), .ref o]) (rest := []) ⟨hx, hb, hml, hown, hts⟩ (c_L_ofLeaf l hst dC dI dA k q σ _ hG hOK hq o sn sv hO hko ho9 ((fx xs (i + 1))) ((fx xs (i + 2))) (fx_rng _ _) (fx_rng _ _)) (vx_cwSW 4 hts (kg_S mw874 mw875 mw41 rfl mw876) rfl rfl rfl hdS_L_ofLeaf ⟨Nat.le_of_ble_eq_true rfl, Nat.le_of_ble_eq_true rfl⟩) ⟨fun a U g mk q => ⟨q.1, q.2.1, kMJ_call q.2.2.1, kL_call q.2.2.2⟩, fun U hU hW => ⟨rfl, hU, kMJ_kept hMJ hS hN hU hW, kL_warm hL hW⟩⟩ rfl rfl hl.1 rfl (lv_room (Nat.le_of_ble_eq_true rfl)) dL_law_2792 ⟨kroomC (by omega), kroomS (by omega)⟩) hS (fun a _ h => kAO_N hq hko hkH a h) (fun a h => kAO_N hq hko hkH a h) (fun H1 locs hC hy9 hk9 hS => ?_)
  obtain ⟨hG1, hO1⟩ := hC
  have hY1 := kY_keptO hY hk9 h1 h2
  have hG1 := gX_cast hG1 (kif_same _)
  have h8 : kOK8 σ σ := ⟨hOK, rfl⟩
  have hkH1 : k 0 ≤ H1.size := Nat.le_trans hkH hy9
  clear hk9
  refine lv_istore (lv' := [(5, .int (iZ (ex2 (!inb (fx xs (i + 1)) 0 3) (!inb (fx xs (i + 2)) 0 7)))), (4, .int (iZ i)), (3, .ref o), (2, .ref m0), (1, .ref (q 0)), (0, .ref b)]) hx hb dL_law_2795 hl (by decide) rfl (fun ls hl => ?_)
  refine lv_aload_n hx hb dL_law_2797 rfl (lv_at hl 3 rfl) ?_
  refine lv_aload_n hx hb dL_law_2798 rfl (lv_at hl 5 rfl) ?_
  refine lv_iload hx hb dL_law_2799 (lv_at hl 1 rfl) ?_
  refine lv_iconst (v := iZ 1) hx hb dL_law_2801 rfl ?_
  refine kz_iadd hx hb dL_law_2802 ?_
  refine kz_sld hx hb hX hbl hbA hS (by omega) hL5 dL_law_2803 ?_
  refine lv_aload_n hx hb dL_law_2804 rfl (lv_at hl 5 rfl) ?_
  refine lv_iload hx hb dL_law_2805 (lv_at hl 1 rfl) ?_
  refine lv_iconst (v := iZ 2) hx hb dL_law_2807 rfl ?_
  refine kz_iadd hx hb dL_law_2808 ?_
  refine kz_sld hx hb hX hbl hbA hS (by omega) hL5 dL_law_2809 ?_
  refine kc2 (va_runV (As := [.int (iZ (fx xs (i + 1))), .int (iZ (fx xs (i + 2)))]) (rest := []) ⟨hx, hb, hml, hown, hts⟩ (c_X3_ofLeaf l dC dI dA k m0 r σ th _ hY1 hr hOK ((fx xs (i + 1))) ((fx xs (i + 2))) (fx_rng _ _) (fx_rng _ _)) (cwV 2 hts (kg_V mw1250 mw1251 mw1252 mw47 rfl mw1253) rfl rfl rfl hdV_X3_ofLeaf ⟨Nat.le_of_ble_eq_true rfl, Nat.le_of_ble_eq_true rfl⟩) ⟨fun a U g mk q => ⟨q.1, q.2.1, kM_call q.2.2⟩, va_recv hM.1 hY1 (ci := 6) (q0 := 0) rfl rfl, fun U hU hW => ⟨rfl, hU, kM_kept hM hS hN hU hW⟩⟩ rfl rfl hl.1 rfl (lv_room (Nat.le_of_ble_eq_true rfl)) dL_law_2810 ⟨kroomC (by omega), kroomS (by omega)⟩) hS (fun a _ h => kAy_N hr hkH1 a h) (fun a h => kAy_N hr hkH1 a h) (fun H2 locs hC2 hy8 hk8 hS => ?_)
  obtain ⟨r2, hI2, hO2⟩ := LI_step hI hG1 hO1 hC2 hk8 h8
  refine lv_istore (lv' := [(6, .int (iZ (if ex2 (!inb (fx xs (i + 1)) 0 3) (!inb (fx xs (i + 2)) 0 7) = 0 then (ofL σ ((fx xs (i + 1)).toNat) (fx xs (i + 2))) else 0))), (5, .int (iZ (ex2 (!inb (fx xs (i + 1)) 0 3) (!inb (fx xs (i + 2)) 0 7)))), (4, .int (iZ i)), (3, .ref o), (2, .ref m0), (1, .ref (q 0)), (0, .ref b)]) hx hb dL_law_2813 hl (by decide) rfl (fun ls hl => ?_)
  refine lv_aload_n hx hb dL_law_2815 rfl (lv_at hl 4 rfl) ?_
  obtain ⟨hG2, hOK2, hq2, hY2, hr2, -⟩ := id hI2
  refine kc0 (fun _ q => q) (va_runV (As := []) (rest := []) ⟨hx, hb, hml, hown, hts⟩ (c_X3_thrown l dC dI dA k m0 r2 _ _ _ hY2 hr2 hOK2) (cwV 0 hts (kg_V mw1013 mw1014 mw1015 mw47 rfl mw1016) rfl rfl rfl hdV_X3_thrown ⟨Nat.le_of_ble_eq_true rfl, Nat.le_of_ble_eq_true rfl⟩) ⟨fun a U g mk q => ⟨q.1, q.2.1, kM_call q.2.2⟩, va_recv hM.1 hY2 (ci := 6) (q0 := 0) rfl rfl, fun U hU hW => ⟨rfl, hU, kM_kept hM hS hN hU hW⟩⟩ rfl rfl hl.1 rfl (lv_room (Nat.le_of_ble_eq_true rfl)) dL_law_2816 ⟨kroomC (by omega), kroomS (by omega)⟩) ?_
  refine lv_iload hx hb dL_law_2819 (lv_at hl 1 rfl) ?_
  refine kz_icmp_eq (tgt := 2826) hx hb (ex2_rng _ _) (ex2_rng _ _) dL_law_2821 (by decide) (fun c_1 => ?_) (fun c_1 => absurd rfl c_1)
  refine lv_iload hx hb dL_law_2826 (lv_at hl 1 rfl) ?_
  refine kz_if_ne (tgt := 2844) hx hb (ex2_rng _ _) dL_law_2828 (by decide) (fun c_2 => ?_) (fun c_2 => ?_)
  · refine lv_goto (tgt := 4485) hx hb dL_law_2844 (by decide) ?_
    refine W.widen (k := cs + 600) (n := ss + 4000) (by omega) (by omega) ?_
    exact kk r2 _ _ _ _ _ hI2 hS (by have h9 := h8.2; omega) (lv_sub hl [2, 3, 4, 5, 6] rfl)
  · refine lv_aload_n hx hb dL_law_2831 rfl (lv_at hl 3 rfl) ?_
    obtain ⟨nv, vv, hn, hPn⟩ := hO2
    have hn := hn c_2
    subst hn
    refine va_getN (D := (dC, dI)) (ci := 5) (v := .long (lZ (w32 (ofL σ ((fx xs (i + 1)).toNat) (fx xs (i + 2)))))) (C := RX2) (T := TX2) (N := 2) hx hb hts (fun w h => List.mem_cons_of_mem _ (gF_1_in h)) hown hM.1 hPn 0 rfl rfl 0 (by decide) (va_Nw.use rfl hL.1) (fun _ h9 => h9) rfl dL_law_2832 ?_
    refine lv_iload hx hb dL_law_2835 (lv_at hl 0 rfl) ?_
    refine kz_w32 ?_
    refine kz_i2l hx hb (w32_rng _) dL_law_2837 ?_
    refine kz_lcmp_eq (tgt := 2844) hx hb (by first | exact w32_lrng _ | exact bZ_lrng _) (by first | exact w32_lrng _ | exact bZ_lrng _) dL_law_2838 dL_law_2839 (by decide) (fun c_3 => ?_) (fun c_3 => absurd (by first | rw [if_pos c_2] | exact congrArg bZ (by rw [decide_eq_true c_2, Bool.true_and]) | (rw [decide_eq_true c_2]; rfl) | (simp [c_2]; done)) c_3)
    refine lv_goto (tgt := 4485) hx hb dL_law_2844 (by decide) ?_
    refine W.widen (k := cs + 600) (n := ss + 4000) (by omega) (by omega) ?_
    exact kk r2 _ _ _ _ _ hI2 hS (by have h9 := h8.2; omega) (lv_sub hl [2, 3, 4, 5, 6] rfl)

set_option maxHeartbeats 4000000 in
set_option maxRecDepth 100000 in
theorem lc_31 {p : Program} {l : Launch} {e : Env} {s : State} {m : MethodId} {below : List Frame} {meth : Method} {c : Code} {Q : State → Prop} {b L : Nat} {xs : Nat → Int32} {dC : Nat → ClassId} {dI : Nat → Nat → Nat} {dA : Nat → ClassId} {k : Nat → Nat} (hst : l.stackTraces = false) (F : kF p s m meth c b L xs dC dI dA k)
    {q : Nat → Nat} {m0 : Nat} {r : Nat → Nat → Nat} {o : Nat} {σ : Nat → Nat → Int} {th : Int} {H : Heap} {locs : List Loc} {cs ss : Nat} {i : Int} {ls : Array Slot} (hI : LI dC dI dA k q m0 r o σ th H) (hS : va_S (kN0 k) s.heap H locs) (hi : 0 ≤ i ∧ i + 5 ≤ (L : Int)) (hcs : cs + 600 ≤ 707594) (hss : ss + 4000 ≤ 6979453) (h80 : 0 ≤ σ 8 0 ∧ σ 8 0 ≤ 100000) (hl : lv_has ls 7 [(4, .int (iZ i)), (3, .ref o), (2, .ref m0), (1, .ref (q 0)), (0, .ref b)])
    (kk : ∀ (r' : Nat → Nat → Nat) (σ' : Nat → Nat → Int) (th' : Int) (H' : Heap) (locs' : List Loc) (ls' : Array Slot), LI dC dI dA k q m0 r' o σ' th' H' → va_S (kN0 k) s.heap H' locs' → σ 8 0 ≤ σ' 8 0 ∧ σ' 8 0 ≤ σ 8 0 + 1 → lv_has ls' 7 [(4, .int (iZ i)), (3, .ref o), (2, .ref m0), (1, .ref (q 0)), (0, .ref b)] → W p l e room_1 s m #[Value.ref b] below meth c H' locs' (cs + 600) (ss + 4000) Q (F0 m 4485 ls' [])) :
    W p l e room_1 s m #[Value.ref b] below meth c H locs cs ss Q (F0 m 43 ls [.int (iZ 31)]) := by
  obtain ⟨hx, hb, hr9, hml, hown, hts, hX, hbl, hL5, hMJ, hL, hk0, hlocks⟩ := F
  obtain ⟨hG, hOK, hq, hY, hr, hO0, hko, ho9, h1, h2⟩ := id hI
  obtain ⟨sn, sv, -, hO⟩ := id hO0
  have hM := hMJ.1
  have hbA : ¬ kN0 k b := fun z => absurd (show k 0 ≤ b from z) (by omega)
  have hN : ∀ a, kN0 k a → k 0 ≤ a := fun _ h => h
  have hkH : k 0 ≤ H.size := by have := hS.1; omega
  refine lv_tableIn (tgt := 2847) (off := 2804) hx hb dL_law_43 (by rw [iZ_toInt (z := 31) (by omega)]; omega) (by rw [iZ_toInt (z := 31) (by omega)]; omega) (by rw [iZ_toInt (z := 31) (by omega)]; rfl) (by decide) ?_
  refine lv_aload_n hx hb dL_law_2847 rfl (lv_at hl 3 rfl) ?_
  refine lv_aload_n hx hb dL_law_2848 rfl (lv_at hl 4 rfl) ?_
  refine lv_iload hx hb dL_law_2849 (lv_at hl 0 rfl) ?_
  refine lv_iconst (v := iZ 1) hx hb dL_law_2851 rfl ?_
  refine kz_iadd hx hb dL_law_2852 ?_
  refine kz_sld hx hb hX hbl hbA hS (by omega) hL5 dL_law_2853 ?_
  refine lv_aload_n hx hb dL_law_2854 rfl (lv_at hl 1 rfl) ?_
  refine kc2 (vx_runSW (As := [.ref (q 0), .int (iZ (fx xs (i + 1))), .ref o]) (rest := []) ⟨hx, hb, hml, hown, hts⟩ (c_L_count l hst dC dI dA k q σ _ hG hOK hq o sn sv hO hko ho9 ((fx xs (i + 1))) (fx_rng _ _)) (vx_cwSW 3 hts (kg_S mw878 mw879 mw41 rfl mw880) rfl rfl rfl hdS_L_count ⟨Nat.le_of_ble_eq_true rfl, Nat.le_of_ble_eq_true rfl⟩) ⟨fun a U g mk q => ⟨q.1, q.2.1, kMJ_call q.2.2.1, kL_call q.2.2.2⟩, fun U hU hW => ⟨rfl, hU, kMJ_kept hMJ hS hN hU hW, kL_warm hL hW⟩⟩ rfl rfl hl.1 rfl (lv_room (Nat.le_of_ble_eq_true rfl)) dL_law_2855 ⟨kroomC (by omega), kroomS (by omega)⟩) hS (fun a _ h => kAO_N hq hko hkH a h) (fun a h => kAO_N hq hko hkH a h) (fun H1 locs hC hy9 hk9 hS => ?_)
  obtain ⟨hG1, hO1⟩ := hC
  have hY1 := kY_keptO hY hk9 h1 h2
  have hG1 := gX_cast hG1 (kif_same _)
  have h8 : kOK8 σ σ := ⟨hOK, rfl⟩
  have hkH1 : k 0 ≤ H1.size := Nat.le_trans hkH hy9
  clear hk9
  refine lv_istore (lv' := [(5, .int (iZ (ex2 (!inb (fx xs (i + 1)) 0 3) (false)))), (4, .int (iZ i)), (3, .ref o), (2, .ref m0), (1, .ref (q 0)), (0, .ref b)]) hx hb dL_law_2858 hl (by decide) rfl (fun ls hl => ?_)
  refine lv_aload_n hx hb dL_law_2860 rfl (lv_at hl 3 rfl) ?_
  refine lv_aload_n hx hb dL_law_2861 rfl (lv_at hl 5 rfl) ?_
  refine lv_iload hx hb dL_law_2862 (lv_at hl 1 rfl) ?_
  refine lv_iconst (v := iZ 1) hx hb dL_law_2864 rfl ?_
  refine kz_iadd hx hb dL_law_2865 ?_
  refine kz_sld hx hb hX hbl hbA hS (by omega) hL5 dL_law_2866 ?_
  refine kc2r (va_runV (As := [.int (iZ (fx xs (i + 1)))]) (rest := []) ⟨hx, hb, hml, hown, hts⟩ (c_X3_count l dC dI dA k m0 r σ th _ hY1 hr hOK ((fx xs (i + 1))) (fx_rng _ _)) (cwV 1 hts (kg_V mw1258 mw1259 mw1260 mw47 rfl mw1261) rfl rfl rfl hdV_X3_count ⟨Nat.le_of_ble_eq_true rfl, Nat.le_of_ble_eq_true rfl⟩) ⟨fun a U g mk q => ⟨q.1, q.2.1, kMJ_call q.2.2⟩, va_recv hM.1 hY1 (ci := 6) (q0 := 0) rfl rfl, fun U hU hW => ⟨rfl, hU, kMJ_kept hMJ hS hN hU hW⟩⟩ rfl rfl hl.1 rfl (lv_room (Nat.le_of_ble_eq_true rfl)) dL_law_2867 ⟨kroomC (by omega), kroomS (by omega)⟩) hS (fun a _ h => kAy_N hr hkH1 a h) (fun a h => kAy_N hr hkH1 a h) (fun x9 H2 locs hC2 hy8 hk8 hS => ?_)
  obtain ⟨hC2, hT2⟩ := hC2
  have hC2 := gY_id (sz := H1.size) hr hC2
  obtain ⟨r2, hI2, -⟩ := LI_step hI hG1 (gOS_O hO1) hC2 hk8 h8
  have hO2 := gOS_step hI hO1 hk8
  refine lv_astore (lv' := [(6, .ref x9), (5, .int (iZ (ex2 (!inb (fx xs (i + 1)) 0 3) (false)))), (4, .int (iZ i)), (3, .ref o), (2, .ref m0), (1, .ref (q 0)), (0, .ref b)]) hx hb dL_law_2870 hl (by decide) rfl (fun ls hl => ?_)
  refine lv_aload_n hx hb dL_law_2872 rfl (lv_at hl 4 rfl) ?_
  obtain ⟨hG2, hOK2, hq2, hY2, hr2, -⟩ := id hI2
  refine kc0 (fun _ q => q) (va_runV (As := []) (rest := []) ⟨hx, hb, hml, hown, hts⟩ (c_X3_thrown l dC dI dA k m0 r2 _ _ _ hY2 hr2 hOK2) (cwV 0 hts (kg_V mw1013 mw1014 mw1015 mw47 rfl mw1016) rfl rfl rfl hdV_X3_thrown ⟨Nat.le_of_ble_eq_true rfl, Nat.le_of_ble_eq_true rfl⟩) ⟨fun a U g mk q => ⟨q.1, q.2.1, kM_call q.2.2⟩, va_recv hM.1 hY2 (ci := 6) (q0 := 0) rfl rfl, fun U hU hW => ⟨rfl, hU, kM_kept hM hS hN hU hW⟩⟩ rfl rfl hl.1 rfl (lv_room (Nat.le_of_ble_eq_true rfl)) dL_law_2873 ⟨kroomC (by omega), kroomS (by omega)⟩) ?_
  refine lv_iload hx hb dL_law_2876 (lv_at hl 1 rfl) ?_
  refine kz_icmp_eq (tgt := 2883) hx hb (ex2_rng _ _) (ex2_rng _ _) dL_law_2878 (by decide) (fun c_1 => ?_) (fun c_1 => absurd rfl c_1)
  refine lv_iload hx hb dL_law_2883 (lv_at hl 1 rfl) ?_
  refine kz_if_ne (tgt := 2902) hx hb (ex2_rng _ _) dL_law_2885 (by decide) (fun c_2 => ?_) (fun c_2 => ?_)
  · refine lv_goto (tgt := 4485) hx hb dL_law_2902 (by decide) ?_
    refine W.widen (k := cs + 600) (n := ss + 4000) (by omega) (by omega) ?_
    exact kk r2 _ _ _ _ _ hI2 hS (by have h9 := h8.2; omega) (lv_sub hl [2, 3, 4, 5, 6] rfl)
  · refine lv_aload_n hx hb dL_law_2888 rfl (lv_at hl 3 rfl) ?_
    obtain ⟨nv, vv, hPn, hT1⟩ := hO2
    obtain ⟨x8, hvv, w8, g8, -, ht8, hT8⟩ := hT1 c_2
    subst hvv
    obtain ⟨w9, g9, hn9, ht9, hT9⟩ := hT2 c_2
    refine va_getN (D := (dC, dI)) (ci := 5) (v := .ref x8) (C := RX2) (T := TX2) (N := 2) hx hb hts (fun w h => List.mem_cons_of_mem _ (gF_1_in h)) hown hM.1 hPn 0 rfl rfl 1 (by decide) (va_Nw.use rfl hL.2.1) (fun _ h9 => h9) rfl dL_law_2889 ?_
    refine lv_aload hx hb dL_law_2892 (lv_at hl 0 rfl) ?_
    refine kc0 (fun _ q => q) (va_runV (As := [.ref x9]) (rest := []) ⟨hx, hb, hml, hown, hts⟩ (c_J0_equals_9ea2dD l dC dI dA k x8 w8 x9 w9 g8 g9 _ _ (hT8.app hT9) (Nat.lt_of_le_of_lt hn9 (by decide)) (fun j hj => kTX_b (ht8 j hj)) (fun j hj => (ht8 j hj).trans (ht9 j hj).symm)) (cwV 1 hts (kg_V mw1435 mw1436 mw1437 mw45 rfl mw1438) rfl rfl rfl hdV_J0_equals_9ea2d ⟨Nat.le_of_ble_eq_true rfl, Nat.le_of_ble_eq_true rfl⟩) ⟨fun a U g mk q => ⟨q.1, q.2.1, kMJ_call q.2.2⟩, va_recv hM.1 hT8 (ci := 0) (q0 := 0) rfl rfl, fun U hU hW => ⟨rfl, hU, kMJ_kept hMJ hS hN hU hW⟩⟩ rfl rfl hl.1 rfl (lv_room (Nat.le_of_ble_eq_true rfl)) dL_law_2894 ⟨kroomC (by omega), kroomS (by omega)⟩) ?_
    refine kz_ifb_ne (tgt := 2902) hx hb  dL_law_2897 (by decide) (fun c_3 => ?_) (fun c_3 => absurd c_3 (by decide))
    refine lv_goto (tgt := 4485) hx hb dL_law_2902 (by decide) ?_
    refine W.widen (k := cs + 600) (n := ss + 4000) (by omega) (by omega) ?_
    exact kk r2 _ _ _ _ _ hI2 hS (by have h9 := h8.2; omega) (lv_sub hl [2, 3, 4, 5, 6] rfl)

set_option maxHeartbeats 4000000 in
set_option maxRecDepth 100000 in
theorem lc_32 {p : Program} {l : Launch} {e : Env} {s : State} {m : MethodId} {below : List Frame} {meth : Method} {c : Code} {Q : State → Prop} {b L : Nat} {xs : Nat → Int32} {dC : Nat → ClassId} {dI : Nat → Nat → Nat} {dA : Nat → ClassId} {k : Nat → Nat} (hst : l.stackTraces = false) (F : kF p s m meth c b L xs dC dI dA k)
    {q : Nat → Nat} {m0 : Nat} {r : Nat → Nat → Nat} {o : Nat} {σ : Nat → Nat → Int} {th : Int} {H : Heap} {locs : List Loc} {cs ss : Nat} {i : Int} {ls : Array Slot} (hI : LI dC dI dA k q m0 r o σ th H) (hS : va_S (kN0 k) s.heap H locs) (hi : 0 ≤ i ∧ i + 5 ≤ (L : Int)) (hcs : cs + 600 ≤ 707594) (hss : ss + 4000 ≤ 6979453) (h80 : 0 ≤ σ 8 0 ∧ σ 8 0 ≤ 100000) (hl : lv_has ls 7 [(4, .int (iZ i)), (3, .ref o), (2, .ref m0), (1, .ref (q 0)), (0, .ref b)])
    (kk : ∀ (r' : Nat → Nat → Nat) (σ' : Nat → Nat → Int) (th' : Int) (H' : Heap) (locs' : List Loc) (ls' : Array Slot), LI dC dI dA k q m0 r' o σ' th' H' → va_S (kN0 k) s.heap H' locs' → σ 8 0 ≤ σ' 8 0 ∧ σ' 8 0 ≤ σ 8 0 + 1 → lv_has ls' 7 [(4, .int (iZ i)), (3, .ref o), (2, .ref m0), (1, .ref (q 0)), (0, .ref b)] → W p l e room_1 s m #[Value.ref b] below meth c H' locs' (cs + 600) (ss + 4000) Q (F0 m 4485 ls' [])) :
    W p l e room_1 s m #[Value.ref b] below meth c H locs cs ss Q (F0 m 43 ls [.int (iZ 32)]) := by
  obtain ⟨hx, hb, hr9, hml, hown, hts, hX, hbl, hL5, hMJ, hL, hk0, hlocks⟩ := F
  obtain ⟨hG, hOK, hq, hY, hr, hO0, hko, ho9, h1, h2⟩ := id hI
  obtain ⟨sn, sv, -, hO⟩ := id hO0
  have hM := hMJ.1
  have hbA : ¬ kN0 k b := fun z => absurd (show k 0 ≤ b from z) (by omega)
  have hN : ∀ a, kN0 k a → k 0 ≤ a := fun _ h => h
  have hkH : k 0 ≤ H.size := by have := hS.1; omega
  refine lv_tableIn (tgt := 2905) (off := 2862) hx hb dL_law_43 (by rw [iZ_toInt (z := 32) (by omega)]; omega) (by rw [iZ_toInt (z := 32) (by omega)]; omega) (by rw [iZ_toInt (z := 32) (by omega)]; rfl) (by decide) ?_
  refine lv_aload_n hx hb dL_law_2905 rfl (lv_at hl 3 rfl) ?_
  refine lv_aload_n hx hb dL_law_2906 rfl (lv_at hl 4 rfl) ?_
  refine lv_iload hx hb dL_law_2907 (lv_at hl 0 rfl) ?_
  refine lv_iconst (v := iZ 1) hx hb dL_law_2909 rfl ?_
  refine kz_iadd hx hb dL_law_2910 ?_
  refine kz_sld hx hb hX hbl hbA hS (by omega) hL5 dL_law_2911 ?_
  refine lv_aload_n hx hb dL_law_2912 rfl (lv_at hl 4 rfl) ?_
  refine lv_iload hx hb dL_law_2913 (lv_at hl 0 rfl) ?_
  refine lv_iconst (v := iZ 2) hx hb dL_law_2915 rfl ?_
  refine kz_iadd hx hb dL_law_2916 ?_
  refine kz_sld hx hb hX hbl hbA hS (by omega) hL5 dL_law_2917 ?_
  refine lv_aload_n hx hb dL_law_2918 rfl (lv_at hl 1 rfl) ?_
  refine kc2 (vx_runSW (As := [.ref (q 0), .int (iZ (fx xs (i + 1))), .int (iZ (fx xs (i + 2))), .ref o]) (rest := []) ⟨hx, hb, hml, hown, hts⟩ (c_L_hasDay l hst dC dI dA k q σ _ hG hOK hq o sn sv hO hko ho9 ((fx xs (i + 1))) ((fx xs (i + 2))) (fx_rng _ _) (fx_rng _ _)) (vx_cwSW 4 hts (kg_S mw889 mw890 mw41 rfl mw891) rfl rfl rfl hdS_L_hasDay ⟨Nat.le_of_ble_eq_true rfl, Nat.le_of_ble_eq_true rfl⟩) ⟨fun a U g mk q => ⟨q.1, q.2.1, kMJ_call q.2.2.1, kL_call q.2.2.2⟩, fun U hU hW => ⟨rfl, hU, kMJ_kept hMJ hS hN hU hW, kL_warm hL hW⟩⟩ rfl rfl hl.1 rfl (lv_room (Nat.le_of_ble_eq_true rfl)) dL_law_2919 ⟨kroomC (by omega), kroomS (by omega)⟩) hS (fun a _ h => kAO_N hq hko hkH a h) (fun a h => kAO_N hq hko hkH a h) (fun H1 locs hC hy9 hk9 hS => ?_)
  obtain ⟨hG1, hO1⟩ := hC
  have hY1 := kY_keptO hY hk9 h1 h2
  have hG1 := gX_cast hG1 (kif_same _)
  have h8 : kOK8 σ σ := ⟨hOK, rfl⟩
  have hkH1 : k 0 ≤ H1.size := Nat.le_trans hkH hy9
  clear hk9
  refine lv_istore (lv' := [(5, .int (iZ (ex2 (!inb (fx xs (i + 1)) 0 3) (false)))), (4, .int (iZ i)), (3, .ref o), (2, .ref m0), (1, .ref (q 0)), (0, .ref b)]) hx hb dL_law_2922 hl (by decide) rfl (fun ls hl => ?_)
  refine lv_aload_n hx hb dL_law_2924 rfl (lv_at hl 3 rfl) ?_
  refine lv_aload_n hx hb dL_law_2925 rfl (lv_at hl 5 rfl) ?_
  refine lv_iload hx hb dL_law_2926 (lv_at hl 1 rfl) ?_
  refine lv_iconst (v := iZ 1) hx hb dL_law_2928 rfl ?_
  refine kz_iadd hx hb dL_law_2929 ?_
  refine kz_sld hx hb hX hbl hbA hS (by omega) hL5 dL_law_2930 ?_
  refine lv_aload_n hx hb dL_law_2931 rfl (lv_at hl 5 rfl) ?_
  refine lv_iload hx hb dL_law_2932 (lv_at hl 1 rfl) ?_
  refine lv_iconst (v := iZ 2) hx hb dL_law_2934 rfl ?_
  refine kz_iadd hx hb dL_law_2935 ?_
  refine kz_sld hx hb hX hbl hbA hS (by omega) hL5 dL_law_2936 ?_
  refine kc2 (va_runV (As := [.int (iZ (fx xs (i + 1))), .int (iZ (fx xs (i + 2)))]) (rest := []) ⟨hx, hb, hml, hown, hts⟩ (c_X3_hasDay l dC dI dA k m0 r σ th _ hY1 hr hOK ((fx xs (i + 1))) ((fx xs (i + 2))) (fx_rng _ _) (fx_rng _ _)) (cwV 2 hts (kg_V mw1293 mw1294 mw1295 mw47 rfl mw1296) rfl rfl rfl hdV_X3_hasDay ⟨Nat.le_of_ble_eq_true rfl, Nat.le_of_ble_eq_true rfl⟩) ⟨fun a U g mk q => ⟨q.1, q.2.1, kM_call q.2.2⟩, va_recv hM.1 hY1 (ci := 6) (q0 := 0) rfl rfl, fun U hU hW => ⟨rfl, hU, kM_kept hM hS hN hU hW⟩⟩ rfl rfl hl.1 rfl (lv_room (Nat.le_of_ble_eq_true rfl)) dL_law_2937 ⟨kroomC (by omega), kroomS (by omega)⟩) hS (fun a _ h => kAy_N hr hkH1 a h) (fun a h => kAy_N hr hkH1 a h) (fun H2 locs hC2 hy8 hk8 hS => ?_)
  obtain ⟨r2, hI2, hO2⟩ := LI_step hI hG1 hO1 hC2 hk8 h8
  refine lv_istore (lv' := [(6, .int (iZ (bZ (decide (ex2 (!inb (fx xs (i + 1)) 0 3) (false) = 0) && (decide (1 ≤ (fx xs (i + 2)) ∧ (fx xs (i + 2)) ≤ mlen (leap (σ 0 ((fx xs (i + 1)).toNat))) (σ 1 ((fx xs (i + 1)).toNat)))))))), (5, .int (iZ (ex2 (!inb (fx xs (i + 1)) 0 3) (false)))), (4, .int (iZ i)), (3, .ref o), (2, .ref m0), (1, .ref (q 0)), (0, .ref b)]) hx hb dL_law_2940 hl (by decide) rfl (fun ls hl => ?_)
  refine lv_aload_n hx hb dL_law_2942 rfl (lv_at hl 4 rfl) ?_
  obtain ⟨hG2, hOK2, hq2, hY2, hr2, -⟩ := id hI2
  refine kc0 (fun _ q => q) (va_runV (As := []) (rest := []) ⟨hx, hb, hml, hown, hts⟩ (c_X3_thrown l dC dI dA k m0 r2 _ _ _ hY2 hr2 hOK2) (cwV 0 hts (kg_V mw1013 mw1014 mw1015 mw47 rfl mw1016) rfl rfl rfl hdV_X3_thrown ⟨Nat.le_of_ble_eq_true rfl, Nat.le_of_ble_eq_true rfl⟩) ⟨fun a U g mk q => ⟨q.1, q.2.1, kM_call q.2.2⟩, va_recv hM.1 hY2 (ci := 6) (q0 := 0) rfl rfl, fun U hU hW => ⟨rfl, hU, kM_kept hM hS hN hU hW⟩⟩ rfl rfl hl.1 rfl (lv_room (Nat.le_of_ble_eq_true rfl)) dL_law_2943 ⟨kroomC (by omega), kroomS (by omega)⟩) ?_
  refine lv_iload hx hb dL_law_2946 (lv_at hl 1 rfl) ?_
  refine kz_icmp_eq (tgt := 2953) hx hb (ex2_rng _ _) (ex2_rng _ _) dL_law_2948 (by decide) (fun c_1 => ?_) (fun c_1 => absurd rfl c_1)
  refine lv_iload hx hb dL_law_2953 (lv_at hl 1 rfl) ?_
  refine kz_if_ne (tgt := 2978) hx hb (ex2_rng _ _) dL_law_2955 (by decide) (fun c_2 => ?_) (fun c_2 => ?_)
  · refine lv_goto (tgt := 4485) hx hb dL_law_2978 (by decide) ?_
    refine W.widen (k := cs + 600) (n := ss + 4000) (by omega) (by omega) ?_
    exact kk r2 _ _ _ _ _ hI2 hS (by have h9 := h8.2; omega) (lv_sub hl [2, 3, 4, 5, 6] rfl)
  · refine lv_aload_n hx hb dL_law_2958 rfl (lv_at hl 3 rfl) ?_
    obtain ⟨nv, vv, hn, hPn⟩ := hO2
    have hn := hn c_2
    subst hn
    refine va_getN (D := (dC, dI)) (ci := 5) (v := .long (lZ (bZ (decide (1 ≤ (fx xs (i + 2)) ∧ (fx xs (i + 2)) ≤ mlen (leap (σ 0 ((fx xs (i + 1)).toNat))) (σ 1 ((fx xs (i + 1)).toNat))))))) (C := RX2) (T := TX2) (N := 2) hx hb hts (fun w h => List.mem_cons_of_mem _ (gF_1_in h)) hown hM.1 hPn 0 rfl rfl 0 (by decide) (va_Nw.use rfl hL.1) (fun _ h9 => h9) rfl dL_law_2959 ?_
    refine lv_iload hx hb dL_law_2962 (lv_at hl 0 rfl) ?_
    refine kz_b2l hx hb dL_law_2964 dL_law_2967 dL_law_2968 dL_law_2971 ?_
    refine kz_lcmp_eq (tgt := 2978) hx hb (by first | exact w32_lrng _ | exact bZ_lrng _) (by first | exact w32_lrng _ | exact bZ_lrng _) dL_law_2972 dL_law_2973 (by decide) (fun c_3 => ?_) (fun c_3 => absurd (by first | rw [if_pos c_2] | exact congrArg bZ (by rw [decide_eq_true c_2, Bool.true_and]) | (rw [decide_eq_true c_2]; rfl) | (simp [c_2]; done)) c_3)
    refine lv_goto (tgt := 4485) hx hb dL_law_2978 (by decide) ?_
    refine W.widen (k := cs + 600) (n := ss + 4000) (by omega) (by omega) ?_
    exact kk r2 _ _ _ _ _ hI2 hS (by have h9 := h8.2; omega) (lv_sub hl [2, 3, 4, 5, 6] rfl)

set_option maxHeartbeats 4000000 in
set_option maxRecDepth 100000 in
theorem lc_33 {p : Program} {l : Launch} {e : Env} {s : State} {m : MethodId} {below : List Frame} {meth : Method} {c : Code} {Q : State → Prop} {b L : Nat} {xs : Nat → Int32} {dC : Nat → ClassId} {dI : Nat → Nat → Nat} {dA : Nat → ClassId} {k : Nat → Nat} (hst : l.stackTraces = false) (F : kF p s m meth c b L xs dC dI dA k)
    {q : Nat → Nat} {m0 : Nat} {r : Nat → Nat → Nat} {o : Nat} {σ : Nat → Nat → Int} {th : Int} {H : Heap} {locs : List Loc} {cs ss : Nat} {i : Int} {ls : Array Slot} (hI : LI dC dI dA k q m0 r o σ th H) (hS : va_S (kN0 k) s.heap H locs) (hi : 0 ≤ i ∧ i + 5 ≤ (L : Int)) (hcs : cs + 600 ≤ 707594) (hss : ss + 4000 ≤ 6979453) (h80 : 0 ≤ σ 8 0 ∧ σ 8 0 ≤ 100000) (hl : lv_has ls 7 [(4, .int (iZ i)), (3, .ref o), (2, .ref m0), (1, .ref (q 0)), (0, .ref b)])
    (kk : ∀ (r' : Nat → Nat → Nat) (σ' : Nat → Nat → Int) (th' : Int) (H' : Heap) (locs' : List Loc) (ls' : Array Slot), LI dC dI dA k q m0 r' o σ' th' H' → va_S (kN0 k) s.heap H' locs' → σ 8 0 ≤ σ' 8 0 ∧ σ' 8 0 ≤ σ 8 0 + 1 → lv_has ls' 7 [(4, .int (iZ i)), (3, .ref o), (2, .ref m0), (1, .ref (q 0)), (0, .ref b)] → W p l e room_1 s m #[Value.ref b] below meth c H' locs' (cs + 600) (ss + 4000) Q (F0 m 4485 ls' [])) :
    W p l e room_1 s m #[Value.ref b] below meth c H locs cs ss Q (F0 m 43 ls [.int (iZ 33)]) := by
  obtain ⟨hx, hb, hr9, hml, hown, hts, hX, hbl, hL5, hMJ, hL, hk0, hlocks⟩ := F
  obtain ⟨hG, hOK, hq, hY, hr, hO0, hko, ho9, h1, h2⟩ := id hI
  obtain ⟨sn, sv, -, hO⟩ := id hO0
  have hM := hMJ.1
  have hbA : ¬ kN0 k b := fun z => absurd (show k 0 ≤ b from z) (by omega)
  have hN : ∀ a, kN0 k a → k 0 ≤ a := fun _ h => h
  have hkH : k 0 ≤ H.size := by have := hS.1; omega
  refine lv_tableIn (tgt := 2981) (off := 2938) hx hb dL_law_43 (by rw [iZ_toInt (z := 33) (by omega)]; omega) (by rw [iZ_toInt (z := 33) (by omega)]; omega) (by rw [iZ_toInt (z := 33) (by omega)]; rfl) (by decide) ?_
  refine lv_aload_n hx hb dL_law_2981 rfl (lv_at hl 3 rfl) ?_
  refine lv_aload_n hx hb dL_law_2982 rfl (lv_at hl 4 rfl) ?_
  refine lv_iload hx hb dL_law_2983 (lv_at hl 0 rfl) ?_
  refine lv_iconst (v := iZ 1) hx hb dL_law_2985 rfl ?_
  refine kz_iadd hx hb dL_law_2986 ?_
  refine kz_sld hx hb hX hbl hbA hS (by omega) hL5 dL_law_2987 ?_
  refine lv_aload_n hx hb dL_law_2988 rfl (lv_at hl 4 rfl) ?_
  refine lv_iload hx hb dL_law_2989 (lv_at hl 0 rfl) ?_
  refine lv_iconst (v := iZ 2) hx hb dL_law_2991 rfl ?_
  refine kz_iadd hx hb dL_law_2992 ?_
  refine kz_sld hx hb hX hbl hbA hS (by omega) hL5 dL_law_2993 ?_
  refine lv_aload_n hx hb dL_law_2994 rfl (lv_at hl 4 rfl) ?_
  refine lv_iload hx hb dL_law_2995 (lv_at hl 0 rfl) ?_
  refine lv_iconst (v := iZ 3) hx hb dL_law_2997 rfl ?_
  refine kz_iadd hx hb dL_law_2998 ?_
  refine kz_sld hx hb hX hbl hbA hS (by omega) hL5 dL_law_2999 ?_
  refine lv_aload_n hx hb dL_law_3000 rfl (lv_at hl 1 rfl) ?_
  refine kc2 (vx_runSW (As := [.ref (q 0), .int (iZ (fx xs (i + 1))), .int (iZ (fx xs (i + 2))), .int (iZ (fx xs (i + 3))), .ref o]) (rest := []) ⟨hx, hb, hml, hown, hts⟩ (c_L_leafOrder l hst dC dI dA k q σ _ hG hOK hq o sn sv hO hko ho9 ((fx xs (i + 1))) ((fx xs (i + 2))) ((fx xs (i + 3))) (fx_rng _ _) (fx_rng _ _) (fx_rng _ _)) (vx_cwSW 5 hts (kg_S mw896 mw897 mw41 rfl mw898) rfl rfl rfl hdS_L_leafOrder ⟨Nat.le_of_ble_eq_true rfl, Nat.le_of_ble_eq_true rfl⟩) ⟨fun a U g mk q => ⟨q.1, q.2.1, kMJ_call q.2.2.1, kL_call q.2.2.2⟩, fun U hU hW => ⟨rfl, hU, kMJ_kept hMJ hS hN hU hW, kL_warm hL hW⟩⟩ rfl rfl hl.1 rfl (lv_room (Nat.le_of_ble_eq_true rfl)) dL_law_3001 ⟨kroomC (by omega), kroomS (by omega)⟩) hS (fun a _ h => kAO_N hq hko hkH a h) (fun a h => kAO_N hq hko hkH a h) (fun H1 locs hC hy9 hk9 hS => ?_)
  obtain ⟨hG1, hO1⟩ := hC
  have hY1 := kY_keptO hY hk9 h1 h2
  have hG1 := gX_cast hG1 (kif_same _)
  have h8 : kOK8 σ σ := ⟨hOK, rfl⟩
  have hkH1 : k 0 ≤ H1.size := Nat.le_trans hkH hy9
  clear hk9
  refine lv_istore (lv' := [(5, .int (iZ (ex2 (!inb (fx xs (i + 1)) 0 3 || !inb (fx xs (i + 2)) 0 3) (!inb (fx xs (i + 3)) 0 2)))), (4, .int (iZ i)), (3, .ref o), (2, .ref m0), (1, .ref (q 0)), (0, .ref b)]) hx hb dL_law_3004 hl (by decide) rfl (fun ls hl => ?_)
  refine lv_aload_n hx hb dL_law_3006 rfl (lv_at hl 3 rfl) ?_
  refine lv_aload_n hx hb dL_law_3007 rfl (lv_at hl 5 rfl) ?_
  refine lv_iload hx hb dL_law_3008 (lv_at hl 1 rfl) ?_
  refine lv_iconst (v := iZ 1) hx hb dL_law_3010 rfl ?_
  refine kz_iadd hx hb dL_law_3011 ?_
  refine kz_sld hx hb hX hbl hbA hS (by omega) hL5 dL_law_3012 ?_
  refine lv_aload_n hx hb dL_law_3013 rfl (lv_at hl 5 rfl) ?_
  refine lv_iload hx hb dL_law_3014 (lv_at hl 1 rfl) ?_
  refine lv_iconst (v := iZ 2) hx hb dL_law_3016 rfl ?_
  refine kz_iadd hx hb dL_law_3017 ?_
  refine kz_sld hx hb hX hbl hbA hS (by omega) hL5 dL_law_3018 ?_
  refine lv_aload_n hx hb dL_law_3019 rfl (lv_at hl 5 rfl) ?_
  refine lv_iload hx hb dL_law_3020 (lv_at hl 1 rfl) ?_
  refine lv_iconst (v := iZ 3) hx hb dL_law_3022 rfl ?_
  refine kz_iadd hx hb dL_law_3023 ?_
  refine kz_sld hx hb hX hbl hbA hS (by omega) hL5 dL_law_3024 ?_
  refine kc2 (va_runV (As := [.int (iZ (fx xs (i + 1))), .int (iZ (fx xs (i + 2))), .int (iZ (fx xs (i + 3)))]) (rest := []) ⟨hx, hb, hml, hown, hts⟩ (c_X3_leafOrder l dC dI dA k m0 r σ th _ hY1 hr hOK ((fx xs (i + 1))) ((fx xs (i + 2))) ((fx xs (i + 3))) (fx_rng _ _) (fx_rng _ _) (fx_rng _ _)) (cwV 3 hts (kg_V mw1297 mw1298 mw1299 mw47 rfl mw1300) rfl rfl rfl hdV_X3_leafOrder ⟨Nat.le_of_ble_eq_true rfl, Nat.le_of_ble_eq_true rfl⟩) ⟨fun a U g mk q => ⟨q.1, q.2.1, kM_call q.2.2⟩, va_recv hM.1 hY1 (ci := 6) (q0 := 0) rfl rfl, fun U hU hW => ⟨rfl, hU, kM_kept hM hS hN hU hW⟩⟩ rfl rfl hl.1 rfl (lv_room (Nat.le_of_ble_eq_true rfl)) dL_law_3025 ⟨kroomC (by omega), kroomS (by omega)⟩) hS (fun a _ h => kAy_N hr hkH1 a h) (fun a h => kAy_N hr hkH1 a h) (fun H2 locs hC2 hy8 hk8 hS => ?_)
  obtain ⟨r2, hI2, hO2⟩ := LI_step hI hG1 hO1 hC2 hk8 h8
  refine lv_istore (lv' := [(6, .int (iZ (if ex2 (!inb (fx xs (i + 1)) 0 3 || !inb (fx xs (i + 2)) 0 3) (!inb (fx xs (i + 3)) 0 2) = 0 then (ordT (cnt (σ 0 ((fx xs (i + 1)).toNat)) (σ 1 ((fx xs (i + 1)).toNat))) (cnt (σ 0 ((fx xs (i + 2)).toNat)) (σ 1 ((fx xs (i + 2)).toNat))) (fx xs (i + 3))) else 0))), (5, .int (iZ (ex2 (!inb (fx xs (i + 1)) 0 3 || !inb (fx xs (i + 2)) 0 3) (!inb (fx xs (i + 3)) 0 2)))), (4, .int (iZ i)), (3, .ref o), (2, .ref m0), (1, .ref (q 0)), (0, .ref b)]) hx hb dL_law_3028 hl (by decide) rfl (fun ls hl => ?_)
  refine lv_aload_n hx hb dL_law_3030 rfl (lv_at hl 4 rfl) ?_
  obtain ⟨hG2, hOK2, hq2, hY2, hr2, -⟩ := id hI2
  refine kc0 (fun _ q => q) (va_runV (As := []) (rest := []) ⟨hx, hb, hml, hown, hts⟩ (c_X3_thrown l dC dI dA k m0 r2 _ _ _ hY2 hr2 hOK2) (cwV 0 hts (kg_V mw1013 mw1014 mw1015 mw47 rfl mw1016) rfl rfl rfl hdV_X3_thrown ⟨Nat.le_of_ble_eq_true rfl, Nat.le_of_ble_eq_true rfl⟩) ⟨fun a U g mk q => ⟨q.1, q.2.1, kM_call q.2.2⟩, va_recv hM.1 hY2 (ci := 6) (q0 := 0) rfl rfl, fun U hU hW => ⟨rfl, hU, kM_kept hM hS hN hU hW⟩⟩ rfl rfl hl.1 rfl (lv_room (Nat.le_of_ble_eq_true rfl)) dL_law_3031 ⟨kroomC (by omega), kroomS (by omega)⟩) ?_
  refine lv_iload hx hb dL_law_3034 (lv_at hl 1 rfl) ?_
  refine kz_icmp_eq (tgt := 3041) hx hb (ex2_rng _ _) (ex2_rng _ _) dL_law_3036 (by decide) (fun c_1 => ?_) (fun c_1 => absurd rfl c_1)
  refine lv_iload hx hb dL_law_3041 (lv_at hl 1 rfl) ?_
  refine kz_if_ne (tgt := 3059) hx hb (ex2_rng _ _) dL_law_3043 (by decide) (fun c_2 => ?_) (fun c_2 => ?_)
  · refine lv_goto (tgt := 4485) hx hb dL_law_3059 (by decide) ?_
    refine W.widen (k := cs + 600) (n := ss + 4000) (by omega) (by omega) ?_
    exact kk r2 _ _ _ _ _ hI2 hS (by have h9 := h8.2; omega) (lv_sub hl [2, 3, 4, 5, 6] rfl)
  · refine lv_aload_n hx hb dL_law_3046 rfl (lv_at hl 3 rfl) ?_
    obtain ⟨nv, vv, hn, hPn⟩ := hO2
    have hn := hn c_2
    subst hn
    refine va_getN (D := (dC, dI)) (ci := 5) (v := .long (lZ (w32 (ordT (cnt (σ 0 ((fx xs (i + 1)).toNat)) (σ 1 ((fx xs (i + 1)).toNat))) (cnt (σ 0 ((fx xs (i + 2)).toNat)) (σ 1 ((fx xs (i + 2)).toNat))) (fx xs (i + 3)))))) (C := RX2) (T := TX2) (N := 2) hx hb hts (fun w h => List.mem_cons_of_mem _ (gF_1_in h)) hown hM.1 hPn 0 rfl rfl 0 (by decide) (va_Nw.use rfl hL.1) (fun _ h9 => h9) rfl dL_law_3047 ?_
    refine lv_iload hx hb dL_law_3050 (lv_at hl 0 rfl) ?_
    refine kz_w32 ?_
    refine kz_i2l hx hb (w32_rng _) dL_law_3052 ?_
    refine kz_lcmp_eq (tgt := 3059) hx hb (by first | exact w32_lrng _ | exact bZ_lrng _) (by first | exact w32_lrng _ | exact bZ_lrng _) dL_law_3053 dL_law_3054 (by decide) (fun c_3 => ?_) (fun c_3 => absurd (by first | rw [if_pos c_2] | exact congrArg bZ (by rw [decide_eq_true c_2, Bool.true_and]) | (rw [decide_eq_true c_2]; rfl) | (simp [c_2]; done)) c_3)
    refine lv_goto (tgt := 4485) hx hb dL_law_3059 (by decide) ?_
    refine W.widen (k := cs + 600) (n := ss + 4000) (by omega) (by omega) ?_
    exact kk r2 _ _ _ _ _ hI2 hS (by have h9 := h8.2; omega) (lv_sub hl [2, 3, 4, 5, 6] rfl)

set_option maxHeartbeats 4000000 in
set_option maxRecDepth 100000 in
theorem lc_34 {p : Program} {l : Launch} {e : Env} {s : State} {m : MethodId} {below : List Frame} {meth : Method} {c : Code} {Q : State → Prop} {b L : Nat} {xs : Nat → Int32} {dC : Nat → ClassId} {dI : Nat → Nat → Nat} {dA : Nat → ClassId} {k : Nat → Nat} (hst : l.stackTraces = false) (F : kF p s m meth c b L xs dC dI dA k)
    {q : Nat → Nat} {m0 : Nat} {r : Nat → Nat → Nat} {o : Nat} {σ : Nat → Nat → Int} {th : Int} {H : Heap} {locs : List Loc} {cs ss : Nat} {i : Int} {ls : Array Slot} (hI : LI dC dI dA k q m0 r o σ th H) (hS : va_S (kN0 k) s.heap H locs) (hi : 0 ≤ i ∧ i + 5 ≤ (L : Int)) (hcs : cs + 600 ≤ 707594) (hss : ss + 4000 ≤ 6979453) (h80 : 0 ≤ σ 8 0 ∧ σ 8 0 ≤ 100000) (hl : lv_has ls 7 [(4, .int (iZ i)), (3, .ref o), (2, .ref m0), (1, .ref (q 0)), (0, .ref b)])
    (kk : ∀ (r' : Nat → Nat → Nat) (σ' : Nat → Nat → Int) (th' : Int) (H' : Heap) (locs' : List Loc) (ls' : Array Slot), LI dC dI dA k q m0 r' o σ' th' H' → va_S (kN0 k) s.heap H' locs' → σ 8 0 ≤ σ' 8 0 ∧ σ' 8 0 ≤ σ 8 0 + 1 → lv_has ls' 7 [(4, .int (iZ i)), (3, .ref o), (2, .ref m0), (1, .ref (q 0)), (0, .ref b)] → W p l e room_1 s m #[Value.ref b] below meth c H' locs' (cs + 600) (ss + 4000) Q (F0 m 4485 ls' [])) :
    W p l e room_1 s m #[Value.ref b] below meth c H locs cs ss Q (F0 m 43 ls [.int (iZ 34)]) := by
  obtain ⟨hx, hb, hr9, hml, hown, hts, hX, hbl, hL5, hMJ, hL, hk0, hlocks⟩ := F
  obtain ⟨hG, hOK, hq, hY, hr, hO0, hko, ho9, h1, h2⟩ := id hI
  obtain ⟨sn, sv, -, hO⟩ := id hO0
  have hM := hMJ.1
  have hbA : ¬ kN0 k b := fun z => absurd (show k 0 ≤ b from z) (by omega)
  have hN : ∀ a, kN0 k a → k 0 ≤ a := fun _ h => h
  have hkH : k 0 ≤ H.size := by have := hS.1; omega
  refine lv_tableIn (tgt := 3062) (off := 3019) hx hb dL_law_43 (by rw [iZ_toInt (z := 34) (by omega)]; omega) (by rw [iZ_toInt (z := 34) (by omega)]; omega) (by rw [iZ_toInt (z := 34) (by omega)]; rfl) (by decide) ?_
  refine lv_aload_n hx hb dL_law_3062 rfl (lv_at hl 3 rfl) ?_
  refine lv_aload_n hx hb dL_law_3063 rfl (lv_at hl 4 rfl) ?_
  refine lv_iload hx hb dL_law_3064 (lv_at hl 0 rfl) ?_
  refine lv_iconst (v := iZ 1) hx hb dL_law_3066 rfl ?_
  refine kz_iadd hx hb dL_law_3067 ?_
  refine kz_sld hx hb hX hbl hbA hS (by omega) hL5 dL_law_3068 ?_
  refine lv_aload_n hx hb dL_law_3069 rfl (lv_at hl 4 rfl) ?_
  refine lv_iload hx hb dL_law_3070 (lv_at hl 0 rfl) ?_
  refine lv_iconst (v := iZ 2) hx hb dL_law_3072 rfl ?_
  refine kz_iadd hx hb dL_law_3073 ?_
  refine kz_sld hx hb hX hbl hbA hS (by omega) hL5 dL_law_3074 ?_
  refine lv_aload_n hx hb dL_law_3075 rfl (lv_at hl 4 rfl) ?_
  refine lv_iload hx hb dL_law_3076 (lv_at hl 0 rfl) ?_
  refine lv_iconst (v := iZ 3) hx hb dL_law_3078 rfl ?_
  refine kz_iadd hx hb dL_law_3079 ?_
  refine kz_sld hx hb hX hbl hbA hS (by omega) hL5 dL_law_3080 ?_
  refine lv_aload_n hx hb dL_law_3081 rfl (lv_at hl 1 rfl) ?_
  refine kc2 (vx_runSW (As := [.ref (q 0), .int (iZ (fx xs (i + 1))), .int (iZ (fx xs (i + 2))), .int (iZ (fx xs (i + 3))), .ref o]) (rest := []) ⟨hx, hb, hml, hown, hts⟩ (c_L_isLeaf l hst dC dI dA k q σ _ hG hOK hq o sn sv hO hko ho9 ((fx xs (i + 1))) ((fx xs (i + 2))) ((fx xs (i + 3))) (fx_rng _ _) (fx_rng _ _) (fx_rng _ _)) (vx_cwSW 5 hts (kg_S mw900 mw901 mw41 rfl mw902) rfl rfl rfl hdS_L_isLeaf ⟨Nat.le_of_ble_eq_true rfl, Nat.le_of_ble_eq_true rfl⟩) ⟨fun a U g mk q => ⟨q.1, q.2.1, kMJ_call q.2.2.1, kL_call q.2.2.2⟩, fun U hU hW => ⟨rfl, hU, kMJ_kept hMJ hS hN hU hW, kL_warm hL hW⟩⟩ rfl rfl hl.1 rfl (lv_room (Nat.le_of_ble_eq_true rfl)) dL_law_3082 ⟨kroomC (by omega), kroomS (by omega)⟩) hS (fun a _ h => kAO_N hq hko hkH a h) (fun a h => kAO_N hq hko hkH a h) (fun H1 locs hC hy9 hk9 hS => ?_)
  obtain ⟨hG1, hO1⟩ := hC
  have hY1 := kY_keptO hY hk9 h1 h2
  have hG1 := gX_cast hG1 (kif_same _)
  have h8 : kOK8 σ σ := ⟨hOK, rfl⟩
  have hkH1 : k 0 ≤ H1.size := Nat.le_trans hkH hy9
  clear hk9
  refine lv_istore (lv' := [(5, .int (iZ (ex2 (!inb (fx xs (i + 1)) 0 3 || !inb (fx xs (i + 3)) 0 3) (!inb (fx xs (i + 2)) 0 4)))), (4, .int (iZ i)), (3, .ref o), (2, .ref m0), (1, .ref (q 0)), (0, .ref b)]) hx hb dL_law_3085 hl (by decide) rfl (fun ls hl => ?_)
  refine lv_aload_n hx hb dL_law_3087 rfl (lv_at hl 3 rfl) ?_
  refine lv_aload_n hx hb dL_law_3088 rfl (lv_at hl 5 rfl) ?_
  refine lv_iload hx hb dL_law_3089 (lv_at hl 1 rfl) ?_
  refine lv_iconst (v := iZ 1) hx hb dL_law_3091 rfl ?_
  refine kz_iadd hx hb dL_law_3092 ?_
  refine kz_sld hx hb hX hbl hbA hS (by omega) hL5 dL_law_3093 ?_
  refine lv_aload_n hx hb dL_law_3094 rfl (lv_at hl 5 rfl) ?_
  refine lv_iload hx hb dL_law_3095 (lv_at hl 1 rfl) ?_
  refine lv_iconst (v := iZ 2) hx hb dL_law_3097 rfl ?_
  refine kz_iadd hx hb dL_law_3098 ?_
  refine kz_sld hx hb hX hbl hbA hS (by omega) hL5 dL_law_3099 ?_
  refine lv_aload_n hx hb dL_law_3100 rfl (lv_at hl 5 rfl) ?_
  refine lv_iload hx hb dL_law_3101 (lv_at hl 1 rfl) ?_
  refine lv_iconst (v := iZ 3) hx hb dL_law_3103 rfl ?_
  refine kz_iadd hx hb dL_law_3104 ?_
  refine kz_sld hx hb hX hbl hbA hS (by omega) hL5 dL_law_3105 ?_
  refine kc2 (va_runV (As := [.int (iZ (fx xs (i + 1))), .int (iZ (fx xs (i + 2))), .int (iZ (fx xs (i + 3)))]) (rest := []) ⟨hx, hb, hml, hown, hts⟩ (c_X3_isLeaf l dC dI dA k m0 r σ th _ hY1 hr hOK ((fx xs (i + 1))) ((fx xs (i + 2))) ((fx xs (i + 3))) (fx_rng _ _) (fx_rng _ _) (fx_rng _ _)) (cwV 3 hts (kg_V mw1307 mw1308 mw1309 mw47 rfl mw1310) rfl rfl rfl hdV_X3_isLeaf ⟨Nat.le_of_ble_eq_true rfl, Nat.le_of_ble_eq_true rfl⟩) ⟨fun a U g mk q => ⟨q.1, q.2.1, kM_call q.2.2⟩, va_recv hM.1 hY1 (ci := 6) (q0 := 0) rfl rfl, fun U hU hW => ⟨rfl, hU, kM_kept hM hS hN hU hW⟩⟩ rfl rfl hl.1 rfl (lv_room (Nat.le_of_ble_eq_true rfl)) dL_law_3106 ⟨kroomC (by omega), kroomS (by omega)⟩) hS (fun a _ h => kAy_N hr hkH1 a h) (fun a h => kAy_N hr hkH1 a h) (fun H2 locs hC2 hy8 hk8 hS => ?_)
  obtain ⟨r2, hI2, hO2⟩ := LI_step hI hG1 hO1 hC2 hk8 h8
  refine lv_istore (lv' := [(6, .int (iZ (bZ (decide (ex2 (!inb (fx xs (i + 1)) 0 3 || !inb (fx xs (i + 3)) 0 3) (!inb (fx xs (i + 2)) 0 4) = 0) && (decide ((fx xs (i + 2)) = 0 ∧ σ 0 ((fx xs (i + 1)).toNat) = σ 0 ((fx xs (i + 3)).toNat) ∧ σ 1 ((fx xs (i + 1)).toNat) = σ 1 ((fx xs (i + 3)).toNat))))))), (5, .int (iZ (ex2 (!inb (fx xs (i + 1)) 0 3 || !inb (fx xs (i + 3)) 0 3) (!inb (fx xs (i + 2)) 0 4)))), (4, .int (iZ i)), (3, .ref o), (2, .ref m0), (1, .ref (q 0)), (0, .ref b)]) hx hb dL_law_3109 hl (by decide) rfl (fun ls hl => ?_)
  refine lv_aload_n hx hb dL_law_3111 rfl (lv_at hl 4 rfl) ?_
  obtain ⟨hG2, hOK2, hq2, hY2, hr2, -⟩ := id hI2
  refine kc0 (fun _ q => q) (va_runV (As := []) (rest := []) ⟨hx, hb, hml, hown, hts⟩ (c_X3_thrown l dC dI dA k m0 r2 _ _ _ hY2 hr2 hOK2) (cwV 0 hts (kg_V mw1013 mw1014 mw1015 mw47 rfl mw1016) rfl rfl rfl hdV_X3_thrown ⟨Nat.le_of_ble_eq_true rfl, Nat.le_of_ble_eq_true rfl⟩) ⟨fun a U g mk q => ⟨q.1, q.2.1, kM_call q.2.2⟩, va_recv hM.1 hY2 (ci := 6) (q0 := 0) rfl rfl, fun U hU hW => ⟨rfl, hU, kM_kept hM hS hN hU hW⟩⟩ rfl rfl hl.1 rfl (lv_room (Nat.le_of_ble_eq_true rfl)) dL_law_3112 ⟨kroomC (by omega), kroomS (by omega)⟩) ?_
  refine lv_iload hx hb dL_law_3115 (lv_at hl 1 rfl) ?_
  refine kz_icmp_eq (tgt := 3122) hx hb (ex2_rng _ _) (ex2_rng _ _) dL_law_3117 (by decide) (fun c_1 => ?_) (fun c_1 => absurd rfl c_1)
  refine lv_iload hx hb dL_law_3122 (lv_at hl 1 rfl) ?_
  refine kz_if_ne (tgt := 3147) hx hb (ex2_rng _ _) dL_law_3124 (by decide) (fun c_2 => ?_) (fun c_2 => ?_)
  · refine lv_goto (tgt := 4485) hx hb dL_law_3147 (by decide) ?_
    refine W.widen (k := cs + 600) (n := ss + 4000) (by omega) (by omega) ?_
    exact kk r2 _ _ _ _ _ hI2 hS (by have h9 := h8.2; omega) (lv_sub hl [2, 3, 4, 5, 6] rfl)
  · refine lv_aload_n hx hb dL_law_3127 rfl (lv_at hl 3 rfl) ?_
    obtain ⟨nv, vv, hn, hPn⟩ := hO2
    have hn := hn c_2
    subst hn
    refine va_getN (D := (dC, dI)) (ci := 5) (v := .long (lZ (bZ (decide ((fx xs (i + 2)) = 0 ∧ σ 0 ((fx xs (i + 1)).toNat) = σ 0 ((fx xs (i + 3)).toNat) ∧ σ 1 ((fx xs (i + 1)).toNat) = σ 1 ((fx xs (i + 3)).toNat)))))) (C := RX2) (T := TX2) (N := 2) hx hb hts (fun w h => List.mem_cons_of_mem _ (gF_1_in h)) hown hM.1 hPn 0 rfl rfl 0 (by decide) (va_Nw.use rfl hL.1) (fun _ h9 => h9) rfl dL_law_3128 ?_
    refine lv_iload hx hb dL_law_3131 (lv_at hl 0 rfl) ?_
    refine kz_b2l hx hb dL_law_3133 dL_law_3136 dL_law_3137 dL_law_3140 ?_
    refine kz_lcmp_eq (tgt := 3147) hx hb (by first | exact w32_lrng _ | exact bZ_lrng _) (by first | exact w32_lrng _ | exact bZ_lrng _) dL_law_3141 dL_law_3142 (by decide) (fun c_3 => ?_) (fun c_3 => absurd (by first | rw [if_pos c_2] | exact congrArg bZ (by rw [decide_eq_true c_2, Bool.true_and]) | (rw [decide_eq_true c_2]; rfl) | (simp [c_2]; done)) c_3)
    refine lv_goto (tgt := 4485) hx hb dL_law_3147 (by decide) ?_
    refine W.widen (k := cs + 600) (n := ss + 4000) (by omega) (by omega) ?_
    exact kk r2 _ _ _ _ _ hI2 hS (by have h9 := h8.2; omega) (lv_sub hl [2, 3, 4, 5, 6] rfl)

set_option maxHeartbeats 4000000 in
set_option maxRecDepth 100000 in
theorem lc_35 {p : Program} {l : Launch} {e : Env} {s : State} {m : MethodId} {below : List Frame} {meth : Method} {c : Code} {Q : State → Prop} {b L : Nat} {xs : Nat → Int32} {dC : Nat → ClassId} {dI : Nat → Nat → Nat} {dA : Nat → ClassId} {k : Nat → Nat} (hst : l.stackTraces = false) (F : kF p s m meth c b L xs dC dI dA k)
    {q : Nat → Nat} {m0 : Nat} {r : Nat → Nat → Nat} {o : Nat} {σ : Nat → Nat → Int} {th : Int} {H : Heap} {locs : List Loc} {cs ss : Nat} {i : Int} {ls : Array Slot} (hI : LI dC dI dA k q m0 r o σ th H) (hS : va_S (kN0 k) s.heap H locs) (hi : 0 ≤ i ∧ i + 5 ≤ (L : Int)) (hcs : cs + 600 ≤ 707594) (hss : ss + 4000 ≤ 6979453) (h80 : 0 ≤ σ 8 0 ∧ σ 8 0 ≤ 100000) (hl : lv_has ls 7 [(4, .int (iZ i)), (3, .ref o), (2, .ref m0), (1, .ref (q 0)), (0, .ref b)])
    (kk : ∀ (r' : Nat → Nat → Nat) (σ' : Nat → Nat → Int) (th' : Int) (H' : Heap) (locs' : List Loc) (ls' : Array Slot), LI dC dI dA k q m0 r' o σ' th' H' → va_S (kN0 k) s.heap H' locs' → σ 8 0 ≤ σ' 8 0 ∧ σ' 8 0 ≤ σ 8 0 + 1 → lv_has ls' 7 [(4, .int (iZ i)), (3, .ref o), (2, .ref m0), (1, .ref (q 0)), (0, .ref b)] → W p l e room_1 s m #[Value.ref b] below meth c H' locs' (cs + 600) (ss + 4000) Q (F0 m 4485 ls' [])) :
    W p l e room_1 s m #[Value.ref b] below meth c H locs cs ss Q (F0 m 43 ls [.int (iZ 35)]) := by
  obtain ⟨hx, hb, hr9, hml, hown, hts, hX, hbl, hL5, hMJ, hL, hk0, hlocks⟩ := F
  obtain ⟨hG, hOK, hq, hY, hr, hO0, hko, ho9, h1, h2⟩ := id hI
  obtain ⟨sn, sv, -, hO⟩ := id hO0
  have hM := hMJ.1
  have hbA : ¬ kN0 k b := fun z => absurd (show k 0 ≤ b from z) (by omega)
  have hN : ∀ a, kN0 k a → k 0 ≤ a := fun _ h => h
  have hkH : k 0 ≤ H.size := by have := hS.1; omega
  refine lv_tableIn (tgt := 3150) (off := 3107) hx hb dL_law_43 (by rw [iZ_toInt (z := 35) (by omega)]; omega) (by rw [iZ_toInt (z := 35) (by omega)]; omega) (by rw [iZ_toInt (z := 35) (by omega)]; rfl) (by decide) ?_
  refine lv_aload_n hx hb dL_law_3150 rfl (lv_at hl 3 rfl) ?_
  refine lv_aload_n hx hb dL_law_3151 rfl (lv_at hl 4 rfl) ?_
  refine lv_iload hx hb dL_law_3152 (lv_at hl 0 rfl) ?_
  refine lv_iconst (v := iZ 1) hx hb dL_law_3154 rfl ?_
  refine kz_iadd hx hb dL_law_3155 ?_
  refine kz_sld hx hb hX hbl hbA hS (by omega) hL5 dL_law_3156 ?_
  refine lv_aload_n hx hb dL_law_3157 rfl (lv_at hl 4 rfl) ?_
  refine lv_iload hx hb dL_law_3158 (lv_at hl 0 rfl) ?_
  refine lv_iconst (v := iZ 2) hx hb dL_law_3160 rfl ?_
  refine kz_iadd hx hb dL_law_3161 ?_
  refine kz_sld hx hb hX hbl hbA hS (by omega) hL5 dL_law_3162 ?_
  refine lv_aload_n hx hb dL_law_3163 rfl (lv_at hl 4 rfl) ?_
  refine lv_iload hx hb dL_law_3164 (lv_at hl 0 rfl) ?_
  refine lv_iconst (v := iZ 3) hx hb dL_law_3166 rfl ?_
  refine kz_iadd hx hb dL_law_3167 ?_
  refine kz_sld hx hb hX hbl hbA hS (by omega) hL5 dL_law_3168 ?_
  refine lv_aload_n hx hb dL_law_3169 rfl (lv_at hl 4 rfl) ?_
  refine lv_iload hx hb dL_law_3170 (lv_at hl 0 rfl) ?_
  refine lv_iconst (v := iZ 4) hx hb dL_law_3172 rfl ?_
  refine kz_iadd hx hb dL_law_3173 ?_
  refine kz_sld hx hb hX hbl hbA hS (by omega) hL5 dL_law_3174 ?_
  refine kz_b2i hx hb (fx_rng _ _) dL_law_3175 dL_law_3178 dL_law_3179 dL_law_3182 ?_
  refine lv_aload_n hx hb dL_law_3183 rfl (lv_at hl 1 rfl) ?_
  refine kc2 (vx_runSW (As := [.ref (q 0), .int (iZ (fx xs (i + 1))), .int (iZ (fx xs (i + 2))), .int (iZ (fx xs (i + 3))), .int (iZ (bZ (!decide (fx xs (i + 4) = 0)))), .ref o]) (rest := []) ⟨hx, hb, hml, hown, hts⟩ (c_L_leafTo l hst dC dI dA k q σ _ hG hOK hq o sn sv hO hko ho9 ((fx xs (i + 1))) ((fx xs (i + 2))) ((fx xs (i + 3))) (!decide (fx xs (i + 4) = 0)) (fx_rng _ _) (fx_rng _ _) (fx_rng _ _)) (vx_cwSW 6 hts (kg_S mw907 mw908 mw41 rfl mw909) rfl rfl rfl hdS_L_leafTo ⟨Nat.le_of_ble_eq_true rfl, Nat.le_of_ble_eq_true rfl⟩) ⟨fun a U g mk q => ⟨q.1, q.2.1, kMJ_call q.2.2.1, kL_call q.2.2.2⟩, fun U hU hW => ⟨rfl, hU, kMJ_kept hMJ hS hN hU hW, kL_warm hL hW⟩⟩ rfl rfl hl.1 rfl (lv_room (Nat.le_of_ble_eq_true rfl)) dL_law_3184 ⟨kroomC (by omega), kroomS (by omega)⟩) hS (fun a _ h => kAO_N hq hko hkH a h) (fun a h => kAO_N hq hko hkH a h) (fun H1 locs hC hy9 hk9 hS => ?_)
  obtain ⟨hG1, hO1⟩ := hC
  have hY1 := kY_keptO hY hk9 h1 h2
  have hG1 := gX_cast hG1 (kif_same _)
  have h8 : kOK8 σ σ := ⟨hOK, rfl⟩
  have hkH1 : k 0 ≤ H1.size := Nat.le_trans hkH hy9
  clear hk9
  refine lv_istore (lv' := [(5, .int (iZ (ex2 (!inb (fx xs (i + 1)) 0 3 || !inb (fx xs (i + 2)) 0 3) (!inb (fx xs (i + 3)) 0 4)))), (4, .int (iZ i)), (3, .ref o), (2, .ref m0), (1, .ref (q 0)), (0, .ref b)]) hx hb dL_law_3187 hl (by decide) rfl (fun ls hl => ?_)
  refine lv_aload_n hx hb dL_law_3189 rfl (lv_at hl 3 rfl) ?_
  refine lv_aload_n hx hb dL_law_3190 rfl (lv_at hl 5 rfl) ?_
  refine lv_iload hx hb dL_law_3191 (lv_at hl 1 rfl) ?_
  refine lv_iconst (v := iZ 1) hx hb dL_law_3193 rfl ?_
  refine kz_iadd hx hb dL_law_3194 ?_
  refine kz_sld hx hb hX hbl hbA hS (by omega) hL5 dL_law_3195 ?_
  refine lv_aload_n hx hb dL_law_3196 rfl (lv_at hl 5 rfl) ?_
  refine lv_iload hx hb dL_law_3197 (lv_at hl 1 rfl) ?_
  refine lv_iconst (v := iZ 2) hx hb dL_law_3199 rfl ?_
  refine kz_iadd hx hb dL_law_3200 ?_
  refine kz_sld hx hb hX hbl hbA hS (by omega) hL5 dL_law_3201 ?_
  refine lv_aload_n hx hb dL_law_3202 rfl (lv_at hl 5 rfl) ?_
  refine lv_iload hx hb dL_law_3203 (lv_at hl 1 rfl) ?_
  refine lv_iconst (v := iZ 3) hx hb dL_law_3205 rfl ?_
  refine kz_iadd hx hb dL_law_3206 ?_
  refine kz_sld hx hb hX hbl hbA hS (by omega) hL5 dL_law_3207 ?_
  refine lv_aload_n hx hb dL_law_3208 rfl (lv_at hl 5 rfl) ?_
  refine lv_iload hx hb dL_law_3209 (lv_at hl 1 rfl) ?_
  refine lv_iconst (v := iZ 4) hx hb dL_law_3211 rfl ?_
  refine kz_iadd hx hb dL_law_3212 ?_
  refine kz_sld hx hb hX hbl hbA hS (by omega) hL5 dL_law_3213 ?_
  refine kz_b2i hx hb (fx_rng _ _) dL_law_3214 dL_law_3217 dL_law_3218 dL_law_3221 ?_
  refine kc2r (va_runV (As := [.int (iZ (fx xs (i + 1))), .int (iZ (fx xs (i + 2))), .int (iZ (fx xs (i + 3))), .int (iZ (bZ (!decide (fx xs (i + 4) = 0))))]) (rest := []) ⟨hx, hb, hml, hown, hts⟩ (c_X3_leafTo l dC dI dA k m0 r σ th _ hY1 hr hOK ((fx xs (i + 1))) ((fx xs (i + 2))) ((fx xs (i + 3))) (!decide (fx xs (i + 4) = 0)) (fx_rng _ _) (fx_rng _ _) (fx_rng _ _)) (cwV 4 hts (kg_V mw1314 mw1315 mw1316 mw47 rfl mw1317) rfl rfl rfl hdV_X3_leafTo ⟨Nat.le_of_ble_eq_true rfl, Nat.le_of_ble_eq_true rfl⟩) ⟨fun a U g mk q => ⟨q.1, q.2.1, kMJ_call q.2.2⟩, va_recv hM.1 hY1 (ci := 6) (q0 := 0) rfl rfl, fun U hU hW => ⟨rfl, hU, kMJ_kept hMJ hS hN hU hW⟩⟩ rfl rfl hl.1 rfl (lv_room (Nat.le_of_ble_eq_true rfl)) dL_law_3222 ⟨kroomC (by omega), kroomS (by omega)⟩) hS (fun a _ h => kAy_N hr hkH1 a h) (fun a h => kAy_N hr hkH1 a h) (fun x9 H2 locs hC2 hy8 hk8 hS => ?_)
  obtain ⟨hC2, hT2⟩ := hC2
  have hC2 := gY_id (sz := H1.size) hr hC2
  obtain ⟨r2, hI2, -⟩ := LI_step hI hG1 (gOS_O hO1) hC2 hk8 h8
  have hO2 := gOS_step hI hO1 hk8
  refine lv_astore (lv' := [(6, .ref x9), (5, .int (iZ (ex2 (!inb (fx xs (i + 1)) 0 3 || !inb (fx xs (i + 2)) 0 3) (!inb (fx xs (i + 3)) 0 4)))), (4, .int (iZ i)), (3, .ref o), (2, .ref m0), (1, .ref (q 0)), (0, .ref b)]) hx hb dL_law_3225 hl (by decide) rfl (fun ls hl => ?_)
  refine lv_aload_n hx hb dL_law_3227 rfl (lv_at hl 4 rfl) ?_
  obtain ⟨hG2, hOK2, hq2, hY2, hr2, -⟩ := id hI2
  refine kc0 (fun _ q => q) (va_runV (As := []) (rest := []) ⟨hx, hb, hml, hown, hts⟩ (c_X3_thrown l dC dI dA k m0 r2 _ _ _ hY2 hr2 hOK2) (cwV 0 hts (kg_V mw1013 mw1014 mw1015 mw47 rfl mw1016) rfl rfl rfl hdV_X3_thrown ⟨Nat.le_of_ble_eq_true rfl, Nat.le_of_ble_eq_true rfl⟩) ⟨fun a U g mk q => ⟨q.1, q.2.1, kM_call q.2.2⟩, va_recv hM.1 hY2 (ci := 6) (q0 := 0) rfl rfl, fun U hU hW => ⟨rfl, hU, kM_kept hM hS hN hU hW⟩⟩ rfl rfl hl.1 rfl (lv_room (Nat.le_of_ble_eq_true rfl)) dL_law_3228 ⟨kroomC (by omega), kroomS (by omega)⟩) ?_
  refine lv_iload hx hb dL_law_3231 (lv_at hl 1 rfl) ?_
  refine kz_icmp_eq (tgt := 3238) hx hb (ex2_rng _ _) (ex2_rng _ _) dL_law_3233 (by decide) (fun c_1 => ?_) (fun c_1 => absurd rfl c_1)
  refine lv_iload hx hb dL_law_3238 (lv_at hl 1 rfl) ?_
  refine kz_if_ne (tgt := 3257) hx hb (ex2_rng _ _) dL_law_3240 (by decide) (fun c_2 => ?_) (fun c_2 => ?_)
  · refine lv_goto (tgt := 4485) hx hb dL_law_3257 (by decide) ?_
    refine W.widen (k := cs + 600) (n := ss + 4000) (by omega) (by omega) ?_
    exact kk r2 _ _ _ _ _ hI2 hS (by have h9 := h8.2; omega) (lv_sub hl [2, 3, 4, 5, 6] rfl)
  · refine lv_aload_n hx hb dL_law_3243 rfl (lv_at hl 3 rfl) ?_
    obtain ⟨nv, vv, hPn, hT1⟩ := hO2
    obtain ⟨x8, hvv, w8, g8, -, ht8, hT8⟩ := hT1 c_2
    subst hvv
    obtain ⟨w9, g9, hn9, ht9, hT9⟩ := hT2 c_2
    refine va_getN (D := (dC, dI)) (ci := 5) (v := .ref x8) (C := RX2) (T := TX2) (N := 2) hx hb hts (fun w h => List.mem_cons_of_mem _ (gF_1_in h)) hown hM.1 hPn 0 rfl rfl 1 (by decide) (va_Nw.use rfl hL.2.1) (fun _ h9 => h9) rfl dL_law_3244 ?_
    refine lv_aload hx hb dL_law_3247 (lv_at hl 0 rfl) ?_
    refine kc0 (fun _ q => q) (va_runV (As := [.ref x9]) (rest := []) ⟨hx, hb, hml, hown, hts⟩ (c_J0_equals_9ea2dD l dC dI dA k x8 w8 x9 w9 g8 g9 _ _ (hT8.app hT9) (Nat.lt_of_le_of_lt hn9 (by decide)) (fun j hj => kTX_b (ht8 j hj)) (fun j hj => (ht8 j hj).trans (ht9 j hj).symm)) (cwV 1 hts (kg_V mw1435 mw1436 mw1437 mw45 rfl mw1438) rfl rfl rfl hdV_J0_equals_9ea2d ⟨Nat.le_of_ble_eq_true rfl, Nat.le_of_ble_eq_true rfl⟩) ⟨fun a U g mk q => ⟨q.1, q.2.1, kMJ_call q.2.2⟩, va_recv hM.1 hT8 (ci := 0) (q0 := 0) rfl rfl, fun U hU hW => ⟨rfl, hU, kMJ_kept hMJ hS hN hU hW⟩⟩ rfl rfl hl.1 rfl (lv_room (Nat.le_of_ble_eq_true rfl)) dL_law_3249 ⟨kroomC (by omega), kroomS (by omega)⟩) ?_
    refine kz_ifb_ne (tgt := 3257) hx hb  dL_law_3252 (by decide) (fun c_3 => ?_) (fun c_3 => absurd c_3 (by decide))
    refine lv_goto (tgt := 4485) hx hb dL_law_3257 (by decide) ?_
    refine W.widen (k := cs + 600) (n := ss + 4000) (by omega) (by omega) ?_
    exact kk r2 _ _ _ _ _ hI2 hS (by have h9 := h8.2; omega) (lv_sub hl [2, 3, 4, 5, 6] rfl)

set_option maxHeartbeats 4000000 in
set_option maxRecDepth 100000 in
theorem lc_36 {p : Program} {l : Launch} {e : Env} {s : State} {m : MethodId} {below : List Frame} {meth : Method} {c : Code} {Q : State → Prop} {b L : Nat} {xs : Nat → Int32} {dC : Nat → ClassId} {dI : Nat → Nat → Nat} {dA : Nat → ClassId} {k : Nat → Nat} (hst : l.stackTraces = false) (F : kF p s m meth c b L xs dC dI dA k)
    {q : Nat → Nat} {m0 : Nat} {r : Nat → Nat → Nat} {o : Nat} {σ : Nat → Nat → Int} {th : Int} {H : Heap} {locs : List Loc} {cs ss : Nat} {i : Int} {ls : Array Slot} (hI : LI dC dI dA k q m0 r o σ th H) (hS : va_S (kN0 k) s.heap H locs) (hi : 0 ≤ i ∧ i + 5 ≤ (L : Int)) (hcs : cs + 600 ≤ 707594) (hss : ss + 4000 ≤ 6979453) (h80 : 0 ≤ σ 8 0 ∧ σ 8 0 ≤ 100000) (hl : lv_has ls 7 [(4, .int (iZ i)), (3, .ref o), (2, .ref m0), (1, .ref (q 0)), (0, .ref b)])
    (kk : ∀ (r' : Nat → Nat → Nat) (σ' : Nat → Nat → Int) (th' : Int) (H' : Heap) (locs' : List Loc) (ls' : Array Slot), LI dC dI dA k q m0 r' o σ' th' H' → va_S (kN0 k) s.heap H' locs' → σ 8 0 ≤ σ' 8 0 ∧ σ' 8 0 ≤ σ 8 0 + 1 → lv_has ls' 7 [(4, .int (iZ i)), (3, .ref o), (2, .ref m0), (1, .ref (q 0)), (0, .ref b)] → W p l e room_1 s m #[Value.ref b] below meth c H' locs' (cs + 600) (ss + 4000) Q (F0 m 4485 ls' [])) :
    W p l e room_1 s m #[Value.ref b] below meth c H locs cs ss Q (F0 m 43 ls [.int (iZ 36)]) := by
  obtain ⟨hx, hb, hr9, hml, hown, hts, hX, hbl, hL5, hMJ, hL, hk0, hlocks⟩ := F
  obtain ⟨hG, hOK, hq, hY, hr, hO0, hko, ho9, h1, h2⟩ := id hI
  obtain ⟨sn, sv, -, hO⟩ := id hO0
  have hM := hMJ.1
  have hbA : ¬ kN0 k b := fun z => absurd (show k 0 ≤ b from z) (by omega)
  have hN : ∀ a, kN0 k a → k 0 ≤ a := fun _ h => h
  have hkH : k 0 ≤ H.size := by have := hS.1; omega
  refine lv_tableIn (tgt := 3260) (off := 3217) hx hb dL_law_43 (by rw [iZ_toInt (z := 36) (by omega)]; omega) (by rw [iZ_toInt (z := 36) (by omega)]; omega) (by rw [iZ_toInt (z := 36) (by omega)]; rfl) (by decide) ?_
  refine lv_aload_n hx hb dL_law_3260 rfl (lv_at hl 3 rfl) ?_
  refine lv_aload_n hx hb dL_law_3261 rfl (lv_at hl 4 rfl) ?_
  refine lv_iload hx hb dL_law_3262 (lv_at hl 0 rfl) ?_
  refine lv_iconst (v := iZ 1) hx hb dL_law_3264 rfl ?_
  refine kz_iadd hx hb dL_law_3265 ?_
  refine kz_sld hx hb hX hbl hbA hS (by omega) hL5 dL_law_3266 ?_
  refine lv_aload_n hx hb dL_law_3267 rfl (lv_at hl 4 rfl) ?_
  refine lv_iload hx hb dL_law_3268 (lv_at hl 0 rfl) ?_
  refine lv_iconst (v := iZ 2) hx hb dL_law_3270 rfl ?_
  refine kz_iadd hx hb dL_law_3271 ?_
  refine kz_sld hx hb hX hbl hbA hS (by omega) hL5 dL_law_3272 ?_
  refine lv_aload_n hx hb dL_law_3273 rfl (lv_at hl 1 rfl) ?_
  refine kc2 (vx_runSW (As := [.ref (q 0), .int (iZ (fx xs (i + 1))), .int (iZ (fx xs (i + 2))), .ref o]) (rest := []) ⟨hx, hb, hml, hown, hts⟩ (c_L_ofYear l hst dC dI dA k q σ _ hG hOK hq o sn sv hO hko ho9 ((fx xs (i + 1))) ((fx xs (i + 2))) (fx_rng _ _) (fx_rng _ _)) (vx_cwSW 4 hts (kg_S mw914 mw915 mw41 rfl mw916) rfl rfl rfl hdS_L_ofYear ⟨Nat.le_of_ble_eq_true rfl, Nat.le_of_ble_eq_true rfl⟩) ⟨fun a U g mk q => ⟨q.1, q.2.1, kMJ_call q.2.2.1, kL_call q.2.2.2⟩, fun U hU hW => ⟨rfl, hU, kMJ_kept hMJ hS hN hU hW, kL_warm hL hW⟩⟩ rfl rfl hl.1 rfl (lv_room (Nat.le_of_ble_eq_true rfl)) dL_law_3274 ⟨kroomC (by omega), kroomS (by omega)⟩) hS (fun a _ h => kAO_N hq hko hkH a h) (fun a h => kAO_N hq hko hkH a h) (fun H1 locs hC hy9 hk9 hS => ?_)
  obtain ⟨hG1, hO1⟩ := hC
  have hY1 := kY_keptO hY hk9 h1 h2
  have hG1 := gX_cast hG1 (kif_same _)
  have h8 : kOK8 σ σ := ⟨hOK, rfl⟩
  have hkH1 : k 0 ≤ H1.size := Nat.le_trans hkH hy9
  clear hk9
  refine lv_istore (lv' := [(5, .int (iZ (ex2 (!inb (fx xs (i + 1)) 0 3) (!inb (fx xs (i + 2)) 0 4)))), (4, .int (iZ i)), (3, .ref o), (2, .ref m0), (1, .ref (q 0)), (0, .ref b)]) hx hb dL_law_3277 hl (by decide) rfl (fun ls hl => ?_)
  refine lv_aload_n hx hb dL_law_3279 rfl (lv_at hl 3 rfl) ?_
  refine lv_aload_n hx hb dL_law_3280 rfl (lv_at hl 5 rfl) ?_
  refine lv_iload hx hb dL_law_3281 (lv_at hl 1 rfl) ?_
  refine lv_iconst (v := iZ 1) hx hb dL_law_3283 rfl ?_
  refine kz_iadd hx hb dL_law_3284 ?_
  refine kz_sld hx hb hX hbl hbA hS (by omega) hL5 dL_law_3285 ?_
  refine lv_aload_n hx hb dL_law_3286 rfl (lv_at hl 5 rfl) ?_
  refine lv_iload hx hb dL_law_3287 (lv_at hl 1 rfl) ?_
  refine lv_iconst (v := iZ 2) hx hb dL_law_3289 rfl ?_
  refine kz_iadd hx hb dL_law_3290 ?_
  refine kz_sld hx hb hX hbl hbA hS (by omega) hL5 dL_law_3291 ?_
  refine kc2 (va_runV (As := [.int (iZ (fx xs (i + 1))), .int (iZ (fx xs (i + 2)))]) (rest := []) ⟨hx, hb, hml, hown, hts⟩ (c_X3_ofYear l dC dI dA k m0 r σ th _ hY1 hr hOK ((fx xs (i + 1))) ((fx xs (i + 2))) (fx_rng _ _) (fx_rng _ _)) (cwV 2 hts (kg_V mw1321 mw1322 mw1323 mw47 rfl mw1324) rfl rfl rfl hdV_X3_ofYear ⟨Nat.le_of_ble_eq_true rfl, Nat.le_of_ble_eq_true rfl⟩) ⟨fun a U g mk q => ⟨q.1, q.2.1, kM_call q.2.2⟩, va_recv hM.1 hY1 (ci := 6) (q0 := 0) rfl rfl, fun U hU hW => ⟨rfl, hU, kM_kept hM hS hN hU hW⟩⟩ rfl rfl hl.1 rfl (lv_room (Nat.le_of_ble_eq_true rfl)) dL_law_3292 ⟨kroomC (by omega), kroomS (by omega)⟩) hS (fun a _ h => kAy_N hr hkH1 a h) (fun a h => kAy_N hr hkH1 a h) (fun H2 locs hC2 hy8 hk8 hS => ?_)
  obtain ⟨r2, hI2, hO2⟩ := LI_step hI hG1 hO1 hC2 hk8 h8
  refine lv_istore (lv' := [(6, .int (iZ (if ex2 (!inb (fx xs (i + 1)) 0 3) (!inb (fx xs (i + 2)) 0 4) = 0 then (ofY σ ((fx xs (i + 1)).toNat) (fx xs (i + 2))) else 0))), (5, .int (iZ (ex2 (!inb (fx xs (i + 1)) 0 3) (!inb (fx xs (i + 2)) 0 4)))), (4, .int (iZ i)), (3, .ref o), (2, .ref m0), (1, .ref (q 0)), (0, .ref b)]) hx hb dL_law_3295 hl (by decide) rfl (fun ls hl => ?_)
  refine lv_aload_n hx hb dL_law_3297 rfl (lv_at hl 4 rfl) ?_
  obtain ⟨hG2, hOK2, hq2, hY2, hr2, -⟩ := id hI2
  refine kc0 (fun _ q => q) (va_runV (As := []) (rest := []) ⟨hx, hb, hml, hown, hts⟩ (c_X3_thrown l dC dI dA k m0 r2 _ _ _ hY2 hr2 hOK2) (cwV 0 hts (kg_V mw1013 mw1014 mw1015 mw47 rfl mw1016) rfl rfl rfl hdV_X3_thrown ⟨Nat.le_of_ble_eq_true rfl, Nat.le_of_ble_eq_true rfl⟩) ⟨fun a U g mk q => ⟨q.1, q.2.1, kM_call q.2.2⟩, va_recv hM.1 hY2 (ci := 6) (q0 := 0) rfl rfl, fun U hU hW => ⟨rfl, hU, kM_kept hM hS hN hU hW⟩⟩ rfl rfl hl.1 rfl (lv_room (Nat.le_of_ble_eq_true rfl)) dL_law_3298 ⟨kroomC (by omega), kroomS (by omega)⟩) ?_
  refine lv_iload hx hb dL_law_3301 (lv_at hl 1 rfl) ?_
  refine kz_icmp_eq (tgt := 3308) hx hb (ex2_rng _ _) (ex2_rng _ _) dL_law_3303 (by decide) (fun c_1 => ?_) (fun c_1 => absurd rfl c_1)
  refine lv_iload hx hb dL_law_3308 (lv_at hl 1 rfl) ?_
  refine kz_if_ne (tgt := 3326) hx hb (ex2_rng _ _) dL_law_3310 (by decide) (fun c_2 => ?_) (fun c_2 => ?_)
  · refine lv_goto (tgt := 4485) hx hb dL_law_3326 (by decide) ?_
    refine W.widen (k := cs + 600) (n := ss + 4000) (by omega) (by omega) ?_
    exact kk r2 _ _ _ _ _ hI2 hS (by have h9 := h8.2; omega) (lv_sub hl [2, 3, 4, 5, 6] rfl)
  · refine lv_aload_n hx hb dL_law_3313 rfl (lv_at hl 3 rfl) ?_
    obtain ⟨nv, vv, hn, hPn⟩ := hO2
    have hn := hn c_2
    subst hn
    refine va_getN (D := (dC, dI)) (ci := 5) (v := .long (lZ (w32 (ofY σ ((fx xs (i + 1)).toNat) (fx xs (i + 2)))))) (C := RX2) (T := TX2) (N := 2) hx hb hts (fun w h => List.mem_cons_of_mem _ (gF_1_in h)) hown hM.1 hPn 0 rfl rfl 0 (by decide) (va_Nw.use rfl hL.1) (fun _ h9 => h9) rfl dL_law_3314 ?_
    refine lv_iload hx hb dL_law_3317 (lv_at hl 0 rfl) ?_
    refine kz_w32 ?_
    refine kz_i2l hx hb (w32_rng _) dL_law_3319 ?_
    refine kz_lcmp_eq (tgt := 3326) hx hb (by first | exact w32_lrng _ | exact bZ_lrng _) (by first | exact w32_lrng _ | exact bZ_lrng _) dL_law_3320 dL_law_3321 (by decide) (fun c_3 => ?_) (fun c_3 => absurd (by first | rw [if_pos c_2] | exact congrArg bZ (by rw [decide_eq_true c_2, Bool.true_and]) | (rw [decide_eq_true c_2]; rfl) | (simp [c_2]; done)) c_3)
    refine lv_goto (tgt := 4485) hx hb dL_law_3326 (by decide) ?_
    refine W.widen (k := cs + 600) (n := ss + 4000) (by omega) (by omega) ?_
    exact kk r2 _ _ _ _ _ hI2 hS (by have h9 := h8.2; omega) (lv_sub hl [2, 3, 4, 5, 6] rfl)

set_option maxHeartbeats 4000000 in
set_option maxRecDepth 100000 in
theorem lc_37 {p : Program} {l : Launch} {e : Env} {s : State} {m : MethodId} {below : List Frame} {meth : Method} {c : Code} {Q : State → Prop} {b L : Nat} {xs : Nat → Int32} {dC : Nat → ClassId} {dI : Nat → Nat → Nat} {dA : Nat → ClassId} {k : Nat → Nat} (hst : l.stackTraces = false) (F : kF p s m meth c b L xs dC dI dA k)
    {q : Nat → Nat} {m0 : Nat} {r : Nat → Nat → Nat} {o : Nat} {σ : Nat → Nat → Int} {th : Int} {H : Heap} {locs : List Loc} {cs ss : Nat} {i : Int} {ls : Array Slot} (hI : LI dC dI dA k q m0 r o σ th H) (hS : va_S (kN0 k) s.heap H locs) (hi : 0 ≤ i ∧ i + 5 ≤ (L : Int)) (hcs : cs + 600 ≤ 707594) (hss : ss + 4000 ≤ 6979453) (h80 : 0 ≤ σ 8 0 ∧ σ 8 0 ≤ 100000) (hl : lv_has ls 7 [(4, .int (iZ i)), (3, .ref o), (2, .ref m0), (1, .ref (q 0)), (0, .ref b)])
    (kk : ∀ (r' : Nat → Nat → Nat) (σ' : Nat → Nat → Int) (th' : Int) (H' : Heap) (locs' : List Loc) (ls' : Array Slot), LI dC dI dA k q m0 r' o σ' th' H' → va_S (kN0 k) s.heap H' locs' → σ 8 0 ≤ σ' 8 0 ∧ σ' 8 0 ≤ σ 8 0 + 1 → lv_has ls' 7 [(4, .int (iZ i)), (3, .ref o), (2, .ref m0), (1, .ref (q 0)), (0, .ref b)] → W p l e room_1 s m #[Value.ref b] below meth c H' locs' (cs + 600) (ss + 4000) Q (F0 m 4485 ls' [])) :
    W p l e room_1 s m #[Value.ref b] below meth c H locs cs ss Q (F0 m 43 ls [.int (iZ 37)]) := by
  obtain ⟨hx, hb, hr9, hml, hown, hts, hX, hbl, hL5, hMJ, hL, hk0, hlocks⟩ := F
  obtain ⟨hG, hOK, hq, hY, hr, hO0, hko, ho9, h1, h2⟩ := id hI
  obtain ⟨sn, sv, -, hO⟩ := id hO0
  have hM := hMJ.1
  have hbA : ¬ kN0 k b := fun z => absurd (show k 0 ≤ b from z) (by omega)
  have hN : ∀ a, kN0 k a → k 0 ≤ a := fun _ h => h
  have hkH : k 0 ≤ H.size := by have := hS.1; omega
  refine lv_tableIn (tgt := 3329) (off := 3286) hx hb dL_law_43 (by rw [iZ_toInt (z := 37) (by omega)]; omega) (by rw [iZ_toInt (z := 37) (by omega)]; omega) (by rw [iZ_toInt (z := 37) (by omega)]; rfl) (by decide) ?_
  refine lv_aload_n hx hb dL_law_3329 rfl (lv_at hl 3 rfl) ?_
  refine lv_aload_n hx hb dL_law_3330 rfl (lv_at hl 4 rfl) ?_
  refine lv_iload hx hb dL_law_3331 (lv_at hl 0 rfl) ?_
  refine lv_iconst (v := iZ 1) hx hb dL_law_3333 rfl ?_
  refine kz_iadd hx hb dL_law_3334 ?_
  refine kz_sld hx hb hX hbl hbA hS (by omega) hL5 dL_law_3335 ?_
  refine lv_aload_n hx hb dL_law_3336 rfl (lv_at hl 4 rfl) ?_
  refine lv_iload hx hb dL_law_3337 (lv_at hl 0 rfl) ?_
  refine lv_iconst (v := iZ 2) hx hb dL_law_3339 rfl ?_
  refine kz_iadd hx hb dL_law_3340 ?_
  refine kz_sld hx hb hX hbl hbA hS (by omega) hL5 dL_law_3341 ?_
  obtain ⟨tb, tn, tm, htn, hfit, htm, hPx⟩ := id hG
  refine kc0 (fun _ q => q) (va_runV (As := [.int (iZ (fx xs (i + 1))), .int (iZ (fx xs (i + 2)))]) (rest := []) ⟨hx, hb, hml, hown, hts⟩ (c_X1_isLeap l dC dI dA k q σ _ hG hOK ((fx xs (i + 1))) ((fx xs (i + 2))) (fx_rng _ _) (fx_rng _ _)) (cwV 2 hts (kg_V mw105 mw106 mw107 mw42 rfl mw108) rfl rfl rfl hdV_X1_isLeap ⟨Nat.le_of_ble_eq_true rfl, Nat.le_of_ble_eq_true rfl⟩) ⟨fun a U g mk q => ⟨q.1, q.2.1, kM_call q.2.2⟩, va_recv hM.1 hPx (ci := 4) (q0 := 0) rfl rfl, fun U hU hW => ⟨rfl, hU, kM_kept hM hS hN hU hW⟩⟩ rfl rfl hl.1 rfl (lv_room (Nat.le_of_ble_eq_true rfl)) dL_law_3342 ⟨kroomC (by omega), kroomS (by omega)⟩) ?_
  have hG1 := hG
  have hO1 := hO0
  have hY1 := hY
  have h8 : kOK8 σ σ := ⟨hOK, rfl⟩
  have hkH1 := hkH
  refine lv_aload_n hx hb dL_law_3345 rfl (lv_at hl 2 rfl) ?_
  refine lv_aload_n hx hb dL_law_3346 rfl (lv_at hl 4 rfl) ?_
  refine lv_iload hx hb dL_law_3347 (lv_at hl 0 rfl) ?_
  refine lv_iconst (v := iZ 1) hx hb dL_law_3349 rfl ?_
  refine kz_iadd hx hb dL_law_3350 ?_
  refine kz_sld hx hb hX hbl hbA hS (by omega) hL5 dL_law_3351 ?_
  refine lv_aload_n hx hb dL_law_3352 rfl (lv_at hl 4 rfl) ?_
  refine lv_iload hx hb dL_law_3353 (lv_at hl 0 rfl) ?_
  refine lv_iconst (v := iZ 2) hx hb dL_law_3355 rfl ?_
  refine kz_iadd hx hb dL_law_3356 ?_
  refine kz_sld hx hb hX hbl hbA hS (by omega) hL5 dL_law_3357 ?_
  refine kc2 (va_runV (As := [.int (iZ (fx xs (i + 1))), .int (iZ (fx xs (i + 2)))]) (rest := [.int (iZ (bZ (leap ((fx xs (i + 1)) * (fx xs (i + 2))))))]) ⟨hx, hb, hml, hown, hts⟩ (c_X3_isLeap l dC dI dA k m0 r σ th _ hY1 hr hOK ((fx xs (i + 1))) ((fx xs (i + 2))) (fx_rng _ _) (fx_rng _ _)) (cwV 2 hts (kg_V mw1328 mw1329 mw1330 mw47 rfl mw1331) rfl rfl rfl hdV_X3_isLeap ⟨Nat.le_of_ble_eq_true rfl, Nat.le_of_ble_eq_true rfl⟩) ⟨fun a U g mk q => ⟨q.1, q.2.1, kM_call q.2.2⟩, va_recv hM.1 hY1 (ci := 6) (q0 := 0) rfl rfl, fun U hU hW => ⟨rfl, hU, kM_kept hM hS hN hU hW⟩⟩ rfl rfl hl.1 rfl (lv_room (Nat.le_of_ble_eq_true rfl)) dL_law_3358 ⟨kroomC (by omega), kroomS (by omega)⟩) hS (fun a _ h => kAy_N hr hkH1 a h) (fun a h => kAy_N hr hkH1 a h) (fun H2 locs hC2 hy8 hk8 hS => ?_)
  obtain ⟨r2, hI2, hO2⟩ := LI_step hI hG1 hO1 hC2 hk8 h8
  refine kz_icmp_same (tgt := 4485) hx hb (show (bZ (leap ((fx xs (i + 1)) * (fx xs (i + 2))))) = (bZ (decide (ex2 (false) (false) = 0) && (leap ((fx xs (i + 1)) * (fx xs (i + 2)))))) from rfl) dL_law_3361 (by decide) ?_
  refine W.widen (k := cs + 600) (n := ss + 4000) (by omega) (by omega) ?_
  exact kk r2 _ _ _ _ _ hI2 hS (by have h9 := h8.2; omega) (lv_sub hl [0, 1, 2, 3, 4] rfl)

set_option maxHeartbeats 4000000 in
set_option maxRecDepth 100000 in
theorem lc_38 {p : Program} {l : Launch} {e : Env} {s : State} {m : MethodId} {below : List Frame} {meth : Method} {c : Code} {Q : State → Prop} {b L : Nat} {xs : Nat → Int32} {dC : Nat → ClassId} {dI : Nat → Nat → Nat} {dA : Nat → ClassId} {k : Nat → Nat} (hst : l.stackTraces = false) (F : kF p s m meth c b L xs dC dI dA k)
    {q : Nat → Nat} {m0 : Nat} {r : Nat → Nat → Nat} {o : Nat} {σ : Nat → Nat → Int} {th : Int} {H : Heap} {locs : List Loc} {cs ss : Nat} {i : Int} {ls : Array Slot} (hI : LI dC dI dA k q m0 r o σ th H) (hS : va_S (kN0 k) s.heap H locs) (hi : 0 ≤ i ∧ i + 5 ≤ (L : Int)) (hcs : cs + 600 ≤ 707594) (hss : ss + 4000 ≤ 6979453) (h80 : 0 ≤ σ 8 0 ∧ σ 8 0 ≤ 100000) (hl : lv_has ls 7 [(4, .int (iZ i)), (3, .ref o), (2, .ref m0), (1, .ref (q 0)), (0, .ref b)])
    (kk : ∀ (r' : Nat → Nat → Nat) (σ' : Nat → Nat → Int) (th' : Int) (H' : Heap) (locs' : List Loc) (ls' : Array Slot), LI dC dI dA k q m0 r' o σ' th' H' → va_S (kN0 k) s.heap H' locs' → σ 8 0 ≤ σ' 8 0 ∧ σ' 8 0 ≤ σ 8 0 + 1 → lv_has ls' 7 [(4, .int (iZ i)), (3, .ref o), (2, .ref m0), (1, .ref (q 0)), (0, .ref b)] → W p l e room_1 s m #[Value.ref b] below meth c H' locs' (cs + 600) (ss + 4000) Q (F0 m 4485 ls' [])) :
    W p l e room_1 s m #[Value.ref b] below meth c H locs cs ss Q (F0 m 43 ls [.int (iZ 38)]) := by
  obtain ⟨hx, hb, hr9, hml, hown, hts, hX, hbl, hL5, hMJ, hL, hk0, hlocks⟩ := F
  obtain ⟨hG, hOK, hq, hY, hr, hO0, hko, ho9, h1, h2⟩ := id hI
  obtain ⟨sn, sv, -, hO⟩ := id hO0
  have hM := hMJ.1
  have hbA : ¬ kN0 k b := fun z => absurd (show k 0 ≤ b from z) (by omega)
  have hN : ∀ a, kN0 k a → k 0 ≤ a := fun _ h => h
  have hkH : k 0 ≤ H.size := by have := hS.1; omega
  refine lv_tableIn (tgt := 3366) (off := 3323) hx hb dL_law_43 (by rw [iZ_toInt (z := 38) (by omega)]; omega) (by rw [iZ_toInt (z := 38) (by omega)]; omega) (by rw [iZ_toInt (z := 38) (by omega)]; rfl) (by decide) ?_
  refine lv_aload_n hx hb dL_law_3366 rfl (lv_at hl 3 rfl) ?_
  refine lv_aload_n hx hb dL_law_3367 rfl (lv_at hl 4 rfl) ?_
  refine lv_iload hx hb dL_law_3368 (lv_at hl 0 rfl) ?_
  refine lv_iconst (v := iZ 1) hx hb dL_law_3370 rfl ?_
  refine kz_iadd hx hb dL_law_3371 ?_
  refine kz_sld hx hb hX hbl hbA hS (by omega) hL5 dL_law_3372 ?_
  refine lv_aload_n hx hb dL_law_3373 rfl (lv_at hl 4 rfl) ?_
  refine lv_iload hx hb dL_law_3374 (lv_at hl 0 rfl) ?_
  refine lv_iconst (v := iZ 2) hx hb dL_law_3376 rfl ?_
  refine kz_iadd hx hb dL_law_3377 ?_
  refine kz_sld hx hb hX hbl hbA hS (by omega) hL5 dL_law_3378 ?_
  refine lv_aload_n hx hb dL_law_3379 rfl (lv_at hl 4 rfl) ?_
  refine lv_iload hx hb dL_law_3380 (lv_at hl 0 rfl) ?_
  refine lv_iconst (v := iZ 3) hx hb dL_law_3382 rfl ?_
  refine kz_iadd hx hb dL_law_3383 ?_
  refine kz_sld hx hb hX hbl hbA hS (by omega) hL5 dL_law_3384 ?_
  refine kz_b2i hx hb (fx_rng _ _) dL_law_3385 dL_law_3388 dL_law_3389 dL_law_3392 ?_
  refine lv_aload_n hx hb dL_law_3393 rfl (lv_at hl 1 rfl) ?_
  refine kc2 (vx_runSW (As := [.ref (q 0), .int (iZ (fx xs (i + 1))), .int (iZ (fx xs (i + 2))), .int (iZ (bZ (!decide (fx xs (i + 3) = 0)))), .ref o]) (rest := []) ⟨hx, hb, hml, hown, hts⟩ (c_L_hasFeast l hst dC dI dA k q σ _ hG hOK hq o sn sv hO hko ho9 ((fx xs (i + 1))) ((fx xs (i + 2))) (!decide (fx xs (i + 3) = 0)) (fx_rng _ _) (fx_rng _ _)) (vx_cwSW 5 hts (kg_S mw918 mw919 mw41 rfl mw920) rfl rfl rfl hdS_L_hasFeast ⟨Nat.le_of_ble_eq_true rfl, Nat.le_of_ble_eq_true rfl⟩) ⟨fun a U g mk q => ⟨q.1, q.2.1, kMJ_call q.2.2.1, kL_call q.2.2.2⟩, fun U hU hW => ⟨rfl, hU, kMJ_kept hMJ hS hN hU hW, kL_warm hL hW⟩⟩ rfl rfl hl.1 rfl (lv_room (Nat.le_of_ble_eq_true rfl)) dL_law_3394 ⟨kroomC (by omega), kroomS (by omega)⟩) hS (fun a _ h => kAO_N hq hko hkH a h) (fun a h => kAO_N hq hko hkH a h) (fun H1 locs hC hy9 hk9 hS => ?_)
  obtain ⟨hG1, hO1⟩ := hC
  have hY1 := kY_keptO hY hk9 h1 h2
  have hG1 := gX_cast hG1 (kif_same _)
  have h8 : kOK8 σ σ := ⟨hOK, rfl⟩
  have hkH1 : k 0 ≤ H1.size := Nat.le_trans hkH hy9
  clear hk9
  refine lv_istore (lv' := [(5, .int (iZ (ex2 (!inb (fx xs (i + 1)) 0 3 || !inb (fx xs (i + 2)) 0 3) (false)))), (4, .int (iZ i)), (3, .ref o), (2, .ref m0), (1, .ref (q 0)), (0, .ref b)]) hx hb dL_law_3397 hl (by decide) rfl (fun ls hl => ?_)
  refine lv_aload_n hx hb dL_law_3399 rfl (lv_at hl 3 rfl) ?_
  refine lv_aload_n hx hb dL_law_3400 rfl (lv_at hl 5 rfl) ?_
  refine lv_iload hx hb dL_law_3401 (lv_at hl 1 rfl) ?_
  refine lv_iconst (v := iZ 1) hx hb dL_law_3403 rfl ?_
  refine kz_iadd hx hb dL_law_3404 ?_
  refine kz_sld hx hb hX hbl hbA hS (by omega) hL5 dL_law_3405 ?_
  refine lv_aload_n hx hb dL_law_3406 rfl (lv_at hl 5 rfl) ?_
  refine lv_iload hx hb dL_law_3407 (lv_at hl 1 rfl) ?_
  refine lv_iconst (v := iZ 2) hx hb dL_law_3409 rfl ?_
  refine kz_iadd hx hb dL_law_3410 ?_
  refine kz_sld hx hb hX hbl hbA hS (by omega) hL5 dL_law_3411 ?_
  refine lv_aload_n hx hb dL_law_3412 rfl (lv_at hl 5 rfl) ?_
  refine lv_iload hx hb dL_law_3413 (lv_at hl 1 rfl) ?_
  refine lv_iconst (v := iZ 3) hx hb dL_law_3415 rfl ?_
  refine kz_iadd hx hb dL_law_3416 ?_
  refine kz_sld hx hb hX hbl hbA hS (by omega) hL5 dL_law_3417 ?_
  refine kz_b2i hx hb (fx_rng _ _) dL_law_3418 dL_law_3421 dL_law_3422 dL_law_3425 ?_
  refine kc2 (va_runV (As := [.int (iZ (fx xs (i + 1))), .int (iZ (fx xs (i + 2))), .int (iZ (bZ (!decide (fx xs (i + 3) = 0))))]) (rest := []) ⟨hx, hb, hml, hown, hts⟩ (c_X3_hasFeast l dC dI dA k m0 r σ th _ hY1 hr hOK ((fx xs (i + 1))) ((fx xs (i + 2))) (!decide (fx xs (i + 3) = 0)) (fx_rng _ _) (fx_rng _ _)) (cwV 3 hts (kg_V mw1332 mw1333 mw1334 mw47 rfl mw1335) rfl rfl rfl hdV_X3_hasFeast ⟨Nat.le_of_ble_eq_true rfl, Nat.le_of_ble_eq_true rfl⟩) ⟨fun a U g mk q => ⟨q.1, q.2.1, kM_call q.2.2⟩, va_recv hM.1 hY1 (ci := 6) (q0 := 0) rfl rfl, fun U hU hW => ⟨rfl, hU, kM_kept hM hS hN hU hW⟩⟩ rfl rfl hl.1 rfl (lv_room (Nat.le_of_ble_eq_true rfl)) dL_law_3426 ⟨kroomC (by omega), kroomS (by omega)⟩) hS (fun a _ h => kAy_N hr hkH1 a h) (fun a h => kAy_N hr hkH1 a h) (fun H2 locs hC2 hy8 hk8 hS => ?_)
  obtain ⟨r2, hI2, hO2⟩ := LI_step hI hG1 hO1 hC2 hk8 h8
  refine lv_istore (lv' := [(6, .int (iZ (bZ (decide (ex2 (!inb (fx xs (i + 1)) 0 3 || !inb (fx xs (i + 2)) 0 3) (false) = 0) && ((!(!decide (fx xs (i + 3) = 0)) && inYr σ ((fx xs (i + 2)).toNat) (σ 2 ((fx xs (i + 1)).toNat)))))))), (5, .int (iZ (ex2 (!inb (fx xs (i + 1)) 0 3 || !inb (fx xs (i + 2)) 0 3) (false)))), (4, .int (iZ i)), (3, .ref o), (2, .ref m0), (1, .ref (q 0)), (0, .ref b)]) hx hb dL_law_3429 hl (by decide) rfl (fun ls hl => ?_)
  refine lv_aload_n hx hb dL_law_3431 rfl (lv_at hl 4 rfl) ?_
  obtain ⟨hG2, hOK2, hq2, hY2, hr2, -⟩ := id hI2
  refine kc0 (fun _ q => q) (va_runV (As := []) (rest := []) ⟨hx, hb, hml, hown, hts⟩ (c_X3_thrown l dC dI dA k m0 r2 _ _ _ hY2 hr2 hOK2) (cwV 0 hts (kg_V mw1013 mw1014 mw1015 mw47 rfl mw1016) rfl rfl rfl hdV_X3_thrown ⟨Nat.le_of_ble_eq_true rfl, Nat.le_of_ble_eq_true rfl⟩) ⟨fun a U g mk q => ⟨q.1, q.2.1, kM_call q.2.2⟩, va_recv hM.1 hY2 (ci := 6) (q0 := 0) rfl rfl, fun U hU hW => ⟨rfl, hU, kM_kept hM hS hN hU hW⟩⟩ rfl rfl hl.1 rfl (lv_room (Nat.le_of_ble_eq_true rfl)) dL_law_3432 ⟨kroomC (by omega), kroomS (by omega)⟩) ?_
  refine lv_iload hx hb dL_law_3435 (lv_at hl 1 rfl) ?_
  refine kz_icmp_eq (tgt := 3442) hx hb (ex2_rng _ _) (ex2_rng _ _) dL_law_3437 (by decide) (fun c_1 => ?_) (fun c_1 => absurd rfl c_1)
  refine lv_iload hx hb dL_law_3442 (lv_at hl 1 rfl) ?_
  refine kz_if_ne (tgt := 3467) hx hb (ex2_rng _ _) dL_law_3444 (by decide) (fun c_2 => ?_) (fun c_2 => ?_)
  · refine lv_goto (tgt := 4485) hx hb dL_law_3467 (by decide) ?_
    refine W.widen (k := cs + 600) (n := ss + 4000) (by omega) (by omega) ?_
    exact kk r2 _ _ _ _ _ hI2 hS (by have h9 := h8.2; omega) (lv_sub hl [2, 3, 4, 5, 6] rfl)
  · refine lv_aload_n hx hb dL_law_3447 rfl (lv_at hl 3 rfl) ?_
    obtain ⟨nv, vv, hn, hPn⟩ := hO2
    have hn := hn c_2
    subst hn
    refine va_getN (D := (dC, dI)) (ci := 5) (v := .long (lZ (bZ ((!(!decide (fx xs (i + 3) = 0)) && inYr σ ((fx xs (i + 2)).toNat) (σ 2 ((fx xs (i + 1)).toNat))))))) (C := RX2) (T := TX2) (N := 2) hx hb hts (fun w h => List.mem_cons_of_mem _ (gF_1_in h)) hown hM.1 hPn 0 rfl rfl 0 (by decide) (va_Nw.use rfl hL.1) (fun _ h9 => h9) rfl dL_law_3448 ?_
    refine lv_iload hx hb dL_law_3451 (lv_at hl 0 rfl) ?_
    refine kz_b2l hx hb dL_law_3453 dL_law_3456 dL_law_3457 dL_law_3460 ?_
    refine kz_lcmp_eq (tgt := 3467) hx hb (by first | exact w32_lrng _ | exact bZ_lrng _) (by first | exact w32_lrng _ | exact bZ_lrng _) dL_law_3461 dL_law_3462 (by decide) (fun c_3 => ?_) (fun c_3 => absurd (by first | rw [if_pos c_2] | exact congrArg bZ (by rw [decide_eq_true c_2, Bool.true_and]) | (rw [decide_eq_true c_2]; rfl) | (simp [c_2]; done)) c_3)
    refine lv_goto (tgt := 4485) hx hb dL_law_3467 (by decide) ?_
    refine W.widen (k := cs + 600) (n := ss + 4000) (by omega) (by omega) ?_
    exact kk r2 _ _ _ _ _ hI2 hS (by have h9 := h8.2; omega) (lv_sub hl [2, 3, 4, 5, 6] rfl)

set_option maxHeartbeats 4000000 in
set_option maxRecDepth 100000 in
theorem lc_39 {p : Program} {l : Launch} {e : Env} {s : State} {m : MethodId} {below : List Frame} {meth : Method} {c : Code} {Q : State → Prop} {b L : Nat} {xs : Nat → Int32} {dC : Nat → ClassId} {dI : Nat → Nat → Nat} {dA : Nat → ClassId} {k : Nat → Nat} (hst : l.stackTraces = false) (F : kF p s m meth c b L xs dC dI dA k)
    {q : Nat → Nat} {m0 : Nat} {r : Nat → Nat → Nat} {o : Nat} {σ : Nat → Nat → Int} {th : Int} {H : Heap} {locs : List Loc} {cs ss : Nat} {i : Int} {ls : Array Slot} (hI : LI dC dI dA k q m0 r o σ th H) (hS : va_S (kN0 k) s.heap H locs) (hi : 0 ≤ i ∧ i + 5 ≤ (L : Int)) (hcs : cs + 600 ≤ 707594) (hss : ss + 4000 ≤ 6979453) (h80 : 0 ≤ σ 8 0 ∧ σ 8 0 ≤ 100000) (hl : lv_has ls 7 [(4, .int (iZ i)), (3, .ref o), (2, .ref m0), (1, .ref (q 0)), (0, .ref b)])
    (kk : ∀ (r' : Nat → Nat → Nat) (σ' : Nat → Nat → Int) (th' : Int) (H' : Heap) (locs' : List Loc) (ls' : Array Slot), LI dC dI dA k q m0 r' o σ' th' H' → va_S (kN0 k) s.heap H' locs' → σ 8 0 ≤ σ' 8 0 ∧ σ' 8 0 ≤ σ 8 0 + 1 → lv_has ls' 7 [(4, .int (iZ i)), (3, .ref o), (2, .ref m0), (1, .ref (q 0)), (0, .ref b)] → W p l e room_1 s m #[Value.ref b] below meth c H' locs' (cs + 600) (ss + 4000) Q (F0 m 4485 ls' [])) :
    W p l e room_1 s m #[Value.ref b] below meth c H locs cs ss Q (F0 m 43 ls [.int (iZ 39)]) := by
  obtain ⟨hx, hb, hr9, hml, hown, hts, hX, hbl, hL5, hMJ, hL, hk0, hlocks⟩ := F
  obtain ⟨hG, hOK, hq, hY, hr, hO0, hko, ho9, h1, h2⟩ := id hI
  obtain ⟨sn, sv, -, hO⟩ := id hO0
  have hM := hMJ.1
  have hbA : ¬ kN0 k b := fun z => absurd (show k 0 ≤ b from z) (by omega)
  have hN : ∀ a, kN0 k a → k 0 ≤ a := fun _ h => h
  have hkH : k 0 ≤ H.size := by have := hS.1; omega
  refine lv_tableIn (tgt := 3470) (off := 3427) hx hb dL_law_43 (by rw [iZ_toInt (z := 39) (by omega)]; omega) (by rw [iZ_toInt (z := 39) (by omega)]; omega) (by rw [iZ_toInt (z := 39) (by omega)]; rfl) (by decide) ?_
  refine lv_aload_n hx hb dL_law_3470 rfl (lv_at hl 3 rfl) ?_
  refine lv_aload_n hx hb dL_law_3471 rfl (lv_at hl 4 rfl) ?_
  refine lv_iload hx hb dL_law_3472 (lv_at hl 0 rfl) ?_
  refine lv_iconst (v := iZ 1) hx hb dL_law_3474 rfl ?_
  refine kz_iadd hx hb dL_law_3475 ?_
  refine kz_sld hx hb hX hbl hbA hS (by omega) hL5 dL_law_3476 ?_
  refine lv_aload_n hx hb dL_law_3477 rfl (lv_at hl 4 rfl) ?_
  refine lv_iload hx hb dL_law_3478 (lv_at hl 0 rfl) ?_
  refine lv_iconst (v := iZ 2) hx hb dL_law_3480 rfl ?_
  refine kz_iadd hx hb dL_law_3481 ?_
  refine kz_sld hx hb hX hbl hbA hS (by omega) hL5 dL_law_3482 ?_
  refine lv_aload_n hx hb dL_law_3483 rfl (lv_at hl 4 rfl) ?_
  refine lv_iload hx hb dL_law_3484 (lv_at hl 0 rfl) ?_
  refine lv_iconst (v := iZ 3) hx hb dL_law_3486 rfl ?_
  refine kz_iadd hx hb dL_law_3487 ?_
  refine kz_sld hx hb hX hbl hbA hS (by omega) hL5 dL_law_3488 ?_
  refine lv_aload_n hx hb dL_law_3489 rfl (lv_at hl 1 rfl) ?_
  refine kc2 (vx_runSW (As := [.ref (q 0), .int (iZ (fx xs (i + 1))), .int (iZ (fx xs (i + 2))), .int (iZ (fx xs (i + 3))), .ref o]) (rest := []) ⟨hx, hb, hml, hown, hts⟩ (c_L_yearOrder l hst dC dI dA k q σ _ hG hOK hq o sn sv hO hko ho9 ((fx xs (i + 1))) ((fx xs (i + 2))) ((fx xs (i + 3))) (fx_rng _ _) (fx_rng _ _) (fx_rng _ _)) (vx_cwSW 5 hts (kg_S mw925 mw926 mw41 rfl mw927) rfl rfl rfl hdS_L_yearOrder ⟨Nat.le_of_ble_eq_true rfl, Nat.le_of_ble_eq_true rfl⟩) ⟨fun a U g mk q => ⟨q.1, q.2.1, kMJ_call q.2.2.1, kL_call q.2.2.2⟩, fun U hU hW => ⟨rfl, hU, kMJ_kept hMJ hS hN hU hW, kL_warm hL hW⟩⟩ rfl rfl hl.1 rfl (lv_room (Nat.le_of_ble_eq_true rfl)) dL_law_3490 ⟨kroomC (by omega), kroomS (by omega)⟩) hS (fun a _ h => kAO_N hq hko hkH a h) (fun a h => kAO_N hq hko hkH a h) (fun H1 locs hC hy9 hk9 hS => ?_)
  obtain ⟨hG1, hO1⟩ := hC
  have hY1 := kY_keptO hY hk9 h1 h2
  have hG1 := gX_cast hG1 (kif_same _)
  have h8 : kOK8 σ σ := ⟨hOK, rfl⟩
  have hkH1 : k 0 ≤ H1.size := Nat.le_trans hkH hy9
  clear hk9
  refine lv_istore (lv' := [(5, .int (iZ (ex2 (!inb (fx xs (i + 1)) 0 3 || !inb (fx xs (i + 2)) 0 3) (!inb (fx xs (i + 3)) 0 2)))), (4, .int (iZ i)), (3, .ref o), (2, .ref m0), (1, .ref (q 0)), (0, .ref b)]) hx hb dL_law_3493 hl (by decide) rfl (fun ls hl => ?_)
  refine lv_aload_n hx hb dL_law_3495 rfl (lv_at hl 3 rfl) ?_
  refine lv_aload_n hx hb dL_law_3496 rfl (lv_at hl 5 rfl) ?_
  refine lv_iload hx hb dL_law_3497 (lv_at hl 1 rfl) ?_
  refine lv_iconst (v := iZ 1) hx hb dL_law_3499 rfl ?_
  refine kz_iadd hx hb dL_law_3500 ?_
  refine kz_sld hx hb hX hbl hbA hS (by omega) hL5 dL_law_3501 ?_
  refine lv_aload_n hx hb dL_law_3502 rfl (lv_at hl 5 rfl) ?_
  refine lv_iload hx hb dL_law_3503 (lv_at hl 1 rfl) ?_
  refine lv_iconst (v := iZ 2) hx hb dL_law_3505 rfl ?_
  refine kz_iadd hx hb dL_law_3506 ?_
  refine kz_sld hx hb hX hbl hbA hS (by omega) hL5 dL_law_3507 ?_
  refine lv_aload_n hx hb dL_law_3508 rfl (lv_at hl 5 rfl) ?_
  refine lv_iload hx hb dL_law_3509 (lv_at hl 1 rfl) ?_
  refine lv_iconst (v := iZ 3) hx hb dL_law_3511 rfl ?_
  refine kz_iadd hx hb dL_law_3512 ?_
  refine kz_sld hx hb hX hbl hbA hS (by omega) hL5 dL_law_3513 ?_
  refine kc2 (va_runV (As := [.int (iZ (fx xs (i + 1))), .int (iZ (fx xs (i + 2))), .int (iZ (fx xs (i + 3)))]) (rest := []) ⟨hx, hb, hml, hown, hts⟩ (c_X3_yearOrder l dC dI dA k m0 r σ th _ hY1 hr hOK ((fx xs (i + 1))) ((fx xs (i + 2))) ((fx xs (i + 3))) (fx_rng _ _) (fx_rng _ _) (fx_rng _ _)) (cwV 3 hts (kg_V mw1336 mw1337 mw1338 mw47 rfl mw1339) rfl rfl rfl hdV_X3_yearOrder ⟨Nat.le_of_ble_eq_true rfl, Nat.le_of_ble_eq_true rfl⟩) ⟨fun a U g mk q => ⟨q.1, q.2.1, kM_call q.2.2⟩, va_recv hM.1 hY1 (ci := 6) (q0 := 0) rfl rfl, fun U hU hW => ⟨rfl, hU, kM_kept hM hS hN hU hW⟩⟩ rfl rfl hl.1 rfl (lv_room (Nat.le_of_ble_eq_true rfl)) dL_law_3514 ⟨kroomC (by omega), kroomS (by omega)⟩) hS (fun a _ h => kAy_N hr hkH1 a h) (fun a h => kAy_N hr hkH1 a h) (fun H2 locs hC2 hy8 hk8 hS => ?_)
  obtain ⟨r2, hI2, hO2⟩ := LI_step hI hG1 hO1 hC2 hk8 h8
  refine lv_istore (lv' := [(6, .int (iZ (if ex2 (!inb (fx xs (i + 1)) 0 3 || !inb (fx xs (i + 2)) 0 3) (!inb (fx xs (i + 3)) 0 2) = 0 then (ordT (σ 2 ((fx xs (i + 1)).toNat)) (σ 2 ((fx xs (i + 2)).toNat)) (fx xs (i + 3))) else 0))), (5, .int (iZ (ex2 (!inb (fx xs (i + 1)) 0 3 || !inb (fx xs (i + 2)) 0 3) (!inb (fx xs (i + 3)) 0 2)))), (4, .int (iZ i)), (3, .ref o), (2, .ref m0), (1, .ref (q 0)), (0, .ref b)]) hx hb dL_law_3517 hl (by decide) rfl (fun ls hl => ?_)
  refine lv_aload_n hx hb dL_law_3519 rfl (lv_at hl 4 rfl) ?_
  obtain ⟨hG2, hOK2, hq2, hY2, hr2, -⟩ := id hI2
  refine kc0 (fun _ q => q) (va_runV (As := []) (rest := []) ⟨hx, hb, hml, hown, hts⟩ (c_X3_thrown l dC dI dA k m0 r2 _ _ _ hY2 hr2 hOK2) (cwV 0 hts (kg_V mw1013 mw1014 mw1015 mw47 rfl mw1016) rfl rfl rfl hdV_X3_thrown ⟨Nat.le_of_ble_eq_true rfl, Nat.le_of_ble_eq_true rfl⟩) ⟨fun a U g mk q => ⟨q.1, q.2.1, kM_call q.2.2⟩, va_recv hM.1 hY2 (ci := 6) (q0 := 0) rfl rfl, fun U hU hW => ⟨rfl, hU, kM_kept hM hS hN hU hW⟩⟩ rfl rfl hl.1 rfl (lv_room (Nat.le_of_ble_eq_true rfl)) dL_law_3520 ⟨kroomC (by omega), kroomS (by omega)⟩) ?_
  refine lv_iload hx hb dL_law_3523 (lv_at hl 1 rfl) ?_
  refine kz_icmp_eq (tgt := 3530) hx hb (ex2_rng _ _) (ex2_rng _ _) dL_law_3525 (by decide) (fun c_1 => ?_) (fun c_1 => absurd rfl c_1)
  refine lv_iload hx hb dL_law_3530 (lv_at hl 1 rfl) ?_
  refine kz_if_ne (tgt := 3548) hx hb (ex2_rng _ _) dL_law_3532 (by decide) (fun c_2 => ?_) (fun c_2 => ?_)
  · refine lv_goto (tgt := 4485) hx hb dL_law_3548 (by decide) ?_
    refine W.widen (k := cs + 600) (n := ss + 4000) (by omega) (by omega) ?_
    exact kk r2 _ _ _ _ _ hI2 hS (by have h9 := h8.2; omega) (lv_sub hl [2, 3, 4, 5, 6] rfl)
  · refine lv_aload_n hx hb dL_law_3535 rfl (lv_at hl 3 rfl) ?_
    obtain ⟨nv, vv, hn, hPn⟩ := hO2
    have hn := hn c_2
    subst hn
    refine va_getN (D := (dC, dI)) (ci := 5) (v := .long (lZ (w32 (ordT (σ 2 ((fx xs (i + 1)).toNat)) (σ 2 ((fx xs (i + 2)).toNat)) (fx xs (i + 3)))))) (C := RX2) (T := TX2) (N := 2) hx hb hts (fun w h => List.mem_cons_of_mem _ (gF_1_in h)) hown hM.1 hPn 0 rfl rfl 0 (by decide) (va_Nw.use rfl hL.1) (fun _ h9 => h9) rfl dL_law_3536 ?_
    refine lv_iload hx hb dL_law_3539 (lv_at hl 0 rfl) ?_
    refine kz_w32 ?_
    refine kz_i2l hx hb (w32_rng _) dL_law_3541 ?_
    refine kz_lcmp_eq (tgt := 3548) hx hb (by first | exact w32_lrng _ | exact bZ_lrng _) (by first | exact w32_lrng _ | exact bZ_lrng _) dL_law_3542 dL_law_3543 (by decide) (fun c_3 => ?_) (fun c_3 => absurd (by first | rw [if_pos c_2] | exact congrArg bZ (by rw [decide_eq_true c_2, Bool.true_and]) | (rw [decide_eq_true c_2]; rfl) | (simp [c_2]; done)) c_3)
    refine lv_goto (tgt := 4485) hx hb dL_law_3548 (by decide) ?_
    refine W.widen (k := cs + 600) (n := ss + 4000) (by omega) (by omega) ?_
    exact kk r2 _ _ _ _ _ hI2 hS (by have h9 := h8.2; omega) (lv_sub hl [2, 3, 4, 5, 6] rfl)

set_option maxHeartbeats 4000000 in
set_option maxRecDepth 100000 in
theorem lc_40 {p : Program} {l : Launch} {e : Env} {s : State} {m : MethodId} {below : List Frame} {meth : Method} {c : Code} {Q : State → Prop} {b L : Nat} {xs : Nat → Int32} {dC : Nat → ClassId} {dI : Nat → Nat → Nat} {dA : Nat → ClassId} {k : Nat → Nat} (hst : l.stackTraces = false) (F : kF p s m meth c b L xs dC dI dA k)
    {q : Nat → Nat} {m0 : Nat} {r : Nat → Nat → Nat} {o : Nat} {σ : Nat → Nat → Int} {th : Int} {H : Heap} {locs : List Loc} {cs ss : Nat} {i : Int} {ls : Array Slot} (hI : LI dC dI dA k q m0 r o σ th H) (hS : va_S (kN0 k) s.heap H locs) (hi : 0 ≤ i ∧ i + 5 ≤ (L : Int)) (hcs : cs + 600 ≤ 707594) (hss : ss + 4000 ≤ 6979453) (h80 : 0 ≤ σ 8 0 ∧ σ 8 0 ≤ 100000) (hl : lv_has ls 7 [(4, .int (iZ i)), (3, .ref o), (2, .ref m0), (1, .ref (q 0)), (0, .ref b)])
    (kk : ∀ (r' : Nat → Nat → Nat) (σ' : Nat → Nat → Int) (th' : Int) (H' : Heap) (locs' : List Loc) (ls' : Array Slot), LI dC dI dA k q m0 r' o σ' th' H' → va_S (kN0 k) s.heap H' locs' → σ 8 0 ≤ σ' 8 0 ∧ σ' 8 0 ≤ σ 8 0 + 1 → lv_has ls' 7 [(4, .int (iZ i)), (3, .ref o), (2, .ref m0), (1, .ref (q 0)), (0, .ref b)] → W p l e room_1 s m #[Value.ref b] below meth c H' locs' (cs + 600) (ss + 4000) Q (F0 m 4485 ls' [])) :
    W p l e room_1 s m #[Value.ref b] below meth c H locs cs ss Q (F0 m 43 ls [.int (iZ 40)]) := by
  obtain ⟨hx, hb, hr9, hml, hown, hts, hX, hbl, hL5, hMJ, hL, hk0, hlocks⟩ := F
  obtain ⟨hG, hOK, hq, hY, hr, hO0, hko, ho9, h1, h2⟩ := id hI
  obtain ⟨sn, sv, -, hO⟩ := id hO0
  have hM := hMJ.1
  have hbA : ¬ kN0 k b := fun z => absurd (show k 0 ≤ b from z) (by omega)
  have hN : ∀ a, kN0 k a → k 0 ≤ a := fun _ h => h
  have hkH : k 0 ≤ H.size := by have := hS.1; omega
  refine lv_tableIn (tgt := 3551) (off := 3508) hx hb dL_law_43 (by rw [iZ_toInt (z := 40) (by omega)]; omega) (by rw [iZ_toInt (z := 40) (by omega)]; omega) (by rw [iZ_toInt (z := 40) (by omega)]; rfl) (by decide) ?_
  refine lv_aload_n hx hb dL_law_3551 rfl (lv_at hl 3 rfl) ?_
  refine lv_aload_n hx hb dL_law_3552 rfl (lv_at hl 4 rfl) ?_
  refine lv_iload hx hb dL_law_3553 (lv_at hl 0 rfl) ?_
  refine lv_iconst (v := iZ 1) hx hb dL_law_3555 rfl ?_
  refine kz_iadd hx hb dL_law_3556 ?_
  refine kz_sld hx hb hX hbl hbA hS (by omega) hL5 dL_law_3557 ?_
  refine lv_aload_n hx hb dL_law_3558 rfl (lv_at hl 4 rfl) ?_
  refine lv_iload hx hb dL_law_3559 (lv_at hl 0 rfl) ?_
  refine lv_iconst (v := iZ 2) hx hb dL_law_3561 rfl ?_
  refine kz_iadd hx hb dL_law_3562 ?_
  refine kz_sld hx hb hX hbl hbA hS (by omega) hL5 dL_law_3563 ?_
  refine lv_aload_n hx hb dL_law_3564 rfl (lv_at hl 4 rfl) ?_
  refine lv_iload hx hb dL_law_3565 (lv_at hl 0 rfl) ?_
  refine lv_iconst (v := iZ 3) hx hb dL_law_3567 rfl ?_
  refine kz_iadd hx hb dL_law_3568 ?_
  refine kz_sld hx hb hX hbl hbA hS (by omega) hL5 dL_law_3569 ?_
  refine lv_aload_n hx hb dL_law_3570 rfl (lv_at hl 1 rfl) ?_
  refine kc2 (vx_runSW (As := [.ref (q 0), .int (iZ (fx xs (i + 1))), .int (iZ (fx xs (i + 2))), .int (iZ (fx xs (i + 3))), .ref o]) (rest := []) ⟨hx, hb, hml, hown, hts⟩ (c_L_isYear l hst dC dI dA k q σ _ hG hOK hq o sn sv hO hko ho9 ((fx xs (i + 1))) ((fx xs (i + 2))) ((fx xs (i + 3))) (fx_rng _ _) (fx_rng _ _) (fx_rng _ _)) (vx_cwSW 5 hts (kg_S mw932 mw933 mw41 rfl mw934) rfl rfl rfl hdS_L_isYear ⟨Nat.le_of_ble_eq_true rfl, Nat.le_of_ble_eq_true rfl⟩) ⟨fun a U g mk q => ⟨q.1, q.2.1, kMJ_call q.2.2.1, kL_call q.2.2.2⟩, fun U hU hW => ⟨rfl, hU, kMJ_kept hMJ hS hN hU hW, kL_warm hL hW⟩⟩ rfl rfl hl.1 rfl (lv_room (Nat.le_of_ble_eq_true rfl)) dL_law_3571 ⟨kroomC (by omega), kroomS (by omega)⟩) hS (fun a _ h => kAO_N hq hko hkH a h) (fun a h => kAO_N hq hko hkH a h) (fun H1 locs hC hy9 hk9 hS => ?_)
  obtain ⟨hG1, hO1⟩ := hC
  have hY1 := kY_keptO hY hk9 h1 h2
  have hG1 := gX_cast hG1 (kif_same _)
  have h8 : kOK8 σ σ := ⟨hOK, rfl⟩
  have hkH1 : k 0 ≤ H1.size := Nat.le_trans hkH hy9
  clear hk9
  refine lv_istore (lv' := [(5, .int (iZ (ex2 (!inb (fx xs (i + 1)) 0 3 || !inb (fx xs (i + 3)) 0 3) (!inb (fx xs (i + 2)) 0 4)))), (4, .int (iZ i)), (3, .ref o), (2, .ref m0), (1, .ref (q 0)), (0, .ref b)]) hx hb dL_law_3574 hl (by decide) rfl (fun ls hl => ?_)
  refine lv_aload_n hx hb dL_law_3576 rfl (lv_at hl 3 rfl) ?_
  refine lv_aload_n hx hb dL_law_3577 rfl (lv_at hl 5 rfl) ?_
  refine lv_iload hx hb dL_law_3578 (lv_at hl 1 rfl) ?_
  refine lv_iconst (v := iZ 1) hx hb dL_law_3580 rfl ?_
  refine kz_iadd hx hb dL_law_3581 ?_
  refine kz_sld hx hb hX hbl hbA hS (by omega) hL5 dL_law_3582 ?_
  refine lv_aload_n hx hb dL_law_3583 rfl (lv_at hl 5 rfl) ?_
  refine lv_iload hx hb dL_law_3584 (lv_at hl 1 rfl) ?_
  refine lv_iconst (v := iZ 2) hx hb dL_law_3586 rfl ?_
  refine kz_iadd hx hb dL_law_3587 ?_
  refine kz_sld hx hb hX hbl hbA hS (by omega) hL5 dL_law_3588 ?_
  refine lv_aload_n hx hb dL_law_3589 rfl (lv_at hl 5 rfl) ?_
  refine lv_iload hx hb dL_law_3590 (lv_at hl 1 rfl) ?_
  refine lv_iconst (v := iZ 3) hx hb dL_law_3592 rfl ?_
  refine kz_iadd hx hb dL_law_3593 ?_
  refine kz_sld hx hb hX hbl hbA hS (by omega) hL5 dL_law_3594 ?_
  refine kc2 (va_runV (As := [.int (iZ (fx xs (i + 1))), .int (iZ (fx xs (i + 2))), .int (iZ (fx xs (i + 3)))]) (rest := []) ⟨hx, hb, hml, hown, hts⟩ (c_X3_isYear l dC dI dA k m0 r σ th _ hY1 hr hOK ((fx xs (i + 1))) ((fx xs (i + 2))) ((fx xs (i + 3))) (fx_rng _ _) (fx_rng _ _) (fx_rng _ _)) (cwV 3 hts (kg_V mw1340 mw1341 mw1342 mw47 rfl mw1343) rfl rfl rfl hdV_X3_isYear ⟨Nat.le_of_ble_eq_true rfl, Nat.le_of_ble_eq_true rfl⟩) ⟨fun a U g mk q => ⟨q.1, q.2.1, kM_call q.2.2⟩, va_recv hM.1 hY1 (ci := 6) (q0 := 0) rfl rfl, fun U hU hW => ⟨rfl, hU, kM_kept hM hS hN hU hW⟩⟩ rfl rfl hl.1 rfl (lv_room (Nat.le_of_ble_eq_true rfl)) dL_law_3595 ⟨kroomC (by omega), kroomS (by omega)⟩) hS (fun a _ h => kAy_N hr hkH1 a h) (fun a h => kAy_N hr hkH1 a h) (fun H2 locs hC2 hy8 hk8 hS => ?_)
  obtain ⟨r2, hI2, hO2⟩ := LI_step hI hG1 hO1 hC2 hk8 h8
  refine lv_istore (lv' := [(6, .int (iZ (bZ (decide (ex2 (!inb (fx xs (i + 1)) 0 3 || !inb (fx xs (i + 3)) 0 3) (!inb (fx xs (i + 2)) 0 4) = 0) && (decide ((fx xs (i + 2)) = 1 ∧ σ 2 ((fx xs (i + 1)).toNat) = σ 2 ((fx xs (i + 3)).toNat))))))), (5, .int (iZ (ex2 (!inb (fx xs (i + 1)) 0 3 || !inb (fx xs (i + 3)) 0 3) (!inb (fx xs (i + 2)) 0 4)))), (4, .int (iZ i)), (3, .ref o), (2, .ref m0), (1, .ref (q 0)), (0, .ref b)]) hx hb dL_law_3598 hl (by decide) rfl (fun ls hl => ?_)
  refine lv_aload_n hx hb dL_law_3600 rfl (lv_at hl 4 rfl) ?_
  obtain ⟨hG2, hOK2, hq2, hY2, hr2, -⟩ := id hI2
  refine kc0 (fun _ q => q) (va_runV (As := []) (rest := []) ⟨hx, hb, hml, hown, hts⟩ (c_X3_thrown l dC dI dA k m0 r2 _ _ _ hY2 hr2 hOK2) (cwV 0 hts (kg_V mw1013 mw1014 mw1015 mw47 rfl mw1016) rfl rfl rfl hdV_X3_thrown ⟨Nat.le_of_ble_eq_true rfl, Nat.le_of_ble_eq_true rfl⟩) ⟨fun a U g mk q => ⟨q.1, q.2.1, kM_call q.2.2⟩, va_recv hM.1 hY2 (ci := 6) (q0 := 0) rfl rfl, fun U hU hW => ⟨rfl, hU, kM_kept hM hS hN hU hW⟩⟩ rfl rfl hl.1 rfl (lv_room (Nat.le_of_ble_eq_true rfl)) dL_law_3601 ⟨kroomC (by omega), kroomS (by omega)⟩) ?_
  refine lv_iload hx hb dL_law_3604 (lv_at hl 1 rfl) ?_
  refine kz_icmp_eq (tgt := 3611) hx hb (ex2_rng _ _) (ex2_rng _ _) dL_law_3606 (by decide) (fun c_1 => ?_) (fun c_1 => absurd rfl c_1)
  refine lv_iload hx hb dL_law_3611 (lv_at hl 1 rfl) ?_
  refine kz_if_ne (tgt := 3636) hx hb (ex2_rng _ _) dL_law_3613 (by decide) (fun c_2 => ?_) (fun c_2 => ?_)
  · refine lv_goto (tgt := 4485) hx hb dL_law_3636 (by decide) ?_
    refine W.widen (k := cs + 600) (n := ss + 4000) (by omega) (by omega) ?_
    exact kk r2 _ _ _ _ _ hI2 hS (by have h9 := h8.2; omega) (lv_sub hl [2, 3, 4, 5, 6] rfl)
  · refine lv_aload_n hx hb dL_law_3616 rfl (lv_at hl 3 rfl) ?_
    obtain ⟨nv, vv, hn, hPn⟩ := hO2
    have hn := hn c_2
    subst hn
    refine va_getN (D := (dC, dI)) (ci := 5) (v := .long (lZ (bZ (decide ((fx xs (i + 2)) = 1 ∧ σ 2 ((fx xs (i + 1)).toNat) = σ 2 ((fx xs (i + 3)).toNat)))))) (C := RX2) (T := TX2) (N := 2) hx hb hts (fun w h => List.mem_cons_of_mem _ (gF_1_in h)) hown hM.1 hPn 0 rfl rfl 0 (by decide) (va_Nw.use rfl hL.1) (fun _ h9 => h9) rfl dL_law_3617 ?_
    refine lv_iload hx hb dL_law_3620 (lv_at hl 0 rfl) ?_
    refine kz_b2l hx hb dL_law_3622 dL_law_3625 dL_law_3626 dL_law_3629 ?_
    refine kz_lcmp_eq (tgt := 3636) hx hb (by first | exact w32_lrng _ | exact bZ_lrng _) (by first | exact w32_lrng _ | exact bZ_lrng _) dL_law_3630 dL_law_3631 (by decide) (fun c_3 => ?_) (fun c_3 => absurd (by first | rw [if_pos c_2] | exact congrArg bZ (by rw [decide_eq_true c_2, Bool.true_and]) | (rw [decide_eq_true c_2]; rfl) | (simp [c_2]; done)) c_3)
    refine lv_goto (tgt := 4485) hx hb dL_law_3636 (by decide) ?_
    refine W.widen (k := cs + 600) (n := ss + 4000) (by omega) (by omega) ?_
    exact kk r2 _ _ _ _ _ hI2 hS (by have h9 := h8.2; omega) (lv_sub hl [2, 3, 4, 5, 6] rfl)

set_option maxHeartbeats 4000000 in
set_option maxRecDepth 100000 in
theorem lc_41 {p : Program} {l : Launch} {e : Env} {s : State} {m : MethodId} {below : List Frame} {meth : Method} {c : Code} {Q : State → Prop} {b L : Nat} {xs : Nat → Int32} {dC : Nat → ClassId} {dI : Nat → Nat → Nat} {dA : Nat → ClassId} {k : Nat → Nat} (hst : l.stackTraces = false) (F : kF p s m meth c b L xs dC dI dA k)
    {q : Nat → Nat} {m0 : Nat} {r : Nat → Nat → Nat} {o : Nat} {σ : Nat → Nat → Int} {th : Int} {H : Heap} {locs : List Loc} {cs ss : Nat} {i : Int} {ls : Array Slot} (hI : LI dC dI dA k q m0 r o σ th H) (hS : va_S (kN0 k) s.heap H locs) (hi : 0 ≤ i ∧ i + 5 ≤ (L : Int)) (hcs : cs + 600 ≤ 707594) (hss : ss + 4000 ≤ 6979453) (h80 : 0 ≤ σ 8 0 ∧ σ 8 0 ≤ 100000) (hl : lv_has ls 7 [(4, .int (iZ i)), (3, .ref o), (2, .ref m0), (1, .ref (q 0)), (0, .ref b)])
    (kk : ∀ (r' : Nat → Nat → Nat) (σ' : Nat → Nat → Int) (th' : Int) (H' : Heap) (locs' : List Loc) (ls' : Array Slot), LI dC dI dA k q m0 r' o σ' th' H' → va_S (kN0 k) s.heap H' locs' → σ 8 0 ≤ σ' 8 0 ∧ σ' 8 0 ≤ σ 8 0 + 1 → lv_has ls' 7 [(4, .int (iZ i)), (3, .ref o), (2, .ref m0), (1, .ref (q 0)), (0, .ref b)] → W p l e room_1 s m #[Value.ref b] below meth c H' locs' (cs + 600) (ss + 4000) Q (F0 m 4485 ls' [])) :
    W p l e room_1 s m #[Value.ref b] below meth c H locs cs ss Q (F0 m 43 ls [.int (iZ 41)]) := by
  obtain ⟨hx, hb, hr9, hml, hown, hts, hX, hbl, hL5, hMJ, hL, hk0, hlocks⟩ := F
  obtain ⟨hG, hOK, hq, hY, hr, hO0, hko, ho9, h1, h2⟩ := id hI
  obtain ⟨sn, sv, -, hO⟩ := id hO0
  have hM := hMJ.1
  have hbA : ¬ kN0 k b := fun z => absurd (show k 0 ≤ b from z) (by omega)
  have hN : ∀ a, kN0 k a → k 0 ≤ a := fun _ h => h
  have hkH : k 0 ≤ H.size := by have := hS.1; omega
  refine lv_tableIn (tgt := 3639) (off := 3596) hx hb dL_law_43 (by rw [iZ_toInt (z := 41) (by omega)]; omega) (by rw [iZ_toInt (z := 41) (by omega)]; omega) (by rw [iZ_toInt (z := 41) (by omega)]; rfl) (by decide) ?_
  refine lv_aload_n hx hb dL_law_3639 rfl (lv_at hl 3 rfl) ?_
  refine lv_aload_n hx hb dL_law_3640 rfl (lv_at hl 4 rfl) ?_
  refine lv_iload hx hb dL_law_3641 (lv_at hl 0 rfl) ?_
  refine lv_iconst (v := iZ 1) hx hb dL_law_3643 rfl ?_
  refine kz_iadd hx hb dL_law_3644 ?_
  refine kz_sld hx hb hX hbl hbA hS (by omega) hL5 dL_law_3645 ?_
  refine lv_aload_n hx hb dL_law_3646 rfl (lv_at hl 4 rfl) ?_
  refine lv_iload hx hb dL_law_3647 (lv_at hl 0 rfl) ?_
  refine lv_iconst (v := iZ 2) hx hb dL_law_3649 rfl ?_
  refine kz_iadd hx hb dL_law_3650 ?_
  refine kz_sld hx hb hX hbl hbA hS (by omega) hL5 dL_law_3651 ?_
  refine lv_aload_n hx hb dL_law_3652 rfl (lv_at hl 4 rfl) ?_
  refine lv_iload hx hb dL_law_3653 (lv_at hl 0 rfl) ?_
  refine lv_iconst (v := iZ 3) hx hb dL_law_3655 rfl ?_
  refine kz_iadd hx hb dL_law_3656 ?_
  refine kz_sld hx hb hX hbl hbA hS (by omega) hL5 dL_law_3657 ?_
  refine lv_aload_n hx hb dL_law_3658 rfl (lv_at hl 4 rfl) ?_
  refine lv_iload hx hb dL_law_3659 (lv_at hl 0 rfl) ?_
  refine lv_iconst (v := iZ 4) hx hb dL_law_3661 rfl ?_
  refine kz_iadd hx hb dL_law_3662 ?_
  refine kz_sld hx hb hX hbl hbA hS (by omega) hL5 dL_law_3663 ?_
  refine kz_b2i hx hb (fx_rng _ _) dL_law_3664 dL_law_3667 dL_law_3668 dL_law_3671 ?_
  refine lv_aload_n hx hb dL_law_3672 rfl (lv_at hl 1 rfl) ?_
  refine kc2 (vx_runSW (As := [.ref (q 0), .int (iZ (fx xs (i + 1))), .int (iZ (fx xs (i + 2))), .int (iZ (fx xs (i + 3))), .int (iZ (bZ (!decide (fx xs (i + 4) = 0)))), .ref o]) (rest := []) ⟨hx, hb, hml, hown, hts⟩ (c_L_yearTo l hst dC dI dA k q σ _ hG hOK hq o sn sv hO hko ho9 ((fx xs (i + 1))) ((fx xs (i + 2))) ((fx xs (i + 3))) (!decide (fx xs (i + 4) = 0)) (fx_rng _ _) (fx_rng _ _) (fx_rng _ _)) (vx_cwSW 6 hts (kg_S mw939 mw940 mw41 rfl mw941) rfl rfl rfl hdS_L_yearTo ⟨Nat.le_of_ble_eq_true rfl, Nat.le_of_ble_eq_true rfl⟩) ⟨fun a U g mk q => ⟨q.1, q.2.1, kMJ_call q.2.2.1, kL_call q.2.2.2⟩, fun U hU hW => ⟨rfl, hU, kMJ_kept hMJ hS hN hU hW, kL_warm hL hW⟩⟩ rfl rfl hl.1 rfl (lv_room (Nat.le_of_ble_eq_true rfl)) dL_law_3673 ⟨kroomC (by omega), kroomS (by omega)⟩) hS (fun a _ h => kAO_N hq hko hkH a h) (fun a h => kAO_N hq hko hkH a h) (fun H1 locs hC hy9 hk9 hS => ?_)
  obtain ⟨hG1, hO1⟩ := hC
  have hY1 := kY_keptO hY hk9 h1 h2
  have hG1 := gX_cast hG1 (kif_same _)
  have h8 : kOK8 σ σ := ⟨hOK, rfl⟩
  have hkH1 : k 0 ≤ H1.size := Nat.le_trans hkH hy9
  clear hk9
  refine lv_istore (lv' := [(5, .int (iZ (ex2 (!inb (fx xs (i + 1)) 0 3 || !inb (fx xs (i + 2)) 0 3) (!inb (fx xs (i + 3)) 1 4)))), (4, .int (iZ i)), (3, .ref o), (2, .ref m0), (1, .ref (q 0)), (0, .ref b)]) hx hb dL_law_3676 hl (by decide) rfl (fun ls hl => ?_)
  refine lv_aload_n hx hb dL_law_3678 rfl (lv_at hl 3 rfl) ?_
  refine lv_aload_n hx hb dL_law_3679 rfl (lv_at hl 5 rfl) ?_
  refine lv_iload hx hb dL_law_3680 (lv_at hl 1 rfl) ?_
  refine lv_iconst (v := iZ 1) hx hb dL_law_3682 rfl ?_
  refine kz_iadd hx hb dL_law_3683 ?_
  refine kz_sld hx hb hX hbl hbA hS (by omega) hL5 dL_law_3684 ?_
  refine lv_aload_n hx hb dL_law_3685 rfl (lv_at hl 5 rfl) ?_
  refine lv_iload hx hb dL_law_3686 (lv_at hl 1 rfl) ?_
  refine lv_iconst (v := iZ 2) hx hb dL_law_3688 rfl ?_
  refine kz_iadd hx hb dL_law_3689 ?_
  refine kz_sld hx hb hX hbl hbA hS (by omega) hL5 dL_law_3690 ?_
  refine lv_aload_n hx hb dL_law_3691 rfl (lv_at hl 5 rfl) ?_
  refine lv_iload hx hb dL_law_3692 (lv_at hl 1 rfl) ?_
  refine lv_iconst (v := iZ 3) hx hb dL_law_3694 rfl ?_
  refine kz_iadd hx hb dL_law_3695 ?_
  refine kz_sld hx hb hX hbl hbA hS (by omega) hL5 dL_law_3696 ?_
  refine lv_aload_n hx hb dL_law_3697 rfl (lv_at hl 5 rfl) ?_
  refine lv_iload hx hb dL_law_3698 (lv_at hl 1 rfl) ?_
  refine lv_iconst (v := iZ 4) hx hb dL_law_3700 rfl ?_
  refine kz_iadd hx hb dL_law_3701 ?_
  refine kz_sld hx hb hX hbl hbA hS (by omega) hL5 dL_law_3702 ?_
  refine kz_b2i hx hb (fx_rng _ _) dL_law_3703 dL_law_3706 dL_law_3707 dL_law_3710 ?_
  refine kc2r (va_runV (As := [.int (iZ (fx xs (i + 1))), .int (iZ (fx xs (i + 2))), .int (iZ (fx xs (i + 3))), .int (iZ (bZ (!decide (fx xs (i + 4) = 0))))]) (rest := []) ⟨hx, hb, hml, hown, hts⟩ (c_X3_yearTo l dC dI dA k m0 r σ th _ hY1 hr hOK ((fx xs (i + 1))) ((fx xs (i + 2))) ((fx xs (i + 3))) (!decide (fx xs (i + 4) = 0)) (fx_rng _ _) (fx_rng _ _) (fx_rng _ _)) (cwV 4 hts (kg_V mw1344 mw1345 mw1346 mw47 rfl mw1347) rfl rfl rfl hdV_X3_yearTo ⟨Nat.le_of_ble_eq_true rfl, Nat.le_of_ble_eq_true rfl⟩) ⟨fun a U g mk q => ⟨q.1, q.2.1, kMJ_call q.2.2⟩, va_recv hM.1 hY1 (ci := 6) (q0 := 0) rfl rfl, fun U hU hW => ⟨rfl, hU, kMJ_kept hMJ hS hN hU hW⟩⟩ rfl rfl hl.1 rfl (lv_room (Nat.le_of_ble_eq_true rfl)) dL_law_3711 ⟨kroomC (by omega), kroomS (by omega)⟩) hS (fun a _ h => kAy_N hr hkH1 a h) (fun a h => kAy_N hr hkH1 a h) (fun x9 H2 locs hC2 hy8 hk8 hS => ?_)
  obtain ⟨hC2, hT2⟩ := hC2
  have hC2 := gY_id (sz := H1.size) hr hC2
  obtain ⟨r2, hI2, -⟩ := LI_step hI hG1 (gOS_O hO1) hC2 hk8 h8
  have hO2 := gOS_step hI hO1 hk8
  refine lv_astore (lv' := [(6, .ref x9), (5, .int (iZ (ex2 (!inb (fx xs (i + 1)) 0 3 || !inb (fx xs (i + 2)) 0 3) (!inb (fx xs (i + 3)) 1 4)))), (4, .int (iZ i)), (3, .ref o), (2, .ref m0), (1, .ref (q 0)), (0, .ref b)]) hx hb dL_law_3714 hl (by decide) rfl (fun ls hl => ?_)
  refine lv_aload_n hx hb dL_law_3716 rfl (lv_at hl 4 rfl) ?_
  obtain ⟨hG2, hOK2, hq2, hY2, hr2, -⟩ := id hI2
  refine kc0 (fun _ q => q) (va_runV (As := []) (rest := []) ⟨hx, hb, hml, hown, hts⟩ (c_X3_thrown l dC dI dA k m0 r2 _ _ _ hY2 hr2 hOK2) (cwV 0 hts (kg_V mw1013 mw1014 mw1015 mw47 rfl mw1016) rfl rfl rfl hdV_X3_thrown ⟨Nat.le_of_ble_eq_true rfl, Nat.le_of_ble_eq_true rfl⟩) ⟨fun a U g mk q => ⟨q.1, q.2.1, kM_call q.2.2⟩, va_recv hM.1 hY2 (ci := 6) (q0 := 0) rfl rfl, fun U hU hW => ⟨rfl, hU, kM_kept hM hS hN hU hW⟩⟩ rfl rfl hl.1 rfl (lv_room (Nat.le_of_ble_eq_true rfl)) dL_law_3717 ⟨kroomC (by omega), kroomS (by omega)⟩) ?_
  refine lv_iload hx hb dL_law_3720 (lv_at hl 1 rfl) ?_
  refine kz_icmp_eq (tgt := 3727) hx hb (ex2_rng _ _) (ex2_rng _ _) dL_law_3722 (by decide) (fun c_1 => ?_) (fun c_1 => absurd rfl c_1)
  refine lv_iload hx hb dL_law_3727 (lv_at hl 1 rfl) ?_
  refine kz_if_ne (tgt := 3746) hx hb (ex2_rng _ _) dL_law_3729 (by decide) (fun c_2 => ?_) (fun c_2 => ?_)
  · refine lv_goto (tgt := 4485) hx hb dL_law_3746 (by decide) ?_
    refine W.widen (k := cs + 600) (n := ss + 4000) (by omega) (by omega) ?_
    exact kk r2 _ _ _ _ _ hI2 hS (by have h9 := h8.2; omega) (lv_sub hl [2, 3, 4, 5, 6] rfl)
  · refine lv_aload_n hx hb dL_law_3732 rfl (lv_at hl 3 rfl) ?_
    obtain ⟨nv, vv, hPn, hT1⟩ := hO2
    obtain ⟨x8, hvv, w8, g8, -, ht8, hT8⟩ := hT1 c_2
    subst hvv
    obtain ⟨w9, g9, hn9, ht9, hT9⟩ := hT2 c_2
    refine va_getN (D := (dC, dI)) (ci := 5) (v := .ref x8) (C := RX2) (T := TX2) (N := 2) hx hb hts (fun w h => List.mem_cons_of_mem _ (gF_1_in h)) hown hM.1 hPn 0 rfl rfl 1 (by decide) (va_Nw.use rfl hL.2.1) (fun _ h9 => h9) rfl dL_law_3733 ?_
    refine lv_aload hx hb dL_law_3736 (lv_at hl 0 rfl) ?_
    refine kc0 (fun _ q => q) (va_runV (As := [.ref x9]) (rest := []) ⟨hx, hb, hml, hown, hts⟩ (c_J0_equals_9ea2dD l dC dI dA k x8 w8 x9 w9 g8 g9 _ _ (hT8.app hT9) (Nat.lt_of_le_of_lt hn9 (by decide)) (fun j hj => kTX_b (ht8 j hj)) (fun j hj => (ht8 j hj).trans (ht9 j hj).symm)) (cwV 1 hts (kg_V mw1435 mw1436 mw1437 mw45 rfl mw1438) rfl rfl rfl hdV_J0_equals_9ea2d ⟨Nat.le_of_ble_eq_true rfl, Nat.le_of_ble_eq_true rfl⟩) ⟨fun a U g mk q => ⟨q.1, q.2.1, kMJ_call q.2.2⟩, va_recv hM.1 hT8 (ci := 0) (q0 := 0) rfl rfl, fun U hU hW => ⟨rfl, hU, kMJ_kept hMJ hS hN hU hW⟩⟩ rfl rfl hl.1 rfl (lv_room (Nat.le_of_ble_eq_true rfl)) dL_law_3738 ⟨kroomC (by omega), kroomS (by omega)⟩) ?_
    refine kz_ifb_ne (tgt := 3746) hx hb  dL_law_3741 (by decide) (fun c_3 => ?_) (fun c_3 => absurd c_3 (by decide))
    refine lv_goto (tgt := 4485) hx hb dL_law_3746 (by decide) ?_
    refine W.widen (k := cs + 600) (n := ss + 4000) (by omega) (by omega) ?_
    exact kk r2 _ _ _ _ _ hI2 hS (by have h9 := h8.2; omega) (lv_sub hl [2, 3, 4, 5, 6] rfl)

