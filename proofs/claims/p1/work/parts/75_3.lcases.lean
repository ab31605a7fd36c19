set_option maxHeartbeats 4000000 in
set_option maxRecDepth 100000 in
theorem lc_42 {p : Program} {l : Launch} {e : Env} {s : State} {m : MethodId} {below : List Frame} {meth : Method} {c : Code} {Q : State → Prop} {b L : Nat} {xs : Nat → Int32} {dC : Nat → ClassId} {dI : Nat → Nat → Nat} {dA : Nat → ClassId} {k : Nat → Nat} (hst : l.stackTraces = false) (F : kF p s m meth c b L xs dC dI dA k)
    {q : Nat → Nat} {m0 : Nat} {r : Nat → Nat → Nat} {o : Nat} {σ : Nat → Nat → Int} {th : Int} {H : Heap} {locs : List Loc} {cs ss : Nat} {i : Int} {ls : Array Slot} (hI : LI dC dI dA k q m0 r o σ th H) (hS : va_S (kN0 k) s.heap H locs) (hi : 0 ≤ i ∧ i + 5 ≤ (L : Int)) (hcs : cs + 600 ≤ 707594) (hss : ss + 4000 ≤ 6979453) (h80 : 0 ≤ σ 8 0 ∧ σ 8 0 ≤ 100000) (hl : lv_has ls 7 [(4, .int (iZ i)), (3, .ref o), (2, .ref m0), (1, .ref (q 0)), (0, .ref b)])
    (kk : ∀ (r' : Nat → Nat → Nat) (σ' : Nat → Nat → Int) (th' : Int) (H' : Heap) (locs' : List Loc) (ls' : Array Slot), LI dC dI dA k q m0 r' o σ' th' H' → va_S (kN0 k) s.heap H' locs' → σ 8 0 ≤ σ' 8 0 ∧ σ' 8 0 ≤ σ 8 0 + 1 → lv_has ls' 7 [(4, .int (iZ i)), (3, .ref o), (2, .ref m0), (1, .ref (q 0)), (0, .ref b)] → W p l e room_1 s m #[Value.ref b] below meth c H' locs' (cs + 600) (ss + 4000) Q (F0 m 4485 ls' [])) :
    W p l e room_1 s m #[Value.ref b] below meth c H locs cs ss Q (F0 m 43 ls [.int (iZ 42)]) := by
  obtain ⟨hx, hb, hr9, hml, hown, hts, hX, hbl, hL5, hMJ, hL, hk0, hlocks⟩ := F
  obtain ⟨hG, hOK, hq, hY, hr, hO0, hko, ho9, h1, h2⟩ := id hI
  obtain ⟨sn, sv, -, hO⟩ := id hO0
  have hM := hMJ.1
  have hbA : ¬ kN0 k b := fun z => absurd (show k 0 ≤ b from z) (by omega)
  have hN : ∀ a, kN0 k a → k 0 ≤ a := fun _ h => h
  have hkH : k 0 ≤ H.size := by have := hS.1; omega
  refine lv_tableIn (tgt := 3749) (off := 3706) hx hb dL_law_43 (by rw [iZ_toInt (z := 42) (by omega)]; omega) (by rw [iZ_toInt (z := 42) (by omega)]; omega) (by rw [iZ_toInt (z := 42) (by omega)]; rfl) (by decide) ?_
  refine lv_aload_n hx hb dL_law_3749 rfl (lv_at hl 3 rfl) ?_
  refine lv_aload_n hx hb dL_law_3750 rfl (lv_at hl 4 rfl) ?_
  refine lv_iload hx hb dL_law_3751 (lv_at hl 0 rfl) ?_
  refine lv_iconst (v := iZ 1) hx hb dL_law_3753 rfl ?_
  refine kz_iadd hx hb dL_law_3754 ?_
  refine kz_sld hx hb hX hbl hbA hS (by omega) hL5 dL_law_3755 ?_
  refine lv_aload_n hx hb dL_law_3756 rfl (lv_at hl 4 rfl) ?_
  refine lv_iload hx hb dL_law_3757 (lv_at hl 0 rfl) ?_
  refine lv_iconst (v := iZ 2) hx hb dL_law_3759 rfl ?_
  refine kz_iadd hx hb dL_law_3760 ?_
  refine kz_sld hx hb hX hbl hbA hS (by omega) hL5 dL_law_3761 ?_
  refine lv_aload_n hx hb dL_law_3762 rfl (lv_at hl 1 rfl) ?_
  refine kc2 (vx_runSW (As := [.ref (q 0), .int (iZ (fx xs (i + 1))), .int (iZ (fx xs (i + 2))), .ref o]) (rest := []) ⟨hx, hb, hml, hown, hts⟩ (c_L_ofFeast l hst dC dI dA k q σ _ hG hOK hq o sn sv hO hko ho9 ((fx xs (i + 1))) ((fx xs (i + 2))) (fx_rng _ _) (fx_rng _ _)) (vx_cwSW 4 hts (kg_S mw946 mw947 mw41 rfl mw948) rfl rfl rfl hdS_L_ofFeast ⟨Nat.le_of_ble_eq_true rfl, Nat.le_of_ble_eq_true rfl⟩) ⟨fun a U g mk q => ⟨q.1, q.2.1, kMJ_call q.2.2.1, kL_call q.2.2.2⟩, fun U hU hW => ⟨rfl, hU, kMJ_kept hMJ hS hN hU hW, kL_warm hL hW⟩⟩ rfl rfl hl.1 rfl (lv_room (Nat.le_of_ble_eq_true rfl)) dL_law_3763 ⟨kroomC (by omega), kroomS (by omega)⟩) hS (fun a _ h => kAO_N hq hko hkH a h) (fun a h => kAO_N hq hko hkH a h) (fun H1 locs hC hy9 hk9 hS => ?_)
  obtain ⟨hG1, hO1⟩ := hC
  have hY1 := kY_keptO hY hk9 h1 h2
  have hG1 := gX_cast hG1 (kif_same _)
  have h8 : kOK8 σ σ := ⟨hOK, rfl⟩
  have hkH1 : k 0 ≤ H1.size := Nat.le_trans hkH hy9
  clear hk9
  refine lv_istore (lv' := [(5, .int (iZ (ex2 (!inb (fx xs (i + 1)) 0 3) (!inb (fx xs (i + 2)) 0 4)))), (4, .int (iZ i)), (3, .ref o), (2, .ref m0), (1, .ref (q 0)), (0, .ref b)]) hx hb dL_law_3766 hl (by decide) rfl (fun ls hl => ?_)
  refine lv_aload_n hx hb dL_law_3768 rfl (lv_at hl 3 rfl) ?_
  refine lv_aload_n hx hb dL_law_3769 rfl (lv_at hl 5 rfl) ?_
  refine lv_iload hx hb dL_law_3770 (lv_at hl 1 rfl) ?_
  refine lv_iconst (v := iZ 1) hx hb dL_law_3772 rfl ?_
  refine kz_iadd hx hb dL_law_3773 ?_
  refine kz_sld hx hb hX hbl hbA hS (by omega) hL5 dL_law_3774 ?_
  refine lv_aload_n hx hb dL_law_3775 rfl (lv_at hl 5 rfl) ?_
  refine lv_iload hx hb dL_law_3776 (lv_at hl 1 rfl) ?_
  refine lv_iconst (v := iZ 2) hx hb dL_law_3778 rfl ?_
  refine kz_iadd hx hb dL_law_3779 ?_
  refine kz_sld hx hb hX hbl hbA hS (by omega) hL5 dL_law_3780 ?_
  refine kc2 (va_runV (As := [.int (iZ (fx xs (i + 1))), .int (iZ (fx xs (i + 2)))]) (rest := []) ⟨hx, hb, hml, hown, hts⟩ (c_X3_ofFeast l dC dI dA k m0 r σ th _ hY1 hr hOK ((fx xs (i + 1))) ((fx xs (i + 2))) (fx_rng _ _) (fx_rng _ _)) (cwV 2 hts (kg_V mw1348 mw1349 mw1350 mw47 rfl mw1351) rfl rfl rfl hdV_X3_ofFeast ⟨Nat.le_of_ble_eq_true rfl, Nat.le_of_ble_eq_true rfl⟩) ⟨fun a U g mk q => ⟨q.1, q.2.1, kM_call q.2.2⟩, va_recv hM.1 hY1 (ci := 6) (q0 := 0) rfl rfl, fun U hU hW => ⟨rfl, hU, kM_kept hM hS hN hU hW⟩⟩ rfl rfl hl.1 rfl (lv_room (Nat.le_of_ble_eq_true rfl)) dL_law_3781 ⟨kroomC (by omega), kroomS (by omega)⟩) hS (fun a _ h => kAy_N hr hkH1 a h) (fun a h => kAy_N hr hkH1 a h) (fun H2 locs hC2 hy8 hk8 hS => ?_)
  obtain ⟨r2, hI2, hO2⟩ := LI_step hI hG1 hO1 hC2 hk8 h8
  refine lv_istore (lv' := [(6, .int (iZ (if ex2 (!inb (fx xs (i + 1)) 0 3) (!inb (fx xs (i + 2)) 0 4) = 0 then (ofF σ ((fx xs (i + 1)).toNat) (fx xs (i + 2))) else 0))), (5, .int (iZ (ex2 (!inb (fx xs (i + 1)) 0 3) (!inb (fx xs (i + 2)) 0 4)))), (4, .int (iZ i)), (3, .ref o), (2, .ref m0), (1, .ref (q 0)), (0, .ref b)]) hx hb dL_law_3784 hl (by decide) rfl (fun ls hl => ?_)
  refine lv_aload_n hx hb dL_law_3786 rfl (lv_at hl 4 rfl) ?_
  obtain ⟨hG2, hOK2, hq2, hY2, hr2, -⟩ := id hI2
  refine kc0 (fun _ q => q) (va_runV (As := []) (rest := []) ⟨hx, hb, hml, hown, hts⟩ (c_X3_thrown l dC dI dA k m0 r2 _ _ _ hY2 hr2 hOK2) (cwV 0 hts (kg_V mw1013 mw1014 mw1015 mw47 rfl mw1016) rfl rfl rfl hdV_X3_thrown ⟨Nat.le_of_ble_eq_true rfl, Nat.le_of_ble_eq_true rfl⟩) ⟨fun a U g mk q => ⟨q.1, q.2.1, kM_call q.2.2⟩, va_recv hM.1 hY2 (ci := 6) (q0 := 0) rfl rfl, fun U hU hW => ⟨rfl, hU, kM_kept hM hS hN hU hW⟩⟩ rfl rfl hl.1 rfl (lv_room (Nat.le_of_ble_eq_true rfl)) dL_law_3787 ⟨kroomC (by omega), kroomS (by omega)⟩) ?_
  refine lv_iload hx hb dL_law_3790 (lv_at hl 1 rfl) ?_
  refine kz_icmp_eq (tgt := 3797) hx hb (ex2_rng _ _) (ex2_rng _ _) dL_law_3792 (by decide) (fun c_1 => ?_) (fun c_1 => absurd rfl c_1)
  refine lv_iload hx hb dL_law_3797 (lv_at hl 1 rfl) ?_
  refine kz_if_ne (tgt := 3815) hx hb (ex2_rng _ _) dL_law_3799 (by decide) (fun c_2 => ?_) (fun c_2 => ?_)
  · refine lv_goto (tgt := 4485) hx hb dL_law_3815 (by decide) ?_
    refine W.widen (k := cs + 600) (n := ss + 4000) (by omega) (by omega) ?_
    exact kk r2 _ _ _ _ _ hI2 hS (by have h9 := h8.2; omega) (lv_sub hl [2, 3, 4, 5, 6] rfl)
  · refine lv_aload_n hx hb dL_law_3802 rfl (lv_at hl 3 rfl) ?_
    obtain ⟨nv, vv, hn, hPn⟩ := hO2
    have hn := hn c_2
    subst hn
    refine va_getN (D := (dC, dI)) (ci := 5) (v := .long (lZ (w32 (ofF σ ((fx xs (i + 1)).toNat) (fx xs (i + 2)))))) (C := RX2) (T := TX2) (N := 2) hx hb hts (fun w h => List.mem_cons_of_mem _ (gF_1_in h)) hown hM.1 hPn 0 rfl rfl 0 (by decide) (va_Nw.use rfl hL.1) (fun _ h9 => h9) rfl dL_law_3803 ?_
    refine lv_iload hx hb dL_law_3806 (lv_at hl 0 rfl) ?_
    refine kz_w32 ?_
    refine kz_i2l hx hb (w32_rng _) dL_law_3808 ?_
    refine kz_lcmp_eq (tgt := 3815) hx hb (by first | exact w32_lrng _ | exact bZ_lrng _) (by first | exact w32_lrng _ | exact bZ_lrng _) dL_law_3809 dL_law_3810 (by decide) (fun c_3 => ?_) (fun c_3 => absurd (by first | rw [if_pos c_2] | exact congrArg bZ (by rw [decide_eq_true c_2, Bool.true_and]) | (rw [decide_eq_true c_2]; rfl) | (simp [c_2]; done)) c_3)
    refine lv_goto (tgt := 4485) hx hb dL_law_3815 (by decide) ?_
    refine W.widen (k := cs + 600) (n := ss + 4000) (by omega) (by omega) ?_
    exact kk r2 _ _ _ _ _ hI2 hS (by have h9 := h8.2; omega) (lv_sub hl [2, 3, 4, 5, 6] rfl)

set_option maxHeartbeats 4000000 in
set_option maxRecDepth 100000 in
theorem lc_43 {p : Program} {l : Launch} {e : Env} {s : State} {m : MethodId} {below : List Frame} {meth : Method} {c : Code} {Q : State → Prop} {b L : Nat} {xs : Nat → Int32} {dC : Nat → ClassId} {dI : Nat → Nat → Nat} {dA : Nat → ClassId} {k : Nat → Nat} (hst : l.stackTraces = false) (F : kF p s m meth c b L xs dC dI dA k)
    {q : Nat → Nat} {m0 : Nat} {r : Nat → Nat → Nat} {o : Nat} {σ : Nat → Nat → Int} {th : Int} {H : Heap} {locs : List Loc} {cs ss : Nat} {i : Int} {ls : Array Slot} (hI : LI dC dI dA k q m0 r o σ th H) (hS : va_S (kN0 k) s.heap H locs) (hi : 0 ≤ i ∧ i + 5 ≤ (L : Int)) (hcs : cs + 600 ≤ 707594) (hss : ss + 4000 ≤ 6979453) (h80 : 0 ≤ σ 8 0 ∧ σ 8 0 ≤ 100000) (hl : lv_has ls 7 [(4, .int (iZ i)), (3, .ref o), (2, .ref m0), (1, .ref (q 0)), (0, .ref b)])
    (kk : ∀ (r' : Nat → Nat → Nat) (σ' : Nat → Nat → Int) (th' : Int) (H' : Heap) (locs' : List Loc) (ls' : Array Slot), LI dC dI dA k q m0 r' o σ' th' H' → va_S (kN0 k) s.heap H' locs' → σ 8 0 ≤ σ' 8 0 ∧ σ' 8 0 ≤ σ 8 0 + 1 → lv_has ls' 7 [(4, .int (iZ i)), (3, .ref o), (2, .ref m0), (1, .ref (q 0)), (0, .ref b)] → W p l e room_1 s m #[Value.ref b] below meth c H' locs' (cs + 600) (ss + 4000) Q (F0 m 4485 ls' [])) :
    W p l e room_1 s m #[Value.ref b] below meth c H locs cs ss Q (F0 m 43 ls [.int (iZ 43)]) := by
  obtain ⟨hx, hb, hr9, hml, hown, hts, hX, hbl, hL5, hMJ, hL, hk0, hlocks⟩ := F
  obtain ⟨hG, hOK, hq, hY, hr, hO0, hko, ho9, h1, h2⟩ := id hI
  obtain ⟨sn, sv, -, hO⟩ := id hO0
  have hM := hMJ.1
  have hbA : ¬ kN0 k b := fun z => absurd (show k 0 ≤ b from z) (by omega)
  have hN : ∀ a, kN0 k a → k 0 ≤ a := fun _ h => h
  have hkH : k 0 ≤ H.size := by have := hS.1; omega
  refine lv_tableIn (tgt := 3818) (off := 3775) hx hb dL_law_43 (by rw [iZ_toInt (z := 43) (by omega)]; omega) (by rw [iZ_toInt (z := 43) (by omega)]; omega) (by rw [iZ_toInt (z := 43) (by omega)]; rfl) (by decide) ?_
  refine lv_aload_n hx hb dL_law_3818 rfl (lv_at hl 3 rfl) ?_
  refine lv_aload_n hx hb dL_law_3819 rfl (lv_at hl 4 rfl) ?_
  refine lv_iload hx hb dL_law_3820 (lv_at hl 0 rfl) ?_
  refine lv_iconst (v := iZ 1) hx hb dL_law_3822 rfl ?_
  refine kz_iadd hx hb dL_law_3823 ?_
  refine kz_sld hx hb hX hbl hbA hS (by omega) hL5 dL_law_3824 ?_
  refine lv_aload_n hx hb dL_law_3825 rfl (lv_at hl 4 rfl) ?_
  refine lv_iload hx hb dL_law_3826 (lv_at hl 0 rfl) ?_
  refine lv_iconst (v := iZ 2) hx hb dL_law_3828 rfl ?_
  refine kz_iadd hx hb dL_law_3829 ?_
  refine kz_sld hx hb hX hbl hbA hS (by omega) hL5 dL_law_3830 ?_
  refine lv_aload_n hx hb dL_law_3831 rfl (lv_at hl 1 rfl) ?_
  refine kc2 (vx_runSW (As := [.ref (q 0), .int (iZ (fx xs (i + 1))), .int (iZ (fx xs (i + 2))), .ref o]) (rest := []) ⟨hx, hb, hml, hown, hts⟩ (c_L_isInYear l hst dC dI dA k q σ _ hG hOK hq o sn sv hO hko ho9 ((fx xs (i + 1))) ((fx xs (i + 2))) (fx_rng _ _) (fx_rng _ _)) (vx_cwSW 4 hts (kg_S mw950 mw951 mw41 rfl mw952) rfl rfl rfl hdS_L_isInYear ⟨Nat.le_of_ble_eq_true rfl, Nat.le_of_ble_eq_true rfl⟩) ⟨fun a U g mk q => ⟨q.1, q.2.1, kMJ_call q.2.2.1, kL_call q.2.2.2⟩, fun U hU hW => ⟨rfl, hU, kMJ_kept hMJ hS hN hU hW, kL_warm hL hW⟩⟩ rfl rfl hl.1 rfl (lv_room (Nat.le_of_ble_eq_true rfl)) dL_law_3832 ⟨kroomC (by omega), kroomS (by omega)⟩) hS (fun a _ h => kAO_N hq hko hkH a h) (fun a h => kAO_N hq hko hkH a h) (fun H1 locs hC hy9 hk9 hS => ?_)
  obtain ⟨hG1, hO1⟩ := hC
  have hY1 := kY_keptO hY hk9 h1 h2
  have hG1 := gX_cast hG1 (kif_same _)
  have h8 : kOK8 σ σ := ⟨hOK, rfl⟩
  have hkH1 : k 0 ≤ H1.size := Nat.le_trans hkH hy9
  clear hk9
  refine lv_istore (lv' := [(5, .int (iZ (ex2 (!inb (fx xs (i + 1)) 0 3) (!inb (fx xs (i + 2)) (-999999999) 999999999)))), (4, .int (iZ i)), (3, .ref o), (2, .ref m0), (1, .ref (q 0)), (0, .ref b)]) hx hb dL_law_3835 hl (by decide) rfl (fun ls hl => ?_)
  refine lv_aload_n hx hb dL_law_3837 rfl (lv_at hl 3 rfl) ?_
  refine lv_aload_n hx hb dL_law_3838 rfl (lv_at hl 5 rfl) ?_
  refine lv_iload hx hb dL_law_3839 (lv_at hl 1 rfl) ?_
  refine lv_iconst (v := iZ 1) hx hb dL_law_3841 rfl ?_
  refine kz_iadd hx hb dL_law_3842 ?_
  refine kz_sld hx hb hX hbl hbA hS (by omega) hL5 dL_law_3843 ?_
  refine lv_aload_n hx hb dL_law_3844 rfl (lv_at hl 5 rfl) ?_
  refine lv_iload hx hb dL_law_3845 (lv_at hl 1 rfl) ?_
  refine lv_iconst (v := iZ 2) hx hb dL_law_3847 rfl ?_
  refine kz_iadd hx hb dL_law_3848 ?_
  refine kz_sld hx hb hX hbl hbA hS (by omega) hL5 dL_law_3849 ?_
  refine kc2 (va_runV (As := [.int (iZ (fx xs (i + 1))), .int (iZ (fx xs (i + 2)))]) (rest := []) ⟨hx, hb, hml, hown, hts⟩ (c_X3_isInYear l dC dI dA k m0 r σ th _ hY1 hr hOK ((fx xs (i + 1))) ((fx xs (i + 2))) (fx_rng _ _) (fx_rng _ _)) (cwV 2 hts (kg_V mw1355 mw1356 mw1357 mw47 rfl mw1358) rfl rfl rfl hdV_X3_isInYear ⟨Nat.le_of_ble_eq_true rfl, Nat.le_of_ble_eq_true rfl⟩) ⟨fun a U g mk q => ⟨q.1, q.2.1, kM_call q.2.2⟩, va_recv hM.1 hY1 (ci := 6) (q0 := 0) rfl rfl, fun U hU hW => ⟨rfl, hU, kM_kept hM hS hN hU hW⟩⟩ rfl rfl hl.1 rfl (lv_room (Nat.le_of_ble_eq_true rfl)) dL_law_3850 ⟨kroomC (by omega), kroomS (by omega)⟩) hS (fun a _ h => kAy_N hr hkH1 a h) (fun a h => kAy_N hr hkH1 a h) (fun H2 locs hC2 hy8 hk8 hS => ?_)
  obtain ⟨r2, hI2, hO2⟩ := LI_step hI hG1 hO1 hC2 hk8 h8
  refine lv_istore (lv' := [(6, .int (iZ (bZ (decide (ex2 (!inb (fx xs (i + 1)) 0 3) (!inb (fx xs (i + 2)) (-999999999) 999999999) = 0) && (inYr σ ((fx xs (i + 1)).toNat) (fx xs (i + 2))))))), (5, .int (iZ (ex2 (!inb (fx xs (i + 1)) 0 3) (!inb (fx xs (i + 2)) (-999999999) 999999999)))), (4, .int (iZ i)), (3, .ref o), (2, .ref m0), (1, .ref (q 0)), (0, .ref b)]) hx hb dL_law_3853 hl (by decide) rfl (fun ls hl => ?_)
  refine lv_aload_n hx hb dL_law_3855 rfl (lv_at hl 4 rfl) ?_
  obtain ⟨hG2, hOK2, hq2, hY2, hr2, -⟩ := id hI2
  refine kc0 (fun _ q => q) (va_runV (As := []) (rest := []) ⟨hx, hb, hml, hown, hts⟩ (c_X3_thrown l dC dI dA k m0 r2 _ _ _ hY2 hr2 hOK2) (cwV 0 hts (kg_V mw1013 mw1014 mw1015 mw47 rfl mw1016) rfl rfl rfl hdV_X3_thrown ⟨Nat.le_of_ble_eq_true rfl, Nat.le_of_ble_eq_true rfl⟩) ⟨fun a U g mk q => ⟨q.1, q.2.1, kM_call q.2.2⟩, va_recv hM.1 hY2 (ci := 6) (q0 := 0) rfl rfl, fun U hU hW => ⟨rfl, hU, kM_kept hM hS hN hU hW⟩⟩ rfl rfl hl.1 rfl (lv_room (Nat.le_of_ble_eq_true rfl)) dL_law_3856 ⟨kroomC (by omega), kroomS (by omega)⟩) ?_
  refine lv_iload hx hb dL_law_3859 (lv_at hl 1 rfl) ?_
  refine kz_icmp_eq (tgt := 3866) hx hb (ex2_rng _ _) (ex2_rng _ _) dL_law_3861 (by decide) (fun c_1 => ?_) (fun c_1 => absurd rfl c_1)
  refine lv_iload hx hb dL_law_3866 (lv_at hl 1 rfl) ?_
  refine kz_if_ne (tgt := 3891) hx hb (ex2_rng _ _) dL_law_3868 (by decide) (fun c_2 => ?_) (fun c_2 => ?_)
  · refine lv_goto (tgt := 4485) hx hb dL_law_3891 (by decide) ?_
    refine W.widen (k := cs + 600) (n := ss + 4000) (by omega) (by omega) ?_
    exact kk r2 _ _ _ _ _ hI2 hS (by have h9 := h8.2; omega) (lv_sub hl [2, 3, 4, 5, 6] rfl)
  · refine lv_aload_n hx hb dL_law_3871 rfl (lv_at hl 3 rfl) ?_
    obtain ⟨nv, vv, hn, hPn⟩ := hO2
    have hn := hn c_2
    subst hn
    refine va_getN (D := (dC, dI)) (ci := 5) (v := .long (lZ (bZ (inYr σ ((fx xs (i + 1)).toNat) (fx xs (i + 2)))))) (C := RX2) (T := TX2) (N := 2) hx hb hts (fun w h => List.mem_cons_of_mem _ (gF_1_in h)) hown hM.1 hPn 0 rfl rfl 0 (by decide) (va_Nw.use rfl hL.1) (fun _ h9 => h9) rfl dL_law_3872 ?_
    refine lv_iload hx hb dL_law_3875 (lv_at hl 0 rfl) ?_
    refine kz_b2l hx hb dL_law_3877 dL_law_3880 dL_law_3881 dL_law_3884 ?_
    refine kz_lcmp_eq (tgt := 3891) hx hb (by first | exact w32_lrng _ | exact bZ_lrng _) (by first | exact w32_lrng _ | exact bZ_lrng _) dL_law_3885 dL_law_3886 (by decide) (fun c_3 => ?_) (fun c_3 => absurd (by first | rw [if_pos c_2] | exact congrArg bZ (by rw [decide_eq_true c_2, Bool.true_and]) | (rw [decide_eq_true c_2]; rfl) | (simp [c_2]; done)) c_3)
    refine lv_goto (tgt := 4485) hx hb dL_law_3891 (by decide) ?_
    refine W.widen (k := cs + 600) (n := ss + 4000) (by omega) (by omega) ?_
    exact kk r2 _ _ _ _ _ hI2 hS (by have h9 := h8.2; omega) (lv_sub hl [2, 3, 4, 5, 6] rfl)

set_option maxHeartbeats 4000000 in
set_option maxRecDepth 100000 in
theorem lc_44 {p : Program} {l : Launch} {e : Env} {s : State} {m : MethodId} {below : List Frame} {meth : Method} {c : Code} {Q : State → Prop} {b L : Nat} {xs : Nat → Int32} {dC : Nat → ClassId} {dI : Nat → Nat → Nat} {dA : Nat → ClassId} {k : Nat → Nat} (hst : l.stackTraces = false) (F : kF p s m meth c b L xs dC dI dA k)
    {q : Nat → Nat} {m0 : Nat} {r : Nat → Nat → Nat} {o : Nat} {σ : Nat → Nat → Int} {th : Int} {H : Heap} {locs : List Loc} {cs ss : Nat} {i : Int} {ls : Array Slot} (hI : LI dC dI dA k q m0 r o σ th H) (hS : va_S (kN0 k) s.heap H locs) (hi : 0 ≤ i ∧ i + 5 ≤ (L : Int)) (hcs : cs + 600 ≤ 707594) (hss : ss + 4000 ≤ 6979453) (h80 : 0 ≤ σ 8 0 ∧ σ 8 0 ≤ 100000) (hl : lv_has ls 7 [(4, .int (iZ i)), (3, .ref o), (2, .ref m0), (1, .ref (q 0)), (0, .ref b)])
    (kk : ∀ (r' : Nat → Nat → Nat) (σ' : Nat → Nat → Int) (th' : Int) (H' : Heap) (locs' : List Loc) (ls' : Array Slot), LI dC dI dA k q m0 r' o σ' th' H' → va_S (kN0 k) s.heap H' locs' → σ 8 0 ≤ σ' 8 0 ∧ σ' 8 0 ≤ σ 8 0 + 1 → lv_has ls' 7 [(4, .int (iZ i)), (3, .ref o), (2, .ref m0), (1, .ref (q 0)), (0, .ref b)] → W p l e room_1 s m #[Value.ref b] below meth c H' locs' (cs + 600) (ss + 4000) Q (F0 m 4485 ls' [])) :
    W p l e room_1 s m #[Value.ref b] below meth c H locs cs ss Q (F0 m 43 ls [.int (iZ 44)]) := by
  obtain ⟨hx, hb, hr9, hml, hown, hts, hX, hbl, hL5, hMJ, hL, hk0, hlocks⟩ := F
  obtain ⟨hG, hOK, hq, hY, hr, hO0, hko, ho9, h1, h2⟩ := id hI
  obtain ⟨sn, sv, -, hO⟩ := id hO0
  have hM := hMJ.1
  have hbA : ¬ kN0 k b := fun z => absurd (show k 0 ≤ b from z) (by omega)
  have hN : ∀ a, kN0 k a → k 0 ≤ a := fun _ h => h
  have hkH : k 0 ≤ H.size := by have := hS.1; omega
  refine lv_tableIn (tgt := 3894) (off := 3851) hx hb dL_law_43 (by rw [iZ_toInt (z := 44) (by omega)]; omega) (by rw [iZ_toInt (z := 44) (by omega)]; omega) (by rw [iZ_toInt (z := 44) (by omega)]; rfl) (by decide) ?_
  refine lv_aload_n hx hb dL_law_3894 rfl (lv_at hl 3 rfl) ?_
  refine lv_aload_n hx hb dL_law_3895 rfl (lv_at hl 4 rfl) ?_
  refine lv_iload hx hb dL_law_3896 (lv_at hl 0 rfl) ?_
  refine lv_iconst (v := iZ 1) hx hb dL_law_3898 rfl ?_
  refine kz_iadd hx hb dL_law_3899 ?_
  refine kz_sld hx hb hX hbl hbA hS (by omega) hL5 dL_law_3900 ?_
  refine lv_aload_n hx hb dL_law_3901 rfl (lv_at hl 4 rfl) ?_
  refine lv_iload hx hb dL_law_3902 (lv_at hl 0 rfl) ?_
  refine lv_iconst (v := iZ 2) hx hb dL_law_3904 rfl ?_
  refine kz_iadd hx hb dL_law_3905 ?_
  refine kz_sld hx hb hX hbl hbA hS (by omega) hL5 dL_law_3906 ?_
  refine lv_aload_n hx hb dL_law_3907 rfl (lv_at hl 4 rfl) ?_
  refine lv_iload hx hb dL_law_3908 (lv_at hl 0 rfl) ?_
  refine lv_iconst (v := iZ 3) hx hb dL_law_3910 rfl ?_
  refine kz_iadd hx hb dL_law_3911 ?_
  refine kz_sld hx hb hX hbl hbA hS (by omega) hL5 dL_law_3912 ?_
  refine lv_aload_n hx hb dL_law_3913 rfl (lv_at hl 1 rfl) ?_
  refine kc2 (vx_runSW (As := [.ref (q 0), .int (iZ (fx xs (i + 1))), .int (iZ (fx xs (i + 2))), .int (iZ (fx xs (i + 3))), .ref o]) (rest := []) ⟨hx, hb, hml, hown, hts⟩ (c_L_feastOrder l hst dC dI dA k q σ _ hG hOK hq o sn sv hO hko ho9 ((fx xs (i + 1))) ((fx xs (i + 2))) ((fx xs (i + 3))) (fx_rng _ _) (fx_rng _ _) (fx_rng _ _)) (vx_cwSW 5 hts (kg_S mw957 mw958 mw41 rfl mw959) rfl rfl rfl hdS_L_feastOrder ⟨Nat.le_of_ble_eq_true rfl, Nat.le_of_ble_eq_true rfl⟩) ⟨fun a U g mk q => ⟨q.1, q.2.1, kMJ_call q.2.2.1, kL_call q.2.2.2⟩, fun U hU hW => ⟨rfl, hU, kMJ_kept hMJ hS hN hU hW, kL_warm hL hW⟩⟩ rfl rfl hl.1 rfl (lv_room (Nat.le_of_ble_eq_true rfl)) dL_law_3914 ⟨kroomC (by omega), kroomS (by omega)⟩) hS (fun a _ h => kAO_N hq hko hkH a h) (fun a h => kAO_N hq hko hkH a h) (fun H1 locs hC hy9 hk9 hS => ?_)
  obtain ⟨hG1, hO1⟩ := hC
  have hY1 := kY_keptO hY hk9 h1 h2
  have hG1 := gX_cast hG1 (kif_same _)
  have h8 : kOK8 σ σ := ⟨hOK, rfl⟩
  have hkH1 : k 0 ≤ H1.size := Nat.le_trans hkH hy9
  clear hk9
  refine lv_istore (lv' := [(5, .int (iZ (ex2 (!inb (fx xs (i + 1)) 0 3 || !inb (fx xs (i + 2)) 0 3) (!inb (fx xs (i + 3)) 0 2)))), (4, .int (iZ i)), (3, .ref o), (2, .ref m0), (1, .ref (q 0)), (0, .ref b)]) hx hb dL_law_3917 hl (by decide) rfl (fun ls hl => ?_)
  refine lv_aload_n hx hb dL_law_3919 rfl (lv_at hl 3 rfl) ?_
  refine lv_aload_n hx hb dL_law_3920 rfl (lv_at hl 5 rfl) ?_
  refine lv_iload hx hb dL_law_3921 (lv_at hl 1 rfl) ?_
  refine lv_iconst (v := iZ 1) hx hb dL_law_3923 rfl ?_
  refine kz_iadd hx hb dL_law_3924 ?_
  refine kz_sld hx hb hX hbl hbA hS (by omega) hL5 dL_law_3925 ?_
  refine lv_aload_n hx hb dL_law_3926 rfl (lv_at hl 5 rfl) ?_
  refine lv_iload hx hb dL_law_3927 (lv_at hl 1 rfl) ?_
  refine lv_iconst (v := iZ 2) hx hb dL_law_3929 rfl ?_
  refine kz_iadd hx hb dL_law_3930 ?_
  refine kz_sld hx hb hX hbl hbA hS (by omega) hL5 dL_law_3931 ?_
  refine lv_aload_n hx hb dL_law_3932 rfl (lv_at hl 5 rfl) ?_
  refine lv_iload hx hb dL_law_3933 (lv_at hl 1 rfl) ?_
  refine lv_iconst (v := iZ 3) hx hb dL_law_3935 rfl ?_
  refine kz_iadd hx hb dL_law_3936 ?_
  refine kz_sld hx hb hX hbl hbA hS (by omega) hL5 dL_law_3937 ?_
  refine kc2 (va_runV (As := [.int (iZ (fx xs (i + 1))), .int (iZ (fx xs (i + 2))), .int (iZ (fx xs (i + 3)))]) (rest := []) ⟨hx, hb, hml, hown, hts⟩ (c_X3_feastOrder l dC dI dA k m0 r σ th _ hY1 hr hOK ((fx xs (i + 1))) ((fx xs (i + 2))) ((fx xs (i + 3))) (fx_rng _ _) (fx_rng _ _) (fx_rng _ _)) (cwV 3 hts (kg_V mw1359 mw1360 mw1361 mw47 rfl mw1362) rfl rfl rfl hdV_X3_feastOrder ⟨Nat.le_of_ble_eq_true rfl, Nat.le_of_ble_eq_true rfl⟩) ⟨fun a U g mk q => ⟨q.1, q.2.1, kM_call q.2.2⟩, va_recv hM.1 hY1 (ci := 6) (q0 := 0) rfl rfl, fun U hU hW => ⟨rfl, hU, kM_kept hM hS hN hU hW⟩⟩ rfl rfl hl.1 rfl (lv_room (Nat.le_of_ble_eq_true rfl)) dL_law_3938 ⟨kroomC (by omega), kroomS (by omega)⟩) hS (fun a _ h => kAy_N hr hkH1 a h) (fun a h => kAy_N hr hkH1 a h) (fun H2 locs hC2 hy8 hk8 hS => ?_)
  obtain ⟨r2, hI2, hO2⟩ := LI_step hI hG1 hO1 hC2 hk8 h8
  refine lv_istore (lv' := [(6, .int (iZ (if ex2 (!inb (fx xs (i + 1)) 0 3 || !inb (fx xs (i + 2)) 0 3) (!inb (fx xs (i + 3)) 0 2) = 0 then (ordT (32 * σ 3 ((fx xs (i + 1)).toNat) + σ 4 ((fx xs (i + 1)).toNat)) (32 * σ 3 ((fx xs (i + 2)).toNat) + σ 4 ((fx xs (i + 2)).toNat)) (fx xs (i + 3))) else 0))), (5, .int (iZ (ex2 (!inb (fx xs (i + 1)) 0 3 || !inb (fx xs (i + 2)) 0 3) (!inb (fx xs (i + 3)) 0 2)))), (4, .int (iZ i)), (3, .ref o), (2, .ref m0), (1, .ref (q 0)), (0, .ref b)]) hx hb dL_law_3941 hl (by decide) rfl (fun ls hl => ?_)
  refine lv_aload_n hx hb dL_law_3943 rfl (lv_at hl 4 rfl) ?_
  obtain ⟨hG2, hOK2, hq2, hY2, hr2, -⟩ := id hI2
  refine kc0 (fun _ q => q) (va_runV (As := []) (rest := []) ⟨hx, hb, hml, hown, hts⟩ (c_X3_thrown l dC dI dA k m0 r2 _ _ _ hY2 hr2 hOK2) (cwV 0 hts (kg_V mw1013 mw1014 mw1015 mw47 rfl mw1016) rfl rfl rfl hdV_X3_thrown ⟨Nat.le_of_ble_eq_true rfl, Nat.le_of_ble_eq_true rfl⟩) ⟨fun a U g mk q => ⟨q.1, q.2.1, kM_call q.2.2⟩, va_recv hM.1 hY2 (ci := 6) (q0 := 0) rfl rfl, fun U hU hW => ⟨rfl, hU, kM_kept hM hS hN hU hW⟩⟩ rfl rfl hl.1 rfl (lv_room (Nat.le_of_ble_eq_true rfl)) dL_law_3944 ⟨kroomC (by omega), kroomS (by omega)⟩) ?_
  refine lv_iload hx hb dL_law_3947 (lv_at hl 1 rfl) ?_
  refine kz_icmp_eq (tgt := 3954) hx hb (ex2_rng _ _) (ex2_rng _ _) dL_law_3949 (by decide) (fun c_1 => ?_) (fun c_1 => absurd rfl c_1)
  refine lv_iload hx hb dL_law_3954 (lv_at hl 1 rfl) ?_
  refine kz_if_ne (tgt := 3972) hx hb (ex2_rng _ _) dL_law_3956 (by decide) (fun c_2 => ?_) (fun c_2 => ?_)
  · refine lv_goto (tgt := 4485) hx hb dL_law_3972 (by decide) ?_
    refine W.widen (k := cs + 600) (n := ss + 4000) (by omega) (by omega) ?_
    exact kk r2 _ _ _ _ _ hI2 hS (by have h9 := h8.2; omega) (lv_sub hl [2, 3, 4, 5, 6] rfl)
  · refine lv_aload_n hx hb dL_law_3959 rfl (lv_at hl 3 rfl) ?_
    obtain ⟨nv, vv, hn, hPn⟩ := hO2
    have hn := hn c_2
    subst hn
    refine va_getN (D := (dC, dI)) (ci := 5) (v := .long (lZ (w32 (ordT (32 * σ 3 ((fx xs (i + 1)).toNat) + σ 4 ((fx xs (i + 1)).toNat)) (32 * σ 3 ((fx xs (i + 2)).toNat) + σ 4 ((fx xs (i + 2)).toNat)) (fx xs (i + 3)))))) (C := RX2) (T := TX2) (N := 2) hx hb hts (fun w h => List.mem_cons_of_mem _ (gF_1_in h)) hown hM.1 hPn 0 rfl rfl 0 (by decide) (va_Nw.use rfl hL.1) (fun _ h9 => h9) rfl dL_law_3960 ?_
    refine lv_iload hx hb dL_law_3963 (lv_at hl 0 rfl) ?_
    refine kz_w32 ?_
    refine kz_i2l hx hb (w32_rng _) dL_law_3965 ?_
    refine kz_lcmp_eq (tgt := 3972) hx hb (by first | exact w32_lrng _ | exact bZ_lrng _) (by first | exact w32_lrng _ | exact bZ_lrng _) dL_law_3966 dL_law_3967 (by decide) (fun c_3 => ?_) (fun c_3 => absurd (by first | rw [if_pos c_2] | exact congrArg bZ (by rw [decide_eq_true c_2, Bool.true_and]) | (rw [decide_eq_true c_2]; rfl) | (simp [c_2]; done)) c_3)
    refine lv_goto (tgt := 4485) hx hb dL_law_3972 (by decide) ?_
    refine W.widen (k := cs + 600) (n := ss + 4000) (by omega) (by omega) ?_
    exact kk r2 _ _ _ _ _ hI2 hS (by have h9 := h8.2; omega) (lv_sub hl [2, 3, 4, 5, 6] rfl)

set_option maxHeartbeats 4000000 in
set_option maxRecDepth 100000 in
theorem lc_45 {p : Program} {l : Launch} {e : Env} {s : State} {m : MethodId} {below : List Frame} {meth : Method} {c : Code} {Q : State → Prop} {b L : Nat} {xs : Nat → Int32} {dC : Nat → ClassId} {dI : Nat → Nat → Nat} {dA : Nat → ClassId} {k : Nat → Nat} (hst : l.stackTraces = false) (F : kF p s m meth c b L xs dC dI dA k)
    {q : Nat → Nat} {m0 : Nat} {r : Nat → Nat → Nat} {o : Nat} {σ : Nat → Nat → Int} {th : Int} {H : Heap} {locs : List Loc} {cs ss : Nat} {i : Int} {ls : Array Slot} (hI : LI dC dI dA k q m0 r o σ th H) (hS : va_S (kN0 k) s.heap H locs) (hi : 0 ≤ i ∧ i + 5 ≤ (L : Int)) (hcs : cs + 600 ≤ 707594) (hss : ss + 4000 ≤ 6979453) (h80 : 0 ≤ σ 8 0 ∧ σ 8 0 ≤ 100000) (hl : lv_has ls 7 [(4, .int (iZ i)), (3, .ref o), (2, .ref m0), (1, .ref (q 0)), (0, .ref b)])
    (kk : ∀ (r' : Nat → Nat → Nat) (σ' : Nat → Nat → Int) (th' : Int) (H' : Heap) (locs' : List Loc) (ls' : Array Slot), LI dC dI dA k q m0 r' o σ' th' H' → va_S (kN0 k) s.heap H' locs' → σ 8 0 ≤ σ' 8 0 ∧ σ' 8 0 ≤ σ 8 0 + 1 → lv_has ls' 7 [(4, .int (iZ i)), (3, .ref o), (2, .ref m0), (1, .ref (q 0)), (0, .ref b)] → W p l e room_1 s m #[Value.ref b] below meth c H' locs' (cs + 600) (ss + 4000) Q (F0 m 4485 ls' [])) :
    W p l e room_1 s m #[Value.ref b] below meth c H locs cs ss Q (F0 m 43 ls [.int (iZ 45)]) := by
  obtain ⟨hx, hb, hr9, hml, hown, hts, hX, hbl, hL5, hMJ, hL, hk0, hlocks⟩ := F
  obtain ⟨hG, hOK, hq, hY, hr, hO0, hko, ho9, h1, h2⟩ := id hI
  obtain ⟨sn, sv, -, hO⟩ := id hO0
  have hM := hMJ.1
  have hbA : ¬ kN0 k b := fun z => absurd (show k 0 ≤ b from z) (by omega)
  have hN : ∀ a, kN0 k a → k 0 ≤ a := fun _ h => h
  have hkH : k 0 ≤ H.size := by have := hS.1; omega
  refine lv_tableIn (tgt := 3975) (off := 3932) hx hb dL_law_43 (by rw [iZ_toInt (z := 45) (by omega)]; omega) (by rw [iZ_toInt (z := 45) (by omega)]; omega) (by rw [iZ_toInt (z := 45) (by omega)]; rfl) (by decide) ?_
  refine lv_aload_n hx hb dL_law_3975 rfl (lv_at hl 3 rfl) ?_
  refine lv_aload_n hx hb dL_law_3976 rfl (lv_at hl 4 rfl) ?_
  refine lv_iload hx hb dL_law_3977 (lv_at hl 0 rfl) ?_
  refine lv_iconst (v := iZ 1) hx hb dL_law_3979 rfl ?_
  refine kz_iadd hx hb dL_law_3980 ?_
  refine kz_sld hx hb hX hbl hbA hS (by omega) hL5 dL_law_3981 ?_
  refine lv_aload_n hx hb dL_law_3982 rfl (lv_at hl 4 rfl) ?_
  refine lv_iload hx hb dL_law_3983 (lv_at hl 0 rfl) ?_
  refine lv_iconst (v := iZ 2) hx hb dL_law_3985 rfl ?_
  refine kz_iadd hx hb dL_law_3986 ?_
  refine kz_sld hx hb hX hbl hbA hS (by omega) hL5 dL_law_3987 ?_
  refine lv_aload_n hx hb dL_law_3988 rfl (lv_at hl 4 rfl) ?_
  refine lv_iload hx hb dL_law_3989 (lv_at hl 0 rfl) ?_
  refine lv_iconst (v := iZ 3) hx hb dL_law_3991 rfl ?_
  refine kz_iadd hx hb dL_law_3992 ?_
  refine kz_sld hx hb hX hbl hbA hS (by omega) hL5 dL_law_3993 ?_
  refine lv_aload_n hx hb dL_law_3994 rfl (lv_at hl 1 rfl) ?_
  refine kc2 (vx_runSW (As := [.ref (q 0), .int (iZ (fx xs (i + 1))), .int (iZ (fx xs (i + 2))), .int (iZ (fx xs (i + 3))), .ref o]) (rest := []) ⟨hx, hb, hml, hown, hts⟩ (c_L_isFeast l hst dC dI dA k q σ _ hG hOK hq o sn sv hO hko ho9 ((fx xs (i + 1))) ((fx xs (i + 2))) ((fx xs (i + 3))) (fx_rng _ _) (fx_rng _ _) (fx_rng _ _)) (vx_cwSW 5 hts (kg_S mw964 mw965 mw41 rfl mw966) rfl rfl rfl hdS_L_isFeast ⟨Nat.le_of_ble_eq_true rfl, Nat.le_of_ble_eq_true rfl⟩) ⟨fun a U g mk q => ⟨q.1, q.2.1, kMJ_call q.2.2.1, kL_call q.2.2.2⟩, fun U hU hW => ⟨rfl, hU, kMJ_kept hMJ hS hN hU hW, kL_warm hL hW⟩⟩ rfl rfl hl.1 rfl (lv_room (Nat.le_of_ble_eq_true rfl)) dL_law_3995 ⟨kroomC (by omega), kroomS (by omega)⟩) hS (fun a _ h => kAO_N hq hko hkH a h) (fun a h => kAO_N hq hko hkH a h) (fun H1 locs hC hy9 hk9 hS => ?_)
  obtain ⟨hG1, hO1⟩ := hC
  have hY1 := kY_keptO hY hk9 h1 h2
  have hG1 := gX_cast hG1 (kif_same _)
  have h8 : kOK8 σ σ := ⟨hOK, rfl⟩
  have hkH1 : k 0 ≤ H1.size := Nat.le_trans hkH hy9
  clear hk9
  refine lv_istore (lv' := [(5, .int (iZ (ex2 (!inb (fx xs (i + 1)) 0 3 || !inb (fx xs (i + 3)) 0 3) (!inb (fx xs (i + 2)) 0 4)))), (4, .int (iZ i)), (3, .ref o), (2, .ref m0), (1, .ref (q 0)), (0, .ref b)]) hx hb dL_law_3998 hl (by decide) rfl (fun ls hl => ?_)
  refine lv_aload_n hx hb dL_law_4000 rfl (lv_at hl 3 rfl) ?_
  refine lv_aload_n hx hb dL_law_4001 rfl (lv_at hl 5 rfl) ?_
  refine lv_iload hx hb dL_law_4002 (lv_at hl 1 rfl) ?_
  refine lv_iconst (v := iZ 1) hx hb dL_law_4004 rfl ?_
  refine kz_iadd hx hb dL_law_4005 ?_
  refine kz_sld hx hb hX hbl hbA hS (by omega) hL5 dL_law_4006 ?_
  refine lv_aload_n hx hb dL_law_4007 rfl (lv_at hl 5 rfl) ?_
  refine lv_iload hx hb dL_law_4008 (lv_at hl 1 rfl) ?_
  refine lv_iconst (v := iZ 2) hx hb dL_law_4010 rfl ?_
  refine kz_iadd hx hb dL_law_4011 ?_
  refine kz_sld hx hb hX hbl hbA hS (by omega) hL5 dL_law_4012 ?_
  refine lv_aload_n hx hb dL_law_4013 rfl (lv_at hl 5 rfl) ?_
  refine lv_iload hx hb dL_law_4014 (lv_at hl 1 rfl) ?_
  refine lv_iconst (v := iZ 3) hx hb dL_law_4016 rfl ?_
  refine kz_iadd hx hb dL_law_4017 ?_
  refine kz_sld hx hb hX hbl hbA hS (by omega) hL5 dL_law_4018 ?_
  refine kc2 (va_runV (As := [.int (iZ (fx xs (i + 1))), .int (iZ (fx xs (i + 2))), .int (iZ (fx xs (i + 3)))]) (rest := []) ⟨hx, hb, hml, hown, hts⟩ (c_X3_isFeast l dC dI dA k m0 r σ th _ hY1 hr hOK ((fx xs (i + 1))) ((fx xs (i + 2))) ((fx xs (i + 3))) (fx_rng _ _) (fx_rng _ _) (fx_rng _ _)) (cwV 3 hts (kg_V mw1363 mw1364 mw1365 mw47 rfl mw1366) rfl rfl rfl hdV_X3_isFeast ⟨Nat.le_of_ble_eq_true rfl, Nat.le_of_ble_eq_true rfl⟩) ⟨fun a U g mk q => ⟨q.1, q.2.1, kM_call q.2.2⟩, va_recv hM.1 hY1 (ci := 6) (q0 := 0) rfl rfl, fun U hU hW => ⟨rfl, hU, kM_kept hM hS hN hU hW⟩⟩ rfl rfl hl.1 rfl (lv_room (Nat.le_of_ble_eq_true rfl)) dL_law_4019 ⟨kroomC (by omega), kroomS (by omega)⟩) hS (fun a _ h => kAy_N hr hkH1 a h) (fun a h => kAy_N hr hkH1 a h) (fun H2 locs hC2 hy8 hk8 hS => ?_)
  obtain ⟨r2, hI2, hO2⟩ := LI_step hI hG1 hO1 hC2 hk8 h8
  refine lv_istore (lv' := [(6, .int (iZ (bZ (decide (ex2 (!inb (fx xs (i + 1)) 0 3 || !inb (fx xs (i + 3)) 0 3) (!inb (fx xs (i + 2)) 0 4) = 0) && (decide ((fx xs (i + 2)) = 2 ∧ σ 3 ((fx xs (i + 1)).toNat) = σ 3 ((fx xs (i + 3)).toNat) ∧ σ 4 ((fx xs (i + 1)).toNat) = σ 4 ((fx xs (i + 3)).toNat))))))), (5, .int (iZ (ex2 (!inb (fx xs (i + 1)) 0 3 || !inb (fx xs (i + 3)) 0 3) (!inb (fx xs (i + 2)) 0 4)))), (4, .int (iZ i)), (3, .ref o), (2, .ref m0), (1, .ref (q 0)), (0, .ref b)]) hx hb dL_law_4022 hl (by decide) rfl (fun ls hl => ?_)
  refine lv_aload_n hx hb dL_law_4024 rfl (lv_at hl 4 rfl) ?_
  obtain ⟨hG2, hOK2, hq2, hY2, hr2, -⟩ := id hI2
  refine kc0 (fun _ q => q) (va_runV (As := []) (rest := []) ⟨hx, hb, hml, hown, hts⟩ (c_X3_thrown l dC dI dA k m0 r2 _ _ _ hY2 hr2 hOK2) (cwV 0 hts (kg_V mw1013 mw1014 mw1015 mw47 rfl mw1016) rfl rfl rfl hdV_X3_thrown ⟨Nat.le_of_ble_eq_true rfl, Nat.le_of_ble_eq_true rfl⟩) ⟨fun a U g mk q => ⟨q.1, q.2.1, kM_call q.2.2⟩, va_recv hM.1 hY2 (ci := 6) (q0 := 0) rfl rfl, fun U hU hW => ⟨rfl, hU, kM_kept hM hS hN hU hW⟩⟩ rfl rfl hl.1 rfl (lv_room (Nat.le_of_ble_eq_true rfl)) dL_law_4025 ⟨kroomC (by omega), kroomS (by omega)⟩) ?_
  refine lv_iload hx hb dL_law_4028 (lv_at hl 1 rfl) ?_
  refine kz_icmp_eq (tgt := 4035) hx hb (ex2_rng _ _) (ex2_rng _ _) dL_law_4030 (by decide) (fun c_1 => ?_) (fun c_1 => absurd rfl c_1)
  refine lv_iload hx hb dL_law_4035 (lv_at hl 1 rfl) ?_
  refine kz_if_ne (tgt := 4060) hx hb (ex2_rng _ _) dL_law_4037 (by decide) (fun c_2 => ?_) (fun c_2 => ?_)
  · refine lv_goto (tgt := 4485) hx hb dL_law_4060 (by decide) ?_
    refine W.widen (k := cs + 600) (n := ss + 4000) (by omega) (by omega) ?_
    exact kk r2 _ _ _ _ _ hI2 hS (by have h9 := h8.2; omega) (lv_sub hl [2, 3, 4, 5, 6] rfl)
  · refine lv_aload_n hx hb dL_law_4040 rfl (lv_at hl 3 rfl) ?_
    obtain ⟨nv, vv, hn, hPn⟩ := hO2
    have hn := hn c_2
    subst hn
    refine va_getN (D := (dC, dI)) (ci := 5) (v := .long (lZ (bZ (decide ((fx xs (i + 2)) = 2 ∧ σ 3 ((fx xs (i + 1)).toNat) = σ 3 ((fx xs (i + 3)).toNat) ∧ σ 4 ((fx xs (i + 1)).toNat) = σ 4 ((fx xs (i + 3)).toNat)))))) (C := RX2) (T := TX2) (N := 2) hx hb hts (fun w h => List.mem_cons_of_mem _ (gF_1_in h)) hown hM.1 hPn 0 rfl rfl 0 (by decide) (va_Nw.use rfl hL.1) (fun _ h9 => h9) rfl dL_law_4041 ?_
    refine lv_iload hx hb dL_law_4044 (lv_at hl 0 rfl) ?_
    refine kz_b2l hx hb dL_law_4046 dL_law_4049 dL_law_4050 dL_law_4053 ?_
    refine kz_lcmp_eq (tgt := 4060) hx hb (by first | exact w32_lrng _ | exact bZ_lrng _) (by first | exact w32_lrng _ | exact bZ_lrng _) dL_law_4054 dL_law_4055 (by decide) (fun c_3 => ?_) (fun c_3 => absurd (by first | rw [if_pos c_2] | exact congrArg bZ (by rw [decide_eq_true c_2, Bool.true_and]) | (rw [decide_eq_true c_2]; rfl) | (simp [c_2]; done)) c_3)
    refine lv_goto (tgt := 4485) hx hb dL_law_4060 (by decide) ?_
    refine W.widen (k := cs + 600) (n := ss + 4000) (by omega) (by omega) ?_
    exact kk r2 _ _ _ _ _ hI2 hS (by have h9 := h8.2; omega) (lv_sub hl [2, 3, 4, 5, 6] rfl)

set_option maxHeartbeats 4000000 in
set_option maxRecDepth 100000 in
theorem lc_46 {p : Program} {l : Launch} {e : Env} {s : State} {m : MethodId} {below : List Frame} {meth : Method} {c : Code} {Q : State → Prop} {b L : Nat} {xs : Nat → Int32} {dC : Nat → ClassId} {dI : Nat → Nat → Nat} {dA : Nat → ClassId} {k : Nat → Nat} (hst : l.stackTraces = false) (F : kF p s m meth c b L xs dC dI dA k)
    {q : Nat → Nat} {m0 : Nat} {r : Nat → Nat → Nat} {o : Nat} {σ : Nat → Nat → Int} {th : Int} {H : Heap} {locs : List Loc} {cs ss : Nat} {i : Int} {ls : Array Slot} (hI : LI dC dI dA k q m0 r o σ th H) (hS : va_S (kN0 k) s.heap H locs) (hi : 0 ≤ i ∧ i + 5 ≤ (L : Int)) (hcs : cs + 600 ≤ 707594) (hss : ss + 4000 ≤ 6979453) (h80 : 0 ≤ σ 8 0 ∧ σ 8 0 ≤ 100000) (hl : lv_has ls 7 [(4, .int (iZ i)), (3, .ref o), (2, .ref m0), (1, .ref (q 0)), (0, .ref b)])
    (kk : ∀ (r' : Nat → Nat → Nat) (σ' : Nat → Nat → Int) (th' : Int) (H' : Heap) (locs' : List Loc) (ls' : Array Slot), LI dC dI dA k q m0 r' o σ' th' H' → va_S (kN0 k) s.heap H' locs' → σ 8 0 ≤ σ' 8 0 ∧ σ' 8 0 ≤ σ 8 0 + 1 → lv_has ls' 7 [(4, .int (iZ i)), (3, .ref o), (2, .ref m0), (1, .ref (q 0)), (0, .ref b)] → W p l e room_1 s m #[Value.ref b] below meth c H' locs' (cs + 600) (ss + 4000) Q (F0 m 4485 ls' [])) :
    W p l e room_1 s m #[Value.ref b] below meth c H locs cs ss Q (F0 m 43 ls [.int (iZ 46)]) := by
  obtain ⟨hx, hb, hr9, hml, hown, hts, hX, hbl, hL5, hMJ, hL, hk0, hlocks⟩ := F
  obtain ⟨hG, hOK, hq, hY, hr, hO0, hko, ho9, h1, h2⟩ := id hI
  obtain ⟨sn, sv, -, hO⟩ := id hO0
  have hM := hMJ.1
  have hbA : ¬ kN0 k b := fun z => absurd (show k 0 ≤ b from z) (by omega)
  have hN : ∀ a, kN0 k a → k 0 ≤ a := fun _ h => h
  have hkH : k 0 ≤ H.size := by have := hS.1; omega
  refine lv_tableIn (tgt := 4063) (off := 4020) hx hb dL_law_43 (by rw [iZ_toInt (z := 46) (by omega)]; omega) (by rw [iZ_toInt (z := 46) (by omega)]; omega) (by rw [iZ_toInt (z := 46) (by omega)]; rfl) (by decide) ?_
  refine lv_aload_n hx hb dL_law_4063 rfl (lv_at hl 3 rfl) ?_
  refine lv_aload_n hx hb dL_law_4064 rfl (lv_at hl 4 rfl) ?_
  refine lv_iload hx hb dL_law_4065 (lv_at hl 0 rfl) ?_
  refine lv_iconst (v := iZ 1) hx hb dL_law_4067 rfl ?_
  refine kz_iadd hx hb dL_law_4068 ?_
  refine kz_sld hx hb hX hbl hbA hS (by omega) hL5 dL_law_4069 ?_
  refine lv_aload_n hx hb dL_law_4070 rfl (lv_at hl 4 rfl) ?_
  refine lv_iload hx hb dL_law_4071 (lv_at hl 0 rfl) ?_
  refine lv_iconst (v := iZ 2) hx hb dL_law_4073 rfl ?_
  refine kz_iadd hx hb dL_law_4074 ?_
  refine kz_sld hx hb hX hbl hbA hS (by omega) hL5 dL_law_4075 ?_
  refine lv_aload_n hx hb dL_law_4076 rfl (lv_at hl 1 rfl) ?_
  refine kc2 (vx_runSW (As := [.ref (q 0), .int (iZ (fx xs (i + 1))), .int (iZ (fx xs (i + 2))), .ref o]) (rest := []) ⟨hx, hb, hml, hown, hts⟩ (c_L_ofDay l hst dC dI dA k q σ _ hG hOK hq o sn sv hO hko ho9 ((fx xs (i + 1))) ((fx xs (i + 2))) (fx_rng _ _) (fx_rng _ _)) (vx_cwSW 4 hts (kg_S mw971 mw972 mw41 rfl mw973) rfl rfl rfl hdS_L_ofDay ⟨Nat.le_of_ble_eq_true rfl, Nat.le_of_ble_eq_true rfl⟩) ⟨fun a U g mk q => ⟨q.1, q.2.1, kMJ_call q.2.2.1, kL_call q.2.2.2⟩, fun U hU hW => ⟨rfl, hU, kMJ_kept hMJ hS hN hU hW, kL_warm hL hW⟩⟩ rfl rfl hl.1 rfl (lv_room (Nat.le_of_ble_eq_true rfl)) dL_law_4077 ⟨kroomC (by omega), kroomS (by omega)⟩) hS (fun a _ h => kAO_N hq hko hkH a h) (fun a h => kAO_N hq hko hkH a h) (fun H1 locs hC hy9 hk9 hS => ?_)
  obtain ⟨hG1, hO1⟩ := hC
  have hY1 := kY_keptO hY hk9 h1 h2
  have hG1 := gX_cast hG1 (kif_same _)
  have h8 : kOK8 σ σ := ⟨hOK, rfl⟩
  have hkH1 : k 0 ≤ H1.size := Nat.le_trans hkH hy9
  clear hk9
  refine lv_istore (lv' := [(5, .int (iZ (ex2 (!inb (fx xs (i + 1)) 0 3) (!inb (fx xs (i + 2)) 0 5)))), (4, .int (iZ i)), (3, .ref o), (2, .ref m0), (1, .ref (q 0)), (0, .ref b)]) hx hb dL_law_4080 hl (by decide) rfl (fun ls hl => ?_)
  refine lv_aload_n hx hb dL_law_4082 rfl (lv_at hl 3 rfl) ?_
  refine lv_aload_n hx hb dL_law_4083 rfl (lv_at hl 5 rfl) ?_
  refine lv_iload hx hb dL_law_4084 (lv_at hl 1 rfl) ?_
  refine lv_iconst (v := iZ 1) hx hb dL_law_4086 rfl ?_
  refine kz_iadd hx hb dL_law_4087 ?_
  refine kz_sld hx hb hX hbl hbA hS (by omega) hL5 dL_law_4088 ?_
  refine lv_aload_n hx hb dL_law_4089 rfl (lv_at hl 5 rfl) ?_
  refine lv_iload hx hb dL_law_4090 (lv_at hl 1 rfl) ?_
  refine lv_iconst (v := iZ 2) hx hb dL_law_4092 rfl ?_
  refine kz_iadd hx hb dL_law_4093 ?_
  refine kz_sld hx hb hX hbl hbA hS (by omega) hL5 dL_law_4094 ?_
  refine kc2 (va_runV (As := [.int (iZ (fx xs (i + 1))), .int (iZ (fx xs (i + 2)))]) (rest := []) ⟨hx, hb, hml, hown, hts⟩ (c_X3_ofDay l dC dI dA k m0 r σ th _ hY1 hr hOK ((fx xs (i + 1))) ((fx xs (i + 2))) (fx_rng _ _) (fx_rng _ _)) (cwV 2 hts (kg_V mw1367 mw1368 mw1369 mw47 rfl mw1370) rfl rfl rfl hdV_X3_ofDay ⟨Nat.le_of_ble_eq_true rfl, Nat.le_of_ble_eq_true rfl⟩) ⟨fun a U g mk q => ⟨q.1, q.2.1, kM_call q.2.2⟩, va_recv hM.1 hY1 (ci := 6) (q0 := 0) rfl rfl, fun U hU hW => ⟨rfl, hU, kM_kept hM hS hN hU hW⟩⟩ rfl rfl hl.1 rfl (lv_room (Nat.le_of_ble_eq_true rfl)) dL_law_4095 ⟨kroomC (by omega), kroomS (by omega)⟩) hS (fun a _ h => kAy_N hr hkH1 a h) (fun a h => kAy_N hr hkH1 a h) (fun H2 locs hC2 hy8 hk8 hS => ?_)
  obtain ⟨r2, hI2, hO2⟩ := LI_step hI hG1 hO1 hC2 hk8 h8
  refine lv_istore (lv' := [(6, .int (iZ (if ex2 (!inb (fx xs (i + 1)) 0 3) (!inb (fx xs (i + 2)) 0 5) = 0 then (ofD σ ((fx xs (i + 1)).toNat) (fx xs (i + 2))) else 0))), (5, .int (iZ (ex2 (!inb (fx xs (i + 1)) 0 3) (!inb (fx xs (i + 2)) 0 5)))), (4, .int (iZ i)), (3, .ref o), (2, .ref m0), (1, .ref (q 0)), (0, .ref b)]) hx hb dL_law_4098 hl (by decide) rfl (fun ls hl => ?_)
  refine lv_aload_n hx hb dL_law_4100 rfl (lv_at hl 4 rfl) ?_
  obtain ⟨hG2, hOK2, hq2, hY2, hr2, -⟩ := id hI2
  refine kc0 (fun _ q => q) (va_runV (As := []) (rest := []) ⟨hx, hb, hml, hown, hts⟩ (c_X3_thrown l dC dI dA k m0 r2 _ _ _ hY2 hr2 hOK2) (cwV 0 hts (kg_V mw1013 mw1014 mw1015 mw47 rfl mw1016) rfl rfl rfl hdV_X3_thrown ⟨Nat.le_of_ble_eq_true rfl, Nat.le_of_ble_eq_true rfl⟩) ⟨fun a U g mk q => ⟨q.1, q.2.1, kM_call q.2.2⟩, va_recv hM.1 hY2 (ci := 6) (q0 := 0) rfl rfl, fun U hU hW => ⟨rfl, hU, kM_kept hM hS hN hU hW⟩⟩ rfl rfl hl.1 rfl (lv_room (Nat.le_of_ble_eq_true rfl)) dL_law_4101 ⟨kroomC (by omega), kroomS (by omega)⟩) ?_
  refine lv_iload hx hb dL_law_4104 (lv_at hl 1 rfl) ?_
  refine kz_icmp_eq (tgt := 4111) hx hb (ex2_rng _ _) (ex2_rng _ _) dL_law_4106 (by decide) (fun c_1 => ?_) (fun c_1 => absurd rfl c_1)
  refine lv_iload hx hb dL_law_4111 (lv_at hl 1 rfl) ?_
  refine kz_if_ne (tgt := 4129) hx hb (ex2_rng _ _) dL_law_4113 (by decide) (fun c_2 => ?_) (fun c_2 => ?_)
  · refine lv_goto (tgt := 4485) hx hb dL_law_4129 (by decide) ?_
    refine W.widen (k := cs + 600) (n := ss + 4000) (by omega) (by omega) ?_
    exact kk r2 _ _ _ _ _ hI2 hS (by have h9 := h8.2; omega) (lv_sub hl [2, 3, 4, 5, 6] rfl)
  · refine lv_aload_n hx hb dL_law_4116 rfl (lv_at hl 3 rfl) ?_
    obtain ⟨nv, vv, hn, hPn⟩ := hO2
    have hn := hn c_2
    subst hn
    refine va_getN (D := (dC, dI)) (ci := 5) (v := .long (lZ (w32 (ofD σ ((fx xs (i + 1)).toNat) (fx xs (i + 2)))))) (C := RX2) (T := TX2) (N := 2) hx hb hts (fun w h => List.mem_cons_of_mem _ (gF_1_in h)) hown hM.1 hPn 0 rfl rfl 0 (by decide) (va_Nw.use rfl hL.1) (fun _ h9 => h9) rfl dL_law_4117 ?_
    refine lv_iload hx hb dL_law_4120 (lv_at hl 0 rfl) ?_
    refine kz_w32 ?_
    refine kz_i2l hx hb (w32_rng _) dL_law_4122 ?_
    refine kz_lcmp_eq (tgt := 4129) hx hb (by first | exact w32_lrng _ | exact bZ_lrng _) (by first | exact w32_lrng _ | exact bZ_lrng _) dL_law_4123 dL_law_4124 (by decide) (fun c_3 => ?_) (fun c_3 => absurd (by first | rw [if_pos c_2] | exact congrArg bZ (by rw [decide_eq_true c_2, Bool.true_and]) | (rw [decide_eq_true c_2]; rfl) | (simp [c_2]; done)) c_3)
    refine lv_goto (tgt := 4485) hx hb dL_law_4129 (by decide) ?_
    refine W.widen (k := cs + 600) (n := ss + 4000) (by omega) (by omega) ?_
    exact kk r2 _ _ _ _ _ hI2 hS (by have h9 := h8.2; omega) (lv_sub hl [2, 3, 4, 5, 6] rfl)

set_option maxHeartbeats 4000000 in
set_option maxRecDepth 100000 in
theorem lc_47 {p : Program} {l : Launch} {e : Env} {s : State} {m : MethodId} {below : List Frame} {meth : Method} {c : Code} {Q : State → Prop} {b L : Nat} {xs : Nat → Int32} {dC : Nat → ClassId} {dI : Nat → Nat → Nat} {dA : Nat → ClassId} {k : Nat → Nat} (hst : l.stackTraces = false) (F : kF p s m meth c b L xs dC dI dA k)
    {q : Nat → Nat} {m0 : Nat} {r : Nat → Nat → Nat} {o : Nat} {σ : Nat → Nat → Int} {th : Int} {H : Heap} {locs : List Loc} {cs ss : Nat} {i : Int} {ls : Array Slot} (hI : LI dC dI dA k q m0 r o σ th H) (hS : va_S (kN0 k) s.heap H locs) (hi : 0 ≤ i ∧ i + 5 ≤ (L : Int)) (hcs : cs + 600 ≤ 707594) (hss : ss + 4000 ≤ 6979453) (h80 : 0 ≤ σ 8 0 ∧ σ 8 0 ≤ 100000) (hl : lv_has ls 7 [(4, .int (iZ i)), (3, .ref o), (2, .ref m0), (1, .ref (q 0)), (0, .ref b)])
    (kk : ∀ (r' : Nat → Nat → Nat) (σ' : Nat → Nat → Int) (th' : Int) (H' : Heap) (locs' : List Loc) (ls' : Array Slot), LI dC dI dA k q m0 r' o σ' th' H' → va_S (kN0 k) s.heap H' locs' → σ 8 0 ≤ σ' 8 0 ∧ σ' 8 0 ≤ σ 8 0 + 1 → lv_has ls' 7 [(4, .int (iZ i)), (3, .ref o), (2, .ref m0), (1, .ref (q 0)), (0, .ref b)] → W p l e room_1 s m #[Value.ref b] below meth c H' locs' (cs + 600) (ss + 4000) Q (F0 m 4485 ls' [])) :
    W p l e room_1 s m #[Value.ref b] below meth c H locs cs ss Q (F0 m 43 ls [.int (iZ 47)]) := by
  obtain ⟨hx, hb, hr9, hml, hown, hts, hX, hbl, hL5, hMJ, hL, hk0, hlocks⟩ := F
  obtain ⟨hG, hOK, hq, hY, hr, hO0, hko, ho9, h1, h2⟩ := id hI
  obtain ⟨sn, sv, -, hO⟩ := id hO0
  have hM := hMJ.1
  have hbA : ¬ kN0 k b := fun z => absurd (show k 0 ≤ b from z) (by omega)
  have hN : ∀ a, kN0 k a → k 0 ≤ a := fun _ h => h
  have hkH : k 0 ≤ H.size := by have := hS.1; omega
  refine lv_tableIn (tgt := 4132) (off := 4089) hx hb dL_law_43 (by rw [iZ_toInt (z := 47) (by omega)]; omega) (by rw [iZ_toInt (z := 47) (by omega)]; omega) (by rw [iZ_toInt (z := 47) (by omega)]; rfl) (by decide) ?_
  refine lv_aload_n hx hb dL_law_4132 rfl (lv_at hl 3 rfl) ?_
  refine lv_aload_n hx hb dL_law_4133 rfl (lv_at hl 4 rfl) ?_
  refine lv_iload hx hb dL_law_4134 (lv_at hl 0 rfl) ?_
  refine lv_iconst (v := iZ 1) hx hb dL_law_4136 rfl ?_
  refine kz_iadd hx hb dL_law_4137 ?_
  refine kz_sld hx hb hX hbl hbA hS (by omega) hL5 dL_law_4138 ?_
  refine lv_aload_n hx hb dL_law_4139 rfl (lv_at hl 1 rfl) ?_
  refine kc2 (vx_runSW (As := [.ref (q 0), .int (iZ (fx xs (i + 1))), .ref o]) (rest := []) ⟨hx, hb, hml, hown, hts⟩ (c_L_number l hst dC dI dA k q σ _ hG hOK hq o sn sv hO hko ho9 ((fx xs (i + 1))) (fx_rng _ _)) (vx_cwSW 3 hts (kg_S mw975 mw976 mw41 rfl mw977) rfl rfl rfl hdS_L_number ⟨Nat.le_of_ble_eq_true rfl, Nat.le_of_ble_eq_true rfl⟩) ⟨fun a U g mk q => ⟨q.1, q.2.1, kMJ_call q.2.2.1, kL_call q.2.2.2⟩, fun U hU hW => ⟨rfl, hU, kMJ_kept hMJ hS hN hU hW, kL_warm hL hW⟩⟩ rfl rfl hl.1 rfl (lv_room (Nat.le_of_ble_eq_true rfl)) dL_law_4140 ⟨kroomC (by omega), kroomS (by omega)⟩) hS (fun a _ h => kAO_N hq hko hkH a h) (fun a h => kAO_N hq hko hkH a h) (fun H1 locs hC hy9 hk9 hS => ?_)
  obtain ⟨hG1, hO1⟩ := hC
  have hY1 := kY_keptO hY hk9 h1 h2
  have hG1 := gX_cast hG1 (kif_same _)
  have h8 : kOK8 σ σ := ⟨hOK, rfl⟩
  have hkH1 : k 0 ≤ H1.size := Nat.le_trans hkH hy9
  clear hk9
  refine lv_istore (lv' := [(5, .int (iZ (ex2 (!inb (fx xs (i + 1)) 0 3) (false)))), (4, .int (iZ i)), (3, .ref o), (2, .ref m0), (1, .ref (q 0)), (0, .ref b)]) hx hb dL_law_4143 hl (by decide) rfl (fun ls hl => ?_)
  refine lv_aload_n hx hb dL_law_4145 rfl (lv_at hl 3 rfl) ?_
  refine lv_aload_n hx hb dL_law_4146 rfl (lv_at hl 5 rfl) ?_
  refine lv_iload hx hb dL_law_4147 (lv_at hl 1 rfl) ?_
  refine lv_iconst (v := iZ 1) hx hb dL_law_4149 rfl ?_
  refine kz_iadd hx hb dL_law_4150 ?_
  refine kz_sld hx hb hX hbl hbA hS (by omega) hL5 dL_law_4151 ?_
  refine kc2r (va_runV (As := [.int (iZ (fx xs (i + 1)))]) (rest := []) ⟨hx, hb, hml, hown, hts⟩ (c_X3_number l dC dI dA k m0 r σ th _ hY1 hr hOK ((fx xs (i + 1))) (fx_rng _ _)) (cwV 1 hts (kg_V mw1375 mw1376 mw1377 mw47 rfl mw1378) rfl rfl rfl hdV_X3_number ⟨Nat.le_of_ble_eq_true rfl, Nat.le_of_ble_eq_true rfl⟩) ⟨fun a U g mk q => ⟨q.1, q.2.1, kMJ_call q.2.2⟩, va_recv hM.1 hY1 (ci := 6) (q0 := 0) rfl rfl, fun U hU hW => ⟨rfl, hU, kMJ_kept hMJ hS hN hU hW⟩⟩ rfl rfl hl.1 rfl (lv_room (Nat.le_of_ble_eq_true rfl)) dL_law_4152 ⟨kroomC (by omega), kroomS (by omega)⟩) hS (fun a _ h => kAy_N hr hkH1 a h) (fun a h => kAy_N hr hkH1 a h) (fun x9 H2 locs hC2 hy8 hk8 hS => ?_)
  obtain ⟨hC2, hT2⟩ := hC2
  have hC2 := gY_id (sz := H1.size) hr hC2
  obtain ⟨r2, hI2, -⟩ := LI_step hI hG1 (gOS_O hO1) hC2 hk8 h8
  have hO2 := gOS_step hI hO1 hk8
  refine lv_astore (lv' := [(6, .ref x9), (5, .int (iZ (ex2 (!inb (fx xs (i + 1)) 0 3) (false)))), (4, .int (iZ i)), (3, .ref o), (2, .ref m0), (1, .ref (q 0)), (0, .ref b)]) hx hb dL_law_4155 hl (by decide) rfl (fun ls hl => ?_)
  refine lv_aload_n hx hb dL_law_4157 rfl (lv_at hl 4 rfl) ?_
  obtain ⟨hG2, hOK2, hq2, hY2, hr2, -⟩ := id hI2
  refine kc0 (fun _ q => q) (va_runV (As := []) (rest := []) ⟨hx, hb, hml, hown, hts⟩ (c_X3_thrown l dC dI dA k m0 r2 _ _ _ hY2 hr2 hOK2) (cwV 0 hts (kg_V mw1013 mw1014 mw1015 mw47 rfl mw1016) rfl rfl rfl hdV_X3_thrown ⟨Nat.le_of_ble_eq_true rfl, Nat.le_of_ble_eq_true rfl⟩) ⟨fun a U g mk q => ⟨q.1, q.2.1, kM_call q.2.2⟩, va_recv hM.1 hY2 (ci := 6) (q0 := 0) rfl rfl, fun U hU hW => ⟨rfl, hU, kM_kept hM hS hN hU hW⟩⟩ rfl rfl hl.1 rfl (lv_room (Nat.le_of_ble_eq_true rfl)) dL_law_4158 ⟨kroomC (by omega), kroomS (by omega)⟩) ?_
  refine lv_iload hx hb dL_law_4161 (lv_at hl 1 rfl) ?_
  refine kz_icmp_eq (tgt := 4168) hx hb (ex2_rng _ _) (ex2_rng _ _) dL_law_4163 (by decide) (fun c_1 => ?_) (fun c_1 => absurd rfl c_1)
  refine lv_iload hx hb dL_law_4168 (lv_at hl 1 rfl) ?_
  refine kz_if_ne (tgt := 4187) hx hb (ex2_rng _ _) dL_law_4170 (by decide) (fun c_2 => ?_) (fun c_2 => ?_)
  · refine lv_goto (tgt := 4485) hx hb dL_law_4187 (by decide) ?_
    refine W.widen (k := cs + 600) (n := ss + 4000) (by omega) (by omega) ?_
    exact kk r2 _ _ _ _ _ hI2 hS (by have h9 := h8.2; omega) (lv_sub hl [2, 3, 4, 5, 6] rfl)
  · refine lv_aload_n hx hb dL_law_4173 rfl (lv_at hl 3 rfl) ?_
    obtain ⟨nv, vv, hPn, hT1⟩ := hO2
    obtain ⟨x8, hvv, w8, g8, -, ht8, hT8⟩ := hT1 c_2
    subst hvv
    obtain ⟨w9, g9, hn9, ht9, hT9⟩ := hT2 c_2
    refine va_getN (D := (dC, dI)) (ci := 5) (v := .ref x8) (C := RX2) (T := TX2) (N := 2) hx hb hts (fun w h => List.mem_cons_of_mem _ (gF_1_in h)) hown hM.1 hPn 0 rfl rfl 1 (by decide) (va_Nw.use rfl hL.2.1) (fun _ h9 => h9) rfl dL_law_4174 ?_
    refine lv_aload hx hb dL_law_4177 (lv_at hl 0 rfl) ?_
    refine kc0 (fun _ q => q) (va_runV (As := [.ref x9]) (rest := []) ⟨hx, hb, hml, hown, hts⟩ (c_J0_equals_9ea2dD l dC dI dA k x8 w8 x9 w9 g8 g9 _ _ (hT8.app hT9) (Nat.lt_of_le_of_lt hn9 (by decide)) (fun j hj => kTX_b (ht8 j hj)) (fun j hj => (ht8 j hj).trans (ht9 j hj).symm)) (cwV 1 hts (kg_V mw1435 mw1436 mw1437 mw45 rfl mw1438) rfl rfl rfl hdV_J0_equals_9ea2d ⟨Nat.le_of_ble_eq_true rfl, Nat.le_of_ble_eq_true rfl⟩) ⟨fun a U g mk q => ⟨q.1, q.2.1, kMJ_call q.2.2⟩, va_recv hM.1 hT8 (ci := 0) (q0 := 0) rfl rfl, fun U hU hW => ⟨rfl, hU, kMJ_kept hMJ hS hN hU hW⟩⟩ rfl rfl hl.1 rfl (lv_room (Nat.le_of_ble_eq_true rfl)) dL_law_4179 ⟨kroomC (by omega), kroomS (by omega)⟩) ?_
    refine kz_ifb_ne (tgt := 4187) hx hb  dL_law_4182 (by decide) (fun c_3 => ?_) (fun c_3 => absurd c_3 (by decide))
    refine lv_goto (tgt := 4485) hx hb dL_law_4187 (by decide) ?_
    refine W.widen (k := cs + 600) (n := ss + 4000) (by omega) (by omega) ?_
    exact kk r2 _ _ _ _ _ hI2 hS (by have h9 := h8.2; omega) (lv_sub hl [2, 3, 4, 5, 6] rfl)

set_option maxHeartbeats 4000000 in
set_option maxRecDepth 100000 in
theorem lc_48 {p : Program} {l : Launch} {e : Env} {s : State} {m : MethodId} {below : List Frame} {meth : Method} {c : Code} {Q : State → Prop} {b L : Nat} {xs : Nat → Int32} {dC : Nat → ClassId} {dI : Nat → Nat → Nat} {dA : Nat → ClassId} {k : Nat → Nat} (hst : l.stackTraces = false) (F : kF p s m meth c b L xs dC dI dA k)
    {q : Nat → Nat} {m0 : Nat} {r : Nat → Nat → Nat} {o : Nat} {σ : Nat → Nat → Int} {th : Int} {H : Heap} {locs : List Loc} {cs ss : Nat} {i : Int} {ls : Array Slot} (hI : LI dC dI dA k q m0 r o σ th H) (hS : va_S (kN0 k) s.heap H locs) (hi : 0 ≤ i ∧ i + 5 ≤ (L : Int)) (hcs : cs + 600 ≤ 707594) (hss : ss + 4000 ≤ 6979453) (h80 : 0 ≤ σ 8 0 ∧ σ 8 0 ≤ 100000) (hl : lv_has ls 7 [(4, .int (iZ i)), (3, .ref o), (2, .ref m0), (1, .ref (q 0)), (0, .ref b)])
    (kk : ∀ (r' : Nat → Nat → Nat) (σ' : Nat → Nat → Int) (th' : Int) (H' : Heap) (locs' : List Loc) (ls' : Array Slot), LI dC dI dA k q m0 r' o σ' th' H' → va_S (kN0 k) s.heap H' locs' → σ 8 0 ≤ σ' 8 0 ∧ σ' 8 0 ≤ σ 8 0 + 1 → lv_has ls' 7 [(4, .int (iZ i)), (3, .ref o), (2, .ref m0), (1, .ref (q 0)), (0, .ref b)] → W p l e room_1 s m #[Value.ref b] below meth c H' locs' (cs + 600) (ss + 4000) Q (F0 m 4485 ls' [])) :
    W p l e room_1 s m #[Value.ref b] below meth c H locs cs ss Q (F0 m 43 ls [.int (iZ 48)]) := by
  obtain ⟨hx, hb, hr9, hml, hown, hts, hX, hbl, hL5, hMJ, hL, hk0, hlocks⟩ := F
  obtain ⟨hG, hOK, hq, hY, hr, hO0, hko, ho9, h1, h2⟩ := id hI
  obtain ⟨sn, sv, -, hO⟩ := id hO0
  have hM := hMJ.1
  have hbA : ¬ kN0 k b := fun z => absurd (show k 0 ≤ b from z) (by omega)
  have hN : ∀ a, kN0 k a → k 0 ≤ a := fun _ h => h
  have hkH : k 0 ≤ H.size := by have := hS.1; omega
  refine lv_tableIn (tgt := 4190) (off := 4147) hx hb dL_law_43 (by rw [iZ_toInt (z := 48) (by omega)]; omega) (by rw [iZ_toInt (z := 48) (by omega)]; omega) (by rw [iZ_toInt (z := 48) (by omega)]; rfl) (by decide) ?_
  refine lv_aload_n hx hb dL_law_4190 rfl (lv_at hl 3 rfl) ?_
  refine lv_aload_n hx hb dL_law_4191 rfl (lv_at hl 4 rfl) ?_
  refine lv_iload hx hb dL_law_4192 (lv_at hl 0 rfl) ?_
  refine lv_iconst (v := iZ 1) hx hb dL_law_4194 rfl ?_
  refine kz_iadd hx hb dL_law_4195 ?_
  refine kz_sld hx hb hX hbl hbA hS (by omega) hL5 dL_law_4196 ?_
  refine lv_aload_n hx hb dL_law_4197 rfl (lv_at hl 4 rfl) ?_
  refine lv_iload hx hb dL_law_4198 (lv_at hl 0 rfl) ?_
  refine lv_iconst (v := iZ 2) hx hb dL_law_4200 rfl ?_
  refine kz_iadd hx hb dL_law_4201 ?_
  refine kz_sld hx hb hX hbl hbA hS (by omega) hL5 dL_law_4202 ?_
  refine lv_aload_n hx hb dL_law_4203 rfl (lv_at hl 4 rfl) ?_
  refine lv_iload hx hb dL_law_4204 (lv_at hl 0 rfl) ?_
  refine lv_iconst (v := iZ 3) hx hb dL_law_4206 rfl ?_
  refine kz_iadd hx hb dL_law_4207 ?_
  refine kz_sld hx hb hX hbl hbA hS (by omega) hL5 dL_law_4208 ?_
  refine lv_aload_n hx hb dL_law_4209 rfl (lv_at hl 1 rfl) ?_
  refine kc2 (vx_runSW (As := [.ref (q 0), .int (iZ (fx xs (i + 1))), .int (iZ (fx xs (i + 2))), .int (iZ (fx xs (i + 3))), .ref o]) (rest := []) ⟨hx, hb, hml, hown, hts⟩ (c_L_dayOrder l hst dC dI dA k q σ _ hG hOK hq o sn sv hO hko ho9 ((fx xs (i + 1))) ((fx xs (i + 2))) ((fx xs (i + 3))) (fx_rng _ _) (fx_rng _ _) (fx_rng _ _)) (vx_cwSW 5 hts (kg_S mw982 mw983 mw41 rfl mw984) rfl rfl rfl hdS_L_dayOrder ⟨Nat.le_of_ble_eq_true rfl, Nat.le_of_ble_eq_true rfl⟩) ⟨fun a U g mk q => ⟨q.1, q.2.1, kMJ_call q.2.2.1, kL_call q.2.2.2⟩, fun U hU hW => ⟨rfl, hU, kMJ_kept hMJ hS hN hU hW, kL_warm hL hW⟩⟩ rfl rfl hl.1 rfl (lv_room (Nat.le_of_ble_eq_true rfl)) dL_law_4210 ⟨kroomC (by omega), kroomS (by omega)⟩) hS (fun a _ h => kAO_N hq hko hkH a h) (fun a h => kAO_N hq hko hkH a h) (fun H1 locs hC hy9 hk9 hS => ?_)
  obtain ⟨hG1, hO1⟩ := hC
  have hY1 := kY_keptO hY hk9 h1 h2
  have hG1 := gX_cast hG1 (kif_same _)
  have h8 : kOK8 σ σ := ⟨hOK, rfl⟩
  have hkH1 : k 0 ≤ H1.size := Nat.le_trans hkH hy9
  clear hk9
  refine lv_istore (lv' := [(5, .int (iZ (ex2 (!inb (fx xs (i + 1)) 0 3 || !inb (fx xs (i + 2)) 0 3) (!inb (fx xs (i + 3)) 0 2)))), (4, .int (iZ i)), (3, .ref o), (2, .ref m0), (1, .ref (q 0)), (0, .ref b)]) hx hb dL_law_4213 hl (by decide) rfl (fun ls hl => ?_)
  refine lv_aload_n hx hb dL_law_4215 rfl (lv_at hl 3 rfl) ?_
  refine lv_aload_n hx hb dL_law_4216 rfl (lv_at hl 5 rfl) ?_
  refine lv_iload hx hb dL_law_4217 (lv_at hl 1 rfl) ?_
  refine lv_iconst (v := iZ 1) hx hb dL_law_4219 rfl ?_
  refine kz_iadd hx hb dL_law_4220 ?_
  refine kz_sld hx hb hX hbl hbA hS (by omega) hL5 dL_law_4221 ?_
  refine lv_aload_n hx hb dL_law_4222 rfl (lv_at hl 5 rfl) ?_
  refine lv_iload hx hb dL_law_4223 (lv_at hl 1 rfl) ?_
  refine lv_iconst (v := iZ 2) hx hb dL_law_4225 rfl ?_
  refine kz_iadd hx hb dL_law_4226 ?_
  refine kz_sld hx hb hX hbl hbA hS (by omega) hL5 dL_law_4227 ?_
  refine lv_aload_n hx hb dL_law_4228 rfl (lv_at hl 5 rfl) ?_
  refine lv_iload hx hb dL_law_4229 (lv_at hl 1 rfl) ?_
  refine lv_iconst (v := iZ 3) hx hb dL_law_4231 rfl ?_
  refine kz_iadd hx hb dL_law_4232 ?_
  refine kz_sld hx hb hX hbl hbA hS (by omega) hL5 dL_law_4233 ?_
  refine kc2 (va_runV (As := [.int (iZ (fx xs (i + 1))), .int (iZ (fx xs (i + 2))), .int (iZ (fx xs (i + 3)))]) (rest := []) ⟨hx, hb, hml, hown, hts⟩ (c_X3_dayOrder l dC dI dA k m0 r σ th _ hY1 hr hOK ((fx xs (i + 1))) ((fx xs (i + 2))) ((fx xs (i + 3))) (fx_rng _ _) (fx_rng _ _) (fx_rng _ _)) (cwV 3 hts (kg_V mw1379 mw1380 mw1381 mw47 rfl mw1382) rfl rfl rfl hdV_X3_dayOrder ⟨Nat.le_of_ble_eq_true rfl, Nat.le_of_ble_eq_true rfl⟩) ⟨fun a U g mk q => ⟨q.1, q.2.1, kM_call q.2.2⟩, va_recv hM.1 hY1 (ci := 6) (q0 := 0) rfl rfl, fun U hU hW => ⟨rfl, hU, kM_kept hM hS hN hU hW⟩⟩ rfl rfl hl.1 rfl (lv_room (Nat.le_of_ble_eq_true rfl)) dL_law_4234 ⟨kroomC (by omega), kroomS (by omega)⟩) hS (fun a _ h => kAy_N hr hkH1 a h) (fun a h => kAy_N hr hkH1 a h) (fun H2 locs hC2 hy8 hk8 hS => ?_)
  obtain ⟨r2, hI2, hO2⟩ := LI_step hI hG1 hO1 hC2 hk8 h8
  refine lv_istore (lv' := [(6, .int (iZ (if ex2 (!inb (fx xs (i + 1)) 0 3 || !inb (fx xs (i + 2)) 0 3) (!inb (fx xs (i + 3)) 0 2) = 0 then (ordT (dnum (σ 5 ((fx xs (i + 1)).toNat)) (σ 6 ((fx xs (i + 1)).toNat)) (σ 7 ((fx xs (i + 1)).toNat))) (dnum (σ 5 ((fx xs (i + 2)).toNat)) (σ 6 ((fx xs (i + 2)).toNat)) (σ 7 ((fx xs (i + 2)).toNat))) (fx xs (i + 3))) else 0))), (5, .int (iZ (ex2 (!inb (fx xs (i + 1)) 0 3 || !inb (fx xs (i + 2)) 0 3) (!inb (fx xs (i + 3)) 0 2)))), (4, .int (iZ i)), (3, .ref o), (2, .ref m0), (1, .ref (q 0)), (0, .ref b)]) hx hb dL_law_4237 hl (by decide) rfl (fun ls hl => ?_)
  refine lv_aload_n hx hb dL_law_4239 rfl (lv_at hl 4 rfl) ?_
  obtain ⟨hG2, hOK2, hq2, hY2, hr2, -⟩ := id hI2
  refine kc0 (fun _ q => q) (va_runV (As := []) (rest := []) ⟨hx, hb, hml, hown, hts⟩ (c_X3_thrown l dC dI dA k m0 r2 _ _ _ hY2 hr2 hOK2) (cwV 0 hts (kg_V mw1013 mw1014 mw1015 mw47 rfl mw1016) rfl rfl rfl hdV_X3_thrown ⟨Nat.le_of_ble_eq_true rfl, Nat.le_of_ble_eq_true rfl⟩) ⟨fun a U g mk q => ⟨q.1, q.2.1, kM_call q.2.2⟩, va_recv hM.1 hY2 (ci := 6) (q0 := 0) rfl rfl, fun U hU hW => ⟨rfl, hU, kM_kept hM hS hN hU hW⟩⟩ rfl rfl hl.1 rfl (lv_room (Nat.le_of_ble_eq_true rfl)) dL_law_4240 ⟨kroomC (by omega), kroomS (by omega)⟩) ?_
  refine lv_iload hx hb dL_law_4243 (lv_at hl 1 rfl) ?_
  refine kz_icmp_eq (tgt := 4250) hx hb (ex2_rng _ _) (ex2_rng _ _) dL_law_4245 (by decide) (fun c_1 => ?_) (fun c_1 => absurd rfl c_1)
  refine lv_iload hx hb dL_law_4250 (lv_at hl 1 rfl) ?_
  refine kz_if_ne (tgt := 4268) hx hb (ex2_rng _ _) dL_law_4252 (by decide) (fun c_2 => ?_) (fun c_2 => ?_)
  · refine lv_goto (tgt := 4485) hx hb dL_law_4268 (by decide) ?_
    refine W.widen (k := cs + 600) (n := ss + 4000) (by omega) (by omega) ?_
    exact kk r2 _ _ _ _ _ hI2 hS (by have h9 := h8.2; omega) (lv_sub hl [2, 3, 4, 5, 6] rfl)
  · refine lv_aload_n hx hb dL_law_4255 rfl (lv_at hl 3 rfl) ?_
    obtain ⟨nv, vv, hn, hPn⟩ := hO2
    have hn := hn c_2
    subst hn
    refine va_getN (D := (dC, dI)) (ci := 5) (v := .long (lZ (w32 (ordT (dnum (σ 5 ((fx xs (i + 1)).toNat)) (σ 6 ((fx xs (i + 1)).toNat)) (σ 7 ((fx xs (i + 1)).toNat))) (dnum (σ 5 ((fx xs (i + 2)).toNat)) (σ 6 ((fx xs (i + 2)).toNat)) (σ 7 ((fx xs (i + 2)).toNat))) (fx xs (i + 3)))))) (C := RX2) (T := TX2) (N := 2) hx hb hts (fun w h => List.mem_cons_of_mem _ (gF_1_in h)) hown hM.1 hPn 0 rfl rfl 0 (by decide) (va_Nw.use rfl hL.1) (fun _ h9 => h9) rfl dL_law_4256 ?_
    refine lv_iload hx hb dL_law_4259 (lv_at hl 0 rfl) ?_
    refine kz_w32 ?_
    refine kz_i2l hx hb (w32_rng _) dL_law_4261 ?_
    refine kz_lcmp_eq (tgt := 4268) hx hb (by first | exact w32_lrng _ | exact bZ_lrng _) (by first | exact w32_lrng _ | exact bZ_lrng _) dL_law_4262 dL_law_4263 (by decide) (fun c_3 => ?_) (fun c_3 => absurd (by first | rw [if_pos c_2] | exact congrArg bZ (by rw [decide_eq_true c_2, Bool.true_and]) | (rw [decide_eq_true c_2]; rfl) | (simp [c_2]; done)) c_3)
    refine lv_goto (tgt := 4485) hx hb dL_law_4268 (by decide) ?_
    refine W.widen (k := cs + 600) (n := ss + 4000) (by omega) (by omega) ?_
    exact kk r2 _ _ _ _ _ hI2 hS (by have h9 := h8.2; omega) (lv_sub hl [2, 3, 4, 5, 6] rfl)

set_option maxHeartbeats 4000000 in
set_option maxRecDepth 100000 in
theorem lc_49 {p : Program} {l : Launch} {e : Env} {s : State} {m : MethodId} {below : List Frame} {meth : Method} {c : Code} {Q : State → Prop} {b L : Nat} {xs : Nat → Int32} {dC : Nat → ClassId} {dI : Nat → Nat → Nat} {dA : Nat → ClassId} {k : Nat → Nat} (hst : l.stackTraces = false) (F : kF p s m meth c b L xs dC dI dA k)
    {q : Nat → Nat} {m0 : Nat} {r : Nat → Nat → Nat} {o : Nat} {σ : Nat → Nat → Int} {th : Int} {H : Heap} {locs : List Loc} {cs ss : Nat} {i : Int} {ls : Array Slot} (hI : LI dC dI dA k q m0 r o σ th H) (hS : va_S (kN0 k) s.heap H locs) (hi : 0 ≤ i ∧ i + 5 ≤ (L : Int)) (hcs : cs + 600 ≤ 707594) (hss : ss + 4000 ≤ 6979453) (h80 : 0 ≤ σ 8 0 ∧ σ 8 0 ≤ 100000) (hl : lv_has ls 7 [(4, .int (iZ i)), (3, .ref o), (2, .ref m0), (1, .ref (q 0)), (0, .ref b)])
    (kk : ∀ (r' : Nat → Nat → Nat) (σ' : Nat → Nat → Int) (th' : Int) (H' : Heap) (locs' : List Loc) (ls' : Array Slot), LI dC dI dA k q m0 r' o σ' th' H' → va_S (kN0 k) s.heap H' locs' → σ 8 0 ≤ σ' 8 0 ∧ σ' 8 0 ≤ σ 8 0 + 1 → lv_has ls' 7 [(4, .int (iZ i)), (3, .ref o), (2, .ref m0), (1, .ref (q 0)), (0, .ref b)] → W p l e room_1 s m #[Value.ref b] below meth c H' locs' (cs + 600) (ss + 4000) Q (F0 m 4485 ls' [])) :
    W p l e room_1 s m #[Value.ref b] below meth c H locs cs ss Q (F0 m 43 ls [.int (iZ 49)]) := by
  obtain ⟨hx, hb, hr9, hml, hown, hts, hX, hbl, hL5, hMJ, hL, hk0, hlocks⟩ := F
  obtain ⟨hG, hOK, hq, hY, hr, hO0, hko, ho9, h1, h2⟩ := id hI
  obtain ⟨sn, sv, -, hO⟩ := id hO0
  have hM := hMJ.1
  have hbA : ¬ kN0 k b := fun z => absurd (show k 0 ≤ b from z) (by omega)
  have hN : ∀ a, kN0 k a → k 0 ≤ a := fun _ h => h
  have hkH : k 0 ≤ H.size := by have := hS.1; omega
  refine lv_tableIn (tgt := 4271) (off := 4228) hx hb dL_law_43 (by rw [iZ_toInt (z := 49) (by omega)]; omega) (by rw [iZ_toInt (z := 49) (by omega)]; omega) (by rw [iZ_toInt (z := 49) (by omega)]; rfl) (by decide) ?_
  refine lv_aload_n hx hb dL_law_4271 rfl (lv_at hl 3 rfl) ?_
  refine lv_aload_n hx hb dL_law_4272 rfl (lv_at hl 4 rfl) ?_
  refine lv_iload hx hb dL_law_4273 (lv_at hl 0 rfl) ?_
  refine lv_iconst (v := iZ 1) hx hb dL_law_4275 rfl ?_
  refine kz_iadd hx hb dL_law_4276 ?_
  refine kz_sld hx hb hX hbl hbA hS (by omega) hL5 dL_law_4277 ?_
  refine lv_aload_n hx hb dL_law_4278 rfl (lv_at hl 4 rfl) ?_
  refine lv_iload hx hb dL_law_4279 (lv_at hl 0 rfl) ?_
  refine lv_iconst (v := iZ 2) hx hb dL_law_4281 rfl ?_
  refine kz_iadd hx hb dL_law_4282 ?_
  refine kz_sld hx hb hX hbl hbA hS (by omega) hL5 dL_law_4283 ?_
  refine lv_aload_n hx hb dL_law_4284 rfl (lv_at hl 1 rfl) ?_
  refine kc2 (vx_runSW (As := [.ref (q 0), .int (iZ (fx xs (i + 1))), .int (iZ (fx xs (i + 2))), .ref o]) (rest := []) ⟨hx, hb, hml, hown, hts⟩ (c_L_knows l hst dC dI dA k q σ _ hG hOK hq o sn sv hO hko ho9 ((fx xs (i + 1))) ((fx xs (i + 2))) (fx_rng _ _) (fx_rng _ _)) (vx_cwSW 4 hts (kg_S mw989 mw990 mw41 rfl mw991) rfl rfl rfl hdS_L_knows ⟨Nat.le_of_ble_eq_true rfl, Nat.le_of_ble_eq_true rfl⟩) ⟨fun a U g mk q => ⟨q.1, q.2.1, kMJ_call q.2.2.1, kL_call q.2.2.2⟩, fun U hU hW => ⟨rfl, hU, kMJ_kept hMJ hS hN hU hW, kL_warm hL hW⟩⟩ rfl rfl hl.1 rfl (lv_room (Nat.le_of_ble_eq_true rfl)) dL_law_4285 ⟨kroomC (by omega), kroomS (by omega)⟩) hS (fun a _ h => kAO_N hq hko hkH a h) (fun a h => kAO_N hq hko hkH a h) (fun H1 locs hC hy9 hk9 hS => ?_)
  obtain ⟨hG1, hO1⟩ := hC
  have hY1 := kY_keptO hY hk9 h1 h2
  have hG1 := gX_cast hG1 (kif_same _)
  have h8 : kOK8 σ σ := ⟨hOK, rfl⟩
  have hkH1 : k 0 ≤ H1.size := Nat.le_trans hkH hy9
  clear hk9
  refine lv_istore (lv' := [(5, .int (iZ (ex2 (!inb (fx xs (i + 1)) 0 2 || !inb (fx xs (i + 2)) 0 12) (false)))), (4, .int (iZ i)), (3, .ref o), (2, .ref m0), (1, .ref (q 0)), (0, .ref b)]) hx hb dL_law_4288 hl (by decide) rfl (fun ls hl => ?_)
  refine lv_aload_n hx hb dL_law_4290 rfl (lv_at hl 3 rfl) ?_
  refine lv_aload_n hx hb dL_law_4291 rfl (lv_at hl 5 rfl) ?_
  refine lv_iload hx hb dL_law_4292 (lv_at hl 1 rfl) ?_
  refine lv_iconst (v := iZ 1) hx hb dL_law_4294 rfl ?_
  refine kz_iadd hx hb dL_law_4295 ?_
  refine kz_sld hx hb hX hbl hbA hS (by omega) hL5 dL_law_4296 ?_
  refine lv_aload_n hx hb dL_law_4297 rfl (lv_at hl 5 rfl) ?_
  refine lv_iload hx hb dL_law_4298 (lv_at hl 1 rfl) ?_
  refine lv_iconst (v := iZ 2) hx hb dL_law_4300 rfl ?_
  refine kz_iadd hx hb dL_law_4301 ?_
  refine kz_sld hx hb hX hbl hbA hS (by omega) hL5 dL_law_4302 ?_
  refine kc2 (va_runV (As := [.int (iZ (fx xs (i + 1))), .int (iZ (fx xs (i + 2)))]) (rest := []) ⟨hx, hb, hml, hown, hts⟩ (c_X3_knows l dC dI dA k m0 r σ th _ hY1 hr hOK ((fx xs (i + 1))) ((fx xs (i + 2))) (fx_rng _ _) (fx_rng _ _)) (cwV 2 hts (kg_V mw1383 mw1384 mw1385 mw47 rfl mw1386) rfl rfl rfl hdV_X3_knows ⟨Nat.le_of_ble_eq_true rfl, Nat.le_of_ble_eq_true rfl⟩) ⟨fun a U g mk q => ⟨q.1, q.2.1, kM_call q.2.2⟩, va_recv hM.1 hY1 (ci := 6) (q0 := 0) rfl rfl, fun U hU hW => ⟨rfl, hU, kM_kept hM hS hN hU hW⟩⟩ rfl rfl hl.1 rfl (lv_room (Nat.le_of_ble_eq_true rfl)) dL_law_4303 ⟨kroomC (by omega), kroomS (by omega)⟩) hS (fun a _ h => kAy_N hr hkH1 a h) (fun a h => kAy_N hr hkH1 a h) (fun H2 locs hC2 hy8 hk8 hS => ?_)
  obtain ⟨r2, hI2, hO2⟩ := LI_step hI hG1 hO1 hC2 hk8 h8
  refine lv_istore (lv' := [(6, .int (iZ (bZ (decide (ex2 (!inb (fx xs (i + 1)) 0 2 || !inb (fx xs (i + 2)) 0 12) (false) = 0) && (knw (fx xs (i + 1)) (fx xs (i + 2))))))), (5, .int (iZ (ex2 (!inb (fx xs (i + 1)) 0 2 || !inb (fx xs (i + 2)) 0 12) (false)))), (4, .int (iZ i)), (3, .ref o), (2, .ref m0), (1, .ref (q 0)), (0, .ref b)]) hx hb dL_law_4306 hl (by decide) rfl (fun ls hl => ?_)
  refine lv_aload_n hx hb dL_law_4308 rfl (lv_at hl 4 rfl) ?_
  obtain ⟨hG2, hOK2, hq2, hY2, hr2, -⟩ := id hI2
  refine kc0 (fun _ q => q) (va_runV (As := []) (rest := []) ⟨hx, hb, hml, hown, hts⟩ (c_X3_thrown l dC dI dA k m0 r2 _ _ _ hY2 hr2 hOK2) (cwV 0 hts (kg_V mw1013 mw1014 mw1015 mw47 rfl mw1016) rfl rfl rfl hdV_X3_thrown ⟨Nat.le_of_ble_eq_true rfl, Nat.le_of_ble_eq_true rfl⟩) ⟨fun a U g mk q => ⟨q.1, q.2.1, kM_call q.2.2⟩, va_recv hM.1 hY2 (ci := 6) (q0 := 0) rfl rfl, fun U hU hW => ⟨rfl, hU, kM_kept hM hS hN hU hW⟩⟩ rfl rfl hl.1 rfl (lv_room (Nat.le_of_ble_eq_true rfl)) dL_law_4309 ⟨kroomC (by omega), kroomS (by omega)⟩) ?_
  refine lv_iload hx hb dL_law_4312 (lv_at hl 1 rfl) ?_
  refine kz_icmp_eq (tgt := 4319) hx hb (ex2_rng _ _) (ex2_rng _ _) dL_law_4314 (by decide) (fun c_1 => ?_) (fun c_1 => absurd rfl c_1)
  refine lv_iload hx hb dL_law_4319 (lv_at hl 1 rfl) ?_
  refine kz_if_ne (tgt := 4344) hx hb (ex2_rng _ _) dL_law_4321 (by decide) (fun c_2 => ?_) (fun c_2 => ?_)
  · refine lv_goto (tgt := 4485) hx hb dL_law_4344 (by decide) ?_
    refine W.widen (k := cs + 600) (n := ss + 4000) (by omega) (by omega) ?_
    exact kk r2 _ _ _ _ _ hI2 hS (by have h9 := h8.2; omega) (lv_sub hl [2, 3, 4, 5, 6] rfl)
  · refine lv_aload_n hx hb dL_law_4324 rfl (lv_at hl 3 rfl) ?_
    obtain ⟨nv, vv, hn, hPn⟩ := hO2
    have hn := hn c_2
    subst hn
    refine va_getN (D := (dC, dI)) (ci := 5) (v := .long (lZ (bZ (knw (fx xs (i + 1)) (fx xs (i + 2)))))) (C := RX2) (T := TX2) (N := 2) hx hb hts (fun w h => List.mem_cons_of_mem _ (gF_1_in h)) hown hM.1 hPn 0 rfl rfl 0 (by decide) (va_Nw.use rfl hL.1) (fun _ h9 => h9) rfl dL_law_4325 ?_
    refine lv_iload hx hb dL_law_4328 (lv_at hl 0 rfl) ?_
    refine kz_b2l hx hb dL_law_4330 dL_law_4333 dL_law_4334 dL_law_4337 ?_
    refine kz_lcmp_eq (tgt := 4344) hx hb (by first | exact w32_lrng _ | exact bZ_lrng _) (by first | exact w32_lrng _ | exact bZ_lrng _) dL_law_4338 dL_law_4339 (by decide) (fun c_3 => ?_) (fun c_3 => absurd (by first | rw [if_pos c_2] | exact congrArg bZ (by rw [decide_eq_true c_2, Bool.true_and]) | (rw [decide_eq_true c_2]; rfl) | (simp [c_2]; done)) c_3)
    refine lv_goto (tgt := 4485) hx hb dL_law_4344 (by decide) ?_
    refine W.widen (k := cs + 600) (n := ss + 4000) (by omega) (by omega) ?_
    exact kk r2 _ _ _ _ _ hI2 hS (by have h9 := h8.2; omega) (lv_sub hl [2, 3, 4, 5, 6] rfl)

set_option maxHeartbeats 4000000 in
set_option maxRecDepth 100000 in
theorem lc_50 {p : Program} {l : Launch} {e : Env} {s : State} {m : MethodId} {below : List Frame} {meth : Method} {c : Code} {Q : State → Prop} {b L : Nat} {xs : Nat → Int32} {dC : Nat → ClassId} {dI : Nat → Nat → Nat} {dA : Nat → ClassId} {k : Nat → Nat} (hst : l.stackTraces = false) (F : kF p s m meth c b L xs dC dI dA k)
    {q : Nat → Nat} {m0 : Nat} {r : Nat → Nat → Nat} {o : Nat} {σ : Nat → Nat → Int} {th : Int} {H : Heap} {locs : List Loc} {cs ss : Nat} {i : Int} {ls : Array Slot} (hI : LI dC dI dA k q m0 r o σ th H) (hS : va_S (kN0 k) s.heap H locs) (hi : 0 ≤ i ∧ i + 5 ≤ (L : Int)) (hcs : cs + 600 ≤ 707594) (hss : ss + 4000 ≤ 6979453) (h80 : 0 ≤ σ 8 0 ∧ σ 8 0 ≤ 100000) (hl : lv_has ls 7 [(4, .int (iZ i)), (3, .ref o), (2, .ref m0), (1, .ref (q 0)), (0, .ref b)])
    (kk : ∀ (r' : Nat → Nat → Nat) (σ' : Nat → Nat → Int) (th' : Int) (H' : Heap) (locs' : List Loc) (ls' : Array Slot), LI dC dI dA k q m0 r' o σ' th' H' → va_S (kN0 k) s.heap H' locs' → σ 8 0 ≤ σ' 8 0 ∧ σ' 8 0 ≤ σ 8 0 + 1 → lv_has ls' 7 [(4, .int (iZ i)), (3, .ref o), (2, .ref m0), (1, .ref (q 0)), (0, .ref b)] → W p l e room_1 s m #[Value.ref b] below meth c H' locs' (cs + 600) (ss + 4000) Q (F0 m 4485 ls' [])) :
    W p l e room_1 s m #[Value.ref b] below meth c H locs cs ss Q (F0 m 43 ls [.int (iZ 50)]) := by
  obtain ⟨hx, hb, hr9, hml, hown, hts, hX, hbl, hL5, hMJ, hL, hk0, hlocks⟩ := F
  obtain ⟨hG, hOK, hq, hY, hr, hO0, hko, ho9, h1, h2⟩ := id hI
  obtain ⟨sn, sv, -, hO⟩ := id hO0
  have hM := hMJ.1
  have hbA : ¬ kN0 k b := fun z => absurd (show k 0 ≤ b from z) (by omega)
  have hN : ∀ a, kN0 k a → k 0 ≤ a := fun _ h => h
  have hkH : k 0 ≤ H.size := by have := hS.1; omega
  refine lv_tableIn (tgt := 4347) (off := 4304) hx hb dL_law_43 (by rw [iZ_toInt (z := 50) (by omega)]; omega) (by rw [iZ_toInt (z := 50) (by omega)]; omega) (by rw [iZ_toInt (z := 50) (by omega)]; rfl) (by decide) ?_
  refine lv_aload_n hx hb dL_law_4347 rfl (lv_at hl 3 rfl) ?_
  refine lv_aload_n hx hb dL_law_4348 rfl (lv_at hl 4 rfl) ?_
  refine lv_iload hx hb dL_law_4349 (lv_at hl 0 rfl) ?_
  refine lv_iconst (v := iZ 1) hx hb dL_law_4351 rfl ?_
  refine kz_iadd hx hb dL_law_4352 ?_
  refine kz_sld hx hb hX hbl hbA hS (by omega) hL5 dL_law_4353 ?_
  refine kz_b2i hx hb (fx_rng _ _) dL_law_4354 dL_law_4357 dL_law_4358 dL_law_4361 ?_
  obtain ⟨tb, tn, tm, htn, hfit, htm, hPx⟩ := id hG
  refine kc0 (fun _ q => q) (va_runV (As := [.int (iZ (bZ (!decide (fx xs (i + 1) = 0))))]) (rest := []) ⟨hx, hb, hml, hown, hts⟩ (c_X1_edge l dC dI dA k q σ _ hG hOK (!decide (fx xs (i + 1) = 0)) ) (cwV 1 hts (kg_V mw115 mw116 mw117 mw42 rfl mw118) rfl rfl rfl hdV_X1_edge ⟨Nat.le_of_ble_eq_true rfl, Nat.le_of_ble_eq_true rfl⟩) ⟨fun a U g mk q => ⟨q.1, q.2.1, kM_call q.2.2⟩, va_recv hM.1 hPx (ci := 4) (q0 := 0) rfl rfl, fun U hU hW => ⟨rfl, hU, kM_kept hM hS hN hU hW⟩⟩ rfl rfl hl.1 rfl (lv_room (Nat.le_of_ble_eq_true rfl)) dL_law_4362 ⟨kroomC (by omega), kroomS (by omega)⟩) ?_
  have hG1 := hG
  have hO1 := hO0
  have hY1 := hY
  have h8 : kOK8 σ σ := ⟨hOK, rfl⟩
  have hkH1 := hkH
  refine lv_aload_n hx hb dL_law_4365 rfl (lv_at hl 2 rfl) ?_
  refine lv_aload_n hx hb dL_law_4366 rfl (lv_at hl 4 rfl) ?_
  refine lv_iload hx hb dL_law_4367 (lv_at hl 0 rfl) ?_
  refine lv_iconst (v := iZ 1) hx hb dL_law_4369 rfl ?_
  refine kz_iadd hx hb dL_law_4370 ?_
  refine kz_sld hx hb hX hbl hbA hS (by omega) hL5 dL_law_4371 ?_
  refine kz_b2i hx hb (fx_rng _ _) dL_law_4372 dL_law_4375 dL_law_4376 dL_law_4379 ?_
  refine kc2 (va_runV (As := [.int (iZ (bZ (!decide (fx xs (i + 1) = 0))))]) (rest := [.int (iZ (if (!decide (fx xs (i + 1) = 0)) = true then 999999999 else -999999999))]) ⟨hx, hb, hml, hown, hts⟩ (c_X3_edge l dC dI dA k m0 r σ th _ hY1 hr hOK (!decide (fx xs (i + 1) = 0)) ) (cwV 1 hts (kg_V mw1387 mw1388 mw1389 mw47 rfl mw1390) rfl rfl rfl hdV_X3_edge ⟨Nat.le_of_ble_eq_true rfl, Nat.le_of_ble_eq_true rfl⟩) ⟨fun a U g mk q => ⟨q.1, q.2.1, kM_call q.2.2⟩, va_recv hM.1 hY1 (ci := 6) (q0 := 0) rfl rfl, fun U hU hW => ⟨rfl, hU, kM_kept hM hS hN hU hW⟩⟩ rfl rfl hl.1 rfl (lv_room (Nat.le_of_ble_eq_true rfl)) dL_law_4380 ⟨kroomC (by omega), kroomS (by omega)⟩) hS (fun a _ h => kAy_N hr hkH1 a h) (fun a h => kAy_N hr hkH1 a h) (fun H2 locs hC2 hy8 hk8 hS => ?_)
  obtain ⟨r2, hI2, hO2⟩ := LI_step hI hG1 hO1 hC2 hk8 h8
  refine kz_icmp_same (tgt := 4485) hx hb (show (if (!decide (fx xs (i + 1) = 0)) = true then 999999999 else -999999999) = (if ex2 (false) (false) = 0 then (if (!decide (fx xs (i + 1) = 0)) = true then 999999999 else -999999999) else 0) from rfl) dL_law_4383 (by decide) ?_
  refine W.widen (k := cs + 600) (n := ss + 4000) (by omega) (by omega) ?_
  exact kk r2 _ _ _ _ _ hI2 hS (by have h9 := h8.2; omega) (lv_sub hl [0, 1, 2, 3, 4] rfl)

set_option maxHeartbeats 4000000 in
set_option maxRecDepth 100000 in
theorem lc_51 {p : Program} {l : Launch} {e : Env} {s : State} {m : MethodId} {below : List Frame} {meth : Method} {c : Code} {Q : State → Prop} {b L : Nat} {xs : Nat → Int32} {dC : Nat → ClassId} {dI : Nat → Nat → Nat} {dA : Nat → ClassId} {k : Nat → Nat} (hst : l.stackTraces = false) (F : kF p s m meth c b L xs dC dI dA k)
    {q : Nat → Nat} {m0 : Nat} {r : Nat → Nat → Nat} {o : Nat} {σ : Nat → Nat → Int} {th : Int} {H : Heap} {locs : List Loc} {cs ss : Nat} {i : Int} {ls : Array Slot} (hI : LI dC dI dA k q m0 r o σ th H) (hS : va_S (kN0 k) s.heap H locs) (hi : 0 ≤ i ∧ i + 5 ≤ (L : Int)) (hcs : cs + 600 ≤ 707594) (hss : ss + 4000 ≤ 6979453) (h80 : 0 ≤ σ 8 0 ∧ σ 8 0 ≤ 100000) (hl : lv_has ls 7 [(4, .int (iZ i)), (3, .ref o), (2, .ref m0), (1, .ref (q 0)), (0, .ref b)])
    (kk : ∀ (r' : Nat → Nat → Nat) (σ' : Nat → Nat → Int) (th' : Int) (H' : Heap) (locs' : List Loc) (ls' : Array Slot), LI dC dI dA k q m0 r' o σ' th' H' → va_S (kN0 k) s.heap H' locs' → σ 8 0 ≤ σ' 8 0 ∧ σ' 8 0 ≤ σ 8 0 + 1 → lv_has ls' 7 [(4, .int (iZ i)), (3, .ref o), (2, .ref m0), (1, .ref (q 0)), (0, .ref b)] → W p l e room_1 s m #[Value.ref b] below meth c H' locs' (cs + 600) (ss + 4000) Q (F0 m 4485 ls' [])) :
    W p l e room_1 s m #[Value.ref b] below meth c H locs cs ss Q (F0 m 43 ls [.int (iZ 51)]) := by
  obtain ⟨hx, hb, hr9, hml, hown, hts, hX, hbl, hL5, hMJ, hL, hk0, hlocks⟩ := F
  obtain ⟨hG, hOK, hq, hY, hr, hO0, hko, ho9, h1, h2⟩ := id hI
  obtain ⟨sn, sv, -, hO⟩ := id hO0
  have hM := hMJ.1
  have hbA : ¬ kN0 k b := fun z => absurd (show k 0 ≤ b from z) (by omega)
  have hN : ∀ a, kN0 k a → k 0 ≤ a := fun _ h => h
  have hkH : k 0 ≤ H.size := by have := hS.1; omega
  refine lv_tableIn (tgt := 4388) (off := 4345) hx hb dL_law_43 (by rw [iZ_toInt (z := 51) (by omega)]; omega) (by rw [iZ_toInt (z := 51) (by omega)]; omega) (by rw [iZ_toInt (z := 51) (by omega)]; rfl) (by decide) ?_
  refine lv_aload_n hx hb dL_law_4388 rfl (lv_at hl 3 rfl) ?_
  obtain ⟨tb, tn, tm, htn, hfit, htm, hPx⟩ := id hG
  refine kc2 (va_runV (As := []) (rest := []) ⟨hx, hb, hml, hown, hts⟩ (kMet_noX (c_X1_knock l hst dC dI dA k q σ _ hG hOK hq) (fun E h => by rcases h with ⟨h, -⟩ | ⟨h, -⟩ <;> exact absurd h (by decide))) (cwV 0 hts (kg_V mw121 mw122 mw123 mw42 rfl mw124) rfl rfl rfl hdV_X1_knock ⟨Nat.le_of_ble_eq_true rfl, Nat.le_of_ble_eq_true rfl⟩) ⟨fun a U g mk q => ⟨q.1, q.2.1, kM_call q.2.2⟩, va_recv hM.1 hPx (ci := 4) (q0 := 0) rfl rfl, fun U hU hW => ⟨rfl, hU, kM_kept hM hS hN hU hW⟩⟩ rfl rfl hl.1 rfl (lv_room (Nat.le_of_ble_eq_true rfl)) dL_law_4389 ⟨kroomC (by omega), kroomS (by omega)⟩) hS (fun a _ h => kA_N hq hkH a h) (fun a h => kA_N hq hkH a h) (fun H1 locs hG1 hy9 hk9 hS => ?_)
  have hno : o < H.size → ¬ kA q H.size o := fun h z => z.elim (fun ⟨i, hi, e9⟩ => ho9 i hi e9.symm) (fun y => absurd h (Nat.not_lt.mpr y))
  have hO1 := gO_kept hO0 (H1 := H1) (fun h => hk9 _ h (hno h))
  have hY1 := kY_keptO (q := q) (o := o) hY (fun a h z => hk9 a h (fun y => z (Or.inl y))) h1 h2
  have hG1 : gX dC dI dA q (if ex2 (false) (false) = 0 then (sU σ 8 0 (σ 8 0 + 1)) else σ) H1 := hG1
  have hkH1 : k 0 ≤ H1.size := Nat.le_trans hkH hy9
  refine lv_aload_n hx hb dL_law_4392 rfl (lv_at hl 2 rfl) ?_
  refine kc2 (va_runV (As := []) (rest := [.int (iZ (σ 8 0 + 1))]) ⟨hx, hb, hml, hown, hts⟩ (c_X3_knock l dC dI dA k m0 r σ th _ hY1 hr hOK  ) (cwV 0 hts (kg_V mw1393 mw1394 mw1395 mw47 rfl mw1396) rfl rfl rfl hdV_X3_knock ⟨Nat.le_of_ble_eq_true rfl, Nat.le_of_ble_eq_true rfl⟩) ⟨fun a U g mk q => ⟨q.1, q.2.1, kM_call q.2.2⟩, va_recv hM.1 hY1 (ci := 6) (q0 := 0) rfl rfl, fun U hU hW => ⟨rfl, hU, kM_kept hM hS hN hU hW⟩⟩ rfl rfl hl.1 rfl (lv_room (Nat.le_of_ble_eq_true rfl)) dL_law_4393 ⟨kroomC (by omega), kroomS (by omega)⟩) hS (fun a _ h => kAy_N hr hkH1 a h) (fun a h => kAy_N hr hkH1 a h) (fun H2 locs hC2 hy8 hk8 hS => ?_)
  have h8 : kOK8 σ σ := ⟨hOK, rfl⟩
  obtain ⟨r2, hI2, hO2⟩ := LI_step8 hI hG1 hO1 hC2 hk8 (show kOK (sU σ 8 0 (σ 8 0 + 1)) from kOK_knock hOK)
  refine kz_icmp_same (tgt := 4485) hx hb (show (σ 8 0 + 1) = (if ex2 (false) (false) = 0 then (σ 8 0 + 1) else 0) from rfl) dL_law_4396 (by decide) ?_
  refine W.widen (k := cs + 600) (n := ss + 4000) (by omega) (by omega) ?_
  have e9 : (sU σ 8 0 (σ 8 0 + 1)) 8 0 = σ 8 0 + 1 := by simp [sU]
  exact kk r2 _ _ _ _ _ hI2 hS ⟨Int.le_trans (show σ 8 0 ≤ σ 8 0 + 1 by omega) (Int.le_of_eq e9.symm), Int.le_of_eq e9⟩ (lv_sub hl [0, 1, 2, 3, 4] rfl)

set_option maxHeartbeats 4000000 in
set_option maxRecDepth 100000 in
theorem lc_52 {p : Program} {l : Launch} {e : Env} {s : State} {m : MethodId} {below : List Frame} {meth : Method} {c : Code} {Q : State → Prop} {b L : Nat} {xs : Nat → Int32} {dC : Nat → ClassId} {dI : Nat → Nat → Nat} {dA : Nat → ClassId} {k : Nat → Nat} (hst : l.stackTraces = false) (F : kF p s m meth c b L xs dC dI dA k)
    {q : Nat → Nat} {m0 : Nat} {r : Nat → Nat → Nat} {o : Nat} {σ : Nat → Nat → Int} {th : Int} {H : Heap} {locs : List Loc} {cs ss : Nat} {i : Int} {ls : Array Slot} (hI : LI dC dI dA k q m0 r o σ th H) (hS : va_S (kN0 k) s.heap H locs) (hi : 0 ≤ i ∧ i + 5 ≤ (L : Int)) (hcs : cs + 600 ≤ 707594) (hss : ss + 4000 ≤ 6979453) (h80 : 0 ≤ σ 8 0 ∧ σ 8 0 ≤ 100000) (hl : lv_has ls 7 [(4, .int (iZ i)), (3, .ref o), (2, .ref m0), (1, .ref (q 0)), (0, .ref b)])
    (kk : ∀ (r' : Nat → Nat → Nat) (σ' : Nat → Nat → Int) (th' : Int) (H' : Heap) (locs' : List Loc) (ls' : Array Slot), LI dC dI dA k q m0 r' o σ' th' H' → va_S (kN0 k) s.heap H' locs' → σ 8 0 ≤ σ' 8 0 ∧ σ' 8 0 ≤ σ 8 0 + 1 → lv_has ls' 7 [(4, .int (iZ i)), (3, .ref o), (2, .ref m0), (1, .ref (q 0)), (0, .ref b)] → W p l e room_1 s m #[Value.ref b] below meth c H' locs' (cs + 600) (ss + 4000) Q (F0 m 4485 ls' [])) :
    W p l e room_1 s m #[Value.ref b] below meth c H locs cs ss Q (F0 m 43 ls [.int (iZ 52)]) := by
  obtain ⟨hx, hb, hr9, hml, hown, hts, hX, hbl, hL5, hMJ, hL, hk0, hlocks⟩ := F
  obtain ⟨hG, hOK, hq, hY, hr, hO0, hko, ho9, h1, h2⟩ := id hI
  obtain ⟨sn, sv, -, hO⟩ := id hO0
  have hM := hMJ.1
  have hbA : ¬ kN0 k b := fun z => absurd (show k 0 ≤ b from z) (by omega)
  have hN : ∀ a, kN0 k a → k 0 ≤ a := fun _ h => h
  have hkH : k 0 ≤ H.size := by have := hS.1; omega
  refine lv_tableIn (tgt := 4401) (off := 4358) hx hb dL_law_43 (by rw [iZ_toInt (z := 52) (by omega)]; omega) (by rw [iZ_toInt (z := 52) (by omega)]; omega) (by rw [iZ_toInt (z := 52) (by omega)]; rfl) (by decide) ?_
  refine lv_aload_n hx hb dL_law_4401 rfl (lv_at hl 3 rfl) ?_
  refine lv_aload_n hx hb dL_law_4402 rfl (lv_at hl 4 rfl) ?_
  refine lv_iload hx hb dL_law_4403 (lv_at hl 0 rfl) ?_
  refine lv_iconst (v := iZ 1) hx hb dL_law_4405 rfl ?_
  refine kz_iadd hx hb dL_law_4406 ?_
  refine kz_sld hx hb hX hbl hbA hS (by omega) hL5 dL_law_4407 ?_
  refine lv_aload_n hx hb dL_law_4408 rfl (lv_at hl 1 rfl) ?_
  refine kc2 (vx_runSW (As := [.ref (q 0), .int (iZ (fx xs (i + 1))), .ref o]) (rest := []) ⟨hx, hb, hml, hown, hts⟩ (c_L_house l hst dC dI dA k q σ _ hG hOK hq o sn sv hO hko ho9 ((fx xs (i + 1))) (fx_rng _ _)) (vx_cwSW 3 hts (kg_S mw996 mw997 mw41 rfl mw998) rfl rfl rfl hdS_L_house ⟨Nat.le_of_ble_eq_true rfl, Nat.le_of_ble_eq_true rfl⟩) ⟨fun a U g mk q => ⟨q.1, q.2.1, kMJ_call q.2.2.1, kL_call q.2.2.2⟩, fun U hU hW => ⟨rfl, hU, kMJ_kept hMJ hS hN hU hW, kL_warm hL hW⟩⟩ rfl rfl hl.1 rfl (lv_room (Nat.le_of_ble_eq_true rfl)) dL_law_4409 ⟨kroomC (by omega), kroomS (by omega)⟩) hS (fun a _ h => kAO_N hq hko hkH a h) (fun a h => kAO_N hq hko hkH a h) (fun H1 locs hC hy9 hk9 hS => ?_)
  obtain ⟨hG1, hO1⟩ := hC
  have hY1 := kY_keptO hY hk9 h1 h2
  have hG1 := gX_cast hG1 (kif_same _)
  have h8 : kOK8 σ σ := ⟨hOK, rfl⟩
  have hkH1 : k 0 ≤ H1.size := Nat.le_trans hkH hy9
  clear hk9
  refine lv_istore (lv' := [(5, .int (iZ (ex2 (!inb (fx xs (i + 1)) 0 4) (false)))), (4, .int (iZ i)), (3, .ref o), (2, .ref m0), (1, .ref (q 0)), (0, .ref b)]) hx hb dL_law_4412 hl (by decide) rfl (fun ls hl => ?_)
  refine lv_aload_n hx hb dL_law_4414 rfl (lv_at hl 3 rfl) ?_
  refine lv_aload_n hx hb dL_law_4415 rfl (lv_at hl 5 rfl) ?_
  refine lv_iload hx hb dL_law_4416 (lv_at hl 1 rfl) ?_
  refine lv_iconst (v := iZ 1) hx hb dL_law_4418 rfl ?_
  refine kz_iadd hx hb dL_law_4419 ?_
  refine kz_sld hx hb hX hbl hbA hS (by omega) hL5 dL_law_4420 ?_
  refine kc2 (va_runV (As := [.int (iZ (fx xs (i + 1)))]) (rest := []) ⟨hx, hb, hml, hown, hts⟩ (c_X3_house l dC dI dA k m0 r σ th _ hY1 hr hOK ((fx xs (i + 1))) (fx_rng _ _)) (cwV 1 hts (kg_V mw1397 mw1398 mw1399 mw47 rfl mw1400) rfl rfl rfl hdV_X3_house ⟨Nat.le_of_ble_eq_true rfl, Nat.le_of_ble_eq_true rfl⟩) ⟨fun a U g mk q => ⟨q.1, q.2.1, kM_call q.2.2⟩, va_recv hM.1 hY1 (ci := 6) (q0 := 0) rfl rfl, fun U hU hW => ⟨rfl, hU, kM_kept hM hS hN hU hW⟩⟩ rfl rfl hl.1 rfl (lv_room (Nat.le_of_ble_eq_true rfl)) dL_law_4421 ⟨kroomC (by omega), kroomS (by omega)⟩) hS (fun a _ h => kAy_N hr hkH1 a h) (fun a h => kAy_N hr hkH1 a h) (fun H2 locs hC2 hy8 hk8 hS => ?_)
  obtain ⟨r2, hI2, hO2⟩ := LI_step hI hG1 hO1 hC2 hk8 h8
  refine lv_istore (lv' := [(6, .int (iZ (if ex2 (!inb (fx xs (i + 1)) 0 4) (false) = 0 then (hsR σ (fx xs (i + 1))) else 0))), (5, .int (iZ (ex2 (!inb (fx xs (i + 1)) 0 4) (false)))), (4, .int (iZ i)), (3, .ref o), (2, .ref m0), (1, .ref (q 0)), (0, .ref b)]) hx hb dL_law_4424 hl (by decide) rfl (fun ls hl => ?_)
  refine lv_aload_n hx hb dL_law_4426 rfl (lv_at hl 4 rfl) ?_
  obtain ⟨hG2, hOK2, hq2, hY2, hr2, -⟩ := id hI2
  refine kc0 (fun _ q => q) (va_runV (As := []) (rest := []) ⟨hx, hb, hml, hown, hts⟩ (c_X3_thrown l dC dI dA k m0 r2 _ _ _ hY2 hr2 hOK2) (cwV 0 hts (kg_V mw1013 mw1014 mw1015 mw47 rfl mw1016) rfl rfl rfl hdV_X3_thrown ⟨Nat.le_of_ble_eq_true rfl, Nat.le_of_ble_eq_true rfl⟩) ⟨fun a U g mk q => ⟨q.1, q.2.1, kM_call q.2.2⟩, va_recv hM.1 hY2 (ci := 6) (q0 := 0) rfl rfl, fun U hU hW => ⟨rfl, hU, kM_kept hM hS hN hU hW⟩⟩ rfl rfl hl.1 rfl (lv_room (Nat.le_of_ble_eq_true rfl)) dL_law_4427 ⟨kroomC (by omega), kroomS (by omega)⟩) ?_
  refine lv_iload hx hb dL_law_4430 (lv_at hl 1 rfl) ?_
  refine kz_icmp_eq (tgt := 4437) hx hb (ex2_rng _ _) (ex2_rng _ _) dL_law_4432 (by decide) (fun c_1 => ?_) (fun c_1 => absurd rfl c_1)
  refine lv_iload hx hb dL_law_4437 (lv_at hl 1 rfl) ?_
  refine kz_if_ne (tgt := 4455) hx hb (ex2_rng _ _) dL_law_4439 (by decide) (fun c_2 => ?_) (fun c_2 => ?_)
  · refine lv_goto (tgt := 4485) hx hb dL_law_4455 (by decide) ?_
    refine W.widen (k := cs + 600) (n := ss + 4000) (by omega) (by omega) ?_
    exact kk r2 _ _ _ _ _ hI2 hS (by have h9 := h8.2; omega) (lv_sub hl [2, 3, 4, 5, 6] rfl)
  · refine lv_aload_n hx hb dL_law_4442 rfl (lv_at hl 3 rfl) ?_
    obtain ⟨nv, vv, hn, hPn⟩ := hO2
    have hn := hn c_2
    subst hn
    refine va_getN (D := (dC, dI)) (ci := 5) (v := .long (lZ (w32 (hsR σ (fx xs (i + 1)))))) (C := RX2) (T := TX2) (N := 2) hx hb hts (fun w h => List.mem_cons_of_mem _ (gF_1_in h)) hown hM.1 hPn 0 rfl rfl 0 (by decide) (va_Nw.use rfl hL.1) (fun _ h9 => h9) rfl dL_law_4443 ?_
    refine lv_iload hx hb dL_law_4446 (lv_at hl 0 rfl) ?_
    refine kz_w32 ?_
    refine kz_i2l hx hb (w32_rng _) dL_law_4448 ?_
    refine kz_lcmp_eq (tgt := 4455) hx hb (by first | exact w32_lrng _ | exact bZ_lrng _) (by first | exact w32_lrng _ | exact bZ_lrng _) dL_law_4449 dL_law_4450 (by decide) (fun c_3 => ?_) (fun c_3 => absurd (by first | rw [if_pos c_2] | exact congrArg bZ (by rw [decide_eq_true c_2, Bool.true_and]) | (rw [decide_eq_true c_2]; rfl) | (simp [c_2]; done)) c_3)
    refine lv_goto (tgt := 4485) hx hb dL_law_4455 (by decide) ?_
    refine W.widen (k := cs + 600) (n := ss + 4000) (by omega) (by omega) ?_
    exact kk r2 _ _ _ _ _ hI2 hS (by have h9 := h8.2; omega) (lv_sub hl [2, 3, 4, 5, 6] rfl)

set_option maxHeartbeats 4000000 in
set_option maxRecDepth 100000 in
theorem lc_53 {p : Program} {l : Launch} {e : Env} {s : State} {m : MethodId} {below : List Frame} {meth : Method} {c : Code} {Q : State → Prop} {b L : Nat} {xs : Nat → Int32} {dC : Nat → ClassId} {dI : Nat → Nat → Nat} {dA : Nat → ClassId} {k : Nat → Nat} (hst : l.stackTraces = false) (F : kF p s m meth c b L xs dC dI dA k)
    {q : Nat → Nat} {m0 : Nat} {r : Nat → Nat → Nat} {o : Nat} {σ : Nat → Nat → Int} {th : Int} {H : Heap} {locs : List Loc} {cs ss : Nat} {i : Int} {ls : Array Slot} (hI : LI dC dI dA k q m0 r o σ th H) (hS : va_S (kN0 k) s.heap H locs) (hi : 0 ≤ i ∧ i + 5 ≤ (L : Int)) (hcs : cs + 600 ≤ 707594) (hss : ss + 4000 ≤ 6979453) (h80 : 0 ≤ σ 8 0 ∧ σ 8 0 ≤ 100000) (hl : lv_has ls 7 [(4, .int (iZ i)), (3, .ref o), (2, .ref m0), (1, .ref (q 0)), (0, .ref b)])
    (kk : ∀ (r' : Nat → Nat → Nat) (σ' : Nat → Nat → Int) (th' : Int) (H' : Heap) (locs' : List Loc) (ls' : Array Slot), LI dC dI dA k q m0 r' o σ' th' H' → va_S (kN0 k) s.heap H' locs' → σ 8 0 ≤ σ' 8 0 ∧ σ' 8 0 ≤ σ 8 0 + 1 → lv_has ls' 7 [(4, .int (iZ i)), (3, .ref o), (2, .ref m0), (1, .ref (q 0)), (0, .ref b)] → W p l e room_1 s m #[Value.ref b] below meth c H' locs' (cs + 600) (ss + 4000) Q (F0 m 4485 ls' [])) :
    W p l e room_1 s m #[Value.ref b] below meth c H locs cs ss Q (F0 m 43 ls [.int (iZ 53)]) := by
  obtain ⟨hx, hb, hr9, hml, hown, hts, hX, hbl, hL5, hMJ, hL, hk0, hlocks⟩ := F
  obtain ⟨hG, hOK, hq, hY, hr, hO0, hko, ho9, h1, h2⟩ := id hI
  obtain ⟨sn, sv, -, hO⟩ := id hO0
  have hM := hMJ.1
  have hbA : ¬ kN0 k b := fun z => absurd (show k 0 ≤ b from z) (by omega)
  have hN : ∀ a, kN0 k a → k 0 ≤ a := fun _ h => h
  have hkH : k 0 ≤ H.size := by have := hS.1; omega
  refine lv_tableIn (tgt := 4458) (off := 4415) hx hb dL_law_43 (by rw [iZ_toInt (z := 53) (by omega)]; omega) (by rw [iZ_toInt (z := 53) (by omega)]; omega) (by rw [iZ_toInt (z := 53) (by omega)]; rfl) (by decide) ?_
  refine lv_aload_n hx hb dL_law_4458 rfl (lv_at hl 3 rfl) ?_
  obtain ⟨tb, tn, tm, htn, hfit, htm, hPx⟩ := id hG
  refine kc0 (fun _ q => q) (va_runV (As := []) (rest := []) ⟨hx, hb, hml, hown, hts⟩ (c_X1_isSound l dC dI dA k q σ _ hG hOK  ) (cwV 0 hts (kg_V mw125 mw126 mw127 mw42 rfl mw128) rfl rfl rfl hdV_X1_isSound ⟨Nat.le_of_ble_eq_true rfl, Nat.le_of_ble_eq_true rfl⟩) ⟨fun a U g mk q => ⟨q.1, q.2.1, kM_call q.2.2⟩, va_recv hM.1 hPx (ci := 4) (q0 := 0) rfl rfl, fun U hU hW => ⟨rfl, hU, kM_kept hM hS hN hU hW⟩⟩ rfl rfl hl.1 rfl (lv_room (Nat.le_of_ble_eq_true rfl)) dL_law_4459 ⟨kroomC (by omega), kroomS (by omega)⟩) ?_
  have hG1 := hG
  have hO1 := hO0
  have hY1 := hY
  have h8 : kOK8 σ σ := ⟨hOK, rfl⟩
  have hkH1 := hkH
  refine lv_aload_n hx hb dL_law_4462 rfl (lv_at hl 2 rfl) ?_
  refine kc2 (va_runV (As := []) (rest := [.int (iZ (bZ (true)))]) ⟨hx, hb, hml, hown, hts⟩ (c_X3_isSound l dC dI dA k m0 r σ th _ hY1 hr hOK  ) (cwV 0 hts (kg_V mw1404 mw1405 mw1406 mw47 rfl mw1407) rfl rfl rfl hdV_X3_isSound ⟨Nat.le_of_ble_eq_true rfl, Nat.le_of_ble_eq_true rfl⟩) ⟨fun a U g mk q => ⟨q.1, q.2.1, kM_call q.2.2⟩, va_recv hM.1 hY1 (ci := 6) (q0 := 0) rfl rfl, fun U hU hW => ⟨rfl, hU, kM_kept hM hS hN hU hW⟩⟩ rfl rfl hl.1 rfl (lv_room (Nat.le_of_ble_eq_true rfl)) dL_law_4463 ⟨kroomC (by omega), kroomS (by omega)⟩) hS (fun a _ h => kAy_N hr hkH1 a h) (fun a h => kAy_N hr hkH1 a h) (fun H2 locs hC2 hy8 hk8 hS => ?_)
  obtain ⟨r2, hI2, hO2⟩ := LI_step hI hG1 hO1 hC2 hk8 h8
  refine kz_icmp_same (tgt := 4485) hx hb (show (bZ (true)) = (bZ (decide (ex2 (false) (false) = 0) && (true))) from rfl) dL_law_4466 (by decide) ?_
  refine W.widen (k := cs + 600) (n := ss + 4000) (by omega) (by omega) ?_
  exact kk r2 _ _ _ _ _ hI2 hS (by have h9 := h8.2; omega) (lv_sub hl [0, 1, 2, 3, 4] rfl)

set_option maxHeartbeats 4000000 in
set_option maxRecDepth 100000 in
theorem lc_54 {p : Program} {l : Launch} {e : Env} {s : State} {m : MethodId} {below : List Frame} {meth : Method} {c : Code} {Q : State → Prop} {b L : Nat} {xs : Nat → Int32} {dC : Nat → ClassId} {dI : Nat → Nat → Nat} {dA : Nat → ClassId} {k : Nat → Nat} (hst : l.stackTraces = false) (F : kF p s m meth c b L xs dC dI dA k)
    {q : Nat → Nat} {m0 : Nat} {r : Nat → Nat → Nat} {o : Nat} {σ : Nat → Nat → Int} {th : Int} {H : Heap} {locs : List Loc} {cs ss : Nat} {i : Int} {ls : Array Slot} (hI : LI dC dI dA k q m0 r o σ th H) (hS : va_S (kN0 k) s.heap H locs) (hi : 0 ≤ i ∧ i + 5 ≤ (L : Int)) (hcs : cs + 600 ≤ 707594) (hss : ss + 4000 ≤ 6979453) (h80 : 0 ≤ σ 8 0 ∧ σ 8 0 ≤ 100000) (hl : lv_has ls 7 [(4, .int (iZ i)), (3, .ref o), (2, .ref m0), (1, .ref (q 0)), (0, .ref b)])
    (kk : ∀ (r' : Nat → Nat → Nat) (σ' : Nat → Nat → Int) (th' : Int) (H' : Heap) (locs' : List Loc) (ls' : Array Slot), LI dC dI dA k q m0 r' o σ' th' H' → va_S (kN0 k) s.heap H' locs' → σ 8 0 ≤ σ' 8 0 ∧ σ' 8 0 ≤ σ 8 0 + 1 → lv_has ls' 7 [(4, .int (iZ i)), (3, .ref o), (2, .ref m0), (1, .ref (q 0)), (0, .ref b)] → W p l e room_1 s m #[Value.ref b] below meth c H' locs' (cs + 600) (ss + 4000) Q (F0 m 4485 ls' [])) :
    W p l e room_1 s m #[Value.ref b] below meth c H locs cs ss Q (F0 m 43 ls [.int (iZ 54)]) := by
  obtain ⟨hx, hb, hr9, hml, hown, hts, hX, hbl, hL5, hMJ, hL, hk0, hlocks⟩ := F
  obtain ⟨hG, hOK, hq, hY, hr, hO0, hko, ho9, h1, h2⟩ := id hI
  obtain ⟨sn, sv, -, hO⟩ := id hO0
  have hM := hMJ.1
  have hbA : ¬ kN0 k b := fun z => absurd (show k 0 ≤ b from z) (by omega)
  have hN : ∀ a, kN0 k a → k 0 ≤ a := fun _ h => h
  have hkH : k 0 ≤ H.size := by have := hS.1; omega
  refine lv_tableIn (tgt := 4471) (off := 4428) hx hb dL_law_43 (by rw [iZ_toInt (z := 54) (by omega)]; omega) (by rw [iZ_toInt (z := 54) (by omega)]; omega) (by rw [iZ_toInt (z := 54) (by omega)]; rfl) (by decide) ?_
  refine lv_aload_n hx hb dL_law_4471 rfl (lv_at hl 3 rfl) ?_
  obtain ⟨tb, tn, tm, htn, hfit, htm, hPx⟩ := id hG
  refine kc2 (va_runV (As := []) (rest := []) ⟨hx, hb, hml, hown, hts⟩ (c_X1_digest l hst dC dI dA k q σ _ hG hOK hq ⟨by omega, by omega⟩) (cwV 0 hts (kg_V mw211 mw212 mw213 mw42 rfl mw214) rfl rfl rfl hdV_X1_digest ⟨Nat.le_of_ble_eq_true rfl, Nat.le_of_ble_eq_true rfl⟩) ⟨fun a U g mk q => ⟨q.1, q.2.1, kMJ_call q.2.2⟩, va_recv hM.1 hPx (ci := 4) (q0 := 0) rfl rfl, fun U hU hW => ⟨rfl, hU, kMJ_kept hMJ hS hN hU hW⟩⟩ rfl rfl hl.1 rfl (lv_room (Nat.le_of_ble_eq_true rfl)) dL_law_4472 ⟨kroomC (by omega), kroomS (by omega)⟩) hS (fun a _ h => kA_N hq hkH a h) (fun a h => kA_N hq hkH a h) (fun H1 locs hG1 hy9 hk9 hS => ?_)
  have hno : o < H.size → ¬ kA q H.size o := fun h z => z.elim (fun ⟨i, hi, e9⟩ => ho9 i hi e9.symm) (fun y => absurd h (Nat.not_lt.mpr y))
  have hO1 := gO_kept hO0 (H1 := H1) (fun h => hk9 _ h (hno h))
  have hY1 := kY_keptO (q := q) (o := o) hY (fun a h z => hk9 a h (fun y => z (Or.inl y))) h1 h2
  have h8 : kOK8 σ σ := ⟨hOK, rfl⟩
  have hkH1 : k 0 ≤ H1.size := Nat.le_trans hkH hy9
  refine lv_aload_n hx hb dL_law_4475 rfl (lv_at hl 2 rfl) ?_
  refine kc2 (va_runV (As := []) (rest := [.long (lZ (dig σ))]) ⟨hx, hb, hml, hown, hts⟩ (c_X3_digest l dC dI dA k m0 r σ th _ hY1 hr hOK  ⟨by omega, by omega⟩) (cwV 0 hts (kg_V mw1408 mw1409 mw1410 mw47 rfl mw1411) rfl rfl rfl hdV_X3_digest ⟨Nat.le_of_ble_eq_true rfl, Nat.le_of_ble_eq_true rfl⟩) ⟨fun a U g mk q => ⟨q.1, q.2.1, kMJ_call q.2.2⟩, va_recv hM.1 hY1 (ci := 6) (q0 := 0) rfl rfl, fun U hU hW => ⟨rfl, hU, kMJ_kept hMJ hS hN hU hW⟩⟩ rfl rfl hl.1 rfl (lv_room (Nat.le_of_ble_eq_true rfl)) dL_law_4476 ⟨kroomC (by omega), kroomS (by omega)⟩) hS (fun a _ h => kAy_N hr hkH1 a h) (fun a h => kAy_N hr hkH1 a h) (fun H2 locs hC2 hy8 hk8 hS => ?_)
  have hC2 := gY_id (sz := H1.size) hr hC2
  obtain ⟨r2, hI2, hO2⟩ := LI_step hI hG1 hO1 hC2 hk8 h8
  refine kz_lcmp_same (tgt := 4485) hx hb (show (dig σ) = ((dig σ)) from rfl) dL_law_4479 dL_law_4480 (by decide) ?_
  refine W.widen (k := cs + 600) (n := ss + 4000) (by omega) (by omega) ?_
  exact kk r2 _ _ _ _ _ hI2 hS (by have h9 := h8.2; omega) (lv_sub hl [0, 1, 2, 3, 4] rfl)

