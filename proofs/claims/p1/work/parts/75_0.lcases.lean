set_option maxHeartbeats 4000000 in
set_option maxRecDepth 100000 in
theorem lc_0 {p : Program} {l : Launch} {e : Env} {s : State} {m : MethodId} {below : List Frame} {meth : Method} {c : Code} {Q : State → Prop} {b L : Nat} {xs : Nat → Int32} {dC : Nat → ClassId} {dI : Nat → Nat → Nat} {dA : Nat → ClassId} {k : Nat → Nat} (hst : l.stackTraces = false) (F : kF p s m meth c b L xs dC dI dA k)
    {q : Nat → Nat} {m0 : Nat} {r : Nat → Nat → Nat} {o : Nat} {σ : Nat → Nat → Int} {th : Int} {H : Heap} {locs : List Loc} {cs ss : Nat} {i : Int} {ls : Array Slot} (hI : LI dC dI dA k q m0 r o σ th H) (hS : va_S (kN0 k) s.heap H locs) (hi : 0 ≤ i ∧ i + 5 ≤ (L : Int)) (hcs : cs + 600 ≤ 707594) (hss : ss + 4000 ≤ 6979453) (h80 : 0 ≤ σ 8 0 ∧ σ 8 0 ≤ 100000) (hl : lv_has ls 7 [(4, .int (iZ i)), (3, .ref o), (2, .ref m0), (1, .ref (q 0)), (0, .ref b)])
    (kk : ∀ (r' : Nat → Nat → Nat) (σ' : Nat → Nat → Int) (th' : Int) (H' : Heap) (locs' : List Loc) (ls' : Array Slot), LI dC dI dA k q m0 r' o σ' th' H' → va_S (kN0 k) s.heap H' locs' → σ 8 0 ≤ σ' 8 0 ∧ σ' 8 0 ≤ σ 8 0 + 1 → lv_has ls' 7 [(4, .int (iZ i)), (3, .ref o), (2, .ref m0), (1, .ref (q 0)), (0, .ref b)] → W p l e room_1 s m #[Value.ref b] below meth c H' locs' (cs + 600) (ss + 4000) Q (F0 m 4485 ls' [])) :
    W p l e room_1 s m #[Value.ref b] below meth c H locs cs ss Q (F0 m 43 ls [.int (iZ 0)]) := by
  obtain ⟨hx, hb, hr9, hml, hown, hts, hX, hbl, hL5, hMJ, hL, hk0, hlocks⟩ := F
  obtain ⟨hG, hOK, hq, hY, hr, hO0, hko, ho9, h1, h2⟩ := id hI
  obtain ⟨sn, sv, -, hO⟩ := id hO0
  have hM := hMJ.1
  have hbA : ¬ kN0 k b := fun z => absurd (show k 0 ≤ b from z) (by omega)
  have hN : ∀ a, kN0 k a → k 0 ≤ a := fun _ h => h
  have hkH : k 0 ≤ H.size := by have := hS.1; omega
  refine lv_tableIn (tgt := 276) (off := 233) hx hb dL_law_43 (by rw [iZ_toInt (z := 0) (by omega)]; omega) (by rw [iZ_toInt (z := 0) (by omega)]; omega) (by rw [iZ_toInt (z := 0) (by omega)]; rfl) (by decide) ?_
  refine lv_aload_n hx hb dL_law_276 rfl (lv_at hl 3 rfl) ?_
  refine lv_aload_n hx hb dL_law_277 rfl (lv_at hl 4 rfl) ?_
  refine lv_iload hx hb dL_law_278 (lv_at hl 0 rfl) ?_
  refine lv_iconst (v := iZ 1) hx hb dL_law_280 rfl ?_
  refine kz_iadd hx hb dL_law_281 ?_
  refine kz_sld hx hb hX hbl hbA hS (by omega) hL5 dL_law_282 ?_
  refine lv_aload_n hx hb dL_law_283 rfl (lv_at hl 4 rfl) ?_
  refine lv_iload hx hb dL_law_284 (lv_at hl 0 rfl) ?_
  refine lv_iconst (v := iZ 2) hx hb dL_law_286 rfl ?_
  refine kz_iadd hx hb dL_law_287 ?_
  refine kz_sld hx hb hX hbl hbA hS (by omega) hL5 dL_law_288 ?_
  refine lv_aload_n hx hb dL_law_289 rfl (lv_at hl 4 rfl) ?_
  refine lv_iload hx hb dL_law_290 (lv_at hl 0 rfl) ?_
  refine lv_iconst (v := iZ 3) hx hb dL_law_292 rfl ?_
  refine kz_iadd hx hb dL_law_293 ?_
  refine kz_sld hx hb hX hbl hbA hS (by omega) hL5 dL_law_294 ?_
  refine lv_aload_n hx hb dL_law_295 rfl (lv_at hl 1 rfl) ?_
  refine kc2 (vx_runSW (As := [.ref (q 0), .int (iZ (fx xs (i + 1))), .int (iZ (fx xs (i + 2))), .int (iZ (fx xs (i + 3))), .ref o]) (rest := []) ⟨hx, hb, hml, hown, hts⟩ (c_L_leaf l hst dC dI dA k q σ _ hG hOK hq o sn sv hO hko ho9 ((fx xs (i + 1))) ((fx xs (i + 2))) ((fx xs (i + 3))) (fx_rng _ _) (fx_rng _ _) (fx_rng _ _)) (vx_cwSW 5 hts (kg_S mw601 mw602 mw41 rfl mw603) rfl rfl rfl hdS_L_leaf ⟨Nat.le_of_ble_eq_true rfl, Nat.le_of_ble_eq_true rfl⟩) ⟨fun a U g mk q => ⟨q.1, q.2.1, kMJ_call q.2.2.1, kL_call q.2.2.2⟩, fun U hU hW => ⟨rfl, hU, kMJ_kept hMJ hS hN hU hW, kL_warm hL hW⟩⟩ rfl rfl hl.1 rfl (lv_room (Nat.le_of_ble_eq_true rfl)) dL_law_296 ⟨kroomC (by omega), kroomS (by omega)⟩) hS (fun a _ h => kAO_N hq hko hkH a h) (fun a h => kAO_N hq hko hkH a h) (fun H1 locs hC hy9 hk9 hS => ?_)
  obtain ⟨hG1, hO1⟩ := hC
  have hY1 := kY_keptO hY hk9 h1 h2
  have h8 : kOK8 σ (if ex2 (!inb (fx xs (i + 1)) 0 3) (!inb (fx xs (i + 2)) (-999999999) 999999999 || !inb (fx xs (i + 3)) 1 12) = 0 then (sU (sU σ 0 (fx xs (i + 1)).toNat (fx xs (i + 2))) 1 (fx xs (i + 1)).toNat (fx xs (i + 3))) else σ) := k8_if hOK (fun h9 => k8m_leaf hOK ((fx xs (i + 1))) ((fx xs (i + 2))) ((fx xs (i + 3))) h9)
  have hkH1 : k 0 ≤ H1.size := Nat.le_trans hkH hy9
  clear hk9
  refine lv_istore (lv' := [(5, .int (iZ (ex2 (!inb (fx xs (i + 1)) 0 3) (!inb (fx xs (i + 2)) (-999999999) 999999999 || !inb (fx xs (i + 3)) 1 12)))), (4, .int (iZ i)), (3, .ref o), (2, .ref m0), (1, .ref (q 0)), (0, .ref b)]) hx hb dL_law_299 hl (by decide) rfl (fun ls hl => ?_)
  refine lv_aload_n hx hb dL_law_301 rfl (lv_at hl 3 rfl) ?_
  refine lv_aload_n hx hb dL_law_302 rfl (lv_at hl 5 rfl) ?_
  refine lv_iload hx hb dL_law_303 (lv_at hl 1 rfl) ?_
  refine lv_iconst (v := iZ 1) hx hb dL_law_305 rfl ?_
  refine kz_iadd hx hb dL_law_306 ?_
  refine kz_sld hx hb hX hbl hbA hS (by omega) hL5 dL_law_307 ?_
  refine lv_aload_n hx hb dL_law_308 rfl (lv_at hl 5 rfl) ?_
  refine lv_iload hx hb dL_law_309 (lv_at hl 1 rfl) ?_
  refine lv_iconst (v := iZ 2) hx hb dL_law_311 rfl ?_
  refine kz_iadd hx hb dL_law_312 ?_
  refine kz_sld hx hb hX hbl hbA hS (by omega) hL5 dL_law_313 ?_
  refine lv_aload_n hx hb dL_law_314 rfl (lv_at hl 5 rfl) ?_
  refine lv_iload hx hb dL_law_315 (lv_at hl 1 rfl) ?_
  refine lv_iconst (v := iZ 3) hx hb dL_law_317 rfl ?_
  refine kz_iadd hx hb dL_law_318 ?_
  refine kz_sld hx hb hX hbl hbA hS (by omega) hL5 dL_law_319 ?_
  refine kc2 (va_runV (As := [.int (iZ (fx xs (i + 1))), .int (iZ (fx xs (i + 2))), .int (iZ (fx xs (i + 3)))]) (rest := []) ⟨hx, hb, hml, hown, hts⟩ (c_X3_leaf l dC dI dA k m0 r σ th _ hY1 hr hOK ((fx xs (i + 1))) ((fx xs (i + 2))) ((fx xs (i + 3))) (fx_rng _ _) (fx_rng _ _) (fx_rng _ _)) (cwV 3 hts (kg_V mw1017 mw1018 mw1019 mw47 rfl mw1020) rfl rfl rfl hdV_X3_leaf ⟨Nat.le_of_ble_eq_true rfl, Nat.le_of_ble_eq_true rfl⟩) ⟨fun a U g mk q => ⟨q.1, q.2.1, kM_call q.2.2⟩, va_recv hM.1 hY1 (ci := 6) (q0 := 0) rfl rfl, fun U hU hW => ⟨rfl, hU, kM_kept hM hS hN hU hW⟩⟩ rfl rfl hl.1 rfl (lv_room (Nat.le_of_ble_eq_true rfl)) dL_law_320 ⟨kroomC (by omega), kroomS (by omega)⟩) hS (fun a _ h => kAy_N hr hkH1 a h) (fun a h => kAy_N hr hkH1 a h) (fun H2 locs hC2 hy8 hk8 hS => ?_)
  obtain ⟨r2, hI2, hO2⟩ := LI_step hI hG1 hO1 hC2 hk8 h8
  refine lv_istore (lv' := [(6, .int (iZ (if ex2 (!inb (fx xs (i + 1)) 0 3) (!inb (fx xs (i + 2)) (-999999999) 999999999 || !inb (fx xs (i + 3)) 1 12) = 0 then (mlen (leap (fx xs (i + 2))) (fx xs (i + 3))) else 0))), (5, .int (iZ (ex2 (!inb (fx xs (i + 1)) 0 3) (!inb (fx xs (i + 2)) (-999999999) 999999999 || !inb (fx xs (i + 3)) 1 12)))), (4, .int (iZ i)), (3, .ref o), (2, .ref m0), (1, .ref (q 0)), (0, .ref b)]) hx hb dL_law_323 hl (by decide) rfl (fun ls hl => ?_)
  refine lv_aload_n hx hb dL_law_325 rfl (lv_at hl 4 rfl) ?_
  obtain ⟨hG2, hOK2, hq2, hY2, hr2, -⟩ := id hI2
  refine kc0 (fun _ q => q) (va_runV (As := []) (rest := []) ⟨hx, hb, hml, hown, hts⟩ (c_X3_thrown l dC dI dA k m0 r2 _ _ _ hY2 hr2 hOK2) (cwV 0 hts (kg_V mw1013 mw1014 mw1015 mw47 rfl mw1016) rfl rfl rfl hdV_X3_thrown ⟨Nat.le_of_ble_eq_true rfl, Nat.le_of_ble_eq_true rfl⟩) ⟨fun a U g mk q => ⟨q.1, q.2.1, kM_call q.2.2⟩, va_recv hM.1 hY2 (ci := 6) (q0 := 0) rfl rfl, fun U hU hW => ⟨rfl, hU, kM_kept hM hS hN hU hW⟩⟩ rfl rfl hl.1 rfl (lv_room (Nat.le_of_ble_eq_true rfl)) dL_law_326 ⟨kroomC (by omega), kroomS (by omega)⟩) ?_
  refine lv_iload hx hb dL_law_329 (lv_at hl 1 rfl) ?_
  refine kz_icmp_eq (tgt := 336) hx hb (ex2_rng _ _) (ex2_rng _ _) dL_law_331 (by decide) (fun c_1 => ?_) (fun c_1 => absurd rfl c_1)
  refine lv_iload hx hb dL_law_336 (lv_at hl 1 rfl) ?_
  refine kz_if_ne (tgt := 354) hx hb (ex2_rng _ _) dL_law_338 (by decide) (fun c_2 => ?_) (fun c_2 => ?_)
  · refine lv_goto (tgt := 4485) hx hb dL_law_354 (by decide) ?_
    refine W.widen (k := cs + 600) (n := ss + 4000) (by omega) (by omega) ?_
    exact kk r2 _ _ _ _ _ hI2 hS (by have h9 := h8.2; omega) (lv_sub hl [2, 3, 4, 5, 6] rfl)
  · refine lv_aload_n hx hb dL_law_341 rfl (lv_at hl 3 rfl) ?_
    obtain ⟨nv, vv, hn, hPn⟩ := hO2
    have hn := hn c_2
    subst hn
    refine va_getN (D := (dC, dI)) (ci := 5) (v := .long (lZ (w32 (mlen (leap (fx xs (i + 2))) (fx xs (i + 3)))))) (C := RX2) (T := TX2) (N := 2) hx hb hts (fun w h => List.mem_cons_of_mem _ (gF_1_in h)) hown hM.1 hPn 0 rfl rfl 0 (by decide) (va_Nw.use rfl hL.1) (fun _ h9 => h9) rfl dL_law_342 ?_
    refine lv_iload hx hb dL_law_345 (lv_at hl 0 rfl) ?_
    refine kz_w32 ?_
    refine kz_i2l hx hb (w32_rng _) dL_law_347 ?_
    refine kz_lcmp_eq (tgt := 354) hx hb (by first | exact w32_lrng _ | exact bZ_lrng _) (by first | exact w32_lrng _ | exact bZ_lrng _) dL_law_348 dL_law_349 (by decide) (fun c_3 => ?_) (fun c_3 => absurd (by first | rw [if_pos c_2] | exact congrArg bZ (by rw [decide_eq_true c_2, Bool.true_and]) | (rw [decide_eq_true c_2]; rfl) | (simp [c_2]; done)) c_3)
    refine lv_goto (tgt := 4485) hx hb dL_law_354 (by decide) ?_
    refine W.widen (k := cs + 600) (n := ss + 4000) (by omega) (by omega) ?_
    exact kk r2 _ _ _ _ _ hI2 hS (by have h9 := h8.2; omega) (lv_sub hl [2, 3, 4, 5, 6] rfl)

set_option maxHeartbeats 4000000 in
set_option maxRecDepth 100000 in
theorem lc_1 {p : Program} {l : Launch} {e : Env} {s : State} {m : MethodId} {below : List Frame} {meth : Method} {c : Code} {Q : State → Prop} {b L : Nat} {xs : Nat → Int32} {dC : Nat → ClassId} {dI : Nat → Nat → Nat} {dA : Nat → ClassId} {k : Nat → Nat} (hst : l.stackTraces = false) (F : kF p s m meth c b L xs dC dI dA k)
    {q : Nat → Nat} {m0 : Nat} {r : Nat → Nat → Nat} {o : Nat} {σ : Nat → Nat → Int} {th : Int} {H : Heap} {locs : List Loc} {cs ss : Nat} {i : Int} {ls : Array Slot} (hI : LI dC dI dA k q m0 r o σ th H) (hS : va_S (kN0 k) s.heap H locs) (hi : 0 ≤ i ∧ i + 5 ≤ (L : Int)) (hcs : cs + 600 ≤ 707594) (hss : ss + 4000 ≤ 6979453) (h80 : 0 ≤ σ 8 0 ∧ σ 8 0 ≤ 100000) (hl : lv_has ls 7 [(4, .int (iZ i)), (3, .ref o), (2, .ref m0), (1, .ref (q 0)), (0, .ref b)])
    (kk : ∀ (r' : Nat → Nat → Nat) (σ' : Nat → Nat → Int) (th' : Int) (H' : Heap) (locs' : List Loc) (ls' : Array Slot), LI dC dI dA k q m0 r' o σ' th' H' → va_S (kN0 k) s.heap H' locs' → σ 8 0 ≤ σ' 8 0 ∧ σ' 8 0 ≤ σ 8 0 + 1 → lv_has ls' 7 [(4, .int (iZ i)), (3, .ref o), (2, .ref m0), (1, .ref (q 0)), (0, .ref b)] → W p l e room_1 s m #[Value.ref b] below meth c H' locs' (cs + 600) (ss + 4000) Q (F0 m 4485 ls' [])) :
    W p l e room_1 s m #[Value.ref b] below meth c H locs cs ss Q (F0 m 43 ls [.int (iZ 1)]) := by
  obtain ⟨hx, hb, hr9, hml, hown, hts, hX, hbl, hL5, hMJ, hL, hk0, hlocks⟩ := F
  obtain ⟨hG, hOK, hq, hY, hr, hO0, hko, ho9, h1, h2⟩ := id hI
  obtain ⟨sn, sv, -, hO⟩ := id hO0
  have hM := hMJ.1
  have hbA : ¬ kN0 k b := fun z => absurd (show k 0 ≤ b from z) (by omega)
  have hN : ∀ a, kN0 k a → k 0 ≤ a := fun _ h => h
  have hkH : k 0 ≤ H.size := by have := hS.1; omega
  refine lv_tableIn (tgt := 357) (off := 314) hx hb dL_law_43 (by rw [iZ_toInt (z := 1) (by omega)]; omega) (by rw [iZ_toInt (z := 1) (by omega)]; omega) (by rw [iZ_toInt (z := 1) (by omega)]; rfl) (by decide) ?_
  refine lv_aload_n hx hb dL_law_357 rfl (lv_at hl 3 rfl) ?_
  refine lv_aload_n hx hb dL_law_358 rfl (lv_at hl 4 rfl) ?_
  refine lv_iload hx hb dL_law_359 (lv_at hl 0 rfl) ?_
  refine lv_iconst (v := iZ 1) hx hb dL_law_361 rfl ?_
  refine kz_iadd hx hb dL_law_362 ?_
  refine kz_sld hx hb hX hbl hbA hS (by omega) hL5 dL_law_363 ?_
  refine lv_aload_n hx hb dL_law_364 rfl (lv_at hl 4 rfl) ?_
  refine lv_iload hx hb dL_law_365 (lv_at hl 0 rfl) ?_
  refine lv_iconst (v := iZ 2) hx hb dL_law_367 rfl ?_
  refine kz_iadd hx hb dL_law_368 ?_
  refine kz_sld hx hb hX hbl hbA hS (by omega) hL5 dL_law_369 ?_
  refine lv_aload_n hx hb dL_law_370 rfl (lv_at hl 4 rfl) ?_
  refine lv_iload hx hb dL_law_371 (lv_at hl 0 rfl) ?_
  refine lv_iconst (v := iZ 3) hx hb dL_law_373 rfl ?_
  refine kz_iadd hx hb dL_law_374 ?_
  refine kz_sld hx hb hX hbl hbA hS (by omega) hL5 dL_law_375 ?_
  refine lv_aload_n hx hb dL_law_376 rfl (lv_at hl 1 rfl) ?_
  refine kc2 (vx_runSW (As := [.ref (q 0), .int (iZ (fx xs (i + 1))), .int (iZ (fx xs (i + 2))), .int (iZ (fx xs (i + 3))), .ref o]) (rest := []) ⟨hx, hb, hml, hown, hts⟩ (c_L_leafRound l hst dC dI dA k q σ _ hG hOK hq o sn sv hO hko ho9 ((fx xs (i + 1))) ((fx xs (i + 2))) ((fx xs (i + 3))) (fx_rng _ _) (fx_rng _ _) (fx_rng _ _)) (vx_cwSW 5 hts (kg_S mw620 mw621 mw41 rfl mw622) rfl rfl rfl hdS_L_leafRound ⟨Nat.le_of_ble_eq_true rfl, Nat.le_of_ble_eq_true rfl⟩) ⟨fun a U g mk q => ⟨q.1, q.2.1, kMJ_call q.2.2.1, kL_call q.2.2.2⟩, fun U hU hW => ⟨rfl, hU, kMJ_kept hMJ hS hN hU hW, kL_warm hL hW⟩⟩ rfl rfl hl.1 rfl (lv_room (Nat.le_of_ble_eq_true rfl)) dL_law_377 ⟨kroomC (by omega), kroomS (by omega)⟩) hS (fun a _ h => kAO_N hq hko hkH a h) (fun a h => kAO_N hq hko hkH a h) (fun H1 locs hC hy9 hk9 hS => ?_)
  obtain ⟨hG1, hO1⟩ := hC
  have hY1 := kY_keptO hY hk9 h1 h2
  have h8 : kOK8 σ (if ex2 (!inb (fx xs (i + 1)) 0 3) (!inb (fx xs (i + 2)) (-999999999) 999999999) = 0 then (sU (sU σ 0 (fx xs (i + 1)).toNat (fx xs (i + 2))) 1 (fx xs (i + 1)).toNat (1 + (fx xs (i + 3)) % 12)) else σ) := k8_if hOK (fun h9 => k8m_leafRound hOK ((fx xs (i + 1))) ((fx xs (i + 2))) ((fx xs (i + 3))) h9)
  have hkH1 : k 0 ≤ H1.size := Nat.le_trans hkH hy9
  clear hk9
  refine lv_istore (lv' := [(5, .int (iZ (ex2 (!inb (fx xs (i + 1)) 0 3) (!inb (fx xs (i + 2)) (-999999999) 999999999)))), (4, .int (iZ i)), (3, .ref o), (2, .ref m0), (1, .ref (q 0)), (0, .ref b)]) hx hb dL_law_380 hl (by decide) rfl (fun ls hl => ?_)
  refine lv_aload_n hx hb dL_law_382 rfl (lv_at hl 3 rfl) ?_
  refine lv_aload_n hx hb dL_law_383 rfl (lv_at hl 5 rfl) ?_
  refine lv_iload hx hb dL_law_384 (lv_at hl 1 rfl) ?_
  refine lv_iconst (v := iZ 1) hx hb dL_law_386 rfl ?_
  refine kz_iadd hx hb dL_law_387 ?_
  refine kz_sld hx hb hX hbl hbA hS (by omega) hL5 dL_law_388 ?_
  refine lv_aload_n hx hb dL_law_389 rfl (lv_at hl 5 rfl) ?_
  refine lv_iload hx hb dL_law_390 (lv_at hl 1 rfl) ?_
  refine lv_iconst (v := iZ 2) hx hb dL_law_392 rfl ?_
  refine kz_iadd hx hb dL_law_393 ?_
  refine kz_sld hx hb hX hbl hbA hS (by omega) hL5 dL_law_394 ?_
  refine lv_aload_n hx hb dL_law_395 rfl (lv_at hl 5 rfl) ?_
  refine lv_iload hx hb dL_law_396 (lv_at hl 1 rfl) ?_
  refine lv_iconst (v := iZ 3) hx hb dL_law_398 rfl ?_
  refine kz_iadd hx hb dL_law_399 ?_
  refine kz_sld hx hb hX hbl hbA hS (by omega) hL5 dL_law_400 ?_
  refine kc2 (va_runV (As := [.int (iZ (fx xs (i + 1))), .int (iZ (fx xs (i + 2))), .int (iZ (fx xs (i + 3)))]) (rest := []) ⟨hx, hb, hml, hown, hts⟩ (c_X3_leafRound l dC dI dA k m0 r σ th _ hY1 hr hOK ((fx xs (i + 1))) ((fx xs (i + 2))) ((fx xs (i + 3))) (fx_rng _ _) (fx_rng _ _) (fx_rng _ _)) (cwV 3 hts (kg_V mw1056 mw1057 mw1058 mw47 rfl mw1059) rfl rfl rfl hdV_X3_leafRound ⟨Nat.le_of_ble_eq_true rfl, Nat.le_of_ble_eq_true rfl⟩) ⟨fun a U g mk q => ⟨q.1, q.2.1, kM_call q.2.2⟩, va_recv hM.1 hY1 (ci := 6) (q0 := 0) rfl rfl, fun U hU hW => ⟨rfl, hU, kM_kept hM hS hN hU hW⟩⟩ rfl rfl hl.1 rfl (lv_room (Nat.le_of_ble_eq_true rfl)) dL_law_401 ⟨kroomC (by omega), kroomS (by omega)⟩) hS (fun a _ h => kAy_N hr hkH1 a h) (fun a h => kAy_N hr hkH1 a h) (fun H2 locs hC2 hy8 hk8 hS => ?_)
  obtain ⟨r2, hI2, hO2⟩ := LI_step hI hG1 hO1 hC2 hk8 h8
  refine lv_istore (lv' := [(6, .int (iZ (if ex2 (!inb (fx xs (i + 1)) 0 3) (!inb (fx xs (i + 2)) (-999999999) 999999999) = 0 then (1 + (fx xs (i + 3)) % 12) else 0))), (5, .int (iZ (ex2 (!inb (fx xs (i + 1)) 0 3) (!inb (fx xs (i + 2)) (-999999999) 999999999)))), (4, .int (iZ i)), (3, .ref o), (2, .ref m0), (1, .ref (q 0)), (0, .ref b)]) hx hb dL_law_404 hl (by decide) rfl (fun ls hl => ?_)
  refine lv_aload_n hx hb dL_law_406 rfl (lv_at hl 4 rfl) ?_
  obtain ⟨hG2, hOK2, hq2, hY2, hr2, -⟩ := id hI2
  refine kc0 (fun _ q => q) (va_runV (As := []) (rest := []) ⟨hx, hb, hml, hown, hts⟩ (c_X3_thrown l dC dI dA k m0 r2 _ _ _ hY2 hr2 hOK2) (cwV 0 hts (kg_V mw1013 mw1014 mw1015 mw47 rfl mw1016) rfl rfl rfl hdV_X3_thrown ⟨Nat.le_of_ble_eq_true rfl, Nat.le_of_ble_eq_true rfl⟩) ⟨fun a U g mk q => ⟨q.1, q.2.1, kM_call q.2.2⟩, va_recv hM.1 hY2 (ci := 6) (q0 := 0) rfl rfl, fun U hU hW => ⟨rfl, hU, kM_kept hM hS hN hU hW⟩⟩ rfl rfl hl.1 rfl (lv_room (Nat.le_of_ble_eq_true rfl)) dL_law_407 ⟨kroomC (by omega), kroomS (by omega)⟩) ?_
  refine lv_iload hx hb dL_law_410 (lv_at hl 1 rfl) ?_
  refine kz_icmp_eq (tgt := 417) hx hb (ex2_rng _ _) (ex2_rng _ _) dL_law_412 (by decide) (fun c_1 => ?_) (fun c_1 => absurd rfl c_1)
  refine lv_iload hx hb dL_law_417 (lv_at hl 1 rfl) ?_
  refine kz_if_ne (tgt := 435) hx hb (ex2_rng _ _) dL_law_419 (by decide) (fun c_2 => ?_) (fun c_2 => ?_)
  · refine lv_goto (tgt := 4485) hx hb dL_law_435 (by decide) ?_
    refine W.widen (k := cs + 600) (n := ss + 4000) (by omega) (by omega) ?_
    exact kk r2 _ _ _ _ _ hI2 hS (by have h9 := h8.2; omega) (lv_sub hl [2, 3, 4, 5, 6] rfl)
  · refine lv_aload_n hx hb dL_law_422 rfl (lv_at hl 3 rfl) ?_
    obtain ⟨nv, vv, hn, hPn⟩ := hO2
    have hn := hn c_2
    subst hn
    refine va_getN (D := (dC, dI)) (ci := 5) (v := .long (lZ (w32 (1 + (fx xs (i + 3)) % 12)))) (C := RX2) (T := TX2) (N := 2) hx hb hts (fun w h => List.mem_cons_of_mem _ (gF_1_in h)) hown hM.1 hPn 0 rfl rfl 0 (by decide) (va_Nw.use rfl hL.1) (fun _ h9 => h9) rfl dL_law_423 ?_
    refine lv_iload hx hb dL_law_426 (lv_at hl 0 rfl) ?_
    refine kz_w32 ?_
    refine kz_i2l hx hb (w32_rng _) dL_law_428 ?_
    refine kz_lcmp_eq (tgt := 435) hx hb (by first | exact w32_lrng _ | exact bZ_lrng _) (by first | exact w32_lrng _ | exact bZ_lrng _) dL_law_429 dL_law_430 (by decide) (fun c_3 => ?_) (fun c_3 => absurd (by first | rw [if_pos c_2] | exact congrArg bZ (by rw [decide_eq_true c_2, Bool.true_and]) | (rw [decide_eq_true c_2]; rfl) | (simp [c_2]; done)) c_3)
    refine lv_goto (tgt := 4485) hx hb dL_law_435 (by decide) ?_
    refine W.widen (k := cs + 600) (n := ss + 4000) (by omega) (by omega) ?_
    exact kk r2 _ _ _ _ _ hI2 hS (by have h9 := h8.2; omega) (lv_sub hl [2, 3, 4, 5, 6] rfl)

set_option maxHeartbeats 4000000 in
set_option maxRecDepth 100000 in
theorem lc_2 {p : Program} {l : Launch} {e : Env} {s : State} {m : MethodId} {below : List Frame} {meth : Method} {c : Code} {Q : State → Prop} {b L : Nat} {xs : Nat → Int32} {dC : Nat → ClassId} {dI : Nat → Nat → Nat} {dA : Nat → ClassId} {k : Nat → Nat} (hst : l.stackTraces = false) (F : kF p s m meth c b L xs dC dI dA k)
    {q : Nat → Nat} {m0 : Nat} {r : Nat → Nat → Nat} {o : Nat} {σ : Nat → Nat → Int} {th : Int} {H : Heap} {locs : List Loc} {cs ss : Nat} {i : Int} {ls : Array Slot} (hI : LI dC dI dA k q m0 r o σ th H) (hS : va_S (kN0 k) s.heap H locs) (hi : 0 ≤ i ∧ i + 5 ≤ (L : Int)) (hcs : cs + 600 ≤ 707594) (hss : ss + 4000 ≤ 6979453) (h80 : 0 ≤ σ 8 0 ∧ σ 8 0 ≤ 100000) (hl : lv_has ls 7 [(4, .int (iZ i)), (3, .ref o), (2, .ref m0), (1, .ref (q 0)), (0, .ref b)])
    (kk : ∀ (r' : Nat → Nat → Nat) (σ' : Nat → Nat → Int) (th' : Int) (H' : Heap) (locs' : List Loc) (ls' : Array Slot), LI dC dI dA k q m0 r' o σ' th' H' → va_S (kN0 k) s.heap H' locs' → σ 8 0 ≤ σ' 8 0 ∧ σ' 8 0 ≤ σ 8 0 + 1 → lv_has ls' 7 [(4, .int (iZ i)), (3, .ref o), (2, .ref m0), (1, .ref (q 0)), (0, .ref b)] → W p l e room_1 s m #[Value.ref b] below meth c H' locs' (cs + 600) (ss + 4000) Q (F0 m 4485 ls' [])) :
    W p l e room_1 s m #[Value.ref b] below meth c H locs cs ss Q (F0 m 43 ls [.int (iZ 2)]) := by
  obtain ⟨hx, hb, hr9, hml, hown, hts, hX, hbl, hL5, hMJ, hL, hk0, hlocks⟩ := F
  obtain ⟨hG, hOK, hq, hY, hr, hO0, hko, ho9, h1, h2⟩ := id hI
  obtain ⟨sn, sv, -, hO⟩ := id hO0
  have hM := hMJ.1
  have hbA : ¬ kN0 k b := fun z => absurd (show k 0 ≤ b from z) (by omega)
  have hN : ∀ a, kN0 k a → k 0 ≤ a := fun _ h => h
  have hkH : k 0 ≤ H.size := by have := hS.1; omega
  refine lv_tableIn (tgt := 438) (off := 395) hx hb dL_law_43 (by rw [iZ_toInt (z := 2) (by omega)]; omega) (by rw [iZ_toInt (z := 2) (by omega)]; omega) (by rw [iZ_toInt (z := 2) (by omega)]; rfl) (by decide) ?_
  refine lv_aload_n hx hb dL_law_438 rfl (lv_at hl 3 rfl) ?_
  refine lv_aload_n hx hb dL_law_439 rfl (lv_at hl 4 rfl) ?_
  refine lv_iload hx hb dL_law_440 (lv_at hl 0 rfl) ?_
  refine lv_iconst (v := iZ 1) hx hb dL_law_442 rfl ?_
  refine kz_iadd hx hb dL_law_443 ?_
  refine kz_sld hx hb hX hbl hbA hS (by omega) hL5 dL_law_444 ?_
  refine lv_aload_n hx hb dL_law_445 rfl (lv_at hl 4 rfl) ?_
  refine lv_iload hx hb dL_law_446 (lv_at hl 0 rfl) ?_
  refine lv_iconst (v := iZ 2) hx hb dL_law_448 rfl ?_
  refine kz_iadd hx hb dL_law_449 ?_
  refine kz_sld hx hb hX hbl hbA hS (by omega) hL5 dL_law_450 ?_
  refine lv_aload_n hx hb dL_law_451 rfl (lv_at hl 4 rfl) ?_
  refine lv_iload hx hb dL_law_452 (lv_at hl 0 rfl) ?_
  refine lv_iconst (v := iZ 3) hx hb dL_law_454 rfl ?_
  refine kz_iadd hx hb dL_law_455 ?_
  refine kz_sld hx hb hX hbl hbA hS (by omega) hL5 dL_law_456 ?_
  refine kz_b2i hx hb (fx_rng _ _) dL_law_457 dL_law_460 dL_law_461 dL_law_464 ?_
  refine lv_aload_n hx hb dL_law_465 rfl (lv_at hl 1 rfl) ?_
  refine kc2 (vx_runSW (As := [.ref (q 0), .int (iZ (fx xs (i + 1))), .int (iZ (fx xs (i + 2))), .int (iZ (bZ (!decide (fx xs (i + 3) = 0)))), .ref o]) (rest := []) ⟨hx, hb, hml, hown, hts⟩ (c_L_months l hst dC dI dA k q σ _ hG hOK hq o sn sv hO hko ho9 ((fx xs (i + 1))) ((fx xs (i + 2))) (!decide (fx xs (i + 3) = 0)) (fx_rng _ _) (fx_rng _ _)) (vx_cwSW 5 hts (kg_S mw633 mw634 mw41 rfl mw635) rfl rfl rfl hdS_L_months ⟨Nat.le_of_ble_eq_true rfl, Nat.le_of_ble_eq_true rfl⟩) ⟨fun a U g mk q => ⟨q.1, q.2.1, kMJ_call q.2.2.1, kL_call q.2.2.2⟩, fun U hU hW => ⟨rfl, hU, kMJ_kept hMJ hS hN hU hW, kL_warm hL hW⟩⟩ rfl rfl hl.1 rfl (lv_room (Nat.le_of_ble_eq_true rfl)) dL_law_466 ⟨kroomC (by omega), kroomS (by omega)⟩) hS (fun a _ h => kAO_N hq hko hkH a h) (fun a h => kAO_N hq hko hkH a h) (fun H1 locs hC hy9 hk9 hS => ?_)
  obtain ⟨hG1, hO1⟩ := hC
  have hY1 := kY_keptO hY hk9 h1 h2
  have h8 : kOK8 σ (if ex2 (!inb (fx xs (i + 1)) 0 3) (false) = 0 then (putLs σ ((fx xs (i + 1)).toNat) (cnt (σ 0 ((fx xs (i + 1)).toNat)) (σ 1 ((fx xs (i + 1)).toNat)) + sgn (fx xs (i + 2)) (!decide (fx xs (i + 3) = 0)))) else σ) := k8_if hOK (fun h9 => k8m_months hOK ((fx xs (i + 1))) ((fx xs (i + 2))) (!decide (fx xs (i + 3) = 0)) h9)
  have hkH1 : k 0 ≤ H1.size := Nat.le_trans hkH hy9
  clear hk9
  refine lv_istore (lv' := [(5, .int (iZ (ex2 (!inb (fx xs (i + 1)) 0 3) (false)))), (4, .int (iZ i)), (3, .ref o), (2, .ref m0), (1, .ref (q 0)), (0, .ref b)]) hx hb dL_law_469 hl (by decide) rfl (fun ls hl => ?_)
  refine lv_aload_n hx hb dL_law_471 rfl (lv_at hl 3 rfl) ?_
  refine lv_aload_n hx hb dL_law_472 rfl (lv_at hl 5 rfl) ?_
  refine lv_iload hx hb dL_law_473 (lv_at hl 1 rfl) ?_
  refine lv_iconst (v := iZ 1) hx hb dL_law_475 rfl ?_
  refine kz_iadd hx hb dL_law_476 ?_
  refine kz_sld hx hb hX hbl hbA hS (by omega) hL5 dL_law_477 ?_
  refine lv_aload_n hx hb dL_law_478 rfl (lv_at hl 5 rfl) ?_
  refine lv_iload hx hb dL_law_479 (lv_at hl 1 rfl) ?_
  refine lv_iconst (v := iZ 2) hx hb dL_law_481 rfl ?_
  refine kz_iadd hx hb dL_law_482 ?_
  refine kz_sld hx hb hX hbl hbA hS (by omega) hL5 dL_law_483 ?_
  refine lv_aload_n hx hb dL_law_484 rfl (lv_at hl 5 rfl) ?_
  refine lv_iload hx hb dL_law_485 (lv_at hl 1 rfl) ?_
  refine lv_iconst (v := iZ 3) hx hb dL_law_487 rfl ?_
  refine kz_iadd hx hb dL_law_488 ?_
  refine kz_sld hx hb hX hbl hbA hS (by omega) hL5 dL_law_489 ?_
  refine kz_b2i hx hb (fx_rng _ _) dL_law_490 dL_law_493 dL_law_494 dL_law_497 ?_
  refine kc2 (va_runV (As := [.int (iZ (fx xs (i + 1))), .int (iZ (fx xs (i + 2))), .int (iZ (bZ (!decide (fx xs (i + 3) = 0))))]) (rest := []) ⟨hx, hb, hml, hown, hts⟩ (c_X3_months l dC dI dA k m0 r σ th _ hY1 hr hOK ((fx xs (i + 1))) ((fx xs (i + 2))) (!decide (fx xs (i + 3) = 0)) (fx_rng _ _) (fx_rng _ _)) (cwV 3 hts (kg_V mw1066 mw1067 mw1068 mw47 rfl mw1069) rfl rfl rfl hdV_X3_months ⟨Nat.le_of_ble_eq_true rfl, Nat.le_of_ble_eq_true rfl⟩) ⟨fun a U g mk q => ⟨q.1, q.2.1, kM_call q.2.2⟩, va_recv hM.1 hY1 (ci := 6) (q0 := 0) rfl rfl, fun U hU hW => ⟨rfl, hU, kM_kept hM hS hN hU hW⟩⟩ rfl rfl hl.1 rfl (lv_room (Nat.le_of_ble_eq_true rfl)) dL_law_498 ⟨kroomC (by omega), kroomS (by omega)⟩) hS (fun a _ h => kAy_N hr hkH1 a h) (fun a h => kAy_N hr hkH1 a h) (fun H2 locs hC2 hy8 hk8 hS => ?_)
  obtain ⟨r2, hI2, hO2⟩ := LI_step hI hG1 hO1 hC2 hk8 h8
  refine lv_istore (lv' := [(6, .int (iZ (if ex2 (!inb (fx xs (i + 1)) 0 3) (false) = 0 then (putLr (cnt (σ 0 ((fx xs (i + 1)).toNat)) (σ 1 ((fx xs (i + 1)).toNat)) + sgn (fx xs (i + 2)) (!decide (fx xs (i + 3) = 0)))) else 0))), (5, .int (iZ (ex2 (!inb (fx xs (i + 1)) 0 3) (false)))), (4, .int (iZ i)), (3, .ref o), (2, .ref m0), (1, .ref (q 0)), (0, .ref b)]) hx hb dL_law_501 hl (by decide) rfl (fun ls hl => ?_)
  refine lv_aload_n hx hb dL_law_503 rfl (lv_at hl 4 rfl) ?_
  obtain ⟨hG2, hOK2, hq2, hY2, hr2, -⟩ := id hI2
  refine kc0 (fun _ q => q) (va_runV (As := []) (rest := []) ⟨hx, hb, hml, hown, hts⟩ (c_X3_thrown l dC dI dA k m0 r2 _ _ _ hY2 hr2 hOK2) (cwV 0 hts (kg_V mw1013 mw1014 mw1015 mw47 rfl mw1016) rfl rfl rfl hdV_X3_thrown ⟨Nat.le_of_ble_eq_true rfl, Nat.le_of_ble_eq_true rfl⟩) ⟨fun a U g mk q => ⟨q.1, q.2.1, kM_call q.2.2⟩, va_recv hM.1 hY2 (ci := 6) (q0 := 0) rfl rfl, fun U hU hW => ⟨rfl, hU, kM_kept hM hS hN hU hW⟩⟩ rfl rfl hl.1 rfl (lv_room (Nat.le_of_ble_eq_true rfl)) dL_law_504 ⟨kroomC (by omega), kroomS (by omega)⟩) ?_
  refine lv_iload hx hb dL_law_507 (lv_at hl 1 rfl) ?_
  refine kz_icmp_eq (tgt := 514) hx hb (ex2_rng _ _) (ex2_rng _ _) dL_law_509 (by decide) (fun c_1 => ?_) (fun c_1 => absurd rfl c_1)
  refine lv_iload hx hb dL_law_514 (lv_at hl 1 rfl) ?_
  refine kz_if_ne (tgt := 532) hx hb (ex2_rng _ _) dL_law_516 (by decide) (fun c_2 => ?_) (fun c_2 => ?_)
  · refine lv_goto (tgt := 4485) hx hb dL_law_532 (by decide) ?_
    refine W.widen (k := cs + 600) (n := ss + 4000) (by omega) (by omega) ?_
    exact kk r2 _ _ _ _ _ hI2 hS (by have h9 := h8.2; omega) (lv_sub hl [2, 3, 4, 5, 6] rfl)
  · refine lv_aload_n hx hb dL_law_519 rfl (lv_at hl 3 rfl) ?_
    obtain ⟨nv, vv, hn, hPn⟩ := hO2
    have hn := hn c_2
    subst hn
    refine va_getN (D := (dC, dI)) (ci := 5) (v := .long (lZ (w32 (putLr (cnt (σ 0 ((fx xs (i + 1)).toNat)) (σ 1 ((fx xs (i + 1)).toNat)) + sgn (fx xs (i + 2)) (!decide (fx xs (i + 3) = 0))))))) (C := RX2) (T := TX2) (N := 2) hx hb hts (fun w h => List.mem_cons_of_mem _ (gF_1_in h)) hown hM.1 hPn 0 rfl rfl 0 (by decide) (va_Nw.use rfl hL.1) (fun _ h9 => h9) rfl dL_law_520 ?_
    refine lv_iload hx hb dL_law_523 (lv_at hl 0 rfl) ?_
    refine kz_w32 ?_
    refine kz_i2l hx hb (w32_rng _) dL_law_525 ?_
    refine kz_lcmp_eq (tgt := 532) hx hb (by first | exact w32_lrng _ | exact bZ_lrng _) (by first | exact w32_lrng _ | exact bZ_lrng _) dL_law_526 dL_law_527 (by decide) (fun c_3 => ?_) (fun c_3 => absurd (by first | rw [if_pos c_2] | exact congrArg bZ (by rw [decide_eq_true c_2, Bool.true_and]) | (rw [decide_eq_true c_2]; rfl) | (simp [c_2]; done)) c_3)
    refine lv_goto (tgt := 4485) hx hb dL_law_532 (by decide) ?_
    refine W.widen (k := cs + 600) (n := ss + 4000) (by omega) (by omega) ?_
    exact kk r2 _ _ _ _ _ hI2 hS (by have h9 := h8.2; omega) (lv_sub hl [2, 3, 4, 5, 6] rfl)

set_option maxHeartbeats 4000000 in
set_option maxRecDepth 100000 in
theorem lc_3 {p : Program} {l : Launch} {e : Env} {s : State} {m : MethodId} {below : List Frame} {meth : Method} {c : Code} {Q : State → Prop} {b L : Nat} {xs : Nat → Int32} {dC : Nat → ClassId} {dI : Nat → Nat → Nat} {dA : Nat → ClassId} {k : Nat → Nat} (hst : l.stackTraces = false) (F : kF p s m meth c b L xs dC dI dA k)
    {q : Nat → Nat} {m0 : Nat} {r : Nat → Nat → Nat} {o : Nat} {σ : Nat → Nat → Int} {th : Int} {H : Heap} {locs : List Loc} {cs ss : Nat} {i : Int} {ls : Array Slot} (hI : LI dC dI dA k q m0 r o σ th H) (hS : va_S (kN0 k) s.heap H locs) (hi : 0 ≤ i ∧ i + 5 ≤ (L : Int)) (hcs : cs + 600 ≤ 707594) (hss : ss + 4000 ≤ 6979453) (h80 : 0 ≤ σ 8 0 ∧ σ 8 0 ≤ 100000) (hl : lv_has ls 7 [(4, .int (iZ i)), (3, .ref o), (2, .ref m0), (1, .ref (q 0)), (0, .ref b)])
    (kk : ∀ (r' : Nat → Nat → Nat) (σ' : Nat → Nat → Int) (th' : Int) (H' : Heap) (locs' : List Loc) (ls' : Array Slot), LI dC dI dA k q m0 r' o σ' th' H' → va_S (kN0 k) s.heap H' locs' → σ 8 0 ≤ σ' 8 0 ∧ σ' 8 0 ≤ σ 8 0 + 1 → lv_has ls' 7 [(4, .int (iZ i)), (3, .ref o), (2, .ref m0), (1, .ref (q 0)), (0, .ref b)] → W p l e room_1 s m #[Value.ref b] below meth c H' locs' (cs + 600) (ss + 4000) Q (F0 m 4485 ls' [])) :
    W p l e room_1 s m #[Value.ref b] below meth c H locs cs ss Q (F0 m 43 ls [.int (iZ 3)]) := by
  obtain ⟨hx, hb, hr9, hml, hown, hts, hX, hbl, hL5, hMJ, hL, hk0, hlocks⟩ := F
  obtain ⟨hG, hOK, hq, hY, hr, hO0, hko, ho9, h1, h2⟩ := id hI
  obtain ⟨sn, sv, -, hO⟩ := id hO0
  have hM := hMJ.1
  have hbA : ¬ kN0 k b := fun z => absurd (show k 0 ≤ b from z) (by omega)
  have hN : ∀ a, kN0 k a → k 0 ≤ a := fun _ h => h
  have hkH : k 0 ≤ H.size := by have := hS.1; omega
  refine lv_tableIn (tgt := 535) (off := 492) hx hb dL_law_43 (by rw [iZ_toInt (z := 3) (by omega)]; omega) (by rw [iZ_toInt (z := 3) (by omega)]; omega) (by rw [iZ_toInt (z := 3) (by omega)]; rfl) (by decide) ?_
  refine lv_aload_n hx hb dL_law_535 rfl (lv_at hl 3 rfl) ?_
  refine lv_aload_n hx hb dL_law_536 rfl (lv_at hl 4 rfl) ?_
  refine lv_iload hx hb dL_law_537 (lv_at hl 0 rfl) ?_
  refine lv_iconst (v := iZ 1) hx hb dL_law_539 rfl ?_
  refine kz_iadd hx hb dL_law_540 ?_
  refine kz_sld hx hb hX hbl hbA hS (by omega) hL5 dL_law_541 ?_
  refine lv_aload_n hx hb dL_law_542 rfl (lv_at hl 4 rfl) ?_
  refine lv_iload hx hb dL_law_543 (lv_at hl 0 rfl) ?_
  refine lv_iconst (v := iZ 2) hx hb dL_law_545 rfl ?_
  refine kz_iadd hx hb dL_law_546 ?_
  refine kz_sld hx hb hX hbl hbA hS (by omega) hL5 dL_law_547 ?_
  refine lv_aload_n hx hb dL_law_548 rfl (lv_at hl 4 rfl) ?_
  refine lv_iload hx hb dL_law_549 (lv_at hl 0 rfl) ?_
  refine lv_iconst (v := iZ 3) hx hb dL_law_551 rfl ?_
  refine kz_iadd hx hb dL_law_552 ?_
  refine kz_sld hx hb hX hbl hbA hS (by omega) hL5 dL_law_553 ?_
  refine kz_b2i hx hb (fx_rng _ _) dL_law_554 dL_law_557 dL_law_558 dL_law_561 ?_
  refine lv_aload_n hx hb dL_law_562 rfl (lv_at hl 1 rfl) ?_
  refine kc2 (vx_runSW (As := [.ref (q 0), .int (iZ (fx xs (i + 1))), .int (iZ (fx xs (i + 2))), .int (iZ (bZ (!decide (fx xs (i + 3) = 0)))), .ref o]) (rest := []) ⟨hx, hb, hml, hown, hts⟩ (c_L_years l hst dC dI dA k q σ _ hG hOK hq o sn sv hO hko ho9 ((fx xs (i + 1))) ((fx xs (i + 2))) (!decide (fx xs (i + 3) = 0)) (fx_rng _ _) (fx_rng _ _)) (vx_cwSW 5 hts (kg_S mw643 mw644 mw41 rfl mw645) rfl rfl rfl hdS_L_years ⟨Nat.le_of_ble_eq_true rfl, Nat.le_of_ble_eq_true rfl⟩) ⟨fun a U g mk q => ⟨q.1, q.2.1, kMJ_call q.2.2.1, kL_call q.2.2.2⟩, fun U hU hW => ⟨rfl, hU, kMJ_kept hMJ hS hN hU hW, kL_warm hL hW⟩⟩ rfl rfl hl.1 rfl (lv_room (Nat.le_of_ble_eq_true rfl)) dL_law_563 ⟨kroomC (by omega), kroomS (by omega)⟩) hS (fun a _ h => kAO_N hq hko hkH a h) (fun a h => kAO_N hq hko hkH a h) (fun H1 locs hC hy9 hk9 hS => ?_)
  obtain ⟨hG1, hO1⟩ := hC
  have hY1 := kY_keptO hY hk9 h1 h2
  have h8 : kOK8 σ (if ex2 (!inb (fx xs (i + 1)) 0 3) (false) = 0 then (putLs σ ((fx xs (i + 1)).toNat) (cnt (σ 0 ((fx xs (i + 1)).toNat)) (σ 1 ((fx xs (i + 1)).toNat)) + sgn (12 * (fx xs (i + 2))) (!decide (fx xs (i + 3) = 0)))) else σ) := k8_if hOK (fun h9 => k8m_years hOK ((fx xs (i + 1))) ((fx xs (i + 2))) (!decide (fx xs (i + 3) = 0)) h9)
  have hkH1 : k 0 ≤ H1.size := Nat.le_trans hkH hy9
  clear hk9
  refine lv_istore (lv' := [(5, .int (iZ (ex2 (!inb (fx xs (i + 1)) 0 3) (false)))), (4, .int (iZ i)), (3, .ref o), (2, .ref m0), (1, .ref (q 0)), (0, .ref b)]) hx hb dL_law_566 hl (by decide) rfl (fun ls hl => ?_)
  refine lv_aload_n hx hb dL_law_568 rfl (lv_at hl 3 rfl) ?_
  refine lv_aload_n hx hb dL_law_569 rfl (lv_at hl 5 rfl) ?_
  refine lv_iload hx hb dL_law_570 (lv_at hl 1 rfl) ?_
  refine lv_iconst (v := iZ 1) hx hb dL_law_572 rfl ?_
  refine kz_iadd hx hb dL_law_573 ?_
  refine kz_sld hx hb hX hbl hbA hS (by omega) hL5 dL_law_574 ?_
  refine lv_aload_n hx hb dL_law_575 rfl (lv_at hl 5 rfl) ?_
  refine lv_iload hx hb dL_law_576 (lv_at hl 1 rfl) ?_
  refine lv_iconst (v := iZ 2) hx hb dL_law_578 rfl ?_
  refine kz_iadd hx hb dL_law_579 ?_
  refine kz_sld hx hb hX hbl hbA hS (by omega) hL5 dL_law_580 ?_
  refine lv_aload_n hx hb dL_law_581 rfl (lv_at hl 5 rfl) ?_
  refine lv_iload hx hb dL_law_582 (lv_at hl 1 rfl) ?_
  refine lv_iconst (v := iZ 3) hx hb dL_law_584 rfl ?_
  refine kz_iadd hx hb dL_law_585 ?_
  refine kz_sld hx hb hX hbl hbA hS (by omega) hL5 dL_law_586 ?_
  refine kz_b2i hx hb (fx_rng _ _) dL_law_587 dL_law_590 dL_law_591 dL_law_594 ?_
  refine kc2 (va_runV (As := [.int (iZ (fx xs (i + 1))), .int (iZ (fx xs (i + 2))), .int (iZ (bZ (!decide (fx xs (i + 3) = 0))))]) (rest := []) ⟨hx, hb, hml, hown, hts⟩ (c_X3_years l dC dI dA k m0 r σ th _ hY1 hr hOK ((fx xs (i + 1))) ((fx xs (i + 2))) (!decide (fx xs (i + 3) = 0)) (fx_rng _ _) (fx_rng _ _)) (cwV 3 hts (kg_V mw1082 mw1083 mw1084 mw47 rfl mw1085) rfl rfl rfl hdV_X3_years ⟨Nat.le_of_ble_eq_true rfl, Nat.le_of_ble_eq_true rfl⟩) ⟨fun a U g mk q => ⟨q.1, q.2.1, kM_call q.2.2⟩, va_recv hM.1 hY1 (ci := 6) (q0 := 0) rfl rfl, fun U hU hW => ⟨rfl, hU, kM_kept hM hS hN hU hW⟩⟩ rfl rfl hl.1 rfl (lv_room (Nat.le_of_ble_eq_true rfl)) dL_law_595 ⟨kroomC (by omega), kroomS (by omega)⟩) hS (fun a _ h => kAy_N hr hkH1 a h) (fun a h => kAy_N hr hkH1 a h) (fun H2 locs hC2 hy8 hk8 hS => ?_)
  obtain ⟨r2, hI2, hO2⟩ := LI_step hI hG1 hO1 hC2 hk8 h8
  refine lv_istore (lv' := [(6, .int (iZ (if ex2 (!inb (fx xs (i + 1)) 0 3) (false) = 0 then (putLr (cnt (σ 0 ((fx xs (i + 1)).toNat)) (σ 1 ((fx xs (i + 1)).toNat)) + sgn (12 * (fx xs (i + 2))) (!decide (fx xs (i + 3) = 0)))) else 0))), (5, .int (iZ (ex2 (!inb (fx xs (i + 1)) 0 3) (false)))), (4, .int (iZ i)), (3, .ref o), (2, .ref m0), (1, .ref (q 0)), (0, .ref b)]) hx hb dL_law_598 hl (by decide) rfl (fun ls hl => ?_)
  refine lv_aload_n hx hb dL_law_600 rfl (lv_at hl 4 rfl) ?_
  obtain ⟨hG2, hOK2, hq2, hY2, hr2, -⟩ := id hI2
  refine kc0 (fun _ q => q) (va_runV (As := []) (rest := []) ⟨hx, hb, hml, hown, hts⟩ (c_X3_thrown l dC dI dA k m0 r2 _ _ _ hY2 hr2 hOK2) (cwV 0 hts (kg_V mw1013 mw1014 mw1015 mw47 rfl mw1016) rfl rfl rfl hdV_X3_thrown ⟨Nat.le_of_ble_eq_true rfl, Nat.le_of_ble_eq_true rfl⟩) ⟨fun a U g mk q => ⟨q.1, q.2.1, kM_call q.2.2⟩, va_recv hM.1 hY2 (ci := 6) (q0 := 0) rfl rfl, fun U hU hW => ⟨rfl, hU, kM_kept hM hS hN hU hW⟩⟩ rfl rfl hl.1 rfl (lv_room (Nat.le_of_ble_eq_true rfl)) dL_law_601 ⟨kroomC (by omega), kroomS (by omega)⟩) ?_
  refine lv_iload hx hb dL_law_604 (lv_at hl 1 rfl) ?_
  refine kz_icmp_eq (tgt := 611) hx hb (ex2_rng _ _) (ex2_rng _ _) dL_law_606 (by decide) (fun c_1 => ?_) (fun c_1 => absurd rfl c_1)
  refine lv_iload hx hb dL_law_611 (lv_at hl 1 rfl) ?_
  refine kz_if_ne (tgt := 629) hx hb (ex2_rng _ _) dL_law_613 (by decide) (fun c_2 => ?_) (fun c_2 => ?_)
  · refine lv_goto (tgt := 4485) hx hb dL_law_629 (by decide) ?_
    refine W.widen (k := cs + 600) (n := ss + 4000) (by omega) (by omega) ?_
    exact kk r2 _ _ _ _ _ hI2 hS (by have h9 := h8.2; omega) (lv_sub hl [2, 3, 4, 5, 6] rfl)
  · refine lv_aload_n hx hb dL_law_616 rfl (lv_at hl 3 rfl) ?_
    obtain ⟨nv, vv, hn, hPn⟩ := hO2
    have hn := hn c_2
    subst hn
    refine va_getN (D := (dC, dI)) (ci := 5) (v := .long (lZ (w32 (putLr (cnt (σ 0 ((fx xs (i + 1)).toNat)) (σ 1 ((fx xs (i + 1)).toNat)) + sgn (12 * (fx xs (i + 2))) (!decide (fx xs (i + 3) = 0))))))) (C := RX2) (T := TX2) (N := 2) hx hb hts (fun w h => List.mem_cons_of_mem _ (gF_1_in h)) hown hM.1 hPn 0 rfl rfl 0 (by decide) (va_Nw.use rfl hL.1) (fun _ h9 => h9) rfl dL_law_617 ?_
    refine lv_iload hx hb dL_law_620 (lv_at hl 0 rfl) ?_
    refine kz_w32 ?_
    refine kz_i2l hx hb (w32_rng _) dL_law_622 ?_
    refine kz_lcmp_eq (tgt := 629) hx hb (by first | exact w32_lrng _ | exact bZ_lrng _) (by first | exact w32_lrng _ | exact bZ_lrng _) dL_law_623 dL_law_624 (by decide) (fun c_3 => ?_) (fun c_3 => absurd (by first | rw [if_pos c_2] | exact congrArg bZ (by rw [decide_eq_true c_2, Bool.true_and]) | (rw [decide_eq_true c_2]; rfl) | (simp [c_2]; done)) c_3)
    refine lv_goto (tgt := 4485) hx hb dL_law_629 (by decide) ?_
    refine W.widen (k := cs + 600) (n := ss + 4000) (by omega) (by omega) ?_
    exact kk r2 _ _ _ _ _ hI2 hS (by have h9 := h8.2; omega) (lv_sub hl [2, 3, 4, 5, 6] rfl)

set_option maxHeartbeats 4000000 in
set_option maxRecDepth 100000 in
theorem lc_4 {p : Program} {l : Launch} {e : Env} {s : State} {m : MethodId} {below : List Frame} {meth : Method} {c : Code} {Q : State → Prop} {b L : Nat} {xs : Nat → Int32} {dC : Nat → ClassId} {dI : Nat → Nat → Nat} {dA : Nat → ClassId} {k : Nat → Nat} (hst : l.stackTraces = false) (F : kF p s m meth c b L xs dC dI dA k)
    {q : Nat → Nat} {m0 : Nat} {r : Nat → Nat → Nat} {o : Nat} {σ : Nat → Nat → Int} {th : Int} {H : Heap} {locs : List Loc} {cs ss : Nat} {i : Int} {ls : Array Slot} (hI : LI dC dI dA k q m0 r o σ th H) (hS : va_S (kN0 k) s.heap H locs) (hi : 0 ≤ i ∧ i + 5 ≤ (L : Int)) (hcs : cs + 600 ≤ 707594) (hss : ss + 4000 ≤ 6979453) (h80 : 0 ≤ σ 8 0 ∧ σ 8 0 ≤ 100000) (hl : lv_has ls 7 [(4, .int (iZ i)), (3, .ref o), (2, .ref m0), (1, .ref (q 0)), (0, .ref b)])
    (kk : ∀ (r' : Nat → Nat → Nat) (σ' : Nat → Nat → Int) (th' : Int) (H' : Heap) (locs' : List Loc) (ls' : Array Slot), LI dC dI dA k q m0 r' o σ' th' H' → va_S (kN0 k) s.heap H' locs' → σ 8 0 ≤ σ' 8 0 ∧ σ' 8 0 ≤ σ 8 0 + 1 → lv_has ls' 7 [(4, .int (iZ i)), (3, .ref o), (2, .ref m0), (1, .ref (q 0)), (0, .ref b)] → W p l e room_1 s m #[Value.ref b] below meth c H' locs' (cs + 600) (ss + 4000) Q (F0 m 4485 ls' [])) :
    W p l e room_1 s m #[Value.ref b] below meth c H locs cs ss Q (F0 m 43 ls [.int (iZ 4)]) := by
  obtain ⟨hx, hb, hr9, hml, hown, hts, hX, hbl, hL5, hMJ, hL, hk0, hlocks⟩ := F
  obtain ⟨hG, hOK, hq, hY, hr, hO0, hko, ho9, h1, h2⟩ := id hI
  obtain ⟨sn, sv, -, hO⟩ := id hO0
  have hM := hMJ.1
  have hbA : ¬ kN0 k b := fun z => absurd (show k 0 ≤ b from z) (by omega)
  have hN : ∀ a, kN0 k a → k 0 ≤ a := fun _ h => h
  have hkH : k 0 ≤ H.size := by have := hS.1; omega
  refine lv_tableIn (tgt := 632) (off := 589) hx hb dL_law_43 (by rw [iZ_toInt (z := 4) (by omega)]; omega) (by rw [iZ_toInt (z := 4) (by omega)]; omega) (by rw [iZ_toInt (z := 4) (by omega)]; rfl) (by decide) ?_
  refine lv_aload_n hx hb dL_law_632 rfl (lv_at hl 3 rfl) ?_
  refine lv_aload_n hx hb dL_law_633 rfl (lv_at hl 4 rfl) ?_
  refine lv_iload hx hb dL_law_634 (lv_at hl 0 rfl) ?_
  refine lv_iconst (v := iZ 1) hx hb dL_law_636 rfl ?_
  refine kz_iadd hx hb dL_law_637 ?_
  refine kz_sld hx hb hX hbl hbA hS (by omega) hL5 dL_law_638 ?_
  refine lv_aload_n hx hb dL_law_639 rfl (lv_at hl 4 rfl) ?_
  refine lv_iload hx hb dL_law_640 (lv_at hl 0 rfl) ?_
  refine lv_iconst (v := iZ 2) hx hb dL_law_642 rfl ?_
  refine kz_iadd hx hb dL_law_643 ?_
  refine kz_sld hx hb hX hbl hbA hS (by omega) hL5 dL_law_644 ?_
  refine lv_aload_n hx hb dL_law_645 rfl (lv_at hl 4 rfl) ?_
  refine lv_iload hx hb dL_law_646 (lv_at hl 0 rfl) ?_
  refine lv_iconst (v := iZ 3) hx hb dL_law_648 rfl ?_
  refine kz_iadd hx hb dL_law_649 ?_
  refine kz_sld hx hb hX hbl hbA hS (by omega) hL5 dL_law_650 ?_
  refine lv_aload_n hx hb dL_law_651 rfl (lv_at hl 4 rfl) ?_
  refine lv_iload hx hb dL_law_652 (lv_at hl 0 rfl) ?_
  refine lv_iconst (v := iZ 4) hx hb dL_law_654 rfl ?_
  refine kz_iadd hx hb dL_law_655 ?_
  refine kz_sld hx hb hX hbl hbA hS (by omega) hL5 dL_law_656 ?_
  refine kz_b2i hx hb (fx_rng _ _) dL_law_657 dL_law_660 dL_law_661 dL_law_664 ?_
  refine lv_aload_n hx hb dL_law_665 rfl (lv_at hl 1 rfl) ?_
  refine kc2 (vx_runSW (As := [.ref (q 0), .int (iZ (fx xs (i + 1))), .int (iZ (fx xs (i + 2))), .int (iZ (fx xs (i + 3))), .int (iZ (bZ (!decide (fx xs (i + 4) = 0)))), .ref o]) (rest := []) ⟨hx, hb, hml, hown, hts⟩ (c_L_units l hst dC dI dA k q σ _ hG hOK hq o sn sv hO hko ho9 ((fx xs (i + 1))) ((fx xs (i + 2))) ((fx xs (i + 3))) (!decide (fx xs (i + 4) = 0)) (fx_rng _ _) (fx_rng _ _) (fx_rng _ _)) (vx_cwSW 6 hts (kg_S mw653 mw654 mw41 rfl mw655) rfl rfl rfl hdS_L_units ⟨Nat.le_of_ble_eq_true rfl, Nat.le_of_ble_eq_true rfl⟩) ⟨fun a U g mk q => ⟨q.1, q.2.1, kMJ_call q.2.2.1, kL_call q.2.2.2⟩, fun U hU hW => ⟨rfl, hU, kMJ_kept hMJ hS hN hU hW, kL_warm hL hW⟩⟩ rfl rfl hl.1 rfl (lv_room (Nat.le_of_ble_eq_true rfl)) dL_law_666 ⟨kroomC (by omega), kroomS (by omega)⟩) hS (fun a _ h => kAO_N hq hko hkH a h) (fun a h => kAO_N hq hko hkH a h) (fun H1 locs hC hy9 hk9 hS => ?_)
  obtain ⟨hG1, hO1⟩ := hC
  have hY1 := kY_keptO hY hk9 h1 h2
  have h8 : kOK8 σ (if ex2 (!inb (fx xs (i + 1)) 0 3) (!inb (fx xs (i + 2)) 0 4) = 0 then (putLs σ ((fx xs (i + 1)).toNat) (cnt (σ 0 ((fx xs (i + 1)).toNat)) (σ 1 ((fx xs (i + 1)).toNat)) + sgn ((fx xs (i + 3)) * usize (fx xs (i + 2))) (!decide (fx xs (i + 4) = 0)))) else σ) := k8_if hOK (fun h9 => k8m_units hOK ((fx xs (i + 1))) ((fx xs (i + 2))) ((fx xs (i + 3))) (!decide (fx xs (i + 4) = 0)) h9)
  have hkH1 : k 0 ≤ H1.size := Nat.le_trans hkH hy9
  clear hk9
  refine lv_istore (lv' := [(5, .int (iZ (ex2 (!inb (fx xs (i + 1)) 0 3) (!inb (fx xs (i + 2)) 0 4)))), (4, .int (iZ i)), (3, .ref o), (2, .ref m0), (1, .ref (q 0)), (0, .ref b)]) hx hb dL_law_669 hl (by decide) rfl (fun ls hl => ?_)
  refine lv_aload_n hx hb dL_law_671 rfl (lv_at hl 3 rfl) ?_
  refine lv_aload_n hx hb dL_law_672 rfl (lv_at hl 5 rfl) ?_
  refine lv_iload hx hb dL_law_673 (lv_at hl 1 rfl) ?_
  refine lv_iconst (v := iZ 1) hx hb dL_law_675 rfl ?_
  refine kz_iadd hx hb dL_law_676 ?_
  refine kz_sld hx hb hX hbl hbA hS (by omega) hL5 dL_law_677 ?_
  refine lv_aload_n hx hb dL_law_678 rfl (lv_at hl 5 rfl) ?_
  refine lv_iload hx hb dL_law_679 (lv_at hl 1 rfl) ?_
  refine lv_iconst (v := iZ 2) hx hb dL_law_681 rfl ?_
  refine kz_iadd hx hb dL_law_682 ?_
  refine kz_sld hx hb hX hbl hbA hS (by omega) hL5 dL_law_683 ?_
  refine lv_aload_n hx hb dL_law_684 rfl (lv_at hl 5 rfl) ?_
  refine lv_iload hx hb dL_law_685 (lv_at hl 1 rfl) ?_
  refine lv_iconst (v := iZ 3) hx hb dL_law_687 rfl ?_
  refine kz_iadd hx hb dL_law_688 ?_
  refine kz_sld hx hb hX hbl hbA hS (by omega) hL5 dL_law_689 ?_
  refine lv_aload_n hx hb dL_law_690 rfl (lv_at hl 5 rfl) ?_
  refine lv_iload hx hb dL_law_691 (lv_at hl 1 rfl) ?_
  refine lv_iconst (v := iZ 4) hx hb dL_law_693 rfl ?_
  refine kz_iadd hx hb dL_law_694 ?_
  refine kz_sld hx hb hX hbl hbA hS (by omega) hL5 dL_law_695 ?_
  refine kz_b2i hx hb (fx_rng _ _) dL_law_696 dL_law_699 dL_law_700 dL_law_703 ?_
  refine kc2 (va_runV (As := [.int (iZ (fx xs (i + 1))), .int (iZ (fx xs (i + 2))), .int (iZ (fx xs (i + 3))), .int (iZ (bZ (!decide (fx xs (i + 4) = 0))))]) (rest := []) ⟨hx, hb, hml, hown, hts⟩ (c_X3_units l dC dI dA k m0 r σ th _ hY1 hr hOK ((fx xs (i + 1))) ((fx xs (i + 2))) ((fx xs (i + 3))) (!decide (fx xs (i + 4) = 0)) (fx_rng _ _) (fx_rng _ _) (fx_rng _ _)) (cwV 4 hts (kg_V mw1086 mw1087 mw1088 mw47 rfl mw1089) rfl rfl rfl hdV_X3_units ⟨Nat.le_of_ble_eq_true rfl, Nat.le_of_ble_eq_true rfl⟩) ⟨fun a U g mk q => ⟨q.1, q.2.1, kM_call q.2.2⟩, va_recv hM.1 hY1 (ci := 6) (q0 := 0) rfl rfl, fun U hU hW => ⟨rfl, hU, kM_kept hM hS hN hU hW⟩⟩ rfl rfl hl.1 rfl (lv_room (Nat.le_of_ble_eq_true rfl)) dL_law_704 ⟨kroomC (by omega), kroomS (by omega)⟩) hS (fun a _ h => kAy_N hr hkH1 a h) (fun a h => kAy_N hr hkH1 a h) (fun H2 locs hC2 hy8 hk8 hS => ?_)
  obtain ⟨r2, hI2, hO2⟩ := LI_step hI hG1 hO1 hC2 hk8 h8
  refine lv_istore (lv' := [(6, .int (iZ (if ex2 (!inb (fx xs (i + 1)) 0 3) (!inb (fx xs (i + 2)) 0 4) = 0 then (putLr (cnt (σ 0 ((fx xs (i + 1)).toNat)) (σ 1 ((fx xs (i + 1)).toNat)) + sgn ((fx xs (i + 3)) * usize (fx xs (i + 2))) (!decide (fx xs (i + 4) = 0)))) else 0))), (5, .int (iZ (ex2 (!inb (fx xs (i + 1)) 0 3) (!inb (fx xs (i + 2)) 0 4)))), (4, .int (iZ i)), (3, .ref o), (2, .ref m0), (1, .ref (q 0)), (0, .ref b)]) hx hb dL_law_707 hl (by decide) rfl (fun ls hl => ?_)
  refine lv_aload_n hx hb dL_law_709 rfl (lv_at hl 4 rfl) ?_
  obtain ⟨hG2, hOK2, hq2, hY2, hr2, -⟩ := id hI2
  refine kc0 (fun _ q => q) (va_runV (As := []) (rest := []) ⟨hx, hb, hml, hown, hts⟩ (c_X3_thrown l dC dI dA k m0 r2 _ _ _ hY2 hr2 hOK2) (cwV 0 hts (kg_V mw1013 mw1014 mw1015 mw47 rfl mw1016) rfl rfl rfl hdV_X3_thrown ⟨Nat.le_of_ble_eq_true rfl, Nat.le_of_ble_eq_true rfl⟩) ⟨fun a U g mk q => ⟨q.1, q.2.1, kM_call q.2.2⟩, va_recv hM.1 hY2 (ci := 6) (q0 := 0) rfl rfl, fun U hU hW => ⟨rfl, hU, kM_kept hM hS hN hU hW⟩⟩ rfl rfl hl.1 rfl (lv_room (Nat.le_of_ble_eq_true rfl)) dL_law_710 ⟨kroomC (by omega), kroomS (by omega)⟩) ?_
  refine lv_iload hx hb dL_law_713 (lv_at hl 1 rfl) ?_
  refine kz_icmp_eq (tgt := 720) hx hb (ex2_rng _ _) (ex2_rng _ _) dL_law_715 (by decide) (fun c_1 => ?_) (fun c_1 => absurd rfl c_1)
  refine lv_iload hx hb dL_law_720 (lv_at hl 1 rfl) ?_
  refine kz_if_ne (tgt := 738) hx hb (ex2_rng _ _) dL_law_722 (by decide) (fun c_2 => ?_) (fun c_2 => ?_)
  · refine lv_goto (tgt := 4485) hx hb dL_law_738 (by decide) ?_
    refine W.widen (k := cs + 600) (n := ss + 4000) (by omega) (by omega) ?_
    exact kk r2 _ _ _ _ _ hI2 hS (by have h9 := h8.2; omega) (lv_sub hl [2, 3, 4, 5, 6] rfl)
  · refine lv_aload_n hx hb dL_law_725 rfl (lv_at hl 3 rfl) ?_
    obtain ⟨nv, vv, hn, hPn⟩ := hO2
    have hn := hn c_2
    subst hn
    refine va_getN (D := (dC, dI)) (ci := 5) (v := .long (lZ (w32 (putLr (cnt (σ 0 ((fx xs (i + 1)).toNat)) (σ 1 ((fx xs (i + 1)).toNat)) + sgn ((fx xs (i + 3)) * usize (fx xs (i + 2))) (!decide (fx xs (i + 4) = 0))))))) (C := RX2) (T := TX2) (N := 2) hx hb hts (fun w h => List.mem_cons_of_mem _ (gF_1_in h)) hown hM.1 hPn 0 rfl rfl 0 (by decide) (va_Nw.use rfl hL.1) (fun _ h9 => h9) rfl dL_law_726 ?_
    refine lv_iload hx hb dL_law_729 (lv_at hl 0 rfl) ?_
    refine kz_w32 ?_
    refine kz_i2l hx hb (w32_rng _) dL_law_731 ?_
    refine kz_lcmp_eq (tgt := 738) hx hb (by first | exact w32_lrng _ | exact bZ_lrng _) (by first | exact w32_lrng _ | exact bZ_lrng _) dL_law_732 dL_law_733 (by decide) (fun c_3 => ?_) (fun c_3 => absurd (by first | rw [if_pos c_2] | exact congrArg bZ (by rw [decide_eq_true c_2, Bool.true_and]) | (rw [decide_eq_true c_2]; rfl) | (simp [c_2]; done)) c_3)
    refine lv_goto (tgt := 4485) hx hb dL_law_738 (by decide) ?_
    refine W.widen (k := cs + 600) (n := ss + 4000) (by omega) (by omega) ?_
    exact kk r2 _ _ _ _ _ hI2 hS (by have h9 := h8.2; omega) (lv_sub hl [2, 3, 4, 5, 6] rfl)

set_option maxHeartbeats 4000000 in
set_option maxRecDepth 100000 in
theorem lc_5 {p : Program} {l : Launch} {e : Env} {s : State} {m : MethodId} {below : List Frame} {meth : Method} {c : Code} {Q : State → Prop} {b L : Nat} {xs : Nat → Int32} {dC : Nat → ClassId} {dI : Nat → Nat → Nat} {dA : Nat → ClassId} {k : Nat → Nat} (hst : l.stackTraces = false) (F : kF p s m meth c b L xs dC dI dA k)
    {q : Nat → Nat} {m0 : Nat} {r : Nat → Nat → Nat} {o : Nat} {σ : Nat → Nat → Int} {th : Int} {H : Heap} {locs : List Loc} {cs ss : Nat} {i : Int} {ls : Array Slot} (hI : LI dC dI dA k q m0 r o σ th H) (hS : va_S (kN0 k) s.heap H locs) (hi : 0 ≤ i ∧ i + 5 ≤ (L : Int)) (hcs : cs + 600 ≤ 707594) (hss : ss + 4000 ≤ 6979453) (h80 : 0 ≤ σ 8 0 ∧ σ 8 0 ≤ 100000) (hl : lv_has ls 7 [(4, .int (iZ i)), (3, .ref o), (2, .ref m0), (1, .ref (q 0)), (0, .ref b)])
    (kk : ∀ (r' : Nat → Nat → Nat) (σ' : Nat → Nat → Int) (th' : Int) (H' : Heap) (locs' : List Loc) (ls' : Array Slot), LI dC dI dA k q m0 r' o σ' th' H' → va_S (kN0 k) s.heap H' locs' → σ 8 0 ≤ σ' 8 0 ∧ σ' 8 0 ≤ σ 8 0 + 1 → lv_has ls' 7 [(4, .int (iZ i)), (3, .ref o), (2, .ref m0), (1, .ref (q 0)), (0, .ref b)] → W p l e room_1 s m #[Value.ref b] below meth c H' locs' (cs + 600) (ss + 4000) Q (F0 m 4485 ls' [])) :
    W p l e room_1 s m #[Value.ref b] below meth c H locs cs ss Q (F0 m 43 ls [.int (iZ 5)]) := by
  obtain ⟨hx, hb, hr9, hml, hown, hts, hX, hbl, hL5, hMJ, hL, hk0, hlocks⟩ := F
  obtain ⟨hG, hOK, hq, hY, hr, hO0, hko, ho9, h1, h2⟩ := id hI
  obtain ⟨sn, sv, -, hO⟩ := id hO0
  have hM := hMJ.1
  have hbA : ¬ kN0 k b := fun z => absurd (show k 0 ≤ b from z) (by omega)
  have hN : ∀ a, kN0 k a → k 0 ≤ a := fun _ h => h
  have hkH : k 0 ≤ H.size := by have := hS.1; omega
  refine lv_tableIn (tgt := 741) (off := 698) hx hb dL_law_43 (by rw [iZ_toInt (z := 5) (by omega)]; omega) (by rw [iZ_toInt (z := 5) (by omega)]; omega) (by rw [iZ_toInt (z := 5) (by omega)]; rfl) (by decide) ?_
  refine lv_aload_n hx hb dL_law_741 rfl (lv_at hl 3 rfl) ?_
  refine lv_aload_n hx hb dL_law_742 rfl (lv_at hl 4 rfl) ?_
  refine lv_iload hx hb dL_law_743 (lv_at hl 0 rfl) ?_
  refine lv_iconst (v := iZ 1) hx hb dL_law_745 rfl ?_
  refine kz_iadd hx hb dL_law_746 ?_
  refine kz_sld hx hb hX hbl hbA hS (by omega) hL5 dL_law_747 ?_
  refine lv_aload_n hx hb dL_law_748 rfl (lv_at hl 4 rfl) ?_
  refine lv_iload hx hb dL_law_749 (lv_at hl 0 rfl) ?_
  refine lv_iconst (v := iZ 2) hx hb dL_law_751 rfl ?_
  refine kz_iadd hx hb dL_law_752 ?_
  refine kz_sld hx hb hX hbl hbA hS (by omega) hL5 dL_law_753 ?_
  refine lv_aload_n hx hb dL_law_754 rfl (lv_at hl 4 rfl) ?_
  refine lv_iload hx hb dL_law_755 (lv_at hl 0 rfl) ?_
  refine lv_iconst (v := iZ 3) hx hb dL_law_757 rfl ?_
  refine kz_iadd hx hb dL_law_758 ?_
  refine kz_sld hx hb hX hbl hbA hS (by omega) hL5 dL_law_759 ?_
  refine lv_aload_n hx hb dL_law_760 rfl (lv_at hl 4 rfl) ?_
  refine lv_iload hx hb dL_law_761 (lv_at hl 0 rfl) ?_
  refine lv_iconst (v := iZ 4) hx hb dL_law_763 rfl ?_
  refine kz_iadd hx hb dL_law_764 ?_
  refine kz_sld hx hb hX hbl hbA hS (by omega) hL5 dL_law_765 ?_
  refine kz_b2i hx hb (fx_rng _ _) dL_law_766 dL_law_769 dL_law_770 dL_law_773 ?_
  refine lv_aload_n hx hb dL_law_774 rfl (lv_at hl 1 rfl) ?_
  refine kc2 (vx_runSW (As := [.ref (q 0), .int (iZ (fx xs (i + 1))), .int (iZ (fx xs (i + 2))), .int (iZ (fx xs (i + 3))), .int (iZ (bZ (!decide (fx xs (i + 4) = 0)))), .ref o]) (rest := []) ⟨hx, hb, hml, hown, hts⟩ (c_L_both l hst dC dI dA k q σ _ hG hOK hq o sn sv hO hko ho9 ((fx xs (i + 1))) ((fx xs (i + 2))) ((fx xs (i + 3))) (!decide (fx xs (i + 4) = 0)) (fx_rng _ _) (fx_rng _ _) (fx_rng _ _)) (vx_cwSW 6 hts (kg_S mw660 mw661 mw41 rfl mw662) rfl rfl rfl hdS_L_both ⟨Nat.le_of_ble_eq_true rfl, Nat.le_of_ble_eq_true rfl⟩) ⟨fun a U g mk q => ⟨q.1, q.2.1, kMJ_call q.2.2.1, kL_call q.2.2.2⟩, fun U hU hW => ⟨rfl, hU, kMJ_kept hMJ hS hN hU hW, kL_warm hL hW⟩⟩ rfl rfl hl.1 rfl (lv_room (Nat.le_of_ble_eq_true rfl)) dL_law_775 ⟨kroomC (by omega), kroomS (by omega)⟩) hS (fun a _ h => kAO_N hq hko hkH a h) (fun a h => kAO_N hq hko hkH a h) (fun H1 locs hC hy9 hk9 hS => ?_)
  obtain ⟨hG1, hO1⟩ := hC
  have hY1 := kY_keptO hY hk9 h1 h2
  have h8 : kOK8 σ (if ex2 (!inb (fx xs (i + 1)) 0 3) (!inb (fx xs (i + 2)) (-99999999) 99999999 || !inb (fx xs (i + 3)) (-99999999) 99999999) = 0 then (putLs σ ((fx xs (i + 1)).toNat) (cnt (σ 0 ((fx xs (i + 1)).toNat)) (σ 1 ((fx xs (i + 1)).toNat)) + sgn (12 * (fx xs (i + 2)) + (fx xs (i + 3))) (!decide (fx xs (i + 4) = 0)))) else σ) := k8_if hOK (fun h9 => k8m_both hOK ((fx xs (i + 1))) ((fx xs (i + 2))) ((fx xs (i + 3))) (!decide (fx xs (i + 4) = 0)) h9)
  have hkH1 : k 0 ≤ H1.size := Nat.le_trans hkH hy9
  clear hk9
  refine lv_istore (lv' := [(5, .int (iZ (ex2 (!inb (fx xs (i + 1)) 0 3) (!inb (fx xs (i + 2)) (-99999999) 99999999 || !inb (fx xs (i + 3)) (-99999999) 99999999)))), (4, .int (iZ i)), (3, .ref o), (2, .ref m0), (1, .ref (q 0)), (0, .ref b)]) hx hb dL_law_778 hl (by decide) rfl (fun ls hl => ?_)
  refine lv_aload_n hx hb dL_law_780 rfl (lv_at hl 3 rfl) ?_
  refine lv_aload_n hx hb dL_law_781 rfl (lv_at hl 5 rfl) ?_
  refine lv_iload hx hb dL_law_782 (lv_at hl 1 rfl) ?_
  refine lv_iconst (v := iZ 1) hx hb dL_law_784 rfl ?_
  refine kz_iadd hx hb dL_law_785 ?_
  refine kz_sld hx hb hX hbl hbA hS (by omega) hL5 dL_law_786 ?_
  refine lv_aload_n hx hb dL_law_787 rfl (lv_at hl 5 rfl) ?_
  refine lv_iload hx hb dL_law_788 (lv_at hl 1 rfl) ?_
  refine lv_iconst (v := iZ 2) hx hb dL_law_790 rfl ?_
  refine kz_iadd hx hb dL_law_791 ?_
  refine kz_sld hx hb hX hbl hbA hS (by omega) hL5 dL_law_792 ?_
  refine lv_aload_n hx hb dL_law_793 rfl (lv_at hl 5 rfl) ?_
  refine lv_iload hx hb dL_law_794 (lv_at hl 1 rfl) ?_
  refine lv_iconst (v := iZ 3) hx hb dL_law_796 rfl ?_
  refine kz_iadd hx hb dL_law_797 ?_
  refine kz_sld hx hb hX hbl hbA hS (by omega) hL5 dL_law_798 ?_
  refine lv_aload_n hx hb dL_law_799 rfl (lv_at hl 5 rfl) ?_
  refine lv_iload hx hb dL_law_800 (lv_at hl 1 rfl) ?_
  refine lv_iconst (v := iZ 4) hx hb dL_law_802 rfl ?_
  refine kz_iadd hx hb dL_law_803 ?_
  refine kz_sld hx hb hX hbl hbA hS (by omega) hL5 dL_law_804 ?_
  refine kz_b2i hx hb (fx_rng _ _) dL_law_805 dL_law_808 dL_law_809 dL_law_812 ?_
  refine kc2 (va_runV (As := [.int (iZ (fx xs (i + 1))), .int (iZ (fx xs (i + 2))), .int (iZ (fx xs (i + 3))), .int (iZ (bZ (!decide (fx xs (i + 4) = 0))))]) (rest := []) ⟨hx, hb, hml, hown, hts⟩ (c_X3_both l dC dI dA k m0 r σ th _ hY1 hr hOK ((fx xs (i + 1))) ((fx xs (i + 2))) ((fx xs (i + 3))) (!decide (fx xs (i + 4) = 0)) (fx_rng _ _) (fx_rng _ _) (fx_rng _ _)) (cwV 4 hts (kg_V mw1092 mw1093 mw1094 mw47 rfl mw1095) rfl rfl rfl hdV_X3_both ⟨Nat.le_of_ble_eq_true rfl, Nat.le_of_ble_eq_true rfl⟩) ⟨fun a U g mk q => ⟨q.1, q.2.1, kM_call q.2.2⟩, va_recv hM.1 hY1 (ci := 6) (q0 := 0) rfl rfl, fun U hU hW => ⟨rfl, hU, kM_kept hM hS hN hU hW⟩⟩ rfl rfl hl.1 rfl (lv_room (Nat.le_of_ble_eq_true rfl)) dL_law_813 ⟨kroomC (by omega), kroomS (by omega)⟩) hS (fun a _ h => kAy_N hr hkH1 a h) (fun a h => kAy_N hr hkH1 a h) (fun H2 locs hC2 hy8 hk8 hS => ?_)
  obtain ⟨r2, hI2, hO2⟩ := LI_step hI hG1 hO1 hC2 hk8 h8
  refine lv_istore (lv' := [(6, .int (iZ (if ex2 (!inb (fx xs (i + 1)) 0 3) (!inb (fx xs (i + 2)) (-99999999) 99999999 || !inb (fx xs (i + 3)) (-99999999) 99999999) = 0 then (putLr (cnt (σ 0 ((fx xs (i + 1)).toNat)) (σ 1 ((fx xs (i + 1)).toNat)) + sgn (12 * (fx xs (i + 2)) + (fx xs (i + 3))) (!decide (fx xs (i + 4) = 0)))) else 0))), (5, .int (iZ (ex2 (!inb (fx xs (i + 1)) 0 3) (!inb (fx xs (i + 2)) (-99999999) 99999999 || !inb (fx xs (i + 3)) (-99999999) 99999999)))), (4, .int (iZ i)), (3, .ref o), (2, .ref m0), (1, .ref (q 0)), (0, .ref b)]) hx hb dL_law_816 hl (by decide) rfl (fun ls hl => ?_)
  refine lv_aload_n hx hb dL_law_818 rfl (lv_at hl 4 rfl) ?_
  obtain ⟨hG2, hOK2, hq2, hY2, hr2, -⟩ := id hI2
  refine kc0 (fun _ q => q) (va_runV (As := []) (rest := []) ⟨hx, hb, hml, hown, hts⟩ (c_X3_thrown l dC dI dA k m0 r2 _ _ _ hY2 hr2 hOK2) (cwV 0 hts (kg_V mw1013 mw1014 mw1015 mw47 rfl mw1016) rfl rfl rfl hdV_X3_thrown ⟨Nat.le_of_ble_eq_true rfl, Nat.le_of_ble_eq_true rfl⟩) ⟨fun a U g mk q => ⟨q.1, q.2.1, kM_call q.2.2⟩, va_recv hM.1 hY2 (ci := 6) (q0 := 0) rfl rfl, fun U hU hW => ⟨rfl, hU, kM_kept hM hS hN hU hW⟩⟩ rfl rfl hl.1 rfl (lv_room (Nat.le_of_ble_eq_true rfl)) dL_law_819 ⟨kroomC (by omega), kroomS (by omega)⟩) ?_
  refine lv_iload hx hb dL_law_822 (lv_at hl 1 rfl) ?_
  refine kz_icmp_eq (tgt := 829) hx hb (ex2_rng _ _) (ex2_rng _ _) dL_law_824 (by decide) (fun c_1 => ?_) (fun c_1 => absurd rfl c_1)
  refine lv_iload hx hb dL_law_829 (lv_at hl 1 rfl) ?_
  refine kz_if_ne (tgt := 847) hx hb (ex2_rng _ _) dL_law_831 (by decide) (fun c_2 => ?_) (fun c_2 => ?_)
  · refine lv_goto (tgt := 4485) hx hb dL_law_847 (by decide) ?_
    refine W.widen (k := cs + 600) (n := ss + 4000) (by omega) (by omega) ?_
    exact kk r2 _ _ _ _ _ hI2 hS (by have h9 := h8.2; omega) (lv_sub hl [2, 3, 4, 5, 6] rfl)
  · refine lv_aload_n hx hb dL_law_834 rfl (lv_at hl 3 rfl) ?_
    obtain ⟨nv, vv, hn, hPn⟩ := hO2
    have hn := hn c_2
    subst hn
    refine va_getN (D := (dC, dI)) (ci := 5) (v := .long (lZ (w32 (putLr (cnt (σ 0 ((fx xs (i + 1)).toNat)) (σ 1 ((fx xs (i + 1)).toNat)) + sgn (12 * (fx xs (i + 2)) + (fx xs (i + 3))) (!decide (fx xs (i + 4) = 0))))))) (C := RX2) (T := TX2) (N := 2) hx hb hts (fun w h => List.mem_cons_of_mem _ (gF_1_in h)) hown hM.1 hPn 0 rfl rfl 0 (by decide) (va_Nw.use rfl hL.1) (fun _ h9 => h9) rfl dL_law_835 ?_
    refine lv_iload hx hb dL_law_838 (lv_at hl 0 rfl) ?_
    refine kz_w32 ?_
    refine kz_i2l hx hb (w32_rng _) dL_law_840 ?_
    refine kz_lcmp_eq (tgt := 847) hx hb (by first | exact w32_lrng _ | exact bZ_lrng _) (by first | exact w32_lrng _ | exact bZ_lrng _) dL_law_841 dL_law_842 (by decide) (fun c_3 => ?_) (fun c_3 => absurd (by first | rw [if_pos c_2] | exact congrArg bZ (by rw [decide_eq_true c_2, Bool.true_and]) | (rw [decide_eq_true c_2]; rfl) | (simp [c_2]; done)) c_3)
    refine lv_goto (tgt := 4485) hx hb dL_law_847 (by decide) ?_
    refine W.widen (k := cs + 600) (n := ss + 4000) (by omega) (by omega) ?_
    exact kk r2 _ _ _ _ _ hI2 hS (by have h9 := h8.2; omega) (lv_sub hl [2, 3, 4, 5, 6] rfl)

set_option maxHeartbeats 4000000 in
set_option maxRecDepth 100000 in
theorem lc_6 {p : Program} {l : Launch} {e : Env} {s : State} {m : MethodId} {below : List Frame} {meth : Method} {c : Code} {Q : State → Prop} {b L : Nat} {xs : Nat → Int32} {dC : Nat → ClassId} {dI : Nat → Nat → Nat} {dA : Nat → ClassId} {k : Nat → Nat} (hst : l.stackTraces = false) (F : kF p s m meth c b L xs dC dI dA k)
    {q : Nat → Nat} {m0 : Nat} {r : Nat → Nat → Nat} {o : Nat} {σ : Nat → Nat → Int} {th : Int} {H : Heap} {locs : List Loc} {cs ss : Nat} {i : Int} {ls : Array Slot} (hI : LI dC dI dA k q m0 r o σ th H) (hS : va_S (kN0 k) s.heap H locs) (hi : 0 ≤ i ∧ i + 5 ≤ (L : Int)) (hcs : cs + 600 ≤ 707594) (hss : ss + 4000 ≤ 6979453) (h80 : 0 ≤ σ 8 0 ∧ σ 8 0 ≤ 100000) (hl : lv_has ls 7 [(4, .int (iZ i)), (3, .ref o), (2, .ref m0), (1, .ref (q 0)), (0, .ref b)])
    (kk : ∀ (r' : Nat → Nat → Nat) (σ' : Nat → Nat → Int) (th' : Int) (H' : Heap) (locs' : List Loc) (ls' : Array Slot), LI dC dI dA k q m0 r' o σ' th' H' → va_S (kN0 k) s.heap H' locs' → σ 8 0 ≤ σ' 8 0 ∧ σ' 8 0 ≤ σ 8 0 + 1 → lv_has ls' 7 [(4, .int (iZ i)), (3, .ref o), (2, .ref m0), (1, .ref (q 0)), (0, .ref b)] → W p l e room_1 s m #[Value.ref b] below meth c H' locs' (cs + 600) (ss + 4000) Q (F0 m 4485 ls' [])) :
    W p l e room_1 s m #[Value.ref b] below meth c H locs cs ss Q (F0 m 43 ls [.int (iZ 6)]) := by
  obtain ⟨hx, hb, hr9, hml, hown, hts, hX, hbl, hL5, hMJ, hL, hk0, hlocks⟩ := F
  obtain ⟨hG, hOK, hq, hY, hr, hO0, hko, ho9, h1, h2⟩ := id hI
  obtain ⟨sn, sv, -, hO⟩ := id hO0
  have hM := hMJ.1
  have hbA : ¬ kN0 k b := fun z => absurd (show k 0 ≤ b from z) (by omega)
  have hN : ∀ a, kN0 k a → k 0 ≤ a := fun _ h => h
  have hkH : k 0 ≤ H.size := by have := hS.1; omega
  refine lv_tableIn (tgt := 850) (off := 807) hx hb dL_law_43 (by rw [iZ_toInt (z := 6) (by omega)]; omega) (by rw [iZ_toInt (z := 6) (by omega)]; omega) (by rw [iZ_toInt (z := 6) (by omega)]; rfl) (by decide) ?_
  refine lv_aload_n hx hb dL_law_850 rfl (lv_at hl 3 rfl) ?_
  refine lv_aload_n hx hb dL_law_851 rfl (lv_at hl 4 rfl) ?_
  refine lv_iload hx hb dL_law_852 (lv_at hl 0 rfl) ?_
  refine lv_iconst (v := iZ 1) hx hb dL_law_854 rfl ?_
  refine kz_iadd hx hb dL_law_855 ?_
  refine kz_sld hx hb hX hbl hbA hS (by omega) hL5 dL_law_856 ?_
  refine lv_aload_n hx hb dL_law_857 rfl (lv_at hl 4 rfl) ?_
  refine lv_iload hx hb dL_law_858 (lv_at hl 0 rfl) ?_
  refine lv_iconst (v := iZ 2) hx hb dL_law_860 rfl ?_
  refine kz_iadd hx hb dL_law_861 ?_
  refine kz_sld hx hb hX hbl hbA hS (by omega) hL5 dL_law_862 ?_
  refine lv_aload_n hx hb dL_law_863 rfl (lv_at hl 1 rfl) ?_
  refine kc2 (vx_runSW (As := [.ref (q 0), .int (iZ (fx xs (i + 1))), .int (iZ (fx xs (i + 2))), .ref o]) (rest := []) ⟨hx, hb, hml, hown, hts⟩ (c_L_leafYear l hst dC dI dA k q σ _ hG hOK hq o sn sv hO hko ho9 ((fx xs (i + 1))) ((fx xs (i + 2))) (fx_rng _ _) (fx_rng _ _)) (vx_cwSW 4 hts (kg_S mw669 mw670 mw41 rfl mw671) rfl rfl rfl hdS_L_leafYear ⟨Nat.le_of_ble_eq_true rfl, Nat.le_of_ble_eq_true rfl⟩) ⟨fun a U g mk q => ⟨q.1, q.2.1, kMJ_call q.2.2.1, kL_call q.2.2.2⟩, fun U hU hW => ⟨rfl, hU, kMJ_kept hMJ hS hN hU hW, kL_warm hL hW⟩⟩ rfl rfl hl.1 rfl (lv_room (Nat.le_of_ble_eq_true rfl)) dL_law_864 ⟨kroomC (by omega), kroomS (by omega)⟩) hS (fun a _ h => kAO_N hq hko hkH a h) (fun a h => kAO_N hq hko hkH a h) (fun H1 locs hC hy9 hk9 hS => ?_)
  obtain ⟨hG1, hO1⟩ := hC
  have hY1 := kY_keptO hY hk9 h1 h2
  have h8 : kOK8 σ (if ex2 (!inb (fx xs (i + 1)) 0 3) (!inb (fx xs (i + 2)) (-999999999) 999999999) = 0 then (sU (sU σ 0 (fx xs (i + 1)).toNat (fx xs (i + 2))) 1 (fx xs (i + 1)).toNat (σ 1 ((fx xs (i + 1)).toNat))) else σ) := k8_if hOK (fun h9 => k8m_leafYear hOK ((fx xs (i + 1))) ((fx xs (i + 2))) h9)
  have hkH1 : k 0 ≤ H1.size := Nat.le_trans hkH hy9
  clear hk9
  refine lv_istore (lv' := [(5, .int (iZ (ex2 (!inb (fx xs (i + 1)) 0 3) (!inb (fx xs (i + 2)) (-999999999) 999999999)))), (4, .int (iZ i)), (3, .ref o), (2, .ref m0), (1, .ref (q 0)), (0, .ref b)]) hx hb dL_law_867 hl (by decide) rfl (fun ls hl => ?_)
  refine lv_aload_n hx hb dL_law_869 rfl (lv_at hl 3 rfl) ?_
  refine lv_aload_n hx hb dL_law_870 rfl (lv_at hl 5 rfl) ?_
  refine lv_iload hx hb dL_law_871 (lv_at hl 1 rfl) ?_
  refine lv_iconst (v := iZ 1) hx hb dL_law_873 rfl ?_
  refine kz_iadd hx hb dL_law_874 ?_
  refine kz_sld hx hb hX hbl hbA hS (by omega) hL5 dL_law_875 ?_
  refine lv_aload_n hx hb dL_law_876 rfl (lv_at hl 5 rfl) ?_
  refine lv_iload hx hb dL_law_877 (lv_at hl 1 rfl) ?_
  refine lv_iconst (v := iZ 2) hx hb dL_law_879 rfl ?_
  refine kz_iadd hx hb dL_law_880 ?_
  refine kz_sld hx hb hX hbl hbA hS (by omega) hL5 dL_law_881 ?_
  refine kc2 (va_runV (As := [.int (iZ (fx xs (i + 1))), .int (iZ (fx xs (i + 2)))]) (rest := []) ⟨hx, hb, hml, hown, hts⟩ (c_X3_leafYear l dC dI dA k m0 r σ th _ hY1 hr hOK ((fx xs (i + 1))) ((fx xs (i + 2))) (fx_rng _ _) (fx_rng _ _)) (cwV 2 hts (kg_V mw1098 mw1099 mw1100 mw47 rfl mw1101) rfl rfl rfl hdV_X3_leafYear ⟨Nat.le_of_ble_eq_true rfl, Nat.le_of_ble_eq_true rfl⟩) ⟨fun a U g mk q => ⟨q.1, q.2.1, kM_call q.2.2⟩, va_recv hM.1 hY1 (ci := 6) (q0 := 0) rfl rfl, fun U hU hW => ⟨rfl, hU, kM_kept hM hS hN hU hW⟩⟩ rfl rfl hl.1 rfl (lv_room (Nat.le_of_ble_eq_true rfl)) dL_law_882 ⟨kroomC (by omega), kroomS (by omega)⟩) hS (fun a _ h => kAy_N hr hkH1 a h) (fun a h => kAy_N hr hkH1 a h) (fun H2 locs hC2 hy8 hk8 hS => ?_)
  obtain ⟨r2, hI2, hO2⟩ := LI_step hI hG1 hO1 hC2 hk8 h8
  refine lv_istore (lv' := [(6, .int (iZ (if ex2 (!inb (fx xs (i + 1)) 0 3) (!inb (fx xs (i + 2)) (-999999999) 999999999) = 0 then (σ 0 ((fx xs (i + 1)).toNat)) else 0))), (5, .int (iZ (ex2 (!inb (fx xs (i + 1)) 0 3) (!inb (fx xs (i + 2)) (-999999999) 999999999)))), (4, .int (iZ i)), (3, .ref o), (2, .ref m0), (1, .ref (q 0)), (0, .ref b)]) hx hb dL_law_885 hl (by decide) rfl (fun ls hl => ?_)
  refine lv_aload_n hx hb dL_law_887 rfl (lv_at hl 4 rfl) ?_
  obtain ⟨hG2, hOK2, hq2, hY2, hr2, -⟩ := id hI2
  refine kc0 (fun _ q => q) (va_runV (As := []) (rest := []) ⟨hx, hb, hml, hown, hts⟩ (c_X3_thrown l dC dI dA k m0 r2 _ _ _ hY2 hr2 hOK2) (cwV 0 hts (kg_V mw1013 mw1014 mw1015 mw47 rfl mw1016) rfl rfl rfl hdV_X3_thrown ⟨Nat.le_of_ble_eq_true rfl, Nat.le_of_ble_eq_true rfl⟩) ⟨fun a U g mk q => ⟨q.1, q.2.1, kM_call q.2.2⟩, va_recv hM.1 hY2 (ci := 6) (q0 := 0) rfl rfl, fun U hU hW => ⟨rfl, hU, kM_kept hM hS hN hU hW⟩⟩ rfl rfl hl.1 rfl (lv_room (Nat.le_of_ble_eq_true rfl)) dL_law_888 ⟨kroomC (by omega), kroomS (by omega)⟩) ?_
  refine lv_iload hx hb dL_law_891 (lv_at hl 1 rfl) ?_
  refine kz_icmp_eq (tgt := 898) hx hb (ex2_rng _ _) (ex2_rng _ _) dL_law_893 (by decide) (fun c_1 => ?_) (fun c_1 => absurd rfl c_1)
  refine lv_iload hx hb dL_law_898 (lv_at hl 1 rfl) ?_
  refine kz_if_ne (tgt := 916) hx hb (ex2_rng _ _) dL_law_900 (by decide) (fun c_2 => ?_) (fun c_2 => ?_)
  · refine lv_goto (tgt := 4485) hx hb dL_law_916 (by decide) ?_
    refine W.widen (k := cs + 600) (n := ss + 4000) (by omega) (by omega) ?_
    exact kk r2 _ _ _ _ _ hI2 hS (by have h9 := h8.2; omega) (lv_sub hl [2, 3, 4, 5, 6] rfl)
  · refine lv_aload_n hx hb dL_law_903 rfl (lv_at hl 3 rfl) ?_
    obtain ⟨nv, vv, hn, hPn⟩ := hO2
    have hn := hn c_2
    subst hn
    refine va_getN (D := (dC, dI)) (ci := 5) (v := .long (lZ (w32 (σ 0 ((fx xs (i + 1)).toNat))))) (C := RX2) (T := TX2) (N := 2) hx hb hts (fun w h => List.mem_cons_of_mem _ (gF_1_in h)) hown hM.1 hPn 0 rfl rfl 0 (by decide) (va_Nw.use rfl hL.1) (fun _ h9 => h9) rfl dL_law_904 ?_
    refine lv_iload hx hb dL_law_907 (lv_at hl 0 rfl) ?_
    refine kz_w32 ?_
    refine kz_i2l hx hb (w32_rng _) dL_law_909 ?_
    refine kz_lcmp_eq (tgt := 916) hx hb (by first | exact w32_lrng _ | exact bZ_lrng _) (by first | exact w32_lrng _ | exact bZ_lrng _) dL_law_910 dL_law_911 (by decide) (fun c_3 => ?_) (fun c_3 => absurd (by first | rw [if_pos c_2] | exact congrArg bZ (by rw [decide_eq_true c_2, Bool.true_and]) | (rw [decide_eq_true c_2]; rfl) | (simp [c_2]; done)) c_3)
    refine lv_goto (tgt := 4485) hx hb dL_law_916 (by decide) ?_
    refine W.widen (k := cs + 600) (n := ss + 4000) (by omega) (by omega) ?_
    exact kk r2 _ _ _ _ _ hI2 hS (by have h9 := h8.2; omega) (lv_sub hl [2, 3, 4, 5, 6] rfl)

set_option maxHeartbeats 4000000 in
set_option maxRecDepth 100000 in
theorem lc_7 {p : Program} {l : Launch} {e : Env} {s : State} {m : MethodId} {below : List Frame} {meth : Method} {c : Code} {Q : State → Prop} {b L : Nat} {xs : Nat → Int32} {dC : Nat → ClassId} {dI : Nat → Nat → Nat} {dA : Nat → ClassId} {k : Nat → Nat} (hst : l.stackTraces = false) (F : kF p s m meth c b L xs dC dI dA k)
    {q : Nat → Nat} {m0 : Nat} {r : Nat → Nat → Nat} {o : Nat} {σ : Nat → Nat → Int} {th : Int} {H : Heap} {locs : List Loc} {cs ss : Nat} {i : Int} {ls : Array Slot} (hI : LI dC dI dA k q m0 r o σ th H) (hS : va_S (kN0 k) s.heap H locs) (hi : 0 ≤ i ∧ i + 5 ≤ (L : Int)) (hcs : cs + 600 ≤ 707594) (hss : ss + 4000 ≤ 6979453) (h80 : 0 ≤ σ 8 0 ∧ σ 8 0 ≤ 100000) (hl : lv_has ls 7 [(4, .int (iZ i)), (3, .ref o), (2, .ref m0), (1, .ref (q 0)), (0, .ref b)])
    (kk : ∀ (r' : Nat → Nat → Nat) (σ' : Nat → Nat → Int) (th' : Int) (H' : Heap) (locs' : List Loc) (ls' : Array Slot), LI dC dI dA k q m0 r' o σ' th' H' → va_S (kN0 k) s.heap H' locs' → σ 8 0 ≤ σ' 8 0 ∧ σ' 8 0 ≤ σ 8 0 + 1 → lv_has ls' 7 [(4, .int (iZ i)), (3, .ref o), (2, .ref m0), (1, .ref (q 0)), (0, .ref b)] → W p l e room_1 s m #[Value.ref b] below meth c H' locs' (cs + 600) (ss + 4000) Q (F0 m 4485 ls' [])) :
    W p l e room_1 s m #[Value.ref b] below meth c H locs cs ss Q (F0 m 43 ls [.int (iZ 7)]) := by
  obtain ⟨hx, hb, hr9, hml, hown, hts, hX, hbl, hL5, hMJ, hL, hk0, hlocks⟩ := F
  obtain ⟨hG, hOK, hq, hY, hr, hO0, hko, ho9, h1, h2⟩ := id hI
  obtain ⟨sn, sv, -, hO⟩ := id hO0
  have hM := hMJ.1
  have hbA : ¬ kN0 k b := fun z => absurd (show k 0 ≤ b from z) (by omega)
  have hN : ∀ a, kN0 k a → k 0 ≤ a := fun _ h => h
  have hkH : k 0 ≤ H.size := by have := hS.1; omega
  refine lv_tableIn (tgt := 919) (off := 876) hx hb dL_law_43 (by rw [iZ_toInt (z := 7) (by omega)]; omega) (by rw [iZ_toInt (z := 7) (by omega)]; omega) (by rw [iZ_toInt (z := 7) (by omega)]; rfl) (by decide) ?_
  refine lv_aload_n hx hb dL_law_919 rfl (lv_at hl 3 rfl) ?_
  refine lv_aload_n hx hb dL_law_920 rfl (lv_at hl 4 rfl) ?_
  refine lv_iload hx hb dL_law_921 (lv_at hl 0 rfl) ?_
  refine lv_iconst (v := iZ 1) hx hb dL_law_923 rfl ?_
  refine kz_iadd hx hb dL_law_924 ?_
  refine kz_sld hx hb hX hbl hbA hS (by omega) hL5 dL_law_925 ?_
  refine lv_aload_n hx hb dL_law_926 rfl (lv_at hl 4 rfl) ?_
  refine lv_iload hx hb dL_law_927 (lv_at hl 0 rfl) ?_
  refine lv_iconst (v := iZ 2) hx hb dL_law_929 rfl ?_
  refine kz_iadd hx hb dL_law_930 ?_
  refine kz_sld hx hb hX hbl hbA hS (by omega) hL5 dL_law_931 ?_
  refine lv_aload_n hx hb dL_law_932 rfl (lv_at hl 1 rfl) ?_
  refine kc2 (vx_runSW (As := [.ref (q 0), .int (iZ (fx xs (i + 1))), .int (iZ (fx xs (i + 2))), .ref o]) (rest := []) ⟨hx, hb, hml, hown, hts⟩ (c_L_leafMonth l hst dC dI dA k q σ _ hG hOK hq o sn sv hO hko ho9 ((fx xs (i + 1))) ((fx xs (i + 2))) (fx_rng _ _) (fx_rng _ _)) (vx_cwSW 4 hts (kg_S mw676 mw677 mw41 rfl mw678) rfl rfl rfl hdS_L_leafMonth ⟨Nat.le_of_ble_eq_true rfl, Nat.le_of_ble_eq_true rfl⟩) ⟨fun a U g mk q => ⟨q.1, q.2.1, kMJ_call q.2.2.1, kL_call q.2.2.2⟩, fun U hU hW => ⟨rfl, hU, kMJ_kept hMJ hS hN hU hW, kL_warm hL hW⟩⟩ rfl rfl hl.1 rfl (lv_room (Nat.le_of_ble_eq_true rfl)) dL_law_933 ⟨kroomC (by omega), kroomS (by omega)⟩) hS (fun a _ h => kAO_N hq hko hkH a h) (fun a h => kAO_N hq hko hkH a h) (fun H1 locs hC hy9 hk9 hS => ?_)
  obtain ⟨hG1, hO1⟩ := hC
  have hY1 := kY_keptO hY hk9 h1 h2
  have h8 : kOK8 σ (if ex2 (!inb (fx xs (i + 1)) 0 3) (!inb (fx xs (i + 2)) 1 12) = 0 then (sU (sU σ 0 (fx xs (i + 1)).toNat (σ 0 ((fx xs (i + 1)).toNat))) 1 (fx xs (i + 1)).toNat (fx xs (i + 2))) else σ) := k8_if hOK (fun h9 => k8m_leafMonth hOK ((fx xs (i + 1))) ((fx xs (i + 2))) h9)
  have hkH1 : k 0 ≤ H1.size := Nat.le_trans hkH hy9
  clear hk9
  refine lv_istore (lv' := [(5, .int (iZ (ex2 (!inb (fx xs (i + 1)) 0 3) (!inb (fx xs (i + 2)) 1 12)))), (4, .int (iZ i)), (3, .ref o), (2, .ref m0), (1, .ref (q 0)), (0, .ref b)]) hx hb dL_law_936 hl (by decide) rfl (fun ls hl => ?_)
  refine lv_aload_n hx hb dL_law_938 rfl (lv_at hl 3 rfl) ?_
  refine lv_aload_n hx hb dL_law_939 rfl (lv_at hl 5 rfl) ?_
  refine lv_iload hx hb dL_law_940 (lv_at hl 1 rfl) ?_
  refine lv_iconst (v := iZ 1) hx hb dL_law_942 rfl ?_
  refine kz_iadd hx hb dL_law_943 ?_
  refine kz_sld hx hb hX hbl hbA hS (by omega) hL5 dL_law_944 ?_
  refine lv_aload_n hx hb dL_law_945 rfl (lv_at hl 5 rfl) ?_
  refine lv_iload hx hb dL_law_946 (lv_at hl 1 rfl) ?_
  refine lv_iconst (v := iZ 2) hx hb dL_law_948 rfl ?_
  refine kz_iadd hx hb dL_law_949 ?_
  refine kz_sld hx hb hX hbl hbA hS (by omega) hL5 dL_law_950 ?_
  refine kc2 (va_runV (As := [.int (iZ (fx xs (i + 1))), .int (iZ (fx xs (i + 2)))]) (rest := []) ⟨hx, hb, hml, hown, hts⟩ (c_X3_leafMonth l dC dI dA k m0 r σ th _ hY1 hr hOK ((fx xs (i + 1))) ((fx xs (i + 2))) (fx_rng _ _) (fx_rng _ _)) (cwV 2 hts (kg_V mw1102 mw1103 mw1104 mw47 rfl mw1105) rfl rfl rfl hdV_X3_leafMonth ⟨Nat.le_of_ble_eq_true rfl, Nat.le_of_ble_eq_true rfl⟩) ⟨fun a U g mk q => ⟨q.1, q.2.1, kM_call q.2.2⟩, va_recv hM.1 hY1 (ci := 6) (q0 := 0) rfl rfl, fun U hU hW => ⟨rfl, hU, kM_kept hM hS hN hU hW⟩⟩ rfl rfl hl.1 rfl (lv_room (Nat.le_of_ble_eq_true rfl)) dL_law_951 ⟨kroomC (by omega), kroomS (by omega)⟩) hS (fun a _ h => kAy_N hr hkH1 a h) (fun a h => kAy_N hr hkH1 a h) (fun H2 locs hC2 hy8 hk8 hS => ?_)
  obtain ⟨r2, hI2, hO2⟩ := LI_step hI hG1 hO1 hC2 hk8 h8
  refine lv_istore (lv' := [(6, .int (iZ (if ex2 (!inb (fx xs (i + 1)) 0 3) (!inb (fx xs (i + 2)) 1 12) = 0 then (σ 1 ((fx xs (i + 1)).toNat)) else 0))), (5, .int (iZ (ex2 (!inb (fx xs (i + 1)) 0 3) (!inb (fx xs (i + 2)) 1 12)))), (4, .int (iZ i)), (3, .ref o), (2, .ref m0), (1, .ref (q 0)), (0, .ref b)]) hx hb dL_law_954 hl (by decide) rfl (fun ls hl => ?_)
  refine lv_aload_n hx hb dL_law_956 rfl (lv_at hl 4 rfl) ?_
  obtain ⟨hG2, hOK2, hq2, hY2, hr2, -⟩ := id hI2
  refine kc0 (fun _ q => q) (va_runV (As := []) (rest := []) ⟨hx, hb, hml, hown, hts⟩ (c_X3_thrown l dC dI dA k m0 r2 _ _ _ hY2 hr2 hOK2) (cwV 0 hts (kg_V mw1013 mw1014 mw1015 mw47 rfl mw1016) rfl rfl rfl hdV_X3_thrown ⟨Nat.le_of_ble_eq_true rfl, Nat.le_of_ble_eq_true rfl⟩) ⟨fun a U g mk q => ⟨q.1, q.2.1, kM_call q.2.2⟩, va_recv hM.1 hY2 (ci := 6) (q0 := 0) rfl rfl, fun U hU hW => ⟨rfl, hU, kM_kept hM hS hN hU hW⟩⟩ rfl rfl hl.1 rfl (lv_room (Nat.le_of_ble_eq_true rfl)) dL_law_957 ⟨kroomC (by omega), kroomS (by omega)⟩) ?_
  refine lv_iload hx hb dL_law_960 (lv_at hl 1 rfl) ?_
  refine kz_icmp_eq (tgt := 967) hx hb (ex2_rng _ _) (ex2_rng _ _) dL_law_962 (by decide) (fun c_1 => ?_) (fun c_1 => absurd rfl c_1)
  refine lv_iload hx hb dL_law_967 (lv_at hl 1 rfl) ?_
  refine kz_if_ne (tgt := 985) hx hb (ex2_rng _ _) dL_law_969 (by decide) (fun c_2 => ?_) (fun c_2 => ?_)
  · refine lv_goto (tgt := 4485) hx hb dL_law_985 (by decide) ?_
    refine W.widen (k := cs + 600) (n := ss + 4000) (by omega) (by omega) ?_
    exact kk r2 _ _ _ _ _ hI2 hS (by have h9 := h8.2; omega) (lv_sub hl [2, 3, 4, 5, 6] rfl)
  · refine lv_aload_n hx hb dL_law_972 rfl (lv_at hl 3 rfl) ?_
    obtain ⟨nv, vv, hn, hPn⟩ := hO2
    have hn := hn c_2
    subst hn
    refine va_getN (D := (dC, dI)) (ci := 5) (v := .long (lZ (w32 (σ 1 ((fx xs (i + 1)).toNat))))) (C := RX2) (T := TX2) (N := 2) hx hb hts (fun w h => List.mem_cons_of_mem _ (gF_1_in h)) hown hM.1 hPn 0 rfl rfl 0 (by decide) (va_Nw.use rfl hL.1) (fun _ h9 => h9) rfl dL_law_973 ?_
    refine lv_iload hx hb dL_law_976 (lv_at hl 0 rfl) ?_
    refine kz_w32 ?_
    refine kz_i2l hx hb (w32_rng _) dL_law_978 ?_
    refine kz_lcmp_eq (tgt := 985) hx hb (by first | exact w32_lrng _ | exact bZ_lrng _) (by first | exact w32_lrng _ | exact bZ_lrng _) dL_law_979 dL_law_980 (by decide) (fun c_3 => ?_) (fun c_3 => absurd (by first | rw [if_pos c_2] | exact congrArg bZ (by rw [decide_eq_true c_2, Bool.true_and]) | (rw [decide_eq_true c_2]; rfl) | (simp [c_2]; done)) c_3)
    refine lv_goto (tgt := 4485) hx hb dL_law_985 (by decide) ?_
    refine W.widen (k := cs + 600) (n := ss + 4000) (by omega) (by omega) ?_
    exact kk r2 _ _ _ _ _ hI2 hS (by have h9 := h8.2; omega) (lv_sub hl [2, 3, 4, 5, 6] rfl)

set_option maxHeartbeats 4000000 in
set_option maxRecDepth 100000 in
theorem lc_8 {p : Program} {l : Launch} {e : Env} {s : State} {m : MethodId} {below : List Frame} {meth : Method} {c : Code} {Q : State → Prop} {b L : Nat} {xs : Nat → Int32} {dC : Nat → ClassId} {dI : Nat → Nat → Nat} {dA : Nat → ClassId} {k : Nat → Nat} (hst : l.stackTraces = false) (F : kF p s m meth c b L xs dC dI dA k)
    {q : Nat → Nat} {m0 : Nat} {r : Nat → Nat → Nat} {o : Nat} {σ : Nat → Nat → Int} {th : Int} {H : Heap} {locs : List Loc} {cs ss : Nat} {i : Int} {ls : Array Slot} (hI : LI dC dI dA k q m0 r o σ th H) (hS : va_S (kN0 k) s.heap H locs) (hi : 0 ≤ i ∧ i + 5 ≤ (L : Int)) (hcs : cs + 600 ≤ 707594) (hss : ss + 4000 ≤ 6979453) (h80 : 0 ≤ σ 8 0 ∧ σ 8 0 ≤ 100000) (hl : lv_has ls 7 [(4, .int (iZ i)), (3, .ref o), (2, .ref m0), (1, .ref (q 0)), (0, .ref b)])
    (kk : ∀ (r' : Nat → Nat → Nat) (σ' : Nat → Nat → Int) (th' : Int) (H' : Heap) (locs' : List Loc) (ls' : Array Slot), LI dC dI dA k q m0 r' o σ' th' H' → va_S (kN0 k) s.heap H' locs' → σ 8 0 ≤ σ' 8 0 ∧ σ' 8 0 ≤ σ 8 0 + 1 → lv_has ls' 7 [(4, .int (iZ i)), (3, .ref o), (2, .ref m0), (1, .ref (q 0)), (0, .ref b)] → W p l e room_1 s m #[Value.ref b] below meth c H' locs' (cs + 600) (ss + 4000) Q (F0 m 4485 ls' [])) :
    W p l e room_1 s m #[Value.ref b] below meth c H locs cs ss Q (F0 m 43 ls [.int (iZ 8)]) := by
  obtain ⟨hx, hb, hr9, hml, hown, hts, hX, hbl, hL5, hMJ, hL, hk0, hlocks⟩ := F
  obtain ⟨hG, hOK, hq, hY, hr, hO0, hko, ho9, h1, h2⟩ := id hI
  obtain ⟨sn, sv, -, hO⟩ := id hO0
  have hM := hMJ.1
  have hbA : ¬ kN0 k b := fun z => absurd (show k 0 ≤ b from z) (by omega)
  have hN : ∀ a, kN0 k a → k 0 ≤ a := fun _ h => h
  have hkH : k 0 ≤ H.size := by have := hS.1; omega
  refine lv_tableIn (tgt := 988) (off := 945) hx hb dL_law_43 (by rw [iZ_toInt (z := 8) (by omega)]; omega) (by rw [iZ_toInt (z := 8) (by omega)]; omega) (by rw [iZ_toInt (z := 8) (by omega)]; rfl) (by decide) ?_
  refine lv_aload_n hx hb dL_law_988 rfl (lv_at hl 3 rfl) ?_
  refine lv_aload_n hx hb dL_law_989 rfl (lv_at hl 4 rfl) ?_
  refine lv_iload hx hb dL_law_990 (lv_at hl 0 rfl) ?_
  refine lv_iconst (v := iZ 1) hx hb dL_law_992 rfl ?_
  refine kz_iadd hx hb dL_law_993 ?_
  refine kz_sld hx hb hX hbl hbA hS (by omega) hL5 dL_law_994 ?_
  refine lv_aload_n hx hb dL_law_995 rfl (lv_at hl 4 rfl) ?_
  refine lv_iload hx hb dL_law_996 (lv_at hl 0 rfl) ?_
  refine lv_iconst (v := iZ 2) hx hb dL_law_998 rfl ?_
  refine kz_iadd hx hb dL_law_999 ?_
  refine kz_sld hx hb hX hbl hbA hS (by omega) hL5 dL_law_1000 ?_
  refine lv_aload_n hx hb dL_law_1001 rfl (lv_at hl 4 rfl) ?_
  refine lv_iload hx hb dL_law_1002 (lv_at hl 0 rfl) ?_
  refine lv_iconst (v := iZ 3) hx hb dL_law_1004 rfl ?_
  refine kz_iadd hx hb dL_law_1005 ?_
  refine kz_sld hx hb hX hbl hbA hS (by omega) hL5 dL_law_1006 ?_
  refine lv_aload_n hx hb dL_law_1007 rfl (lv_at hl 1 rfl) ?_
  refine kc2 (vx_runSW (As := [.ref (q 0), .int (iZ (fx xs (i + 1))), .int (iZ (fx xs (i + 2))), .int (iZ (fx xs (i + 3))), .ref o]) (rest := []) ⟨hx, hb, hml, hown, hts⟩ (c_L_leafWith l hst dC dI dA k q σ _ hG hOK hq o sn sv hO hko ho9 ((fx xs (i + 1))) ((fx xs (i + 2))) ((fx xs (i + 3))) (fx_rng _ _) (fx_rng _ _) (fx_rng _ _)) (vx_cwSW 5 hts (kg_S mw683 mw684 mw41 rfl mw685) rfl rfl rfl hdS_L_leafWith ⟨Nat.le_of_ble_eq_true rfl, Nat.le_of_ble_eq_true rfl⟩) ⟨fun a U g mk q => ⟨q.1, q.2.1, kMJ_call q.2.2.1, kL_call q.2.2.2⟩, fun U hU hW => ⟨rfl, hU, kMJ_kept hMJ hS hN hU hW, kL_warm hL hW⟩⟩ rfl rfl hl.1 rfl (lv_room (Nat.le_of_ble_eq_true rfl)) dL_law_1008 ⟨kroomC (by omega), kroomS (by omega)⟩) hS (fun a _ h => kAO_N hq hko hkH a h) (fun a h => kAO_N hq hko hkH a h) (fun H1 locs hC hy9 hk9 hS => ?_)
  obtain ⟨hG1, hO1⟩ := hC
  have hY1 := kY_keptO hY hk9 h1 h2
  have h8 : kOK8 σ (if ex2 (!inb (fx xs (i + 1)) 0 3) (!inb (fx xs (i + 2)) 0 4 || noThing (fx xs (i + 2)) (fx xs (i + 3))) = 0 then (lwS σ ((fx xs (i + 1)).toNat) (fx xs (i + 2)) (fx xs (i + 3))) else σ) := k8_if hOK (fun h9 => k8m_leafWith hOK ((fx xs (i + 1))) ((fx xs (i + 2))) ((fx xs (i + 3))) h9)
  have hkH1 : k 0 ≤ H1.size := Nat.le_trans hkH hy9
  clear hk9
  refine lv_istore (lv' := [(5, .int (iZ (ex2 (!inb (fx xs (i + 1)) 0 3) (!inb (fx xs (i + 2)) 0 4 || noThing (fx xs (i + 2)) (fx xs (i + 3)))))), (4, .int (iZ i)), (3, .ref o), (2, .ref m0), (1, .ref (q 0)), (0, .ref b)]) hx hb dL_law_1011 hl (by decide) rfl (fun ls hl => ?_)
  refine lv_aload_n hx hb dL_law_1013 rfl (lv_at hl 3 rfl) ?_
  refine lv_aload_n hx hb dL_law_1014 rfl (lv_at hl 5 rfl) ?_
  refine lv_iload hx hb dL_law_1015 (lv_at hl 1 rfl) ?_
  refine lv_iconst (v := iZ 1) hx hb dL_law_1017 rfl ?_
  refine kz_iadd hx hb dL_law_1018 ?_
  refine kz_sld hx hb hX hbl hbA hS (by omega) hL5 dL_law_1019 ?_
  refine lv_aload_n hx hb dL_law_1020 rfl (lv_at hl 5 rfl) ?_
  refine lv_iload hx hb dL_law_1021 (lv_at hl 1 rfl) ?_
  refine lv_iconst (v := iZ 2) hx hb dL_law_1023 rfl ?_
  refine kz_iadd hx hb dL_law_1024 ?_
  refine kz_sld hx hb hX hbl hbA hS (by omega) hL5 dL_law_1025 ?_
  refine lv_aload_n hx hb dL_law_1026 rfl (lv_at hl 5 rfl) ?_
  refine lv_iload hx hb dL_law_1027 (lv_at hl 1 rfl) ?_
  refine lv_iconst (v := iZ 3) hx hb dL_law_1029 rfl ?_
  refine kz_iadd hx hb dL_law_1030 ?_
  refine kz_sld hx hb hX hbl hbA hS (by omega) hL5 dL_law_1031 ?_
  refine kc2 (va_runV (As := [.int (iZ (fx xs (i + 1))), .int (iZ (fx xs (i + 2))), .int (iZ (fx xs (i + 3)))]) (rest := []) ⟨hx, hb, hml, hown, hts⟩ (c_X3_leafWith l dC dI dA k m0 r σ th _ hY1 hr hOK ((fx xs (i + 1))) ((fx xs (i + 2))) ((fx xs (i + 3))) (fx_rng _ _) (fx_rng _ _) (fx_rng _ _)) (cwV 3 hts (kg_V mw1106 mw1107 mw1108 mw47 rfl mw1109) rfl rfl rfl hdV_X3_leafWith ⟨Nat.le_of_ble_eq_true rfl, Nat.le_of_ble_eq_true rfl⟩) ⟨fun a U g mk q => ⟨q.1, q.2.1, kM_call q.2.2⟩, va_recv hM.1 hY1 (ci := 6) (q0 := 0) rfl rfl, fun U hU hW => ⟨rfl, hU, kM_kept hM hS hN hU hW⟩⟩ rfl rfl hl.1 rfl (lv_room (Nat.le_of_ble_eq_true rfl)) dL_law_1032 ⟨kroomC (by omega), kroomS (by omega)⟩) hS (fun a _ h => kAy_N hr hkH1 a h) (fun a h => kAy_N hr hkH1 a h) (fun H2 locs hC2 hy8 hk8 hS => ?_)
  obtain ⟨r2, hI2, hO2⟩ := LI_step hI hG1 hO1 hC2 hk8 h8
  refine lv_istore (lv' := [(6, .int (iZ (if ex2 (!inb (fx xs (i + 1)) 0 3) (!inb (fx xs (i + 2)) 0 4 || noThing (fx xs (i + 2)) (fx xs (i + 3))) = 0 then (lwR σ ((fx xs (i + 1)).toNat) (fx xs (i + 2)) (fx xs (i + 3))) else 0))), (5, .int (iZ (ex2 (!inb (fx xs (i + 1)) 0 3) (!inb (fx xs (i + 2)) 0 4 || noThing (fx xs (i + 2)) (fx xs (i + 3)))))), (4, .int (iZ i)), (3, .ref o), (2, .ref m0), (1, .ref (q 0)), (0, .ref b)]) hx hb dL_law_1035 hl (by decide) rfl (fun ls hl => ?_)
  refine lv_aload_n hx hb dL_law_1037 rfl (lv_at hl 4 rfl) ?_
  obtain ⟨hG2, hOK2, hq2, hY2, hr2, -⟩ := id hI2
  refine kc0 (fun _ q => q) (va_runV (As := []) (rest := []) ⟨hx, hb, hml, hown, hts⟩ (c_X3_thrown l dC dI dA k m0 r2 _ _ _ hY2 hr2 hOK2) (cwV 0 hts (kg_V mw1013 mw1014 mw1015 mw47 rfl mw1016) rfl rfl rfl hdV_X3_thrown ⟨Nat.le_of_ble_eq_true rfl, Nat.le_of_ble_eq_true rfl⟩) ⟨fun a U g mk q => ⟨q.1, q.2.1, kM_call q.2.2⟩, va_recv hM.1 hY2 (ci := 6) (q0 := 0) rfl rfl, fun U hU hW => ⟨rfl, hU, kM_kept hM hS hN hU hW⟩⟩ rfl rfl hl.1 rfl (lv_room (Nat.le_of_ble_eq_true rfl)) dL_law_1038 ⟨kroomC (by omega), kroomS (by omega)⟩) ?_
  refine lv_iload hx hb dL_law_1041 (lv_at hl 1 rfl) ?_
  refine kz_icmp_eq (tgt := 1048) hx hb (ex2_rng _ _) (ex2_rng _ _) dL_law_1043 (by decide) (fun c_1 => ?_) (fun c_1 => absurd rfl c_1)
  refine lv_iload hx hb dL_law_1048 (lv_at hl 1 rfl) ?_
  refine kz_if_ne (tgt := 1066) hx hb (ex2_rng _ _) dL_law_1050 (by decide) (fun c_2 => ?_) (fun c_2 => ?_)
  · refine lv_goto (tgt := 4485) hx hb dL_law_1066 (by decide) ?_
    refine W.widen (k := cs + 600) (n := ss + 4000) (by omega) (by omega) ?_
    exact kk r2 _ _ _ _ _ hI2 hS (by have h9 := h8.2; omega) (lv_sub hl [2, 3, 4, 5, 6] rfl)
  · refine lv_aload_n hx hb dL_law_1053 rfl (lv_at hl 3 rfl) ?_
    obtain ⟨nv, vv, hn, hPn⟩ := hO2
    have hn := hn c_2
    subst hn
    refine va_getN (D := (dC, dI)) (ci := 5) (v := .long (lZ (w32 (lwR σ ((fx xs (i + 1)).toNat) (fx xs (i + 2)) (fx xs (i + 3)))))) (C := RX2) (T := TX2) (N := 2) hx hb hts (fun w h => List.mem_cons_of_mem _ (gF_1_in h)) hown hM.1 hPn 0 rfl rfl 0 (by decide) (va_Nw.use rfl hL.1) (fun _ h9 => h9) rfl dL_law_1054 ?_
    refine lv_iload hx hb dL_law_1057 (lv_at hl 0 rfl) ?_
    refine kz_w32 ?_
    refine kz_i2l hx hb (w32_rng _) dL_law_1059 ?_
    refine kz_lcmp_eq (tgt := 1066) hx hb (by first | exact w32_lrng _ | exact bZ_lrng _) (by first | exact w32_lrng _ | exact bZ_lrng _) dL_law_1060 dL_law_1061 (by decide) (fun c_3 => ?_) (fun c_3 => absurd (by first | rw [if_pos c_2] | exact congrArg bZ (by rw [decide_eq_true c_2, Bool.true_and]) | (rw [decide_eq_true c_2]; rfl) | (simp [c_2]; done)) c_3)
    refine lv_goto (tgt := 4485) hx hb dL_law_1066 (by decide) ?_
    refine W.widen (k := cs + 600) (n := ss + 4000) (by omega) (by omega) ?_
    exact kk r2 _ _ _ _ _ hI2 hS (by have h9 := h8.2; omega) (lv_sub hl [2, 3, 4, 5, 6] rfl)

set_option maxHeartbeats 4000000 in
set_option maxRecDepth 100000 in
theorem lc_9 {p : Program} {l : Launch} {e : Env} {s : State} {m : MethodId} {below : List Frame} {meth : Method} {c : Code} {Q : State → Prop} {b L : Nat} {xs : Nat → Int32} {dC : Nat → ClassId} {dI : Nat → Nat → Nat} {dA : Nat → ClassId} {k : Nat → Nat} (hst : l.stackTraces = false) (F : kF p s m meth c b L xs dC dI dA k)
    {q : Nat → Nat} {m0 : Nat} {r : Nat → Nat → Nat} {o : Nat} {σ : Nat → Nat → Int} {th : Int} {H : Heap} {locs : List Loc} {cs ss : Nat} {i : Int} {ls : Array Slot} (hI : LI dC dI dA k q m0 r o σ th H) (hS : va_S (kN0 k) s.heap H locs) (hi : 0 ≤ i ∧ i + 5 ≤ (L : Int)) (hcs : cs + 600 ≤ 707594) (hss : ss + 4000 ≤ 6979453) (h80 : 0 ≤ σ 8 0 ∧ σ 8 0 ≤ 100000) (hl : lv_has ls 7 [(4, .int (iZ i)), (3, .ref o), (2, .ref m0), (1, .ref (q 0)), (0, .ref b)])
    (kk : ∀ (r' : Nat → Nat → Nat) (σ' : Nat → Nat → Int) (th' : Int) (H' : Heap) (locs' : List Loc) (ls' : Array Slot), LI dC dI dA k q m0 r' o σ' th' H' → va_S (kN0 k) s.heap H' locs' → σ 8 0 ≤ σ' 8 0 ∧ σ' 8 0 ≤ σ 8 0 + 1 → lv_has ls' 7 [(4, .int (iZ i)), (3, .ref o), (2, .ref m0), (1, .ref (q 0)), (0, .ref b)] → W p l e room_1 s m #[Value.ref b] below meth c H' locs' (cs + 600) (ss + 4000) Q (F0 m 4485 ls' [])) :
    W p l e room_1 s m #[Value.ref b] below meth c H locs cs ss Q (F0 m 43 ls [.int (iZ 9)]) := by
  obtain ⟨hx, hb, hr9, hml, hown, hts, hX, hbl, hL5, hMJ, hL, hk0, hlocks⟩ := F
  obtain ⟨hG, hOK, hq, hY, hr, hO0, hko, ho9, h1, h2⟩ := id hI
  obtain ⟨sn, sv, -, hO⟩ := id hO0
  have hM := hMJ.1
  have hbA : ¬ kN0 k b := fun z => absurd (show k 0 ≤ b from z) (by omega)
  have hN : ∀ a, kN0 k a → k 0 ≤ a := fun _ h => h
  have hkH : k 0 ≤ H.size := by have := hS.1; omega
  refine lv_tableIn (tgt := 1069) (off := 1026) hx hb dL_law_43 (by rw [iZ_toInt (z := 9) (by omega)]; omega) (by rw [iZ_toInt (z := 9) (by omega)]; omega) (by rw [iZ_toInt (z := 9) (by omega)]; rfl) (by decide) ?_
  refine lv_aload_n hx hb dL_law_1069 rfl (lv_at hl 3 rfl) ?_
  refine lv_aload_n hx hb dL_law_1070 rfl (lv_at hl 4 rfl) ?_
  refine lv_iload hx hb dL_law_1071 (lv_at hl 0 rfl) ?_
  refine lv_iconst (v := iZ 1) hx hb dL_law_1073 rfl ?_
  refine kz_iadd hx hb dL_law_1074 ?_
  refine kz_sld hx hb hX hbl hbA hS (by omega) hL5 dL_law_1075 ?_
  refine lv_aload_n hx hb dL_law_1076 rfl (lv_at hl 4 rfl) ?_
  refine lv_iload hx hb dL_law_1077 (lv_at hl 0 rfl) ?_
  refine lv_iconst (v := iZ 2) hx hb dL_law_1079 rfl ?_
  refine kz_iadd hx hb dL_law_1080 ?_
  refine kz_sld hx hb hX hbl hbA hS (by omega) hL5 dL_law_1081 ?_
  refine lv_aload_n hx hb dL_law_1082 rfl (lv_at hl 4 rfl) ?_
  refine lv_iload hx hb dL_law_1083 (lv_at hl 0 rfl) ?_
  refine lv_iconst (v := iZ 3) hx hb dL_law_1085 rfl ?_
  refine kz_iadd hx hb dL_law_1086 ?_
  refine kz_sld hx hb hX hbl hbA hS (by omega) hL5 dL_law_1087 ?_
  refine lv_aload_n hx hb dL_law_1088 rfl (lv_at hl 1 rfl) ?_
  refine kc2 (vx_runSW (As := [.ref (q 0), .int (iZ (fx xs (i + 1))), .int (iZ (fx xs (i + 2))), .int (iZ (fx xs (i + 3))), .ref o]) (rest := []) ⟨hx, hb, hml, hown, hts⟩ (c_L_leafOf l hst dC dI dA k q σ _ hG hOK hq o sn sv hO hko ho9 ((fx xs (i + 1))) ((fx xs (i + 2))) ((fx xs (i + 3))) (fx_rng _ _) (fx_rng _ _) (fx_rng _ _)) (vx_cwSW 5 hts (kg_S mw701 mw702 mw41 rfl mw703) rfl rfl rfl hdS_L_leafOf ⟨Nat.le_of_ble_eq_true rfl, Nat.le_of_ble_eq_true rfl⟩) ⟨fun a U g mk q => ⟨q.1, q.2.1, kMJ_call q.2.2.1, kL_call q.2.2.2⟩, fun U hU hW => ⟨rfl, hU, kMJ_kept hMJ hS hN hU hW, kL_warm hL hW⟩⟩ rfl rfl hl.1 rfl (lv_room (Nat.le_of_ble_eq_true rfl)) dL_law_1089 ⟨kroomC (by omega), kroomS (by omega)⟩) hS (fun a _ h => kAO_N hq hko hkH a h) (fun a h => kAO_N hq hko hkH a h) (fun H1 locs hC hy9 hk9 hS => ?_)
  obtain ⟨hG1, hO1⟩ := hC
  have hY1 := kY_keptO hY hk9 h1 h2
  have h8 : kOK8 σ (if ex2 (!inb (fx xs (i + 1)) 0 3 || !inb (fx xs (i + 2)) 0 3) (!inb (fx xs (i + 3)) 1 12) = 0 then (sU (sU σ 0 (fx xs (i + 1)).toNat (σ 2 ((fx xs (i + 2)).toNat))) 1 (fx xs (i + 1)).toNat (fx xs (i + 3))) else σ) := k8_if hOK (fun h9 => k8m_leafOf hOK ((fx xs (i + 1))) ((fx xs (i + 2))) ((fx xs (i + 3))) h9)
  have hkH1 : k 0 ≤ H1.size := Nat.le_trans hkH hy9
  clear hk9
  refine lv_istore (lv' := [(5, .int (iZ (ex2 (!inb (fx xs (i + 1)) 0 3 || !inb (fx xs (i + 2)) 0 3) (!inb (fx xs (i + 3)) 1 12)))), (4, .int (iZ i)), (3, .ref o), (2, .ref m0), (1, .ref (q 0)), (0, .ref b)]) hx hb dL_law_1092 hl (by decide) rfl (fun ls hl => ?_)
  refine lv_aload_n hx hb dL_law_1094 rfl (lv_at hl 3 rfl) ?_
  refine lv_aload_n hx hb dL_law_1095 rfl (lv_at hl 5 rfl) ?_
  refine lv_iload hx hb dL_law_1096 (lv_at hl 1 rfl) ?_
  refine lv_iconst (v := iZ 1) hx hb dL_law_1098 rfl ?_
  refine kz_iadd hx hb dL_law_1099 ?_
  refine kz_sld hx hb hX hbl hbA hS (by omega) hL5 dL_law_1100 ?_
  refine lv_aload_n hx hb dL_law_1101 rfl (lv_at hl 5 rfl) ?_
  refine lv_iload hx hb dL_law_1102 (lv_at hl 1 rfl) ?_
  refine lv_iconst (v := iZ 2) hx hb dL_law_1104 rfl ?_
  refine kz_iadd hx hb dL_law_1105 ?_
  refine kz_sld hx hb hX hbl hbA hS (by omega) hL5 dL_law_1106 ?_
  refine lv_aload_n hx hb dL_law_1107 rfl (lv_at hl 5 rfl) ?_
  refine lv_iload hx hb dL_law_1108 (lv_at hl 1 rfl) ?_
  refine lv_iconst (v := iZ 3) hx hb dL_law_1110 rfl ?_
  refine kz_iadd hx hb dL_law_1111 ?_
  refine kz_sld hx hb hX hbl hbA hS (by omega) hL5 dL_law_1112 ?_
  refine kc2 (va_runV (As := [.int (iZ (fx xs (i + 1))), .int (iZ (fx xs (i + 2))), .int (iZ (fx xs (i + 3)))]) (rest := []) ⟨hx, hb, hml, hown, hts⟩ (c_X3_leafOf l dC dI dA k m0 r σ th _ hY1 hr hOK ((fx xs (i + 1))) ((fx xs (i + 2))) ((fx xs (i + 3))) (fx_rng _ _) (fx_rng _ _) (fx_rng _ _)) (cwV 3 hts (kg_V mw1125 mw1126 mw1127 mw47 rfl mw1128) rfl rfl rfl hdV_X3_leafOf ⟨Nat.le_of_ble_eq_true rfl, Nat.le_of_ble_eq_true rfl⟩) ⟨fun a U g mk q => ⟨q.1, q.2.1, kM_call q.2.2⟩, va_recv hM.1 hY1 (ci := 6) (q0 := 0) rfl rfl, fun U hU hW => ⟨rfl, hU, kM_kept hM hS hN hU hW⟩⟩ rfl rfl hl.1 rfl (lv_room (Nat.le_of_ble_eq_true rfl)) dL_law_1113 ⟨kroomC (by omega), kroomS (by omega)⟩) hS (fun a _ h => kAy_N hr hkH1 a h) (fun a h => kAy_N hr hkH1 a h) (fun H2 locs hC2 hy8 hk8 hS => ?_)
  obtain ⟨r2, hI2, hO2⟩ := LI_step hI hG1 hO1 hC2 hk8 h8
  refine lv_istore (lv' := [(6, .int (iZ (if ex2 (!inb (fx xs (i + 1)) 0 3 || !inb (fx xs (i + 2)) 0 3) (!inb (fx xs (i + 3)) 1 12) = 0 then (mlen (leap (σ 2 ((fx xs (i + 2)).toNat))) (fx xs (i + 3))) else 0))), (5, .int (iZ (ex2 (!inb (fx xs (i + 1)) 0 3 || !inb (fx xs (i + 2)) 0 3) (!inb (fx xs (i + 3)) 1 12)))), (4, .int (iZ i)), (3, .ref o), (2, .ref m0), (1, .ref (q 0)), (0, .ref b)]) hx hb dL_law_1116 hl (by decide) rfl (fun ls hl => ?_)
  refine lv_aload_n hx hb dL_law_1118 rfl (lv_at hl 4 rfl) ?_
  obtain ⟨hG2, hOK2, hq2, hY2, hr2, -⟩ := id hI2
  refine kc0 (fun _ q => q) (va_runV (As := []) (rest := []) ⟨hx, hb, hml, hown, hts⟩ (c_X3_thrown l dC dI dA k m0 r2 _ _ _ hY2 hr2 hOK2) (cwV 0 hts (kg_V mw1013 mw1014 mw1015 mw47 rfl mw1016) rfl rfl rfl hdV_X3_thrown ⟨Nat.le_of_ble_eq_true rfl, Nat.le_of_ble_eq_true rfl⟩) ⟨fun a U g mk q => ⟨q.1, q.2.1, kM_call q.2.2⟩, va_recv hM.1 hY2 (ci := 6) (q0 := 0) rfl rfl, fun U hU hW => ⟨rfl, hU, kM_kept hM hS hN hU hW⟩⟩ rfl rfl hl.1 rfl (lv_room (Nat.le_of_ble_eq_true rfl)) dL_law_1119 ⟨kroomC (by omega), kroomS (by omega)⟩) ?_
  refine lv_iload hx hb dL_law_1122 (lv_at hl 1 rfl) ?_
  refine kz_icmp_eq (tgt := 1129) hx hb (ex2_rng _ _) (ex2_rng _ _) dL_law_1124 (by decide) (fun c_1 => ?_) (fun c_1 => absurd rfl c_1)
  refine lv_iload hx hb dL_law_1129 (lv_at hl 1 rfl) ?_
  refine kz_if_ne (tgt := 1147) hx hb (ex2_rng _ _) dL_law_1131 (by decide) (fun c_2 => ?_) (fun c_2 => ?_)
  · refine lv_goto (tgt := 4485) hx hb dL_law_1147 (by decide) ?_
    refine W.widen (k := cs + 600) (n := ss + 4000) (by omega) (by omega) ?_
    exact kk r2 _ _ _ _ _ hI2 hS (by have h9 := h8.2; omega) (lv_sub hl [2, 3, 4, 5, 6] rfl)
  · refine lv_aload_n hx hb dL_law_1134 rfl (lv_at hl 3 rfl) ?_
    obtain ⟨nv, vv, hn, hPn⟩ := hO2
    have hn := hn c_2
    subst hn
    refine va_getN (D := (dC, dI)) (ci := 5) (v := .long (lZ (w32 (mlen (leap (σ 2 ((fx xs (i + 2)).toNat))) (fx xs (i + 3)))))) (C := RX2) (T := TX2) (N := 2) hx hb hts (fun w h => List.mem_cons_of_mem _ (gF_1_in h)) hown hM.1 hPn 0 rfl rfl 0 (by decide) (va_Nw.use rfl hL.1) (fun _ h9 => h9) rfl dL_law_1135 ?_
    refine lv_iload hx hb dL_law_1138 (lv_at hl 0 rfl) ?_
    refine kz_w32 ?_
    refine kz_i2l hx hb (w32_rng _) dL_law_1140 ?_
    refine kz_lcmp_eq (tgt := 1147) hx hb (by first | exact w32_lrng _ | exact bZ_lrng _) (by first | exact w32_lrng _ | exact bZ_lrng _) dL_law_1141 dL_law_1142 (by decide) (fun c_3 => ?_) (fun c_3 => absurd (by first | rw [if_pos c_2] | exact congrArg bZ (by rw [decide_eq_true c_2, Bool.true_and]) | (rw [decide_eq_true c_2]; rfl) | (simp [c_2]; done)) c_3)
    refine lv_goto (tgt := 4485) hx hb dL_law_1147 (by decide) ?_
    refine W.widen (k := cs + 600) (n := ss + 4000) (by omega) (by omega) ?_
    exact kk r2 _ _ _ _ _ hI2 hS (by have h9 := h8.2; omega) (lv_sub hl [2, 3, 4, 5, 6] rfl)

set_option maxHeartbeats 4000000 in
set_option maxRecDepth 100000 in
theorem lc_10 {p : Program} {l : Launch} {e : Env} {s : State} {m : MethodId} {below : List Frame} {meth : Method} {c : Code} {Q : State → Prop} {b L : Nat} {xs : Nat → Int32} {dC : Nat → ClassId} {dI : Nat → Nat → Nat} {dA : Nat → ClassId} {k : Nat → Nat} (hst : l.stackTraces = false) (F : kF p s m meth c b L xs dC dI dA k)
    {q : Nat → Nat} {m0 : Nat} {r : Nat → Nat → Nat} {o : Nat} {σ : Nat → Nat → Int} {th : Int} {H : Heap} {locs : List Loc} {cs ss : Nat} {i : Int} {ls : Array Slot} (hI : LI dC dI dA k q m0 r o σ th H) (hS : va_S (kN0 k) s.heap H locs) (hi : 0 ≤ i ∧ i + 5 ≤ (L : Int)) (hcs : cs + 600 ≤ 707594) (hss : ss + 4000 ≤ 6979453) (h80 : 0 ≤ σ 8 0 ∧ σ 8 0 ≤ 100000) (hl : lv_has ls 7 [(4, .int (iZ i)), (3, .ref o), (2, .ref m0), (1, .ref (q 0)), (0, .ref b)])
    (kk : ∀ (r' : Nat → Nat → Nat) (σ' : Nat → Nat → Int) (th' : Int) (H' : Heap) (locs' : List Loc) (ls' : Array Slot), LI dC dI dA k q m0 r' o σ' th' H' → va_S (kN0 k) s.heap H' locs' → σ 8 0 ≤ σ' 8 0 ∧ σ' 8 0 ≤ σ 8 0 + 1 → lv_has ls' 7 [(4, .int (iZ i)), (3, .ref o), (2, .ref m0), (1, .ref (q 0)), (0, .ref b)] → W p l e room_1 s m #[Value.ref b] below meth c H' locs' (cs + 600) (ss + 4000) Q (F0 m 4485 ls' [])) :
    W p l e room_1 s m #[Value.ref b] below meth c H locs cs ss Q (F0 m 43 ls [.int (iZ 10)]) := by
  obtain ⟨hx, hb, hr9, hml, hown, hts, hX, hbl, hL5, hMJ, hL, hk0, hlocks⟩ := F
  obtain ⟨hG, hOK, hq, hY, hr, hO0, hko, ho9, h1, h2⟩ := id hI
  obtain ⟨sn, sv, -, hO⟩ := id hO0
  have hM := hMJ.1
  have hbA : ¬ kN0 k b := fun z => absurd (show k 0 ≤ b from z) (by omega)
  have hN : ∀ a, kN0 k a → k 0 ≤ a := fun _ h => h
  have hkH : k 0 ≤ H.size := by have := hS.1; omega
  refine lv_tableIn (tgt := 1150) (off := 1107) hx hb dL_law_43 (by rw [iZ_toInt (z := 10) (by omega)]; omega) (by rw [iZ_toInt (z := 10) (by omega)]; omega) (by rw [iZ_toInt (z := 10) (by omega)]; rfl) (by decide) ?_
  refine lv_aload_n hx hb dL_law_1150 rfl (lv_at hl 3 rfl) ?_
  refine lv_aload_n hx hb dL_law_1151 rfl (lv_at hl 4 rfl) ?_
  refine lv_iload hx hb dL_law_1152 (lv_at hl 0 rfl) ?_
  refine lv_iconst (v := iZ 1) hx hb dL_law_1154 rfl ?_
  refine kz_iadd hx hb dL_law_1155 ?_
  refine kz_sld hx hb hX hbl hbA hS (by omega) hL5 dL_law_1156 ?_
  refine lv_aload_n hx hb dL_law_1157 rfl (lv_at hl 4 rfl) ?_
  refine lv_iload hx hb dL_law_1158 (lv_at hl 0 rfl) ?_
  refine lv_iconst (v := iZ 2) hx hb dL_law_1160 rfl ?_
  refine kz_iadd hx hb dL_law_1161 ?_
  refine kz_sld hx hb hX hbl hbA hS (by omega) hL5 dL_law_1162 ?_
  refine lv_aload_n hx hb dL_law_1163 rfl (lv_at hl 4 rfl) ?_
  refine lv_iload hx hb dL_law_1164 (lv_at hl 0 rfl) ?_
  refine lv_iconst (v := iZ 3) hx hb dL_law_1166 rfl ?_
  refine kz_iadd hx hb dL_law_1167 ?_
  refine kz_sld hx hb hX hbl hbA hS (by omega) hL5 dL_law_1168 ?_
  refine lv_aload_n hx hb dL_law_1169 rfl (lv_at hl 1 rfl) ?_
  refine kc2 (vx_runSW (As := [.ref (q 0), .int (iZ (fx xs (i + 1))), .int (iZ (fx xs (i + 2))), .int (iZ (fx xs (i + 3))), .ref o]) (rest := []) ⟨hx, hb, hml, hown, hts⟩ (c_L_leafOfRound l hst dC dI dA k q σ _ hG hOK hq o sn sv hO hko ho9 ((fx xs (i + 1))) ((fx xs (i + 2))) ((fx xs (i + 3))) (fx_rng _ _) (fx_rng _ _) (fx_rng _ _)) (vx_cwSW 5 hts (kg_S mw708 mw709 mw41 rfl mw710) rfl rfl rfl hdS_L_leafOfRound ⟨Nat.le_of_ble_eq_true rfl, Nat.le_of_ble_eq_true rfl⟩) ⟨fun a U g mk q => ⟨q.1, q.2.1, kMJ_call q.2.2.1, kL_call q.2.2.2⟩, fun U hU hW => ⟨rfl, hU, kMJ_kept hMJ hS hN hU hW, kL_warm hL hW⟩⟩ rfl rfl hl.1 rfl (lv_room (Nat.le_of_ble_eq_true rfl)) dL_law_1170 ⟨kroomC (by omega), kroomS (by omega)⟩) hS (fun a _ h => kAO_N hq hko hkH a h) (fun a h => kAO_N hq hko hkH a h) (fun H1 locs hC hy9 hk9 hS => ?_)
  obtain ⟨hG1, hO1⟩ := hC
  have hY1 := kY_keptO hY hk9 h1 h2
  have h8 : kOK8 σ (if ex2 (!inb (fx xs (i + 1)) 0 3 || !inb (fx xs (i + 2)) 0 3) (false) = 0 then (sU (sU σ 0 (fx xs (i + 1)).toNat (σ 2 ((fx xs (i + 2)).toNat))) 1 (fx xs (i + 1)).toNat (1 + (fx xs (i + 3)) % 12)) else σ) := k8_if hOK (fun h9 => k8m_leafOfRound hOK ((fx xs (i + 1))) ((fx xs (i + 2))) ((fx xs (i + 3))) h9)
  have hkH1 : k 0 ≤ H1.size := Nat.le_trans hkH hy9
  clear hk9
  refine lv_istore (lv' := [(5, .int (iZ (ex2 (!inb (fx xs (i + 1)) 0 3 || !inb (fx xs (i + 2)) 0 3) (false)))), (4, .int (iZ i)), (3, .ref o), (2, .ref m0), (1, .ref (q 0)), (0, .ref b)]) hx hb dL_law_1173 hl (by decide) rfl (fun ls hl => ?_)
  refine lv_aload_n hx hb dL_law_1175 rfl (lv_at hl 3 rfl) ?_
  refine lv_aload_n hx hb dL_law_1176 rfl (lv_at hl 5 rfl) ?_
  refine lv_iload hx hb dL_law_1177 (lv_at hl 1 rfl) ?_
  refine lv_iconst (v := iZ 1) hx hb dL_law_1179 rfl ?_
  refine kz_iadd hx hb dL_law_1180 ?_
  refine kz_sld hx hb hX hbl hbA hS (by omega) hL5 dL_law_1181 ?_
  refine lv_aload_n hx hb dL_law_1182 rfl (lv_at hl 5 rfl) ?_
  refine lv_iload hx hb dL_law_1183 (lv_at hl 1 rfl) ?_
  refine lv_iconst (v := iZ 2) hx hb dL_law_1185 rfl ?_
  refine kz_iadd hx hb dL_law_1186 ?_
  refine kz_sld hx hb hX hbl hbA hS (by omega) hL5 dL_law_1187 ?_
  refine lv_aload_n hx hb dL_law_1188 rfl (lv_at hl 5 rfl) ?_
  refine lv_iload hx hb dL_law_1189 (lv_at hl 1 rfl) ?_
  refine lv_iconst (v := iZ 3) hx hb dL_law_1191 rfl ?_
  refine kz_iadd hx hb dL_law_1192 ?_
  refine kz_sld hx hb hX hbl hbA hS (by omega) hL5 dL_law_1193 ?_
  refine kc2 (va_runV (As := [.int (iZ (fx xs (i + 1))), .int (iZ (fx xs (i + 2))), .int (iZ (fx xs (i + 3)))]) (rest := []) ⟨hx, hb, hml, hown, hts⟩ (c_X3_leafOfRound l dC dI dA k m0 r σ th _ hY1 hr hOK ((fx xs (i + 1))) ((fx xs (i + 2))) ((fx xs (i + 3))) (fx_rng _ _) (fx_rng _ _) (fx_rng _ _)) (cwV 3 hts (kg_V mw1129 mw1130 mw1131 mw47 rfl mw1132) rfl rfl rfl hdV_X3_leafOfRound ⟨Nat.le_of_ble_eq_true rfl, Nat.le_of_ble_eq_true rfl⟩) ⟨fun a U g mk q => ⟨q.1, q.2.1, kM_call q.2.2⟩, va_recv hM.1 hY1 (ci := 6) (q0 := 0) rfl rfl, fun U hU hW => ⟨rfl, hU, kM_kept hM hS hN hU hW⟩⟩ rfl rfl hl.1 rfl (lv_room (Nat.le_of_ble_eq_true rfl)) dL_law_1194 ⟨kroomC (by omega), kroomS (by omega)⟩) hS (fun a _ h => kAy_N hr hkH1 a h) (fun a h => kAy_N hr hkH1 a h) (fun H2 locs hC2 hy8 hk8 hS => ?_)
  obtain ⟨r2, hI2, hO2⟩ := LI_step hI hG1 hO1 hC2 hk8 h8
  refine lv_istore (lv' := [(6, .int (iZ (if ex2 (!inb (fx xs (i + 1)) 0 3 || !inb (fx xs (i + 2)) 0 3) (false) = 0 then (1 + (fx xs (i + 3)) % 12) else 0))), (5, .int (iZ (ex2 (!inb (fx xs (i + 1)) 0 3 || !inb (fx xs (i + 2)) 0 3) (false)))), (4, .int (iZ i)), (3, .ref o), (2, .ref m0), (1, .ref (q 0)), (0, .ref b)]) hx hb dL_law_1197 hl (by decide) rfl (fun ls hl => ?_)
  refine lv_aload_n hx hb dL_law_1199 rfl (lv_at hl 4 rfl) ?_
  obtain ⟨hG2, hOK2, hq2, hY2, hr2, -⟩ := id hI2
  refine kc0 (fun _ q => q) (va_runV (As := []) (rest := []) ⟨hx, hb, hml, hown, hts⟩ (c_X3_thrown l dC dI dA k m0 r2 _ _ _ hY2 hr2 hOK2) (cwV 0 hts (kg_V mw1013 mw1014 mw1015 mw47 rfl mw1016) rfl rfl rfl hdV_X3_thrown ⟨Nat.le_of_ble_eq_true rfl, Nat.le_of_ble_eq_true rfl⟩) ⟨fun a U g mk q => ⟨q.1, q.2.1, kM_call q.2.2⟩, va_recv hM.1 hY2 (ci := 6) (q0 := 0) rfl rfl, fun U hU hW => ⟨rfl, hU, kM_kept hM hS hN hU hW⟩⟩ rfl rfl hl.1 rfl (lv_room (Nat.le_of_ble_eq_true rfl)) dL_law_1200 ⟨kroomC (by omega), kroomS (by omega)⟩) ?_
  refine lv_iload hx hb dL_law_1203 (lv_at hl 1 rfl) ?_
  refine kz_icmp_eq (tgt := 1210) hx hb (ex2_rng _ _) (ex2_rng _ _) dL_law_1205 (by decide) (fun c_1 => ?_) (fun c_1 => absurd rfl c_1)
  refine lv_iload hx hb dL_law_1210 (lv_at hl 1 rfl) ?_
  refine kz_if_ne (tgt := 1228) hx hb (ex2_rng _ _) dL_law_1212 (by decide) (fun c_2 => ?_) (fun c_2 => ?_)
  · refine lv_goto (tgt := 4485) hx hb dL_law_1228 (by decide) ?_
    refine W.widen (k := cs + 600) (n := ss + 4000) (by omega) (by omega) ?_
    exact kk r2 _ _ _ _ _ hI2 hS (by have h9 := h8.2; omega) (lv_sub hl [2, 3, 4, 5, 6] rfl)
  · refine lv_aload_n hx hb dL_law_1215 rfl (lv_at hl 3 rfl) ?_
    obtain ⟨nv, vv, hn, hPn⟩ := hO2
    have hn := hn c_2
    subst hn
    refine va_getN (D := (dC, dI)) (ci := 5) (v := .long (lZ (w32 (1 + (fx xs (i + 3)) % 12)))) (C := RX2) (T := TX2) (N := 2) hx hb hts (fun w h => List.mem_cons_of_mem _ (gF_1_in h)) hown hM.1 hPn 0 rfl rfl 0 (by decide) (va_Nw.use rfl hL.1) (fun _ h9 => h9) rfl dL_law_1216 ?_
    refine lv_iload hx hb dL_law_1219 (lv_at hl 0 rfl) ?_
    refine kz_w32 ?_
    refine kz_i2l hx hb (w32_rng _) dL_law_1221 ?_
    refine kz_lcmp_eq (tgt := 1228) hx hb (by first | exact w32_lrng _ | exact bZ_lrng _) (by first | exact w32_lrng _ | exact bZ_lrng _) dL_law_1222 dL_law_1223 (by decide) (fun c_3 => ?_) (fun c_3 => absurd (by first | rw [if_pos c_2] | exact congrArg bZ (by rw [decide_eq_true c_2, Bool.true_and]) | (rw [decide_eq_true c_2]; rfl) | (simp [c_2]; done)) c_3)
    refine lv_goto (tgt := 4485) hx hb dL_law_1228 (by decide) ?_
    refine W.widen (k := cs + 600) (n := ss + 4000) (by omega) (by omega) ?_
    exact kk r2 _ _ _ _ _ hI2 hS (by have h9 := h8.2; omega) (lv_sub hl [2, 3, 4, 5, 6] rfl)

set_option maxHeartbeats 4000000 in
set_option maxRecDepth 100000 in
theorem lc_11 {p : Program} {l : Launch} {e : Env} {s : State} {m : MethodId} {below : List Frame} {meth : Method} {c : Code} {Q : State → Prop} {b L : Nat} {xs : Nat → Int32} {dC : Nat → ClassId} {dI : Nat → Nat → Nat} {dA : Nat → ClassId} {k : Nat → Nat} (hst : l.stackTraces = false) (F : kF p s m meth c b L xs dC dI dA k)
    {q : Nat → Nat} {m0 : Nat} {r : Nat → Nat → Nat} {o : Nat} {σ : Nat → Nat → Int} {th : Int} {H : Heap} {locs : List Loc} {cs ss : Nat} {i : Int} {ls : Array Slot} (hI : LI dC dI dA k q m0 r o σ th H) (hS : va_S (kN0 k) s.heap H locs) (hi : 0 ≤ i ∧ i + 5 ≤ (L : Int)) (hcs : cs + 600 ≤ 707594) (hss : ss + 4000 ≤ 6979453) (h80 : 0 ≤ σ 8 0 ∧ σ 8 0 ≤ 100000) (hl : lv_has ls 7 [(4, .int (iZ i)), (3, .ref o), (2, .ref m0), (1, .ref (q 0)), (0, .ref b)])
    (kk : ∀ (r' : Nat → Nat → Nat) (σ' : Nat → Nat → Int) (th' : Int) (H' : Heap) (locs' : List Loc) (ls' : Array Slot), LI dC dI dA k q m0 r' o σ' th' H' → va_S (kN0 k) s.heap H' locs' → σ 8 0 ≤ σ' 8 0 ∧ σ' 8 0 ≤ σ 8 0 + 1 → lv_has ls' 7 [(4, .int (iZ i)), (3, .ref o), (2, .ref m0), (1, .ref (q 0)), (0, .ref b)] → W p l e room_1 s m #[Value.ref b] below meth c H' locs' (cs + 600) (ss + 4000) Q (F0 m 4485 ls' [])) :
    W p l e room_1 s m #[Value.ref b] below meth c H locs cs ss Q (F0 m 43 ls [.int (iZ 11)]) := by
  obtain ⟨hx, hb, hr9, hml, hown, hts, hX, hbl, hL5, hMJ, hL, hk0, hlocks⟩ := F
  obtain ⟨hG, hOK, hq, hY, hr, hO0, hko, ho9, h1, h2⟩ := id hI
  obtain ⟨sn, sv, -, hO⟩ := id hO0
  have hM := hMJ.1
  have hbA : ¬ kN0 k b := fun z => absurd (show k 0 ≤ b from z) (by omega)
  have hN : ∀ a, kN0 k a → k 0 ≤ a := fun _ h => h
  have hkH : k 0 ≤ H.size := by have := hS.1; omega
  refine lv_tableIn (tgt := 1231) (off := 1188) hx hb dL_law_43 (by rw [iZ_toInt (z := 11) (by omega)]; omega) (by rw [iZ_toInt (z := 11) (by omega)]; omega) (by rw [iZ_toInt (z := 11) (by omega)]; rfl) (by decide) ?_
  refine lv_aload_n hx hb dL_law_1231 rfl (lv_at hl 3 rfl) ?_
  refine lv_aload_n hx hb dL_law_1232 rfl (lv_at hl 4 rfl) ?_
  refine lv_iload hx hb dL_law_1233 (lv_at hl 0 rfl) ?_
  refine lv_iconst (v := iZ 1) hx hb dL_law_1235 rfl ?_
  refine kz_iadd hx hb dL_law_1236 ?_
  refine kz_sld hx hb hX hbl hbA hS (by omega) hL5 dL_law_1237 ?_
  refine lv_aload_n hx hb dL_law_1238 rfl (lv_at hl 4 rfl) ?_
  refine lv_iload hx hb dL_law_1239 (lv_at hl 0 rfl) ?_
  refine lv_iconst (v := iZ 2) hx hb dL_law_1241 rfl ?_
  refine kz_iadd hx hb dL_law_1242 ?_
  refine kz_sld hx hb hX hbl hbA hS (by omega) hL5 dL_law_1243 ?_
  refine lv_aload_n hx hb dL_law_1244 rfl (lv_at hl 1 rfl) ?_
  refine kc2 (vx_runSW (As := [.ref (q 0), .int (iZ (fx xs (i + 1))), .int (iZ (fx xs (i + 2))), .ref o]) (rest := []) ⟨hx, hb, hml, hown, hts⟩ (c_L_leafOfDay l hst dC dI dA k q σ _ hG hOK hq o sn sv hO hko ho9 ((fx xs (i + 1))) ((fx xs (i + 2))) (fx_rng _ _) (fx_rng _ _)) (vx_cwSW 4 hts (kg_S mw715 mw716 mw41 rfl mw717) rfl rfl rfl hdS_L_leafOfDay ⟨Nat.le_of_ble_eq_true rfl, Nat.le_of_ble_eq_true rfl⟩) ⟨fun a U g mk q => ⟨q.1, q.2.1, kMJ_call q.2.2.1, kL_call q.2.2.2⟩, fun U hU hW => ⟨rfl, hU, kMJ_kept hMJ hS hN hU hW, kL_warm hL hW⟩⟩ rfl rfl hl.1 rfl (lv_room (Nat.le_of_ble_eq_true rfl)) dL_law_1245 ⟨kroomC (by omega), kroomS (by omega)⟩) hS (fun a _ h => kAO_N hq hko hkH a h) (fun a h => kAO_N hq hko hkH a h) (fun H1 locs hC hy9 hk9 hS => ?_)
  obtain ⟨hG1, hO1⟩ := hC
  have hY1 := kY_keptO hY hk9 h1 h2
  have h8 : kOK8 σ (if ex2 (!inb (fx xs (i + 1)) 0 3 || !inb (fx xs (i + 2)) 0 3) (false) = 0 then (sU (sU σ 0 (fx xs (i + 1)).toNat (σ 5 ((fx xs (i + 2)).toNat))) 1 (fx xs (i + 1)).toNat (σ 6 ((fx xs (i + 2)).toNat))) else σ) := k8_if hOK (fun h9 => k8m_leafOfDay hOK ((fx xs (i + 1))) ((fx xs (i + 2))) h9)
  have hkH1 : k 0 ≤ H1.size := Nat.le_trans hkH hy9
  clear hk9
  refine lv_istore (lv' := [(5, .int (iZ (ex2 (!inb (fx xs (i + 1)) 0 3 || !inb (fx xs (i + 2)) 0 3) (false)))), (4, .int (iZ i)), (3, .ref o), (2, .ref m0), (1, .ref (q 0)), (0, .ref b)]) hx hb dL_law_1248 hl (by decide) rfl (fun ls hl => ?_)
  refine lv_aload_n hx hb dL_law_1250 rfl (lv_at hl 3 rfl) ?_
  refine lv_aload_n hx hb dL_law_1251 rfl (lv_at hl 5 rfl) ?_
  refine lv_iload hx hb dL_law_1252 (lv_at hl 1 rfl) ?_
  refine lv_iconst (v := iZ 1) hx hb dL_law_1254 rfl ?_
  refine kz_iadd hx hb dL_law_1255 ?_
  refine kz_sld hx hb hX hbl hbA hS (by omega) hL5 dL_law_1256 ?_
  refine lv_aload_n hx hb dL_law_1257 rfl (lv_at hl 5 rfl) ?_
  refine lv_iload hx hb dL_law_1258 (lv_at hl 1 rfl) ?_
  refine lv_iconst (v := iZ 2) hx hb dL_law_1260 rfl ?_
  refine kz_iadd hx hb dL_law_1261 ?_
  refine kz_sld hx hb hX hbl hbA hS (by omega) hL5 dL_law_1262 ?_
  refine kc2 (va_runV (As := [.int (iZ (fx xs (i + 1))), .int (iZ (fx xs (i + 2)))]) (rest := []) ⟨hx, hb, hml, hown, hts⟩ (c_X3_leafOfDay l dC dI dA k m0 r σ th _ hY1 hr hOK ((fx xs (i + 1))) ((fx xs (i + 2))) (fx_rng _ _) (fx_rng _ _)) (cwV 2 hts (kg_V mw1133 mw1134 mw1135 mw47 rfl mw1136) rfl rfl rfl hdV_X3_leafOfDay ⟨Nat.le_of_ble_eq_true rfl, Nat.le_of_ble_eq_true rfl⟩) ⟨fun a U g mk q => ⟨q.1, q.2.1, kM_call q.2.2⟩, va_recv hM.1 hY1 (ci := 6) (q0 := 0) rfl rfl, fun U hU hW => ⟨rfl, hU, kM_kept hM hS hN hU hW⟩⟩ rfl rfl hl.1 rfl (lv_room (Nat.le_of_ble_eq_true rfl)) dL_law_1263 ⟨kroomC (by omega), kroomS (by omega)⟩) hS (fun a _ h => kAy_N hr hkH1 a h) (fun a h => kAy_N hr hkH1 a h) (fun H2 locs hC2 hy8 hk8 hS => ?_)
  obtain ⟨r2, hI2, hO2⟩ := LI_step hI hG1 hO1 hC2 hk8 h8
  refine lv_istore (lv' := [(6, .int (iZ (if ex2 (!inb (fx xs (i + 1)) 0 3 || !inb (fx xs (i + 2)) 0 3) (false) = 0 then (mlen (leap (σ 5 ((fx xs (i + 2)).toNat))) (σ 6 ((fx xs (i + 2)).toNat))) else 0))), (5, .int (iZ (ex2 (!inb (fx xs (i + 1)) 0 3 || !inb (fx xs (i + 2)) 0 3) (false)))), (4, .int (iZ i)), (3, .ref o), (2, .ref m0), (1, .ref (q 0)), (0, .ref b)]) hx hb dL_law_1266 hl (by decide) rfl (fun ls hl => ?_)
  refine lv_aload_n hx hb dL_law_1268 rfl (lv_at hl 4 rfl) ?_
  obtain ⟨hG2, hOK2, hq2, hY2, hr2, -⟩ := id hI2
  refine kc0 (fun _ q => q) (va_runV (As := []) (rest := []) ⟨hx, hb, hml, hown, hts⟩ (c_X3_thrown l dC dI dA k m0 r2 _ _ _ hY2 hr2 hOK2) (cwV 0 hts (kg_V mw1013 mw1014 mw1015 mw47 rfl mw1016) rfl rfl rfl hdV_X3_thrown ⟨Nat.le_of_ble_eq_true rfl, Nat.le_of_ble_eq_true rfl⟩) ⟨fun a U g mk q => ⟨q.1, q.2.1, kM_call q.2.2⟩, va_recv hM.1 hY2 (ci := 6) (q0 := 0) rfl rfl, fun U hU hW => ⟨rfl, hU, kM_kept hM hS hN hU hW⟩⟩ rfl rfl hl.1 rfl (lv_room (Nat.le_of_ble_eq_true rfl)) dL_law_1269 ⟨kroomC (by omega), kroomS (by omega)⟩) ?_
  refine lv_iload hx hb dL_law_1272 (lv_at hl 1 rfl) ?_
  refine kz_icmp_eq (tgt := 1279) hx hb (ex2_rng _ _) (ex2_rng _ _) dL_law_1274 (by decide) (fun c_1 => ?_) (fun c_1 => absurd rfl c_1)
  refine lv_iload hx hb dL_law_1279 (lv_at hl 1 rfl) ?_
  refine kz_if_ne (tgt := 1297) hx hb (ex2_rng _ _) dL_law_1281 (by decide) (fun c_2 => ?_) (fun c_2 => ?_)
  · refine lv_goto (tgt := 4485) hx hb dL_law_1297 (by decide) ?_
    refine W.widen (k := cs + 600) (n := ss + 4000) (by omega) (by omega) ?_
    exact kk r2 _ _ _ _ _ hI2 hS (by have h9 := h8.2; omega) (lv_sub hl [2, 3, 4, 5, 6] rfl)
  · refine lv_aload_n hx hb dL_law_1284 rfl (lv_at hl 3 rfl) ?_
    obtain ⟨nv, vv, hn, hPn⟩ := hO2
    have hn := hn c_2
    subst hn
    refine va_getN (D := (dC, dI)) (ci := 5) (v := .long (lZ (w32 (mlen (leap (σ 5 ((fx xs (i + 2)).toNat))) (σ 6 ((fx xs (i + 2)).toNat)))))) (C := RX2) (T := TX2) (N := 2) hx hb hts (fun w h => List.mem_cons_of_mem _ (gF_1_in h)) hown hM.1 hPn 0 rfl rfl 0 (by decide) (va_Nw.use rfl hL.1) (fun _ h9 => h9) rfl dL_law_1285 ?_
    refine lv_iload hx hb dL_law_1288 (lv_at hl 0 rfl) ?_
    refine kz_w32 ?_
    refine kz_i2l hx hb (w32_rng _) dL_law_1290 ?_
    refine kz_lcmp_eq (tgt := 1297) hx hb (by first | exact w32_lrng _ | exact bZ_lrng _) (by first | exact w32_lrng _ | exact bZ_lrng _) dL_law_1291 dL_law_1292 (by decide) (fun c_3 => ?_) (fun c_3 => absurd (by first | rw [if_pos c_2] | exact congrArg bZ (by rw [decide_eq_true c_2, Bool.true_and]) | (rw [decide_eq_true c_2]; rfl) | (simp [c_2]; done)) c_3)
    refine lv_goto (tgt := 4485) hx hb dL_law_1297 (by decide) ?_
    refine W.widen (k := cs + 600) (n := ss + 4000) (by omega) (by omega) ?_
    exact kk r2 _ _ _ _ _ hI2 hS (by have h9 := h8.2; omega) (lv_sub hl [2, 3, 4, 5, 6] rfl)

set_option maxHeartbeats 4000000 in
set_option maxRecDepth 100000 in
theorem lc_12 {p : Program} {l : Launch} {e : Env} {s : State} {m : MethodId} {below : List Frame} {meth : Method} {c : Code} {Q : State → Prop} {b L : Nat} {xs : Nat → Int32} {dC : Nat → ClassId} {dI : Nat → Nat → Nat} {dA : Nat → ClassId} {k : Nat → Nat} (hst : l.stackTraces = false) (F : kF p s m meth c b L xs dC dI dA k)
    {q : Nat → Nat} {m0 : Nat} {r : Nat → Nat → Nat} {o : Nat} {σ : Nat → Nat → Int} {th : Int} {H : Heap} {locs : List Loc} {cs ss : Nat} {i : Int} {ls : Array Slot} (hI : LI dC dI dA k q m0 r o σ th H) (hS : va_S (kN0 k) s.heap H locs) (hi : 0 ≤ i ∧ i + 5 ≤ (L : Int)) (hcs : cs + 600 ≤ 707594) (hss : ss + 4000 ≤ 6979453) (h80 : 0 ≤ σ 8 0 ∧ σ 8 0 ≤ 100000) (hl : lv_has ls 7 [(4, .int (iZ i)), (3, .ref o), (2, .ref m0), (1, .ref (q 0)), (0, .ref b)])
    (kk : ∀ (r' : Nat → Nat → Nat) (σ' : Nat → Nat → Int) (th' : Int) (H' : Heap) (locs' : List Loc) (ls' : Array Slot), LI dC dI dA k q m0 r' o σ' th' H' → va_S (kN0 k) s.heap H' locs' → σ 8 0 ≤ σ' 8 0 ∧ σ' 8 0 ≤ σ 8 0 + 1 → lv_has ls' 7 [(4, .int (iZ i)), (3, .ref o), (2, .ref m0), (1, .ref (q 0)), (0, .ref b)] → W p l e room_1 s m #[Value.ref b] below meth c H' locs' (cs + 600) (ss + 4000) Q (F0 m 4485 ls' [])) :
    W p l e room_1 s m #[Value.ref b] below meth c H locs cs ss Q (F0 m 43 ls [.int (iZ 12)]) := by
  obtain ⟨hx, hb, hr9, hml, hown, hts, hX, hbl, hL5, hMJ, hL, hk0, hlocks⟩ := F
  obtain ⟨hG, hOK, hq, hY, hr, hO0, hko, ho9, h1, h2⟩ := id hI
  obtain ⟨sn, sv, -, hO⟩ := id hO0
  have hM := hMJ.1
  have hbA : ¬ kN0 k b := fun z => absurd (show k 0 ≤ b from z) (by omega)
  have hN : ∀ a, kN0 k a → k 0 ≤ a := fun _ h => h
  have hkH : k 0 ≤ H.size := by have := hS.1; omega
  refine lv_tableIn (tgt := 1300) (off := 1257) hx hb dL_law_43 (by rw [iZ_toInt (z := 12) (by omega)]; omega) (by rw [iZ_toInt (z := 12) (by omega)]; omega) (by rw [iZ_toInt (z := 12) (by omega)]; rfl) (by decide) ?_
  refine lv_aload_n hx hb dL_law_1300 rfl (lv_at hl 3 rfl) ?_
  refine lv_aload_n hx hb dL_law_1301 rfl (lv_at hl 4 rfl) ?_
  refine lv_iload hx hb dL_law_1302 (lv_at hl 0 rfl) ?_
  refine lv_iconst (v := iZ 1) hx hb dL_law_1304 rfl ?_
  refine kz_iadd hx hb dL_law_1305 ?_
  refine kz_sld hx hb hX hbl hbA hS (by omega) hL5 dL_law_1306 ?_
  refine lv_aload_n hx hb dL_law_1307 rfl (lv_at hl 4 rfl) ?_
  refine lv_iload hx hb dL_law_1308 (lv_at hl 0 rfl) ?_
  refine lv_iconst (v := iZ 2) hx hb dL_law_1310 rfl ?_
  refine kz_iadd hx hb dL_law_1311 ?_
  refine kz_sld hx hb hX hbl hbA hS (by omega) hL5 dL_law_1312 ?_
  refine lv_aload_n hx hb dL_law_1313 rfl (lv_at hl 1 rfl) ?_
  refine kc2 (vx_runSW (As := [.ref (q 0), .int (iZ (fx xs (i + 1))), .int (iZ (fx xs (i + 2))), .ref o]) (rest := []) ⟨hx, hb, hml, hown, hts⟩ (c_L_leafLike l hst dC dI dA k q σ _ hG hOK hq o sn sv hO hko ho9 ((fx xs (i + 1))) ((fx xs (i + 2))) (fx_rng _ _) (fx_rng _ _)) (vx_cwSW 4 hts (kg_S mw722 mw723 mw41 rfl mw724) rfl rfl rfl hdS_L_leafLike ⟨Nat.le_of_ble_eq_true rfl, Nat.le_of_ble_eq_true rfl⟩) ⟨fun a U g mk q => ⟨q.1, q.2.1, kMJ_call q.2.2.1, kL_call q.2.2.2⟩, fun U hU hW => ⟨rfl, hU, kMJ_kept hMJ hS hN hU hW, kL_warm hL hW⟩⟩ rfl rfl hl.1 rfl (lv_room (Nat.le_of_ble_eq_true rfl)) dL_law_1314 ⟨kroomC (by omega), kroomS (by omega)⟩) hS (fun a _ h => kAO_N hq hko hkH a h) (fun a h => kAO_N hq hko hkH a h) (fun H1 locs hC hy9 hk9 hS => ?_)
  obtain ⟨hG1, hO1⟩ := hC
  have hY1 := kY_keptO hY hk9 h1 h2
  have h8 : kOK8 σ (if ex2 (!inb (fx xs (i + 1)) 0 3 || !inb (fx xs (i + 2)) 0 3) (false) = 0 then (sU (sU σ 0 (fx xs (i + 1)).toNat (σ 0 ((fx xs (i + 2)).toNat))) 1 (fx xs (i + 1)).toNat (σ 1 ((fx xs (i + 2)).toNat))) else σ) := k8_if hOK (fun h9 => k8m_leafLike hOK ((fx xs (i + 1))) ((fx xs (i + 2))) h9)
  have hkH1 : k 0 ≤ H1.size := Nat.le_trans hkH hy9
  clear hk9
  refine lv_istore (lv' := [(5, .int (iZ (ex2 (!inb (fx xs (i + 1)) 0 3 || !inb (fx xs (i + 2)) 0 3) (false)))), (4, .int (iZ i)), (3, .ref o), (2, .ref m0), (1, .ref (q 0)), (0, .ref b)]) hx hb dL_law_1317 hl (by decide) rfl (fun ls hl => ?_)
  refine lv_aload_n hx hb dL_law_1319 rfl (lv_at hl 3 rfl) ?_
  refine lv_aload_n hx hb dL_law_1320 rfl (lv_at hl 5 rfl) ?_
  refine lv_iload hx hb dL_law_1321 (lv_at hl 1 rfl) ?_
  refine lv_iconst (v := iZ 1) hx hb dL_law_1323 rfl ?_
  refine kz_iadd hx hb dL_law_1324 ?_
  refine kz_sld hx hb hX hbl hbA hS (by omega) hL5 dL_law_1325 ?_
  refine lv_aload_n hx hb dL_law_1326 rfl (lv_at hl 5 rfl) ?_
  refine lv_iload hx hb dL_law_1327 (lv_at hl 1 rfl) ?_
  refine lv_iconst (v := iZ 2) hx hb dL_law_1329 rfl ?_
  refine kz_iadd hx hb dL_law_1330 ?_
  refine kz_sld hx hb hX hbl hbA hS (by omega) hL5 dL_law_1331 ?_
  refine kc2 (va_runV (As := [.int (iZ (fx xs (i + 1))), .int (iZ (fx xs (i + 2)))]) (rest := []) ⟨hx, hb, hml, hown, hts⟩ (c_X3_leafLike l dC dI dA k m0 r σ th _ hY1 hr hOK ((fx xs (i + 1))) ((fx xs (i + 2))) (fx_rng _ _) (fx_rng _ _)) (cwV 2 hts (kg_V mw1137 mw1138 mw1139 mw47 rfl mw1140) rfl rfl rfl hdV_X3_leafLike ⟨Nat.le_of_ble_eq_true rfl, Nat.le_of_ble_eq_true rfl⟩) ⟨fun a U g mk q => ⟨q.1, q.2.1, kM_call q.2.2⟩, va_recv hM.1 hY1 (ci := 6) (q0 := 0) rfl rfl, fun U hU hW => ⟨rfl, hU, kM_kept hM hS hN hU hW⟩⟩ rfl rfl hl.1 rfl (lv_room (Nat.le_of_ble_eq_true rfl)) dL_law_1332 ⟨kroomC (by omega), kroomS (by omega)⟩) hS (fun a _ h => kAy_N hr hkH1 a h) (fun a h => kAy_N hr hkH1 a h) (fun H2 locs hC2 hy8 hk8 hS => ?_)
  obtain ⟨r2, hI2, hO2⟩ := LI_step hI hG1 hO1 hC2 hk8 h8
  refine lv_istore (lv' := [(6, .int (iZ (if ex2 (!inb (fx xs (i + 1)) 0 3 || !inb (fx xs (i + 2)) 0 3) (false) = 0 then (bZ (decide (σ 0 ((fx xs (i + 1)).toNat) = σ 0 ((fx xs (i + 2)).toNat) ∧ σ 1 ((fx xs (i + 1)).toNat) = σ 1 ((fx xs (i + 2)).toNat)))) else 0))), (5, .int (iZ (ex2 (!inb (fx xs (i + 1)) 0 3 || !inb (fx xs (i + 2)) 0 3) (false)))), (4, .int (iZ i)), (3, .ref o), (2, .ref m0), (1, .ref (q 0)), (0, .ref b)]) hx hb dL_law_1335 hl (by decide) rfl (fun ls hl => ?_)
  refine lv_aload_n hx hb dL_law_1337 rfl (lv_at hl 4 rfl) ?_
  obtain ⟨hG2, hOK2, hq2, hY2, hr2, -⟩ := id hI2
  refine kc0 (fun _ q => q) (va_runV (As := []) (rest := []) ⟨hx, hb, hml, hown, hts⟩ (c_X3_thrown l dC dI dA k m0 r2 _ _ _ hY2 hr2 hOK2) (cwV 0 hts (kg_V mw1013 mw1014 mw1015 mw47 rfl mw1016) rfl rfl rfl hdV_X3_thrown ⟨Nat.le_of_ble_eq_true rfl, Nat.le_of_ble_eq_true rfl⟩) ⟨fun a U g mk q => ⟨q.1, q.2.1, kM_call q.2.2⟩, va_recv hM.1 hY2 (ci := 6) (q0 := 0) rfl rfl, fun U hU hW => ⟨rfl, hU, kM_kept hM hS hN hU hW⟩⟩ rfl rfl hl.1 rfl (lv_room (Nat.le_of_ble_eq_true rfl)) dL_law_1338 ⟨kroomC (by omega), kroomS (by omega)⟩) ?_
  refine lv_iload hx hb dL_law_1341 (lv_at hl 1 rfl) ?_
  refine kz_icmp_eq (tgt := 1348) hx hb (ex2_rng _ _) (ex2_rng _ _) dL_law_1343 (by decide) (fun c_1 => ?_) (fun c_1 => absurd rfl c_1)
  refine lv_iload hx hb dL_law_1348 (lv_at hl 1 rfl) ?_
  refine kz_if_ne (tgt := 1366) hx hb (ex2_rng _ _) dL_law_1350 (by decide) (fun c_2 => ?_) (fun c_2 => ?_)
  · refine lv_goto (tgt := 4485) hx hb dL_law_1366 (by decide) ?_
    refine W.widen (k := cs + 600) (n := ss + 4000) (by omega) (by omega) ?_
    exact kk r2 _ _ _ _ _ hI2 hS (by have h9 := h8.2; omega) (lv_sub hl [2, 3, 4, 5, 6] rfl)
  · refine lv_aload_n hx hb dL_law_1353 rfl (lv_at hl 3 rfl) ?_
    obtain ⟨nv, vv, hn, hPn⟩ := hO2
    have hn := hn c_2
    subst hn
    refine va_getN (D := (dC, dI)) (ci := 5) (v := .long (lZ (w32 (bZ (decide (σ 0 ((fx xs (i + 1)).toNat) = σ 0 ((fx xs (i + 2)).toNat) ∧ σ 1 ((fx xs (i + 1)).toNat) = σ 1 ((fx xs (i + 2)).toNat))))))) (C := RX2) (T := TX2) (N := 2) hx hb hts (fun w h => List.mem_cons_of_mem _ (gF_1_in h)) hown hM.1 hPn 0 rfl rfl 0 (by decide) (va_Nw.use rfl hL.1) (fun _ h9 => h9) rfl dL_law_1354 ?_
    refine lv_iload hx hb dL_law_1357 (lv_at hl 0 rfl) ?_
    refine kz_w32 ?_
    refine kz_i2l hx hb (w32_rng _) dL_law_1359 ?_
    refine kz_lcmp_eq (tgt := 1366) hx hb (by first | exact w32_lrng _ | exact bZ_lrng _) (by first | exact w32_lrng _ | exact bZ_lrng _) dL_law_1360 dL_law_1361 (by decide) (fun c_3 => ?_) (fun c_3 => absurd (by first | rw [if_pos c_2] | exact congrArg bZ (by rw [decide_eq_true c_2, Bool.true_and]) | (rw [decide_eq_true c_2]; rfl) | (simp [c_2]; done)) c_3)
    refine lv_goto (tgt := 4485) hx hb dL_law_1366 (by decide) ?_
    refine W.widen (k := cs + 600) (n := ss + 4000) (by omega) (by omega) ?_
    exact kk r2 _ _ _ _ _ hI2 hS (by have h9 := h8.2; omega) (lv_sub hl [2, 3, 4, 5, 6] rfl)

set_option maxHeartbeats 4000000 in
set_option maxRecDepth 100000 in
theorem lc_13 {p : Program} {l : Launch} {e : Env} {s : State} {m : MethodId} {below : List Frame} {meth : Method} {c : Code} {Q : State → Prop} {b L : Nat} {xs : Nat → Int32} {dC : Nat → ClassId} {dI : Nat → Nat → Nat} {dA : Nat → ClassId} {k : Nat → Nat} (hst : l.stackTraces = false) (F : kF p s m meth c b L xs dC dI dA k)
    {q : Nat → Nat} {m0 : Nat} {r : Nat → Nat → Nat} {o : Nat} {σ : Nat → Nat → Int} {th : Int} {H : Heap} {locs : List Loc} {cs ss : Nat} {i : Int} {ls : Array Slot} (hI : LI dC dI dA k q m0 r o σ th H) (hS : va_S (kN0 k) s.heap H locs) (hi : 0 ≤ i ∧ i + 5 ≤ (L : Int)) (hcs : cs + 600 ≤ 707594) (hss : ss + 4000 ≤ 6979453) (h80 : 0 ≤ σ 8 0 ∧ σ 8 0 ≤ 100000) (hl : lv_has ls 7 [(4, .int (iZ i)), (3, .ref o), (2, .ref m0), (1, .ref (q 0)), (0, .ref b)])
    (kk : ∀ (r' : Nat → Nat → Nat) (σ' : Nat → Nat → Int) (th' : Int) (H' : Heap) (locs' : List Loc) (ls' : Array Slot), LI dC dI dA k q m0 r' o σ' th' H' → va_S (kN0 k) s.heap H' locs' → σ 8 0 ≤ σ' 8 0 ∧ σ' 8 0 ≤ σ 8 0 + 1 → lv_has ls' 7 [(4, .int (iZ i)), (3, .ref o), (2, .ref m0), (1, .ref (q 0)), (0, .ref b)] → W p l e room_1 s m #[Value.ref b] below meth c H' locs' (cs + 600) (ss + 4000) Q (F0 m 4485 ls' [])) :
    W p l e room_1 s m #[Value.ref b] below meth c H locs cs ss Q (F0 m 43 ls [.int (iZ 13)]) := by
  obtain ⟨hx, hb, hr9, hml, hown, hts, hX, hbl, hL5, hMJ, hL, hk0, hlocks⟩ := F
  obtain ⟨hG, hOK, hq, hY, hr, hO0, hko, ho9, h1, h2⟩ := id hI
  obtain ⟨sn, sv, -, hO⟩ := id hO0
  have hM := hMJ.1
  have hbA : ¬ kN0 k b := fun z => absurd (show k 0 ≤ b from z) (by omega)
  have hN : ∀ a, kN0 k a → k 0 ≤ a := fun _ h => h
  have hkH : k 0 ≤ H.size := by have := hS.1; omega
  refine lv_tableIn (tgt := 1369) (off := 1326) hx hb dL_law_43 (by rw [iZ_toInt (z := 13) (by omega)]; omega) (by rw [iZ_toInt (z := 13) (by omega)]; omega) (by rw [iZ_toInt (z := 13) (by omega)]; rfl) (by decide) ?_
  refine lv_aload_n hx hb dL_law_1369 rfl (lv_at hl 3 rfl) ?_
  refine lv_aload_n hx hb dL_law_1370 rfl (lv_at hl 4 rfl) ?_
  refine lv_iload hx hb dL_law_1371 (lv_at hl 0 rfl) ?_
  refine lv_iconst (v := iZ 1) hx hb dL_law_1373 rfl ?_
  refine kz_iadd hx hb dL_law_1374 ?_
  refine kz_sld hx hb hX hbl hbA hS (by omega) hL5 dL_law_1375 ?_
  refine lv_aload_n hx hb dL_law_1376 rfl (lv_at hl 4 rfl) ?_
  refine lv_iload hx hb dL_law_1377 (lv_at hl 0 rfl) ?_
  refine lv_iconst (v := iZ 2) hx hb dL_law_1379 rfl ?_
  refine kz_iadd hx hb dL_law_1380 ?_
  refine kz_sld hx hb hX hbl hbA hS (by omega) hL5 dL_law_1381 ?_
  refine lv_aload_n hx hb dL_law_1382 rfl (lv_at hl 1 rfl) ?_
  refine kc2 (vx_runSW (As := [.ref (q 0), .int (iZ (fx xs (i + 1))), .int (iZ (fx xs (i + 2))), .ref o]) (rest := []) ⟨hx, hb, hml, hown, hts⟩ (c_L_year l hst dC dI dA k q σ _ hG hOK hq o sn sv hO hko ho9 ((fx xs (i + 1))) ((fx xs (i + 2))) (fx_rng _ _) (fx_rng _ _)) (vx_cwSW 4 hts (kg_S mw729 mw730 mw41 rfl mw731) rfl rfl rfl hdS_L_year ⟨Nat.le_of_ble_eq_true rfl, Nat.le_of_ble_eq_true rfl⟩) ⟨fun a U g mk q => ⟨q.1, q.2.1, kMJ_call q.2.2.1, kL_call q.2.2.2⟩, fun U hU hW => ⟨rfl, hU, kMJ_kept hMJ hS hN hU hW, kL_warm hL hW⟩⟩ rfl rfl hl.1 rfl (lv_room (Nat.le_of_ble_eq_true rfl)) dL_law_1383 ⟨kroomC (by omega), kroomS (by omega)⟩) hS (fun a _ h => kAO_N hq hko hkH a h) (fun a h => kAO_N hq hko hkH a h) (fun H1 locs hC hy9 hk9 hS => ?_)
  obtain ⟨hG1, hO1⟩ := hC
  have hY1 := kY_keptO hY hk9 h1 h2
  have h8 : kOK8 σ (if ex2 (!inb (fx xs (i + 1)) 0 3) (!inb (fx xs (i + 2)) (-999999999) 999999999) = 0 then (sU σ 2 (fx xs (i + 1)).toNat (fx xs (i + 2))) else σ) := k8_if hOK (fun h9 => k8m_year hOK ((fx xs (i + 1))) ((fx xs (i + 2))) h9)
  have hkH1 : k 0 ≤ H1.size := Nat.le_trans hkH hy9
  clear hk9
  refine lv_istore (lv' := [(5, .int (iZ (ex2 (!inb (fx xs (i + 1)) 0 3) (!inb (fx xs (i + 2)) (-999999999) 999999999)))), (4, .int (iZ i)), (3, .ref o), (2, .ref m0), (1, .ref (q 0)), (0, .ref b)]) hx hb dL_law_1386 hl (by decide) rfl (fun ls hl => ?_)
  refine lv_aload_n hx hb dL_law_1388 rfl (lv_at hl 3 rfl) ?_
  refine lv_aload_n hx hb dL_law_1389 rfl (lv_at hl 5 rfl) ?_
  refine lv_iload hx hb dL_law_1390 (lv_at hl 1 rfl) ?_
  refine lv_iconst (v := iZ 1) hx hb dL_law_1392 rfl ?_
  refine kz_iadd hx hb dL_law_1393 ?_
  refine kz_sld hx hb hX hbl hbA hS (by omega) hL5 dL_law_1394 ?_
  refine lv_aload_n hx hb dL_law_1395 rfl (lv_at hl 5 rfl) ?_
  refine lv_iload hx hb dL_law_1396 (lv_at hl 1 rfl) ?_
  refine lv_iconst (v := iZ 2) hx hb dL_law_1398 rfl ?_
  refine kz_iadd hx hb dL_law_1399 ?_
  refine kz_sld hx hb hX hbl hbA hS (by omega) hL5 dL_law_1400 ?_
  refine kc2 (va_runV (As := [.int (iZ (fx xs (i + 1))), .int (iZ (fx xs (i + 2)))]) (rest := []) ⟨hx, hb, hml, hown, hts⟩ (c_X3_year l dC dI dA k m0 r σ th _ hY1 hr hOK ((fx xs (i + 1))) ((fx xs (i + 2))) (fx_rng _ _) (fx_rng _ _)) (cwV 2 hts (kg_V mw1144 mw1145 mw1146 mw47 rfl mw1147) rfl rfl rfl hdV_X3_year ⟨Nat.le_of_ble_eq_true rfl, Nat.le_of_ble_eq_true rfl⟩) ⟨fun a U g mk q => ⟨q.1, q.2.1, kM_call q.2.2⟩, va_recv hM.1 hY1 (ci := 6) (q0 := 0) rfl rfl, fun U hU hW => ⟨rfl, hU, kM_kept hM hS hN hU hW⟩⟩ rfl rfl hl.1 rfl (lv_room (Nat.le_of_ble_eq_true rfl)) dL_law_1401 ⟨kroomC (by omega), kroomS (by omega)⟩) hS (fun a _ h => kAy_N hr hkH1 a h) (fun a h => kAy_N hr hkH1 a h) (fun H2 locs hC2 hy8 hk8 hS => ?_)
  obtain ⟨r2, hI2, hO2⟩ := LI_step hI hG1 hO1 hC2 hk8 h8
  refine lv_istore (lv' := [(6, .int (iZ (if ex2 (!inb (fx xs (i + 1)) 0 3) (!inb (fx xs (i + 2)) (-999999999) 999999999) = 0 then (ylen (fx xs (i + 2))) else 0))), (5, .int (iZ (ex2 (!inb (fx xs (i + 1)) 0 3) (!inb (fx xs (i + 2)) (-999999999) 999999999)))), (4, .int (iZ i)), (3, .ref o), (2, .ref m0), (1, .ref (q 0)), (0, .ref b)]) hx hb dL_law_1404 hl (by decide) rfl (fun ls hl => ?_)
  refine lv_aload_n hx hb dL_law_1406 rfl (lv_at hl 4 rfl) ?_
  obtain ⟨hG2, hOK2, hq2, hY2, hr2, -⟩ := id hI2
  refine kc0 (fun _ q => q) (va_runV (As := []) (rest := []) ⟨hx, hb, hml, hown, hts⟩ (c_X3_thrown l dC dI dA k m0 r2 _ _ _ hY2 hr2 hOK2) (cwV 0 hts (kg_V mw1013 mw1014 mw1015 mw47 rfl mw1016) rfl rfl rfl hdV_X3_thrown ⟨Nat.le_of_ble_eq_true rfl, Nat.le_of_ble_eq_true rfl⟩) ⟨fun a U g mk q => ⟨q.1, q.2.1, kM_call q.2.2⟩, va_recv hM.1 hY2 (ci := 6) (q0 := 0) rfl rfl, fun U hU hW => ⟨rfl, hU, kM_kept hM hS hN hU hW⟩⟩ rfl rfl hl.1 rfl (lv_room (Nat.le_of_ble_eq_true rfl)) dL_law_1407 ⟨kroomC (by omega), kroomS (by omega)⟩) ?_
  refine lv_iload hx hb dL_law_1410 (lv_at hl 1 rfl) ?_
  refine kz_icmp_eq (tgt := 1417) hx hb (ex2_rng _ _) (ex2_rng _ _) dL_law_1412 (by decide) (fun c_1 => ?_) (fun c_1 => absurd rfl c_1)
  refine lv_iload hx hb dL_law_1417 (lv_at hl 1 rfl) ?_
  refine kz_if_ne (tgt := 1435) hx hb (ex2_rng _ _) dL_law_1419 (by decide) (fun c_2 => ?_) (fun c_2 => ?_)
  · refine lv_goto (tgt := 4485) hx hb dL_law_1435 (by decide) ?_
    refine W.widen (k := cs + 600) (n := ss + 4000) (by omega) (by omega) ?_
    exact kk r2 _ _ _ _ _ hI2 hS (by have h9 := h8.2; omega) (lv_sub hl [2, 3, 4, 5, 6] rfl)
  · refine lv_aload_n hx hb dL_law_1422 rfl (lv_at hl 3 rfl) ?_
    obtain ⟨nv, vv, hn, hPn⟩ := hO2
    have hn := hn c_2
    subst hn
    refine va_getN (D := (dC, dI)) (ci := 5) (v := .long (lZ (w32 (ylen (fx xs (i + 2)))))) (C := RX2) (T := TX2) (N := 2) hx hb hts (fun w h => List.mem_cons_of_mem _ (gF_1_in h)) hown hM.1 hPn 0 rfl rfl 0 (by decide) (va_Nw.use rfl hL.1) (fun _ h9 => h9) rfl dL_law_1423 ?_
    refine lv_iload hx hb dL_law_1426 (lv_at hl 0 rfl) ?_
    refine kz_w32 ?_
    refine kz_i2l hx hb (w32_rng _) dL_law_1428 ?_
    refine kz_lcmp_eq (tgt := 1435) hx hb (by first | exact w32_lrng _ | exact bZ_lrng _) (by first | exact w32_lrng _ | exact bZ_lrng _) dL_law_1429 dL_law_1430 (by decide) (fun c_3 => ?_) (fun c_3 => absurd (by first | rw [if_pos c_2] | exact congrArg bZ (by rw [decide_eq_true c_2, Bool.true_and]) | (rw [decide_eq_true c_2]; rfl) | (simp [c_2]; done)) c_3)
    refine lv_goto (tgt := 4485) hx hb dL_law_1435 (by decide) ?_
    refine W.widen (k := cs + 600) (n := ss + 4000) (by omega) (by omega) ?_
    exact kk r2 _ _ _ _ _ hI2 hS (by have h9 := h8.2; omega) (lv_sub hl [2, 3, 4, 5, 6] rfl)

