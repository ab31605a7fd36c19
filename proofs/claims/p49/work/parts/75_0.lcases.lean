set_option maxHeartbeats 4000000 in
set_option maxRecDepth 100000 in
theorem lc_0 {p : Program} {l : Launch} {e : Env} {s : State} {m : MethodId} {below : List Frame} {meth : Method} {c : Code} {Q : State → Prop} {b L : Nat} {xs : Nat → Int32} {dC : Nat → ClassId} {dI : Nat → Nat → Nat} {dA : Nat → ClassId} {k : Nat → Nat} (hst : l.stackTraces = false) (F : kF p s m meth c b L xs dC dI dA k)
    {q : Nat → Nat} {m0 : Nat} {r : Nat → Nat → Nat} {o : Nat} {σ : Nat → Nat → Int} {th : Int} {H : Heap} {locs : List Loc} {cs ss : Nat} {i : Int} {ls : Array Slot} (hI : LI dC dI dA k q m0 r o σ th H) (hS : va_S (kN0 k) s.heap H locs) (hi : 0 ≤ i ∧ i + 5 ≤ (L : Int)) (hcs : cs + 600 ≤ 652095) (hss : ss + 4000 ≤ 7139820) (h80 : 0 ≤ σ 8 0 ∧ σ 8 0 ≤ 100000) (hl : lv_has ls 7 [(4, .int (iZ i)), (3, .ref o), (2, .ref m0), (1, .ref (q 0)), (0, .ref b)])
    (kk : ∀ (r' : Nat → Nat → Nat) (σ' : Nat → Nat → Int) (th' : Int) (H' : Heap) (locs' : List Loc) (ls' : Array Slot), LI dC dI dA k q m0 r' o σ' th' H' → va_S (kN0 k) s.heap H' locs' → σ 8 0 ≤ σ' 8 0 ∧ σ' 8 0 ≤ σ 8 0 + 1 → lv_has ls' 7 [(4, .int (iZ i)), (3, .ref o), (2, .ref m0), (1, .ref (q 0)), (0, .ref b)] → W p l e room_1 s m #[Value.ref b] below meth c H' locs' (cs + 600) (ss + 4000) Q (F0 m 3011 ls' [])) :
    W p l e room_1 s m #[Value.ref b] below meth c H locs cs ss Q (F0 m 43 ls [.int (iZ 0)]) := by
  obtain ⟨hx, hb, hr9, hml, hown, hts, hX, hbl, hL5, hMJ, hL, hk0, hlocks⟩ := F
  obtain ⟨hG, hOK, hq, hY, hr, hO0, hko, ho9, h1, h2⟩ := id hI
  obtain ⟨sn, sv, -, hO⟩ := id hO0
  have hM := hMJ.1
  have hbA : ¬ kN0 k b := fun z => absurd (show k 0 ≤ b from z) (by omega)
  have hN : ∀ a, kN0 k a → k 0 ≤ a := fun _ h => h
  have hkH : k 0 ≤ H.size := by have := hS.1; omega
  refine lv_tableIn (tgt := 276) (off := 233) hx hb dL_law_43 (by rw [iZ_toInt (z := 0) (by omega)]; omega) (by rw [iZ_toInt (z := 0) (by omega)]; omega) (by rw [iZ_toInt (z := 0) (by omega)]; rfl) (by decide) ?_
  refine lv_aload_n hx hb dL_law_276 rfl (lv_at hl 3 rfl) ?_
  refine lv_aload_n hx hb dL_law_277 rfl (lv_at hl 4 rfl) ?_
  refine lv_iload hx hb dL_law_278 (lv_at hl 0 rfl) ?_
  refine lv_iconst (v := iZ 1) hx hb dL_law_280 rfl ?_
  refine kz_iadd hx hb dL_law_281 ?_
  refine kz_sld hx hb hX hbl hbA hS (by omega) hL5 dL_law_282 ?_
  refine lv_aload_n hx hb dL_law_283 rfl (lv_at hl 4 rfl) ?_
  refine lv_iload hx hb dL_law_284 (lv_at hl 0 rfl) ?_
  refine lv_iconst (v := iZ 2) hx hb dL_law_286 rfl ?_
  refine kz_iadd hx hb dL_law_287 ?_
  refine kz_sld hx hb hX hbl hbA hS (by omega) hL5 dL_law_288 ?_
  refine lv_aload_n hx hb dL_law_289 rfl (lv_at hl 4 rfl) ?_
  refine lv_iload hx hb dL_law_290 (lv_at hl 0 rfl) ?_
  refine lv_iconst (v := iZ 3) hx hb dL_law_292 rfl ?_
  refine kz_iadd hx hb dL_law_293 ?_
  refine kz_sld hx hb hX hbl hbA hS (by omega) hL5 dL_law_294 ?_
  refine lv_aload_n hx hb dL_law_295 rfl (lv_at hl 1 rfl) ?_
  refine kc2 (vx_runSW (As := [.ref (q 0), .int (iZ (fx xs (i + 1))), .int (iZ (fx xs (i + 2))), .int (iZ (fx xs (i + 3))), .ref o]) (rest := []) ⟨hx, hb, hml, hown, hts⟩ (c_L_leaf l hst dC dI dA k q σ _ hG hOK hq o sn sv hO hko ho9 ((fx xs (i + 1))) ((fx xs (i + 2))) ((fx xs (i + 3))) (fx_rng _ _) (fx_rng _ _) (fx_rng _ _)) (vx_cwSW 5 hts (kg_S mw601 mw602 mw41 rfl mw603) rfl rfl rfl hdS_L_leaf ⟨Nat.le_of_ble_eq_true rfl, Nat.le_of_ble_eq_true rfl⟩) ⟨fun a U g mk q => ⟨q.1, q.2.1, kMJ_call q.2.2.1, kL_call q.2.2.2⟩, fun U hU hW => ⟨rfl, hU, kMJ_kept hMJ hS hN hU hW, kL_warm hL hW⟩⟩ rfl rfl hl.1 rfl (lv_room (Nat.le_of_ble_eq_true rfl)) dL_law_296 ⟨kroomC (by omega), kroomS (by omega)⟩) hS (fun a _ h => kAO_N hq hko hkH a h) (fun a h => kAO_N hq hko hkH a h) (fun H1 locs hC hy9 hk9 hS => ?_)
  obtain ⟨hG1, hO1⟩ := hC
  have hY1 := kY_keptO hY hk9 h1 h2
  have h8 : kOK8 σ (if ex2 (!inb (fx xs (i + 1)) 0 3) (!inb (fx xs (i + 2)) (-999999999) 999999999 || !inb (fx xs (i + 3)) 1 12) = 0 then (sU (sU σ 0 (fx xs (i + 1)).toNat (fx xs (i + 2))) 1 (fx xs (i + 1)).toNat (fx xs (i + 3))) else σ) := k8_if hOK (fun h9 => k8m_leaf hOK ((fx xs (i + 1))) ((fx xs (i + 2))) ((fx xs (i + 3))) h9)
  have hkH1 : k 0 ≤ H1.size := Nat.le_trans hkH hy9
  clear hk9
  refine lv_istore (lv' := [(5, .int (iZ (ex2 (!inb (fx xs (i + 1)) 0 3) (!inb (fx xs (i + 2)) (-999999999) 999999999 || !inb (fx xs (i + 3)) 1 12)))), (4, .int (iZ i)), (3, .ref o), (2, .ref m0), (1, .ref (q 0)), (0, .ref b)]) hx hb dL_law_299 hl (by decide) rfl (fun ls hl => ?_)
  refine lv_aload_n hx hb dL_law_301 rfl (lv_at hl 3 rfl) ?_
  refine lv_aload_n hx hb dL_law_302 rfl (lv_at hl 5 rfl) ?_
  refine lv_iload hx hb dL_law_303 (lv_at hl 1 rfl) ?_
  refine lv_iconst (v := iZ 1) hx hb dL_law_305 rfl ?_
  refine kz_iadd hx hb dL_law_306 ?_
  refine kz_sld hx hb hX hbl hbA hS (by omega) hL5 dL_law_307 ?_
  refine lv_aload_n hx hb dL_law_308 rfl (lv_at hl 5 rfl) ?_
  refine lv_iload hx hb dL_law_309 (lv_at hl 1 rfl) ?_
  refine lv_iconst (v := iZ 2) hx hb dL_law_311 rfl ?_
  refine kz_iadd hx hb dL_law_312 ?_
  refine kz_sld hx hb hX hbl hbA hS (by omega) hL5 dL_law_313 ?_
  refine lv_aload_n hx hb dL_law_314 rfl (lv_at hl 5 rfl) ?_
  refine lv_iload hx hb dL_law_315 (lv_at hl 1 rfl) ?_
  refine lv_iconst (v := iZ 3) hx hb dL_law_317 rfl ?_
  refine kz_iadd hx hb dL_law_318 ?_
  refine kz_sld hx hb hX hbl hbA hS (by omega) hL5 dL_law_319 ?_
  refine kc2 (va_runV (As := [.int (iZ (fx xs (i + 1))), .int (iZ (fx xs (i + 2))), .int (iZ (fx xs (i + 3)))]) (rest := []) ⟨hx, hb, hml, hown, hts⟩ (c_X3_leaf l dC dI dA k m0 r σ th _ hY1 hr hOK ((fx xs (i + 1))) ((fx xs (i + 2))) ((fx xs (i + 3))) (fx_rng _ _) (fx_rng _ _) (fx_rng _ _)) (cwV 3 hts (kg_V mw1017 mw1018 mw1019 mw47 rfl mw1020) rfl rfl rfl hdV_X3_leaf ⟨Nat.le_of_ble_eq_true rfl, Nat.le_of_ble_eq_true rfl⟩) ⟨fun a U g mk q => ⟨q.1, q.2.1, kM_call q.2.2⟩, va_recv hM.1 hY1 (ci := 6) (q0 := 0) rfl rfl, fun U hU hW => ⟨rfl, hU, kM_kept hM hS hN hU hW⟩⟩ rfl rfl hl.1 rfl (lv_room (Nat.le_of_ble_eq_true rfl)) dL_law_320 ⟨kroomC (by omega), kroomS (by omega)⟩) hS (fun a _ h => kAy_N hr hkH1 a h) (fun a h => kAy_N hr hkH1 a h) (fun H2 locs hC2 hy8 hk8 hS => ?_)
  obtain ⟨r2, hI2, hO2⟩ := LI_step hI hG1 hO1 hC2 hk8 h8
  refine lv_istore (lv' := [(6, .int (iZ (if ex2 (!inb (fx xs (i + 1)) 0 3) (!inb (fx xs (i + 2)) (-999999999) 999999999 || !inb (fx xs (i + 3)) 1 12) = 0 then (mlen (leap (fx xs (i + 2))) (fx xs (i + 3))) else 0))), (5, .int (iZ (ex2 (!inb (fx xs (i + 1)) 0 3) (!inb (fx xs (i + 2)) (-999999999) 999999999 || !inb (fx xs (i + 3)) 1 12)))), (4, .int (iZ i)), (3, .ref o), (2, .ref m0), (1, .ref (q 0)), (0, .ref b)]) hx hb dL_law_323 hl (by decide) rfl (fun ls hl => ?_)
  refine lv_goto (tgt := 3011) hx hb dL_law_325 (by decide) ?_
  refine W.widen (k := cs + 600) (n := ss + 4000) (by omega) (by omega) ?_
  exact kk r2 _ _ _ _ _ hI2 hS (by have h9 := h8.2; omega) (lv_sub hl [2, 3, 4, 5, 6] rfl)

set_option maxHeartbeats 4000000 in
set_option maxRecDepth 100000 in
theorem lc_1 {p : Program} {l : Launch} {e : Env} {s : State} {m : MethodId} {below : List Frame} {meth : Method} {c : Code} {Q : State → Prop} {b L : Nat} {xs : Nat → Int32} {dC : Nat → ClassId} {dI : Nat → Nat → Nat} {dA : Nat → ClassId} {k : Nat → Nat} (hst : l.stackTraces = false) (F : kF p s m meth c b L xs dC dI dA k)
    {q : Nat → Nat} {m0 : Nat} {r : Nat → Nat → Nat} {o : Nat} {σ : Nat → Nat → Int} {th : Int} {H : Heap} {locs : List Loc} {cs ss : Nat} {i : Int} {ls : Array Slot} (hI : LI dC dI dA k q m0 r o σ th H) (hS : va_S (kN0 k) s.heap H locs) (hi : 0 ≤ i ∧ i + 5 ≤ (L : Int)) (hcs : cs + 600 ≤ 652095) (hss : ss + 4000 ≤ 7139820) (h80 : 0 ≤ σ 8 0 ∧ σ 8 0 ≤ 100000) (hl : lv_has ls 7 [(4, .int (iZ i)), (3, .ref o), (2, .ref m0), (1, .ref (q 0)), (0, .ref b)])
    (kk : ∀ (r' : Nat → Nat → Nat) (σ' : Nat → Nat → Int) (th' : Int) (H' : Heap) (locs' : List Loc) (ls' : Array Slot), LI dC dI dA k q m0 r' o σ' th' H' → va_S (kN0 k) s.heap H' locs' → σ 8 0 ≤ σ' 8 0 ∧ σ' 8 0 ≤ σ 8 0 + 1 → lv_has ls' 7 [(4, .int (iZ i)), (3, .ref o), (2, .ref m0), (1, .ref (q 0)), (0, .ref b)] → W p l e room_1 s m #[Value.ref b] below meth c H' locs' (cs + 600) (ss + 4000) Q (F0 m 3011 ls' [])) :
    W p l e room_1 s m #[Value.ref b] below meth c H locs cs ss Q (F0 m 43 ls [.int (iZ 1)]) := by
  obtain ⟨hx, hb, hr9, hml, hown, hts, hX, hbl, hL5, hMJ, hL, hk0, hlocks⟩ := F
  obtain ⟨hG, hOK, hq, hY, hr, hO0, hko, ho9, h1, h2⟩ := id hI
  obtain ⟨sn, sv, -, hO⟩ := id hO0
  have hM := hMJ.1
  have hbA : ¬ kN0 k b := fun z => absurd (show k 0 ≤ b from z) (by omega)
  have hN : ∀ a, kN0 k a → k 0 ≤ a := fun _ h => h
  have hkH : k 0 ≤ H.size := by have := hS.1; omega
  refine lv_tableIn (tgt := 328) (off := 285) hx hb dL_law_43 (by rw [iZ_toInt (z := 1) (by omega)]; omega) (by rw [iZ_toInt (z := 1) (by omega)]; omega) (by rw [iZ_toInt (z := 1) (by omega)]; rfl) (by decide) ?_
  refine lv_aload_n hx hb dL_law_328 rfl (lv_at hl 3 rfl) ?_
  refine lv_aload_n hx hb dL_law_329 rfl (lv_at hl 4 rfl) ?_
  refine lv_iload hx hb dL_law_330 (lv_at hl 0 rfl) ?_
  refine lv_iconst (v := iZ 1) hx hb dL_law_332 rfl ?_
  refine kz_iadd hx hb dL_law_333 ?_
  refine kz_sld hx hb hX hbl hbA hS (by omega) hL5 dL_law_334 ?_
  refine lv_aload_n hx hb dL_law_335 rfl (lv_at hl 4 rfl) ?_
  refine lv_iload hx hb dL_law_336 (lv_at hl 0 rfl) ?_
  refine lv_iconst (v := iZ 2) hx hb dL_law_338 rfl ?_
  refine kz_iadd hx hb dL_law_339 ?_
  refine kz_sld hx hb hX hbl hbA hS (by omega) hL5 dL_law_340 ?_
  refine lv_aload_n hx hb dL_law_341 rfl (lv_at hl 4 rfl) ?_
  refine lv_iload hx hb dL_law_342 (lv_at hl 0 rfl) ?_
  refine lv_iconst (v := iZ 3) hx hb dL_law_344 rfl ?_
  refine kz_iadd hx hb dL_law_345 ?_
  refine kz_sld hx hb hX hbl hbA hS (by omega) hL5 dL_law_346 ?_
  refine lv_aload_n hx hb dL_law_347 rfl (lv_at hl 1 rfl) ?_
  refine kc2 (vx_runSW (As := [.ref (q 0), .int (iZ (fx xs (i + 1))), .int (iZ (fx xs (i + 2))), .int (iZ (fx xs (i + 3))), .ref o]) (rest := []) ⟨hx, hb, hml, hown, hts⟩ (c_L_leafRound l hst dC dI dA k q σ _ hG hOK hq o sn sv hO hko ho9 ((fx xs (i + 1))) ((fx xs (i + 2))) ((fx xs (i + 3))) (fx_rng _ _) (fx_rng _ _) (fx_rng _ _)) (vx_cwSW 5 hts (kg_S mw620 mw621 mw41 rfl mw622) rfl rfl rfl hdS_L_leafRound ⟨Nat.le_of_ble_eq_true rfl, Nat.le_of_ble_eq_true rfl⟩) ⟨fun a U g mk q => ⟨q.1, q.2.1, kMJ_call q.2.2.1, kL_call q.2.2.2⟩, fun U hU hW => ⟨rfl, hU, kMJ_kept hMJ hS hN hU hW, kL_warm hL hW⟩⟩ rfl rfl hl.1 rfl (lv_room (Nat.le_of_ble_eq_true rfl)) dL_law_348 ⟨kroomC (by omega), kroomS (by omega)⟩) hS (fun a _ h => kAO_N hq hko hkH a h) (fun a h => kAO_N hq hko hkH a h) (fun H1 locs hC hy9 hk9 hS => ?_)
  obtain ⟨hG1, hO1⟩ := hC
  have hY1 := kY_keptO hY hk9 h1 h2
  have h8 : kOK8 σ (if ex2 (!inb (fx xs (i + 1)) 0 3) (!inb (fx xs (i + 2)) (-999999999) 999999999) = 0 then (sU (sU σ 0 (fx xs (i + 1)).toNat (fx xs (i + 2))) 1 (fx xs (i + 1)).toNat (1 + (fx xs (i + 3)) % 12)) else σ) := k8_if hOK (fun h9 => k8m_leafRound hOK ((fx xs (i + 1))) ((fx xs (i + 2))) ((fx xs (i + 3))) h9)
  have hkH1 : k 0 ≤ H1.size := Nat.le_trans hkH hy9
  clear hk9
  refine lv_istore (lv' := [(5, .int (iZ (ex2 (!inb (fx xs (i + 1)) 0 3) (!inb (fx xs (i + 2)) (-999999999) 999999999)))), (4, .int (iZ i)), (3, .ref o), (2, .ref m0), (1, .ref (q 0)), (0, .ref b)]) hx hb dL_law_351 hl (by decide) rfl (fun ls hl => ?_)
  refine lv_aload_n hx hb dL_law_353 rfl (lv_at hl 3 rfl) ?_
  refine lv_aload_n hx hb dL_law_354 rfl (lv_at hl 5 rfl) ?_
  refine lv_iload hx hb dL_law_355 (lv_at hl 1 rfl) ?_
  refine lv_iconst (v := iZ 1) hx hb dL_law_357 rfl ?_
  refine kz_iadd hx hb dL_law_358 ?_
  refine kz_sld hx hb hX hbl hbA hS (by omega) hL5 dL_law_359 ?_
  refine lv_aload_n hx hb dL_law_360 rfl (lv_at hl 5 rfl) ?_
  refine lv_iload hx hb dL_law_361 (lv_at hl 1 rfl) ?_
  refine lv_iconst (v := iZ 2) hx hb dL_law_363 rfl ?_
  refine kz_iadd hx hb dL_law_364 ?_
  refine kz_sld hx hb hX hbl hbA hS (by omega) hL5 dL_law_365 ?_
  refine lv_aload_n hx hb dL_law_366 rfl (lv_at hl 5 rfl) ?_
  refine lv_iload hx hb dL_law_367 (lv_at hl 1 rfl) ?_
  refine lv_iconst (v := iZ 3) hx hb dL_law_369 rfl ?_
  refine kz_iadd hx hb dL_law_370 ?_
  refine kz_sld hx hb hX hbl hbA hS (by omega) hL5 dL_law_371 ?_
  refine kc2 (va_runV (As := [.int (iZ (fx xs (i + 1))), .int (iZ (fx xs (i + 2))), .int (iZ (fx xs (i + 3)))]) (rest := []) ⟨hx, hb, hml, hown, hts⟩ (c_X3_leafRound l dC dI dA k m0 r σ th _ hY1 hr hOK ((fx xs (i + 1))) ((fx xs (i + 2))) ((fx xs (i + 3))) (fx_rng _ _) (fx_rng _ _) (fx_rng _ _)) (cwV 3 hts (kg_V mw1056 mw1057 mw1058 mw47 rfl mw1059) rfl rfl rfl hdV_X3_leafRound ⟨Nat.le_of_ble_eq_true rfl, Nat.le_of_ble_eq_true rfl⟩) ⟨fun a U g mk q => ⟨q.1, q.2.1, kM_call q.2.2⟩, va_recv hM.1 hY1 (ci := 6) (q0 := 0) rfl rfl, fun U hU hW => ⟨rfl, hU, kM_kept hM hS hN hU hW⟩⟩ rfl rfl hl.1 rfl (lv_room (Nat.le_of_ble_eq_true rfl)) dL_law_372 ⟨kroomC (by omega), kroomS (by omega)⟩) hS (fun a _ h => kAy_N hr hkH1 a h) (fun a h => kAy_N hr hkH1 a h) (fun H2 locs hC2 hy8 hk8 hS => ?_)
  obtain ⟨r2, hI2, hO2⟩ := LI_step hI hG1 hO1 hC2 hk8 h8
  refine lv_istore (lv' := [(6, .int (iZ (if ex2 (!inb (fx xs (i + 1)) 0 3) (!inb (fx xs (i + 2)) (-999999999) 999999999) = 0 then (1 + (fx xs (i + 3)) % 12) else 0))), (5, .int (iZ (ex2 (!inb (fx xs (i + 1)) 0 3) (!inb (fx xs (i + 2)) (-999999999) 999999999)))), (4, .int (iZ i)), (3, .ref o), (2, .ref m0), (1, .ref (q 0)), (0, .ref b)]) hx hb dL_law_375 hl (by decide) rfl (fun ls hl => ?_)
  refine lv_goto (tgt := 3011) hx hb dL_law_377 (by decide) ?_
  refine W.widen (k := cs + 600) (n := ss + 4000) (by omega) (by omega) ?_
  exact kk r2 _ _ _ _ _ hI2 hS (by have h9 := h8.2; omega) (lv_sub hl [2, 3, 4, 5, 6] rfl)

set_option maxHeartbeats 4000000 in
set_option maxRecDepth 100000 in
theorem lc_2 {p : Program} {l : Launch} {e : Env} {s : State} {m : MethodId} {below : List Frame} {meth : Method} {c : Code} {Q : State → Prop} {b L : Nat} {xs : Nat → Int32} {dC : Nat → ClassId} {dI : Nat → Nat → Nat} {dA : Nat → ClassId} {k : Nat → Nat} (hst : l.stackTraces = false) (F : kF p s m meth c b L xs dC dI dA k)
    {q : Nat → Nat} {m0 : Nat} {r : Nat → Nat → Nat} {o : Nat} {σ : Nat → Nat → Int} {th : Int} {H : Heap} {locs : List Loc} {cs ss : Nat} {i : Int} {ls : Array Slot} (hI : LI dC dI dA k q m0 r o σ th H) (hS : va_S (kN0 k) s.heap H locs) (hi : 0 ≤ i ∧ i + 5 ≤ (L : Int)) (hcs : cs + 600 ≤ 652095) (hss : ss + 4000 ≤ 7139820) (h80 : 0 ≤ σ 8 0 ∧ σ 8 0 ≤ 100000) (hl : lv_has ls 7 [(4, .int (iZ i)), (3, .ref o), (2, .ref m0), (1, .ref (q 0)), (0, .ref b)])
    (kk : ∀ (r' : Nat → Nat → Nat) (σ' : Nat → Nat → Int) (th' : Int) (H' : Heap) (locs' : List Loc) (ls' : Array Slot), LI dC dI dA k q m0 r' o σ' th' H' → va_S (kN0 k) s.heap H' locs' → σ 8 0 ≤ σ' 8 0 ∧ σ' 8 0 ≤ σ 8 0 + 1 → lv_has ls' 7 [(4, .int (iZ i)), (3, .ref o), (2, .ref m0), (1, .ref (q 0)), (0, .ref b)] → W p l e room_1 s m #[Value.ref b] below meth c H' locs' (cs + 600) (ss + 4000) Q (F0 m 3011 ls' [])) :
    W p l e room_1 s m #[Value.ref b] below meth c H locs cs ss Q (F0 m 43 ls [.int (iZ 2)]) := by
  obtain ⟨hx, hb, hr9, hml, hown, hts, hX, hbl, hL5, hMJ, hL, hk0, hlocks⟩ := F
  obtain ⟨hG, hOK, hq, hY, hr, hO0, hko, ho9, h1, h2⟩ := id hI
  obtain ⟨sn, sv, -, hO⟩ := id hO0
  have hM := hMJ.1
  have hbA : ¬ kN0 k b := fun z => absurd (show k 0 ≤ b from z) (by omega)
  have hN : ∀ a, kN0 k a → k 0 ≤ a := fun _ h => h
  have hkH : k 0 ≤ H.size := by have := hS.1; omega
  refine lv_tableIn (tgt := 380) (off := 337) hx hb dL_law_43 (by rw [iZ_toInt (z := 2) (by omega)]; omega) (by rw [iZ_toInt (z := 2) (by omega)]; omega) (by rw [iZ_toInt (z := 2) (by omega)]; rfl) (by decide) ?_
  refine lv_aload_n hx hb dL_law_380 rfl (lv_at hl 3 rfl) ?_
  refine lv_aload_n hx hb dL_law_381 rfl (lv_at hl 4 rfl) ?_
  refine lv_iload hx hb dL_law_382 (lv_at hl 0 rfl) ?_
  refine lv_iconst (v := iZ 1) hx hb dL_law_384 rfl ?_
  refine kz_iadd hx hb dL_law_385 ?_
  refine kz_sld hx hb hX hbl hbA hS (by omega) hL5 dL_law_386 ?_
  refine lv_aload_n hx hb dL_law_387 rfl (lv_at hl 4 rfl) ?_
  refine lv_iload hx hb dL_law_388 (lv_at hl 0 rfl) ?_
  refine lv_iconst (v := iZ 2) hx hb dL_law_390 rfl ?_
  refine kz_iadd hx hb dL_law_391 ?_
  refine kz_sld hx hb hX hbl hbA hS (by omega) hL5 dL_law_392 ?_
  refine lv_aload_n hx hb dL_law_393 rfl (lv_at hl 4 rfl) ?_
  refine lv_iload hx hb dL_law_394 (lv_at hl 0 rfl) ?_
  refine lv_iconst (v := iZ 3) hx hb dL_law_396 rfl ?_
  refine kz_iadd hx hb dL_law_397 ?_
  refine kz_sld hx hb hX hbl hbA hS (by omega) hL5 dL_law_398 ?_
  refine kz_b2i hx hb (fx_rng _ _) dL_law_399 dL_law_402 dL_law_403 dL_law_406 ?_
  refine lv_aload_n hx hb dL_law_407 rfl (lv_at hl 1 rfl) ?_
  refine kc2 (vx_runSW (As := [.ref (q 0), .int (iZ (fx xs (i + 1))), .int (iZ (fx xs (i + 2))), .int (iZ (bZ (!decide (fx xs (i + 3) = 0)))), .ref o]) (rest := []) ⟨hx, hb, hml, hown, hts⟩ (c_L_months l hst dC dI dA k q σ _ hG hOK hq o sn sv hO hko ho9 ((fx xs (i + 1))) ((fx xs (i + 2))) (!decide (fx xs (i + 3) = 0)) (fx_rng _ _) (fx_rng _ _)) (vx_cwSW 5 hts (kg_S mw633 mw634 mw41 rfl mw635) rfl rfl rfl hdS_L_months ⟨Nat.le_of_ble_eq_true rfl, Nat.le_of_ble_eq_true rfl⟩) ⟨fun a U g mk q => ⟨q.1, q.2.1, kMJ_call q.2.2.1, kL_call q.2.2.2⟩, fun U hU hW => ⟨rfl, hU, kMJ_kept hMJ hS hN hU hW, kL_warm hL hW⟩⟩ rfl rfl hl.1 rfl (lv_room (Nat.le_of_ble_eq_true rfl)) dL_law_408 ⟨kroomC (by omega), kroomS (by omega)⟩) hS (fun a _ h => kAO_N hq hko hkH a h) (fun a h => kAO_N hq hko hkH a h) (fun H1 locs hC hy9 hk9 hS => ?_)
  obtain ⟨hG1, hO1⟩ := hC
  have hY1 := kY_keptO hY hk9 h1 h2
  have h8 : kOK8 σ (if ex2 (!inb (fx xs (i + 1)) 0 3) (false) = 0 then (putLs σ ((fx xs (i + 1)).toNat) (cnt (σ 0 ((fx xs (i + 1)).toNat)) (σ 1 ((fx xs (i + 1)).toNat)) + sgn (fx xs (i + 2)) (!decide (fx xs (i + 3) = 0)))) else σ) := k8_if hOK (fun h9 => k8m_months hOK ((fx xs (i + 1))) ((fx xs (i + 2))) (!decide (fx xs (i + 3) = 0)) h9)
  have hkH1 : k 0 ≤ H1.size := Nat.le_trans hkH hy9
  clear hk9
  refine lv_istore (lv' := [(5, .int (iZ (ex2 (!inb (fx xs (i + 1)) 0 3) (false)))), (4, .int (iZ i)), (3, .ref o), (2, .ref m0), (1, .ref (q 0)), (0, .ref b)]) hx hb dL_law_411 hl (by decide) rfl (fun ls hl => ?_)
  refine lv_aload_n hx hb dL_law_413 rfl (lv_at hl 3 rfl) ?_
  refine lv_aload_n hx hb dL_law_414 rfl (lv_at hl 5 rfl) ?_
  refine lv_iload hx hb dL_law_415 (lv_at hl 1 rfl) ?_
  refine lv_iconst (v := iZ 1) hx hb dL_law_417 rfl ?_
  refine kz_iadd hx hb dL_law_418 ?_
  refine kz_sld hx hb hX hbl hbA hS (by omega) hL5 dL_law_419 ?_
  refine lv_aload_n hx hb dL_law_420 rfl (lv_at hl 5 rfl) ?_
  refine lv_iload hx hb dL_law_421 (lv_at hl 1 rfl) ?_
  refine lv_iconst (v := iZ 2) hx hb dL_law_423 rfl ?_
  refine kz_iadd hx hb dL_law_424 ?_
  refine kz_sld hx hb hX hbl hbA hS (by omega) hL5 dL_law_425 ?_
  refine lv_aload_n hx hb dL_law_426 rfl (lv_at hl 5 rfl) ?_
  refine lv_iload hx hb dL_law_427 (lv_at hl 1 rfl) ?_
  refine lv_iconst (v := iZ 3) hx hb dL_law_429 rfl ?_
  refine kz_iadd hx hb dL_law_430 ?_
  refine kz_sld hx hb hX hbl hbA hS (by omega) hL5 dL_law_431 ?_
  refine kz_b2i hx hb (fx_rng _ _) dL_law_432 dL_law_435 dL_law_436 dL_law_439 ?_
  refine kc2 (va_runV (As := [.int (iZ (fx xs (i + 1))), .int (iZ (fx xs (i + 2))), .int (iZ (bZ (!decide (fx xs (i + 3) = 0))))]) (rest := []) ⟨hx, hb, hml, hown, hts⟩ (c_X3_months l dC dI dA k m0 r σ th _ hY1 hr hOK ((fx xs (i + 1))) ((fx xs (i + 2))) (!decide (fx xs (i + 3) = 0)) (fx_rng _ _) (fx_rng _ _)) (cwV 3 hts (kg_V mw1066 mw1067 mw1068 mw47 rfl mw1069) rfl rfl rfl hdV_X3_months ⟨Nat.le_of_ble_eq_true rfl, Nat.le_of_ble_eq_true rfl⟩) ⟨fun a U g mk q => ⟨q.1, q.2.1, kM_call q.2.2⟩, va_recv hM.1 hY1 (ci := 6) (q0 := 0) rfl rfl, fun U hU hW => ⟨rfl, hU, kM_kept hM hS hN hU hW⟩⟩ rfl rfl hl.1 rfl (lv_room (Nat.le_of_ble_eq_true rfl)) dL_law_440 ⟨kroomC (by omega), kroomS (by omega)⟩) hS (fun a _ h => kAy_N hr hkH1 a h) (fun a h => kAy_N hr hkH1 a h) (fun H2 locs hC2 hy8 hk8 hS => ?_)
  obtain ⟨r2, hI2, hO2⟩ := LI_step hI hG1 hO1 hC2 hk8 h8
  refine lv_istore (lv' := [(6, .int (iZ (if ex2 (!inb (fx xs (i + 1)) 0 3) (false) = 0 then (putLr (cnt (σ 0 ((fx xs (i + 1)).toNat)) (σ 1 ((fx xs (i + 1)).toNat)) + sgn (fx xs (i + 2)) (!decide (fx xs (i + 3) = 0)))) else 0))), (5, .int (iZ (ex2 (!inb (fx xs (i + 1)) 0 3) (false)))), (4, .int (iZ i)), (3, .ref o), (2, .ref m0), (1, .ref (q 0)), (0, .ref b)]) hx hb dL_law_443 hl (by decide) rfl (fun ls hl => ?_)
  refine lv_goto (tgt := 3011) hx hb dL_law_445 (by decide) ?_
  refine W.widen (k := cs + 600) (n := ss + 4000) (by omega) (by omega) ?_
  exact kk r2 _ _ _ _ _ hI2 hS (by have h9 := h8.2; omega) (lv_sub hl [2, 3, 4, 5, 6] rfl)

set_option maxHeartbeats 4000000 in
set_option maxRecDepth 100000 in
theorem lc_3 {p : Program} {l : Launch} {e : Env} {s : State} {m : MethodId} {below : List Frame} {meth : Method} {c : Code} {Q : State → Prop} {b L : Nat} {xs : Nat → Int32} {dC : Nat → ClassId} {dI : Nat → Nat → Nat} {dA : Nat → ClassId} {k : Nat → Nat} (hst : l.stackTraces = false) (F : kF p s m meth c b L xs dC dI dA k)
    {q : Nat → Nat} {m0 : Nat} {r : Nat → Nat → Nat} {o : Nat} {σ : Nat → Nat → Int} {th : Int} {H : Heap} {locs : List Loc} {cs ss : Nat} {i : Int} {ls : Array Slot} (hI : LI dC dI dA k q m0 r o σ th H) (hS : va_S (kN0 k) s.heap H locs) (hi : 0 ≤ i ∧ i + 5 ≤ (L : Int)) (hcs : cs + 600 ≤ 652095) (hss : ss + 4000 ≤ 7139820) (h80 : 0 ≤ σ 8 0 ∧ σ 8 0 ≤ 100000) (hl : lv_has ls 7 [(4, .int (iZ i)), (3, .ref o), (2, .ref m0), (1, .ref (q 0)), (0, .ref b)])
    (kk : ∀ (r' : Nat → Nat → Nat) (σ' : Nat → Nat → Int) (th' : Int) (H' : Heap) (locs' : List Loc) (ls' : Array Slot), LI dC dI dA k q m0 r' o σ' th' H' → va_S (kN0 k) s.heap H' locs' → σ 8 0 ≤ σ' 8 0 ∧ σ' 8 0 ≤ σ 8 0 + 1 → lv_has ls' 7 [(4, .int (iZ i)), (3, .ref o), (2, .ref m0), (1, .ref (q 0)), (0, .ref b)] → W p l e room_1 s m #[Value.ref b] below meth c H' locs' (cs + 600) (ss + 4000) Q (F0 m 3011 ls' [])) :
    W p l e room_1 s m #[Value.ref b] below meth c H locs cs ss Q (F0 m 43 ls [.int (iZ 3)]) := by
  obtain ⟨hx, hb, hr9, hml, hown, hts, hX, hbl, hL5, hMJ, hL, hk0, hlocks⟩ := F
  obtain ⟨hG, hOK, hq, hY, hr, hO0, hko, ho9, h1, h2⟩ := id hI
  obtain ⟨sn, sv, -, hO⟩ := id hO0
  have hM := hMJ.1
  have hbA : ¬ kN0 k b := fun z => absurd (show k 0 ≤ b from z) (by omega)
  have hN : ∀ a, kN0 k a → k 0 ≤ a := fun _ h => h
  have hkH : k 0 ≤ H.size := by have := hS.1; omega
  refine lv_tableIn (tgt := 448) (off := 405) hx hb dL_law_43 (by rw [iZ_toInt (z := 3) (by omega)]; omega) (by rw [iZ_toInt (z := 3) (by omega)]; omega) (by rw [iZ_toInt (z := 3) (by omega)]; rfl) (by decide) ?_
  refine lv_aload_n hx hb dL_law_448 rfl (lv_at hl 3 rfl) ?_
  refine lv_aload_n hx hb dL_law_449 rfl (lv_at hl 4 rfl) ?_
  refine lv_iload hx hb dL_law_450 (lv_at hl 0 rfl) ?_
  refine lv_iconst (v := iZ 1) hx hb dL_law_452 rfl ?_
  refine kz_iadd hx hb dL_law_453 ?_
  refine kz_sld hx hb hX hbl hbA hS (by omega) hL5 dL_law_454 ?_
  refine lv_aload_n hx hb dL_law_455 rfl (lv_at hl 4 rfl) ?_
  refine lv_iload hx hb dL_law_456 (lv_at hl 0 rfl) ?_
  refine lv_iconst (v := iZ 2) hx hb dL_law_458 rfl ?_
  refine kz_iadd hx hb dL_law_459 ?_
  refine kz_sld hx hb hX hbl hbA hS (by omega) hL5 dL_law_460 ?_
  refine lv_aload_n hx hb dL_law_461 rfl (lv_at hl 4 rfl) ?_
  refine lv_iload hx hb dL_law_462 (lv_at hl 0 rfl) ?_
  refine lv_iconst (v := iZ 3) hx hb dL_law_464 rfl ?_
  refine kz_iadd hx hb dL_law_465 ?_
  refine kz_sld hx hb hX hbl hbA hS (by omega) hL5 dL_law_466 ?_
  refine kz_b2i hx hb (fx_rng _ _) dL_law_467 dL_law_470 dL_law_471 dL_law_474 ?_
  refine lv_aload_n hx hb dL_law_475 rfl (lv_at hl 1 rfl) ?_
  refine kc2 (vx_runSW (As := [.ref (q 0), .int (iZ (fx xs (i + 1))), .int (iZ (fx xs (i + 2))), .int (iZ (bZ (!decide (fx xs (i + 3) = 0)))), .ref o]) (rest := []) ⟨hx, hb, hml, hown, hts⟩ (c_L_years l hst dC dI dA k q σ _ hG hOK hq o sn sv hO hko ho9 ((fx xs (i + 1))) ((fx xs (i + 2))) (!decide (fx xs (i + 3) = 0)) (fx_rng _ _) (fx_rng _ _)) (vx_cwSW 5 hts (kg_S mw643 mw644 mw41 rfl mw645) rfl rfl rfl hdS_L_years ⟨Nat.le_of_ble_eq_true rfl, Nat.le_of_ble_eq_true rfl⟩) ⟨fun a U g mk q => ⟨q.1, q.2.1, kMJ_call q.2.2.1, kL_call q.2.2.2⟩, fun U hU hW => ⟨rfl, hU, kMJ_kept hMJ hS hN hU hW, kL_warm hL hW⟩⟩ rfl rfl hl.1 rfl (lv_room (Nat.le_of_ble_eq_true rfl)) dL_law_476 ⟨kroomC (by omega), kroomS (by omega)⟩) hS (fun a _ h => kAO_N hq hko hkH a h) (fun a h => kAO_N hq hko hkH a h) (fun H1 locs hC hy9 hk9 hS => ?_)
  obtain ⟨hG1, hO1⟩ := hC
  have hY1 := kY_keptO hY hk9 h1 h2
  have h8 : kOK8 σ (if ex2 (!inb (fx xs (i + 1)) 0 3) (false) = 0 then (putLs σ ((fx xs (i + 1)).toNat) (cnt (σ 0 ((fx xs (i + 1)).toNat)) (σ 1 ((fx xs (i + 1)).toNat)) + sgn (12 * (fx xs (i + 2))) (!decide (fx xs (i + 3) = 0)))) else σ) := k8_if hOK (fun h9 => k8m_years hOK ((fx xs (i + 1))) ((fx xs (i + 2))) (!decide (fx xs (i + 3) = 0)) h9)
  have hkH1 : k 0 ≤ H1.size := Nat.le_trans hkH hy9
  clear hk9
  refine lv_istore (lv' := [(5, .int (iZ (ex2 (!inb (fx xs (i + 1)) 0 3) (false)))), (4, .int (iZ i)), (3, .ref o), (2, .ref m0), (1, .ref (q 0)), (0, .ref b)]) hx hb dL_law_479 hl (by decide) rfl (fun ls hl => ?_)
  refine lv_aload_n hx hb dL_law_481 rfl (lv_at hl 3 rfl) ?_
  refine lv_aload_n hx hb dL_law_482 rfl (lv_at hl 5 rfl) ?_
  refine lv_iload hx hb dL_law_483 (lv_at hl 1 rfl) ?_
  refine lv_iconst (v := iZ 1) hx hb dL_law_485 rfl ?_
  refine kz_iadd hx hb dL_law_486 ?_
  refine kz_sld hx hb hX hbl hbA hS (by omega) hL5 dL_law_487 ?_
  refine lv_aload_n hx hb dL_law_488 rfl (lv_at hl 5 rfl) ?_
  refine lv_iload hx hb dL_law_489 (lv_at hl 1 rfl) ?_
  refine lv_iconst (v := iZ 2) hx hb dL_law_491 rfl ?_
  refine kz_iadd hx hb dL_law_492 ?_
  refine kz_sld hx hb hX hbl hbA hS (by omega) hL5 dL_law_493 ?_
  refine lv_aload_n hx hb dL_law_494 rfl (lv_at hl 5 rfl) ?_
  refine lv_iload hx hb dL_law_495 (lv_at hl 1 rfl) ?_
  refine lv_iconst (v := iZ 3) hx hb dL_law_497 rfl ?_
  refine kz_iadd hx hb dL_law_498 ?_
  refine kz_sld hx hb hX hbl hbA hS (by omega) hL5 dL_law_499 ?_
  refine kz_b2i hx hb (fx_rng _ _) dL_law_500 dL_law_503 dL_law_504 dL_law_507 ?_
  refine kc2 (va_runV (As := [.int (iZ (fx xs (i + 1))), .int (iZ (fx xs (i + 2))), .int (iZ (bZ (!decide (fx xs (i + 3) = 0))))]) (rest := []) ⟨hx, hb, hml, hown, hts⟩ (c_X3_years l dC dI dA k m0 r σ th _ hY1 hr hOK ((fx xs (i + 1))) ((fx xs (i + 2))) (!decide (fx xs (i + 3) = 0)) (fx_rng _ _) (fx_rng _ _)) (cwV 3 hts (kg_V mw1082 mw1083 mw1084 mw47 rfl mw1085) rfl rfl rfl hdV_X3_years ⟨Nat.le_of_ble_eq_true rfl, Nat.le_of_ble_eq_true rfl⟩) ⟨fun a U g mk q => ⟨q.1, q.2.1, kM_call q.2.2⟩, va_recv hM.1 hY1 (ci := 6) (q0 := 0) rfl rfl, fun U hU hW => ⟨rfl, hU, kM_kept hM hS hN hU hW⟩⟩ rfl rfl hl.1 rfl (lv_room (Nat.le_of_ble_eq_true rfl)) dL_law_508 ⟨kroomC (by omega), kroomS (by omega)⟩) hS (fun a _ h => kAy_N hr hkH1 a h) (fun a h => kAy_N hr hkH1 a h) (fun H2 locs hC2 hy8 hk8 hS => ?_)
  obtain ⟨r2, hI2, hO2⟩ := LI_step hI hG1 hO1 hC2 hk8 h8
  refine lv_istore (lv' := [(6, .int (iZ (if ex2 (!inb (fx xs (i + 1)) 0 3) (false) = 0 then (putLr (cnt (σ 0 ((fx xs (i + 1)).toNat)) (σ 1 ((fx xs (i + 1)).toNat)) + sgn (12 * (fx xs (i + 2))) (!decide (fx xs (i + 3) = 0)))) else 0))), (5, .int (iZ (ex2 (!inb (fx xs (i + 1)) 0 3) (false)))), (4, .int (iZ i)), (3, .ref o), (2, .ref m0), (1, .ref (q 0)), (0, .ref b)]) hx hb dL_law_511 hl (by decide) rfl (fun ls hl => ?_)
  refine lv_goto (tgt := 3011) hx hb dL_law_513 (by decide) ?_
  refine W.widen (k := cs + 600) (n := ss + 4000) (by omega) (by omega) ?_
  exact kk r2 _ _ _ _ _ hI2 hS (by have h9 := h8.2; omega) (lv_sub hl [2, 3, 4, 5, 6] rfl)

set_option maxHeartbeats 4000000 in
set_option maxRecDepth 100000 in
theorem lc_4 {p : Program} {l : Launch} {e : Env} {s : State} {m : MethodId} {below : List Frame} {meth : Method} {c : Code} {Q : State → Prop} {b L : Nat} {xs : Nat → Int32} {dC : Nat → ClassId} {dI : Nat → Nat → Nat} {dA : Nat → ClassId} {k : Nat → Nat} (hst : l.stackTraces = false) (F : kF p s m meth c b L xs dC dI dA k)
    {q : Nat → Nat} {m0 : Nat} {r : Nat → Nat → Nat} {o : Nat} {σ : Nat → Nat → Int} {th : Int} {H : Heap} {locs : List Loc} {cs ss : Nat} {i : Int} {ls : Array Slot} (hI : LI dC dI dA k q m0 r o σ th H) (hS : va_S (kN0 k) s.heap H locs) (hi : 0 ≤ i ∧ i + 5 ≤ (L : Int)) (hcs : cs + 600 ≤ 652095) (hss : ss + 4000 ≤ 7139820) (h80 : 0 ≤ σ 8 0 ∧ σ 8 0 ≤ 100000) (hl : lv_has ls 7 [(4, .int (iZ i)), (3, .ref o), (2, .ref m0), (1, .ref (q 0)), (0, .ref b)])
    (kk : ∀ (r' : Nat → Nat → Nat) (σ' : Nat → Nat → Int) (th' : Int) (H' : Heap) (locs' : List Loc) (ls' : Array Slot), LI dC dI dA k q m0 r' o σ' th' H' → va_S (kN0 k) s.heap H' locs' → σ 8 0 ≤ σ' 8 0 ∧ σ' 8 0 ≤ σ 8 0 + 1 → lv_has ls' 7 [(4, .int (iZ i)), (3, .ref o), (2, .ref m0), (1, .ref (q 0)), (0, .ref b)] → W p l e room_1 s m #[Value.ref b] below meth c H' locs' (cs + 600) (ss + 4000) Q (F0 m 3011 ls' [])) :
    W p l e room_1 s m #[Value.ref b] below meth c H locs cs ss Q (F0 m 43 ls [.int (iZ 4)]) := by
  obtain ⟨hx, hb, hr9, hml, hown, hts, hX, hbl, hL5, hMJ, hL, hk0, hlocks⟩ := F
  obtain ⟨hG, hOK, hq, hY, hr, hO0, hko, ho9, h1, h2⟩ := id hI
  obtain ⟨sn, sv, -, hO⟩ := id hO0
  have hM := hMJ.1
  have hbA : ¬ kN0 k b := fun z => absurd (show k 0 ≤ b from z) (by omega)
  have hN : ∀ a, kN0 k a → k 0 ≤ a := fun _ h => h
  have hkH : k 0 ≤ H.size := by have := hS.1; omega
  refine lv_tableIn (tgt := 516) (off := 473) hx hb dL_law_43 (by rw [iZ_toInt (z := 4) (by omega)]; omega) (by rw [iZ_toInt (z := 4) (by omega)]; omega) (by rw [iZ_toInt (z := 4) (by omega)]; rfl) (by decide) ?_
  refine lv_aload_n hx hb dL_law_516 rfl (lv_at hl 3 rfl) ?_
  refine lv_aload_n hx hb dL_law_517 rfl (lv_at hl 4 rfl) ?_
  refine lv_iload hx hb dL_law_518 (lv_at hl 0 rfl) ?_
  refine lv_iconst (v := iZ 1) hx hb dL_law_520 rfl ?_
  refine kz_iadd hx hb dL_law_521 ?_
  refine kz_sld hx hb hX hbl hbA hS (by omega) hL5 dL_law_522 ?_
  refine lv_aload_n hx hb dL_law_523 rfl (lv_at hl 4 rfl) ?_
  refine lv_iload hx hb dL_law_524 (lv_at hl 0 rfl) ?_
  refine lv_iconst (v := iZ 2) hx hb dL_law_526 rfl ?_
  refine kz_iadd hx hb dL_law_527 ?_
  refine kz_sld hx hb hX hbl hbA hS (by omega) hL5 dL_law_528 ?_
  refine lv_aload_n hx hb dL_law_529 rfl (lv_at hl 4 rfl) ?_
  refine lv_iload hx hb dL_law_530 (lv_at hl 0 rfl) ?_
  refine lv_iconst (v := iZ 3) hx hb dL_law_532 rfl ?_
  refine kz_iadd hx hb dL_law_533 ?_
  refine kz_sld hx hb hX hbl hbA hS (by omega) hL5 dL_law_534 ?_
  refine lv_aload_n hx hb dL_law_535 rfl (lv_at hl 4 rfl) ?_
  refine lv_iload hx hb dL_law_536 (lv_at hl 0 rfl) ?_
  refine lv_iconst (v := iZ 4) hx hb dL_law_538 rfl ?_
  refine kz_iadd hx hb dL_law_539 ?_
  refine kz_sld hx hb hX hbl hbA hS (by omega) hL5 dL_law_540 ?_
  refine kz_b2i hx hb (fx_rng _ _) dL_law_541 dL_law_544 dL_law_545 dL_law_548 ?_
  refine lv_aload_n hx hb dL_law_549 rfl (lv_at hl 1 rfl) ?_
  refine kc2 (vx_runSW (As := [.ref (q 0), .int (iZ (fx xs (i + 1))), .int (iZ (fx xs (i + 2))), .int (iZ (fx xs (i + 3))), .int (iZ (bZ (!decide (fx xs (i + 4) = 0)))), .ref o]) (rest := []) ⟨hx, hb, hml, hown, hts⟩ (c_L_units l hst dC dI dA k q σ _ hG hOK hq o sn sv hO hko ho9 ((fx xs (i + 1))) ((fx xs (i + 2))) ((fx xs (i + 3))) (!decide (fx xs (i + 4) = 0)) (fx_rng _ _) (fx_rng _ _) (fx_rng _ _)) (vx_cwSW 6 hts (kg_S mw653 mw654 mw41 rfl mw655) rfl rfl rfl hdS_L_units ⟨Nat.le_of_ble_eq_true rfl, Nat.le_of_ble_eq_true rfl⟩) ⟨fun a U g mk q => ⟨q.1, q.2.1, kMJ_call q.2.2.1, kL_call q.2.2.2⟩, fun U hU hW => ⟨rfl, hU, kMJ_kept hMJ hS hN hU hW, kL_warm hL hW⟩⟩ rfl rfl hl.1 rfl (lv_room (Nat.le_of_ble_eq_true rfl)) dL_law_550 ⟨kroomC (by omega), kroomS (by omega)⟩) hS (fun a _ h => kAO_N hq hko hkH a h) (fun a h => kAO_N hq hko hkH a h) (fun H1 locs hC hy9 hk9 hS => ?_)
  obtain ⟨hG1, hO1⟩ := hC
  have hY1 := kY_keptO hY hk9 h1 h2
  have h8 : kOK8 σ (if ex2 (!inb (fx xs (i + 1)) 0 3) (!inb (fx xs (i + 2)) 0 4) = 0 then (putLs σ ((fx xs (i + 1)).toNat) (cnt (σ 0 ((fx xs (i + 1)).toNat)) (σ 1 ((fx xs (i + 1)).toNat)) + sgn ((fx xs (i + 3)) * usize (fx xs (i + 2))) (!decide (fx xs (i + 4) = 0)))) else σ) := k8_if hOK (fun h9 => k8m_units hOK ((fx xs (i + 1))) ((fx xs (i + 2))) ((fx xs (i + 3))) (!decide (fx xs (i + 4) = 0)) h9)
  have hkH1 : k 0 ≤ H1.size := Nat.le_trans hkH hy9
  clear hk9
  refine lv_istore (lv' := [(5, .int (iZ (ex2 (!inb (fx xs (i + 1)) 0 3) (!inb (fx xs (i + 2)) 0 4)))), (4, .int (iZ i)), (3, .ref o), (2, .ref m0), (1, .ref (q 0)), (0, .ref b)]) hx hb dL_law_553 hl (by decide) rfl (fun ls hl => ?_)
  refine lv_aload_n hx hb dL_law_555 rfl (lv_at hl 3 rfl) ?_
  refine lv_aload_n hx hb dL_law_556 rfl (lv_at hl 5 rfl) ?_
  refine lv_iload hx hb dL_law_557 (lv_at hl 1 rfl) ?_
  refine lv_iconst (v := iZ 1) hx hb dL_law_559 rfl ?_
  refine kz_iadd hx hb dL_law_560 ?_
  refine kz_sld hx hb hX hbl hbA hS (by omega) hL5 dL_law_561 ?_
  refine lv_aload_n hx hb dL_law_562 rfl (lv_at hl 5 rfl) ?_
  refine lv_iload hx hb dL_law_563 (lv_at hl 1 rfl) ?_
  refine lv_iconst (v := iZ 2) hx hb dL_law_565 rfl ?_
  refine kz_iadd hx hb dL_law_566 ?_
  refine kz_sld hx hb hX hbl hbA hS (by omega) hL5 dL_law_567 ?_
  refine lv_aload_n hx hb dL_law_568 rfl (lv_at hl 5 rfl) ?_
  refine lv_iload hx hb dL_law_569 (lv_at hl 1 rfl) ?_
  refine lv_iconst (v := iZ 3) hx hb dL_law_571 rfl ?_
  refine kz_iadd hx hb dL_law_572 ?_
  refine kz_sld hx hb hX hbl hbA hS (by omega) hL5 dL_law_573 ?_
  refine lv_aload_n hx hb dL_law_574 rfl (lv_at hl 5 rfl) ?_
  refine lv_iload hx hb dL_law_575 (lv_at hl 1 rfl) ?_
  refine lv_iconst (v := iZ 4) hx hb dL_law_577 rfl ?_
  refine kz_iadd hx hb dL_law_578 ?_
  refine kz_sld hx hb hX hbl hbA hS (by omega) hL5 dL_law_579 ?_
  refine kz_b2i hx hb (fx_rng _ _) dL_law_580 dL_law_583 dL_law_584 dL_law_587 ?_
  refine kc2 (va_runV (As := [.int (iZ (fx xs (i + 1))), .int (iZ (fx xs (i + 2))), .int (iZ (fx xs (i + 3))), .int (iZ (bZ (!decide (fx xs (i + 4) = 0))))]) (rest := []) ⟨hx, hb, hml, hown, hts⟩ (c_X3_units l dC dI dA k m0 r σ th _ hY1 hr hOK ((fx xs (i + 1))) ((fx xs (i + 2))) ((fx xs (i + 3))) (!decide (fx xs (i + 4) = 0)) (fx_rng _ _) (fx_rng _ _) (fx_rng _ _)) (cwV 4 hts (kg_V mw1086 mw1087 mw1088 mw47 rfl mw1089) rfl rfl rfl hdV_X3_units ⟨Nat.le_of_ble_eq_true rfl, Nat.le_of_ble_eq_true rfl⟩) ⟨fun a U g mk q => ⟨q.1, q.2.1, kM_call q.2.2⟩, va_recv hM.1 hY1 (ci := 6) (q0 := 0) rfl rfl, fun U hU hW => ⟨rfl, hU, kM_kept hM hS hN hU hW⟩⟩ rfl rfl hl.1 rfl (lv_room (Nat.le_of_ble_eq_true rfl)) dL_law_588 ⟨kroomC (by omega), kroomS (by omega)⟩) hS (fun a _ h => kAy_N hr hkH1 a h) (fun a h => kAy_N hr hkH1 a h) (fun H2 locs hC2 hy8 hk8 hS => ?_)
  obtain ⟨r2, hI2, hO2⟩ := LI_step hI hG1 hO1 hC2 hk8 h8
  refine lv_istore (lv' := [(6, .int (iZ (if ex2 (!inb (fx xs (i + 1)) 0 3) (!inb (fx xs (i + 2)) 0 4) = 0 then (putLr (cnt (σ 0 ((fx xs (i + 1)).toNat)) (σ 1 ((fx xs (i + 1)).toNat)) + sgn ((fx xs (i + 3)) * usize (fx xs (i + 2))) (!decide (fx xs (i + 4) = 0)))) else 0))), (5, .int (iZ (ex2 (!inb (fx xs (i + 1)) 0 3) (!inb (fx xs (i + 2)) 0 4)))), (4, .int (iZ i)), (3, .ref o), (2, .ref m0), (1, .ref (q 0)), (0, .ref b)]) hx hb dL_law_591 hl (by decide) rfl (fun ls hl => ?_)
  refine lv_goto (tgt := 3011) hx hb dL_law_593 (by decide) ?_
  refine W.widen (k := cs + 600) (n := ss + 4000) (by omega) (by omega) ?_
  exact kk r2 _ _ _ _ _ hI2 hS (by have h9 := h8.2; omega) (lv_sub hl [2, 3, 4, 5, 6] rfl)

set_option maxHeartbeats 4000000 in
set_option maxRecDepth 100000 in
theorem lc_5 {p : Program} {l : Launch} {e : Env} {s : State} {m : MethodId} {below : List Frame} {meth : Method} {c : Code} {Q : State → Prop} {b L : Nat} {xs : Nat → Int32} {dC : Nat → ClassId} {dI : Nat → Nat → Nat} {dA : Nat → ClassId} {k : Nat → Nat} (hst : l.stackTraces = false) (F : kF p s m meth c b L xs dC dI dA k)
    {q : Nat → Nat} {m0 : Nat} {r : Nat → Nat → Nat} {o : Nat} {σ : Nat → Nat → Int} {th : Int} {H : Heap} {locs : List Loc} {cs ss : Nat} {i : Int} {ls : Array Slot} (hI : LI dC dI dA k q m0 r o σ th H) (hS : va_S (kN0 k) s.heap H locs) (hi : 0 ≤ i ∧ i + 5 ≤ (L : Int)) (hcs : cs + 600 ≤ 652095) (hss : ss + 4000 ≤ 7139820) (h80 : 0 ≤ σ 8 0 ∧ σ 8 0 ≤ 100000) (hl : lv_has ls 7 [(4, .int (iZ i)), (3, .ref o), (2, .ref m0), (1, .ref (q 0)), (0, .ref b)])
    (kk : ∀ (r' : Nat → Nat → Nat) (σ' : Nat → Nat → Int) (th' : Int) (H' : Heap) (locs' : List Loc) (ls' : Array Slot), LI dC dI dA k q m0 r' o σ' th' H' → va_S (kN0 k) s.heap H' locs' → σ 8 0 ≤ σ' 8 0 ∧ σ' 8 0 ≤ σ 8 0 + 1 → lv_has ls' 7 [(4, .int (iZ i)), (3, .ref o), (2, .ref m0), (1, .ref (q 0)), (0, .ref b)] → W p l e room_1 s m #[Value.ref b] below meth c H' locs' (cs + 600) (ss + 4000) Q (F0 m 3011 ls' [])) :
    W p l e room_1 s m #[Value.ref b] below meth c H locs cs ss Q (F0 m 43 ls [.int (iZ 5)]) := by
  obtain ⟨hx, hb, hr9, hml, hown, hts, hX, hbl, hL5, hMJ, hL, hk0, hlocks⟩ := F
  obtain ⟨hG, hOK, hq, hY, hr, hO0, hko, ho9, h1, h2⟩ := id hI
  obtain ⟨sn, sv, -, hO⟩ := id hO0
  have hM := hMJ.1
  have hbA : ¬ kN0 k b := fun z => absurd (show k 0 ≤ b from z) (by omega)
  have hN : ∀ a, kN0 k a → k 0 ≤ a := fun _ h => h
  have hkH : k 0 ≤ H.size := by have := hS.1; omega
  refine lv_tableIn (tgt := 596) (off := 553) hx hb dL_law_43 (by rw [iZ_toInt (z := 5) (by omega)]; omega) (by rw [iZ_toInt (z := 5) (by omega)]; omega) (by rw [iZ_toInt (z := 5) (by omega)]; rfl) (by decide) ?_
  refine lv_aload_n hx hb dL_law_596 rfl (lv_at hl 3 rfl) ?_
  refine lv_aload_n hx hb dL_law_597 rfl (lv_at hl 4 rfl) ?_
  refine lv_iload hx hb dL_law_598 (lv_at hl 0 rfl) ?_
  refine lv_iconst (v := iZ 1) hx hb dL_law_600 rfl ?_
  refine kz_iadd hx hb dL_law_601 ?_
  refine kz_sld hx hb hX hbl hbA hS (by omega) hL5 dL_law_602 ?_
  refine lv_aload_n hx hb dL_law_603 rfl (lv_at hl 4 rfl) ?_
  refine lv_iload hx hb dL_law_604 (lv_at hl 0 rfl) ?_
  refine lv_iconst (v := iZ 2) hx hb dL_law_606 rfl ?_
  refine kz_iadd hx hb dL_law_607 ?_
  refine kz_sld hx hb hX hbl hbA hS (by omega) hL5 dL_law_608 ?_
  refine lv_aload_n hx hb dL_law_609 rfl (lv_at hl 4 rfl) ?_
  refine lv_iload hx hb dL_law_610 (lv_at hl 0 rfl) ?_
  refine lv_iconst (v := iZ 3) hx hb dL_law_612 rfl ?_
  refine kz_iadd hx hb dL_law_613 ?_
  refine kz_sld hx hb hX hbl hbA hS (by omega) hL5 dL_law_614 ?_
  refine lv_aload_n hx hb dL_law_615 rfl (lv_at hl 4 rfl) ?_
  refine lv_iload hx hb dL_law_616 (lv_at hl 0 rfl) ?_
  refine lv_iconst (v := iZ 4) hx hb dL_law_618 rfl ?_
  refine kz_iadd hx hb dL_law_619 ?_
  refine kz_sld hx hb hX hbl hbA hS (by omega) hL5 dL_law_620 ?_
  refine kz_b2i hx hb (fx_rng _ _) dL_law_621 dL_law_624 dL_law_625 dL_law_628 ?_
  refine lv_aload_n hx hb dL_law_629 rfl (lv_at hl 1 rfl) ?_
  refine kc2 (vx_runSW (As := [.ref (q 0), .int (iZ (fx xs (i + 1))), .int (iZ (fx xs (i + 2))), .int (iZ (fx xs (i + 3))), .int (iZ (bZ (!decide (fx xs (i + 4) = 0)))), .ref o]) (rest := []) ⟨hx, hb, hml, hown, hts⟩ (c_L_both l hst dC dI dA k q σ _ hG hOK hq o sn sv hO hko ho9 ((fx xs (i + 1))) ((fx xs (i + 2))) ((fx xs (i + 3))) (!decide (fx xs (i + 4) = 0)) (fx_rng _ _) (fx_rng _ _) (fx_rng _ _)) (vx_cwSW 6 hts (kg_S mw660 mw661 mw41 rfl mw662) rfl rfl rfl hdS_L_both ⟨Nat.le_of_ble_eq_true rfl, Nat.le_of_ble_eq_true rfl⟩) ⟨fun a U g mk q => ⟨q.1, q.2.1, kMJ_call q.2.2.1, kL_call q.2.2.2⟩, fun U hU hW => ⟨rfl, hU, kMJ_kept hMJ hS hN hU hW, kL_warm hL hW⟩⟩ rfl rfl hl.1 rfl (lv_room (Nat.le_of_ble_eq_true rfl)) dL_law_630 ⟨kroomC (by omega), kroomS (by omega)⟩) hS (fun a _ h => kAO_N hq hko hkH a h) (fun a h => kAO_N hq hko hkH a h) (fun H1 locs hC hy9 hk9 hS => ?_)
  obtain ⟨hG1, hO1⟩ := hC
  have hY1 := kY_keptO hY hk9 h1 h2
  have h8 : kOK8 σ (if ex2 (!inb (fx xs (i + 1)) 0 3) (!inb (fx xs (i + 2)) (-99999999) 99999999 || !inb (fx xs (i + 3)) (-99999999) 99999999) = 0 then (putLs σ ((fx xs (i + 1)).toNat) (cnt (σ 0 ((fx xs (i + 1)).toNat)) (σ 1 ((fx xs (i + 1)).toNat)) + sgn (12 * (fx xs (i + 2)) + (fx xs (i + 3))) (!decide (fx xs (i + 4) = 0)))) else σ) := k8_if hOK (fun h9 => k8m_both hOK ((fx xs (i + 1))) ((fx xs (i + 2))) ((fx xs (i + 3))) (!decide (fx xs (i + 4) = 0)) h9)
  have hkH1 : k 0 ≤ H1.size := Nat.le_trans hkH hy9
  clear hk9
  refine lv_istore (lv' := [(5, .int (iZ (ex2 (!inb (fx xs (i + 1)) 0 3) (!inb (fx xs (i + 2)) (-99999999) 99999999 || !inb (fx xs (i + 3)) (-99999999) 99999999)))), (4, .int (iZ i)), (3, .ref o), (2, .ref m0), (1, .ref (q 0)), (0, .ref b)]) hx hb dL_law_633 hl (by decide) rfl (fun ls hl => ?_)
  refine lv_aload_n hx hb dL_law_635 rfl (lv_at hl 3 rfl) ?_
  refine lv_aload_n hx hb dL_law_636 rfl (lv_at hl 5 rfl) ?_
  refine lv_iload hx hb dL_law_637 (lv_at hl 1 rfl) ?_
  refine lv_iconst (v := iZ 1) hx hb dL_law_639 rfl ?_
  refine kz_iadd hx hb dL_law_640 ?_
  refine kz_sld hx hb hX hbl hbA hS (by omega) hL5 dL_law_641 ?_
  refine lv_aload_n hx hb dL_law_642 rfl (lv_at hl 5 rfl) ?_
  refine lv_iload hx hb dL_law_643 (lv_at hl 1 rfl) ?_
  refine lv_iconst (v := iZ 2) hx hb dL_law_645 rfl ?_
  refine kz_iadd hx hb dL_law_646 ?_
  refine kz_sld hx hb hX hbl hbA hS (by omega) hL5 dL_law_647 ?_
  refine lv_aload_n hx hb dL_law_648 rfl (lv_at hl 5 rfl) ?_
  refine lv_iload hx hb dL_law_649 (lv_at hl 1 rfl) ?_
  refine lv_iconst (v := iZ 3) hx hb dL_law_651 rfl ?_
  refine kz_iadd hx hb dL_law_652 ?_
  refine kz_sld hx hb hX hbl hbA hS (by omega) hL5 dL_law_653 ?_
  refine lv_aload_n hx hb dL_law_654 rfl (lv_at hl 5 rfl) ?_
  refine lv_iload hx hb dL_law_655 (lv_at hl 1 rfl) ?_
  refine lv_iconst (v := iZ 4) hx hb dL_law_657 rfl ?_
  refine kz_iadd hx hb dL_law_658 ?_
  refine kz_sld hx hb hX hbl hbA hS (by omega) hL5 dL_law_659 ?_
  refine kz_b2i hx hb (fx_rng _ _) dL_law_660 dL_law_663 dL_law_664 dL_law_667 ?_
  refine kc2 (va_runV (As := [.int (iZ (fx xs (i + 1))), .int (iZ (fx xs (i + 2))), .int (iZ (fx xs (i + 3))), .int (iZ (bZ (!decide (fx xs (i + 4) = 0))))]) (rest := []) ⟨hx, hb, hml, hown, hts⟩ (c_X3_both l dC dI dA k m0 r σ th _ hY1 hr hOK ((fx xs (i + 1))) ((fx xs (i + 2))) ((fx xs (i + 3))) (!decide (fx xs (i + 4) = 0)) (fx_rng _ _) (fx_rng _ _) (fx_rng _ _)) (cwV 4 hts (kg_V mw1092 mw1093 mw1094 mw47 rfl mw1095) rfl rfl rfl hdV_X3_both ⟨Nat.le_of_ble_eq_true rfl, Nat.le_of_ble_eq_true rfl⟩) ⟨fun a U g mk q => ⟨q.1, q.2.1, kM_call q.2.2⟩, va_recv hM.1 hY1 (ci := 6) (q0 := 0) rfl rfl, fun U hU hW => ⟨rfl, hU, kM_kept hM hS hN hU hW⟩⟩ rfl rfl hl.1 rfl (lv_room (Nat.le_of_ble_eq_true rfl)) dL_law_668 ⟨kroomC (by omega), kroomS (by omega)⟩) hS (fun a _ h => kAy_N hr hkH1 a h) (fun a h => kAy_N hr hkH1 a h) (fun H2 locs hC2 hy8 hk8 hS => ?_)
  obtain ⟨r2, hI2, hO2⟩ := LI_step hI hG1 hO1 hC2 hk8 h8
  refine lv_istore (lv' := [(6, .int (iZ (if ex2 (!inb (fx xs (i + 1)) 0 3) (!inb (fx xs (i + 2)) (-99999999) 99999999 || !inb (fx xs (i + 3)) (-99999999) 99999999) = 0 then (putLr (cnt (σ 0 ((fx xs (i + 1)).toNat)) (σ 1 ((fx xs (i + 1)).toNat)) + sgn (12 * (fx xs (i + 2)) + (fx xs (i + 3))) (!decide (fx xs (i + 4) = 0)))) else 0))), (5, .int (iZ (ex2 (!inb (fx xs (i + 1)) 0 3) (!inb (fx xs (i + 2)) (-99999999) 99999999 || !inb (fx xs (i + 3)) (-99999999) 99999999)))), (4, .int (iZ i)), (3, .ref o), (2, .ref m0), (1, .ref (q 0)), (0, .ref b)]) hx hb dL_law_671 hl (by decide) rfl (fun ls hl => ?_)
  refine lv_goto (tgt := 3011) hx hb dL_law_673 (by decide) ?_
  refine W.widen (k := cs + 600) (n := ss + 4000) (by omega) (by omega) ?_
  exact kk r2 _ _ _ _ _ hI2 hS (by have h9 := h8.2; omega) (lv_sub hl [2, 3, 4, 5, 6] rfl)

set_option maxHeartbeats 4000000 in
set_option maxRecDepth 100000 in
theorem lc_6 {p : Program} {l : Launch} {e : Env} {s : State} {m : MethodId} {below : List Frame} {meth : Method} {c : Code} {Q : State → Prop} {b L : Nat} {xs : Nat → Int32} {dC : Nat → ClassId} {dI : Nat → Nat → Nat} {dA : Nat → ClassId} {k : Nat → Nat} (hst : l.stackTraces = false) (F : kF p s m meth c b L xs dC dI dA k)
    {q : Nat → Nat} {m0 : Nat} {r : Nat → Nat → Nat} {o : Nat} {σ : Nat → Nat → Int} {th : Int} {H : Heap} {locs : List Loc} {cs ss : Nat} {i : Int} {ls : Array Slot} (hI : LI dC dI dA k q m0 r o σ th H) (hS : va_S (kN0 k) s.heap H locs) (hi : 0 ≤ i ∧ i + 5 ≤ (L : Int)) (hcs : cs + 600 ≤ 652095) (hss : ss + 4000 ≤ 7139820) (h80 : 0 ≤ σ 8 0 ∧ σ 8 0 ≤ 100000) (hl : lv_has ls 7 [(4, .int (iZ i)), (3, .ref o), (2, .ref m0), (1, .ref (q 0)), (0, .ref b)])
    (kk : ∀ (r' : Nat → Nat → Nat) (σ' : Nat → Nat → Int) (th' : Int) (H' : Heap) (locs' : List Loc) (ls' : Array Slot), LI dC dI dA k q m0 r' o σ' th' H' → va_S (kN0 k) s.heap H' locs' → σ 8 0 ≤ σ' 8 0 ∧ σ' 8 0 ≤ σ 8 0 + 1 → lv_has ls' 7 [(4, .int (iZ i)), (3, .ref o), (2, .ref m0), (1, .ref (q 0)), (0, .ref b)] → W p l e room_1 s m #[Value.ref b] below meth c H' locs' (cs + 600) (ss + 4000) Q (F0 m 3011 ls' [])) :
    W p l e room_1 s m #[Value.ref b] below meth c H locs cs ss Q (F0 m 43 ls [.int (iZ 6)]) := by
  obtain ⟨hx, hb, hr9, hml, hown, hts, hX, hbl, hL5, hMJ, hL, hk0, hlocks⟩ := F
  obtain ⟨hG, hOK, hq, hY, hr, hO0, hko, ho9, h1, h2⟩ := id hI
  obtain ⟨sn, sv, -, hO⟩ := id hO0
  have hM := hMJ.1
  have hbA : ¬ kN0 k b := fun z => absurd (show k 0 ≤ b from z) (by omega)
  have hN : ∀ a, kN0 k a → k 0 ≤ a := fun _ h => h
  have hkH : k 0 ≤ H.size := by have := hS.1; omega
  refine lv_tableIn (tgt := 676) (off := 633) hx hb dL_law_43 (by rw [iZ_toInt (z := 6) (by omega)]; omega) (by rw [iZ_toInt (z := 6) (by omega)]; omega) (by rw [iZ_toInt (z := 6) (by omega)]; rfl) (by decide) ?_
  refine lv_aload_n hx hb dL_law_676 rfl (lv_at hl 3 rfl) ?_
  refine lv_aload_n hx hb dL_law_677 rfl (lv_at hl 4 rfl) ?_
  refine lv_iload hx hb dL_law_678 (lv_at hl 0 rfl) ?_
  refine lv_iconst (v := iZ 1) hx hb dL_law_680 rfl ?_
  refine kz_iadd hx hb dL_law_681 ?_
  refine kz_sld hx hb hX hbl hbA hS (by omega) hL5 dL_law_682 ?_
  refine lv_aload_n hx hb dL_law_683 rfl (lv_at hl 4 rfl) ?_
  refine lv_iload hx hb dL_law_684 (lv_at hl 0 rfl) ?_
  refine lv_iconst (v := iZ 2) hx hb dL_law_686 rfl ?_
  refine kz_iadd hx hb dL_law_687 ?_
  refine kz_sld hx hb hX hbl hbA hS (by omega) hL5 dL_law_688 ?_
  refine lv_aload_n hx hb dL_law_689 rfl (lv_at hl 1 rfl) ?_
  refine kc2 (vx_runSW (As := [.ref (q 0), .int (iZ (fx xs (i + 1))), .int (iZ (fx xs (i + 2))), .ref o]) (rest := []) ⟨hx, hb, hml, hown, hts⟩ (c_L_leafYear l hst dC dI dA k q σ _ hG hOK hq o sn sv hO hko ho9 ((fx xs (i + 1))) ((fx xs (i + 2))) (fx_rng _ _) (fx_rng _ _)) (vx_cwSW 4 hts (kg_S mw669 mw670 mw41 rfl mw671) rfl rfl rfl hdS_L_leafYear ⟨Nat.le_of_ble_eq_true rfl, Nat.le_of_ble_eq_true rfl⟩) ⟨fun a U g mk q => ⟨q.1, q.2.1, kMJ_call q.2.2.1, kL_call q.2.2.2⟩, fun U hU hW => ⟨rfl, hU, kMJ_kept hMJ hS hN hU hW, kL_warm hL hW⟩⟩ rfl rfl hl.1 rfl (lv_room (Nat.le_of_ble_eq_true rfl)) dL_law_690 ⟨kroomC (by omega), kroomS (by omega)⟩) hS (fun a _ h => kAO_N hq hko hkH a h) (fun a h => kAO_N hq hko hkH a h) (fun H1 locs hC hy9 hk9 hS => ?_)
  obtain ⟨hG1, hO1⟩ := hC
  have hY1 := kY_keptO hY hk9 h1 h2
  have h8 : kOK8 σ (if ex2 (!inb (fx xs (i + 1)) 0 3) (!inb (fx xs (i + 2)) (-999999999) 999999999) = 0 then (sU (sU σ 0 (fx xs (i + 1)).toNat (fx xs (i + 2))) 1 (fx xs (i + 1)).toNat (σ 1 ((fx xs (i + 1)).toNat))) else σ) := k8_if hOK (fun h9 => k8m_leafYear hOK ((fx xs (i + 1))) ((fx xs (i + 2))) h9)
  have hkH1 : k 0 ≤ H1.size := Nat.le_trans hkH hy9
  clear hk9
  refine lv_istore (lv' := [(5, .int (iZ (ex2 (!inb (fx xs (i + 1)) 0 3) (!inb (fx xs (i + 2)) (-999999999) 999999999)))), (4, .int (iZ i)), (3, .ref o), (2, .ref m0), (1, .ref (q 0)), (0, .ref b)]) hx hb dL_law_693 hl (by decide) rfl (fun ls hl => ?_)
  refine lv_aload_n hx hb dL_law_695 rfl (lv_at hl 3 rfl) ?_
  refine lv_aload_n hx hb dL_law_696 rfl (lv_at hl 5 rfl) ?_
  refine lv_iload hx hb dL_law_697 (lv_at hl 1 rfl) ?_
  refine lv_iconst (v := iZ 1) hx hb dL_law_699 rfl ?_
  refine kz_iadd hx hb dL_law_700 ?_
  refine kz_sld hx hb hX hbl hbA hS (by omega) hL5 dL_law_701 ?_
  refine lv_aload_n hx hb dL_law_702 rfl (lv_at hl 5 rfl) ?_
  refine lv_iload hx hb dL_law_703 (lv_at hl 1 rfl) ?_
  refine lv_iconst (v := iZ 2) hx hb dL_law_705 rfl ?_
  refine kz_iadd hx hb dL_law_706 ?_
  refine kz_sld hx hb hX hbl hbA hS (by omega) hL5 dL_law_707 ?_
  refine kc2 (va_runV (As := [.int (iZ (fx xs (i + 1))), .int (iZ (fx xs (i + 2)))]) (rest := []) ⟨hx, hb, hml, hown, hts⟩ (c_X3_leafYear l dC dI dA k m0 r σ th _ hY1 hr hOK ((fx xs (i + 1))) ((fx xs (i + 2))) (fx_rng _ _) (fx_rng _ _)) (cwV 2 hts (kg_V mw1098 mw1099 mw1100 mw47 rfl mw1101) rfl rfl rfl hdV_X3_leafYear ⟨Nat.le_of_ble_eq_true rfl, Nat.le_of_ble_eq_true rfl⟩) ⟨fun a U g mk q => ⟨q.1, q.2.1, kM_call q.2.2⟩, va_recv hM.1 hY1 (ci := 6) (q0 := 0) rfl rfl, fun U hU hW => ⟨rfl, hU, kM_kept hM hS hN hU hW⟩⟩ rfl rfl hl.1 rfl (lv_room (Nat.le_of_ble_eq_true rfl)) dL_law_708 ⟨kroomC (by omega), kroomS (by omega)⟩) hS (fun a _ h => kAy_N hr hkH1 a h) (fun a h => kAy_N hr hkH1 a h) (fun H2 locs hC2 hy8 hk8 hS => ?_)
  obtain ⟨r2, hI2, hO2⟩ := LI_step hI hG1 hO1 hC2 hk8 h8
  refine lv_istore (lv' := [(6, .int (iZ (if ex2 (!inb (fx xs (i + 1)) 0 3) (!inb (fx xs (i + 2)) (-999999999) 999999999) = 0 then (σ 0 ((fx xs (i + 1)).toNat)) else 0))), (5, .int (iZ (ex2 (!inb (fx xs (i + 1)) 0 3) (!inb (fx xs (i + 2)) (-999999999) 999999999)))), (4, .int (iZ i)), (3, .ref o), (2, .ref m0), (1, .ref (q 0)), (0, .ref b)]) hx hb dL_law_711 hl (by decide) rfl (fun ls hl => ?_)
  refine lv_goto (tgt := 3011) hx hb dL_law_713 (by decide) ?_
  refine W.widen (k := cs + 600) (n := ss + 4000) (by omega) (by omega) ?_
  exact kk r2 _ _ _ _ _ hI2 hS (by have h9 := h8.2; omega) (lv_sub hl [2, 3, 4, 5, 6] rfl)

set_option maxHeartbeats 4000000 in
set_option maxRecDepth 100000 in
theorem lc_7 {p : Program} {l : Launch} {e : Env} {s : State} {m : MethodId} {below : List Frame} {meth : Method} {c : Code} {Q : State → Prop} {b L : Nat} {xs : Nat → Int32} {dC : Nat → ClassId} {dI : Nat → Nat → Nat} {dA : Nat → ClassId} {k : Nat → Nat} (hst : l.stackTraces = false) (F : kF p s m meth c b L xs dC dI dA k)
    {q : Nat → Nat} {m0 : Nat} {r : Nat → Nat → Nat} {o : Nat} {σ : Nat → Nat → Int} {th : Int} {H : Heap} {locs : List Loc} {cs ss : Nat} {i : Int} {ls : Array Slot} (hI : LI dC dI dA k q m0 r o σ th H) (hS : va_S (kN0 k) s.heap H locs) (hi : 0 ≤ i ∧ i + 5 ≤ (L : Int)) (hcs : cs + 600 ≤ 652095) (hss : ss + 4000 ≤ 7139820) (h80 : 0 ≤ σ 8 0 ∧ σ 8 0 ≤ 100000) (hl : lv_has ls 7 [(4, .int (iZ i)), (3, .ref o), (2, .ref m0), (1, .ref (q 0)), (0, .ref b)])
    (kk : ∀ (r' : Nat → Nat → Nat) (σ' : Nat → Nat → Int) (th' : Int) (H' : Heap) (locs' : List Loc) (ls' : Array Slot), LI dC dI dA k q m0 r' o σ' th' H' → va_S (kN0 k) s.heap H' locs' → σ 8 0 ≤ σ' 8 0 ∧ σ' 8 0 ≤ σ 8 0 + 1 → lv_has ls' 7 [(4, .int (iZ i)), (3, .ref o), (2, .ref m0), (1, .ref (q 0)), (0, .ref b)] → W p l e room_1 s m #[Value.ref b] below meth c H' locs' (cs + 600) (ss + 4000) Q (F0 m 3011 ls' [])) :
    W p l e room_1 s m #[Value.ref b] below meth c H locs cs ss Q (F0 m 43 ls [.int (iZ 7)]) := by
  obtain ⟨hx, hb, hr9, hml, hown, hts, hX, hbl, hL5, hMJ, hL, hk0, hlocks⟩ := F
  obtain ⟨hG, hOK, hq, hY, hr, hO0, hko, ho9, h1, h2⟩ := id hI
  obtain ⟨sn, sv, -, hO⟩ := id hO0
  have hM := hMJ.1
  have hbA : ¬ kN0 k b := fun z => absurd (show k 0 ≤ b from z) (by omega)
  have hN : ∀ a, kN0 k a → k 0 ≤ a := fun _ h => h
  have hkH : k 0 ≤ H.size := by have := hS.1; omega
  refine lv_tableIn (tgt := 716) (off := 673) hx hb dL_law_43 (by rw [iZ_toInt (z := 7) (by omega)]; omega) (by rw [iZ_toInt (z := 7) (by omega)]; omega) (by rw [iZ_toInt (z := 7) (by omega)]; rfl) (by decide) ?_
  refine lv_aload_n hx hb dL_law_716 rfl (lv_at hl 3 rfl) ?_
  refine lv_aload_n hx hb dL_law_717 rfl (lv_at hl 4 rfl) ?_
  refine lv_iload hx hb dL_law_718 (lv_at hl 0 rfl) ?_
  refine lv_iconst (v := iZ 1) hx hb dL_law_720 rfl ?_
  refine kz_iadd hx hb dL_law_721 ?_
  refine kz_sld hx hb hX hbl hbA hS (by omega) hL5 dL_law_722 ?_
  refine lv_aload_n hx hb dL_law_723 rfl (lv_at hl 4 rfl) ?_
  refine lv_iload hx hb dL_law_724 (lv_at hl 0 rfl) ?_
  refine lv_iconst (v := iZ 2) hx hb dL_law_726 rfl ?_
  refine kz_iadd hx hb dL_law_727 ?_
  refine kz_sld hx hb hX hbl hbA hS (by omega) hL5 dL_law_728 ?_
  refine lv_aload_n hx hb dL_law_729 rfl (lv_at hl 1 rfl) ?_
  refine kc2 (vx_runSW (As := [.ref (q 0), .int (iZ (fx xs (i + 1))), .int (iZ (fx xs (i + 2))), .ref o]) (rest := []) ⟨hx, hb, hml, hown, hts⟩ (c_L_leafMonth l hst dC dI dA k q σ _ hG hOK hq o sn sv hO hko ho9 ((fx xs (i + 1))) ((fx xs (i + 2))) (fx_rng _ _) (fx_rng _ _)) (vx_cwSW 4 hts (kg_S mw676 mw677 mw41 rfl mw678) rfl rfl rfl hdS_L_leafMonth ⟨Nat.le_of_ble_eq_true rfl, Nat.le_of_ble_eq_true rfl⟩) ⟨fun a U g mk q => ⟨q.1, q.2.1, kMJ_call q.2.2.1, kL_call q.2.2.2⟩, fun U hU hW => ⟨rfl, hU, kMJ_kept hMJ hS hN hU hW, kL_warm hL hW⟩⟩ rfl rfl hl.1 rfl (lv_room (Nat.le_of_ble_eq_true rfl)) dL_law_730 ⟨kroomC (by omega), kroomS (by omega)⟩) hS (fun a _ h => kAO_N hq hko hkH a h) (fun a h => kAO_N hq hko hkH a h) (fun H1 locs hC hy9 hk9 hS => ?_)
  obtain ⟨hG1, hO1⟩ := hC
  have hY1 := kY_keptO hY hk9 h1 h2
  have h8 : kOK8 σ (if ex2 (!inb (fx xs (i + 1)) 0 3) (!inb (fx xs (i + 2)) 1 12) = 0 then (sU (sU σ 0 (fx xs (i + 1)).toNat (σ 0 ((fx xs (i + 1)).toNat))) 1 (fx xs (i + 1)).toNat (fx xs (i + 2))) else σ) := k8_if hOK (fun h9 => k8m_leafMonth hOK ((fx xs (i + 1))) ((fx xs (i + 2))) h9)
  have hkH1 : k 0 ≤ H1.size := Nat.le_trans hkH hy9
  clear hk9
  refine lv_istore (lv' := [(5, .int (iZ (ex2 (!inb (fx xs (i + 1)) 0 3) (!inb (fx xs (i + 2)) 1 12)))), (4, .int (iZ i)), (3, .ref o), (2, .ref m0), (1, .ref (q 0)), (0, .ref b)]) hx hb dL_law_733 hl (by decide) rfl (fun ls hl => ?_)
  refine lv_aload_n hx hb dL_law_735 rfl (lv_at hl 3 rfl) ?_
  refine lv_aload_n hx hb dL_law_736 rfl (lv_at hl 5 rfl) ?_
  refine lv_iload hx hb dL_law_737 (lv_at hl 1 rfl) ?_
  refine lv_iconst (v := iZ 1) hx hb dL_law_739 rfl ?_
  refine kz_iadd hx hb dL_law_740 ?_
  refine kz_sld hx hb hX hbl hbA hS (by omega) hL5 dL_law_741 ?_
  refine lv_aload_n hx hb dL_law_742 rfl (lv_at hl 5 rfl) ?_
  refine lv_iload hx hb dL_law_743 (lv_at hl 1 rfl) ?_
  refine lv_iconst (v := iZ 2) hx hb dL_law_745 rfl ?_
  refine kz_iadd hx hb dL_law_746 ?_
  refine kz_sld hx hb hX hbl hbA hS (by omega) hL5 dL_law_747 ?_
  refine kc2 (va_runV (As := [.int (iZ (fx xs (i + 1))), .int (iZ (fx xs (i + 2)))]) (rest := []) ⟨hx, hb, hml, hown, hts⟩ (c_X3_leafMonth l dC dI dA k m0 r σ th _ hY1 hr hOK ((fx xs (i + 1))) ((fx xs (i + 2))) (fx_rng _ _) (fx_rng _ _)) (cwV 2 hts (kg_V mw1102 mw1103 mw1104 mw47 rfl mw1105) rfl rfl rfl hdV_X3_leafMonth ⟨Nat.le_of_ble_eq_true rfl, Nat.le_of_ble_eq_true rfl⟩) ⟨fun a U g mk q => ⟨q.1, q.2.1, kM_call q.2.2⟩, va_recv hM.1 hY1 (ci := 6) (q0 := 0) rfl rfl, fun U hU hW => ⟨rfl, hU, kM_kept hM hS hN hU hW⟩⟩ rfl rfl hl.1 rfl (lv_room (Nat.le_of_ble_eq_true rfl)) dL_law_748 ⟨kroomC (by omega), kroomS (by omega)⟩) hS (fun a _ h => kAy_N hr hkH1 a h) (fun a h => kAy_N hr hkH1 a h) (fun H2 locs hC2 hy8 hk8 hS => ?_)
  obtain ⟨r2, hI2, hO2⟩ := LI_step hI hG1 hO1 hC2 hk8 h8
  refine lv_istore (lv' := [(6, .int (iZ (if ex2 (!inb (fx xs (i + 1)) 0 3) (!inb (fx xs (i + 2)) 1 12) = 0 then (σ 1 ((fx xs (i + 1)).toNat)) else 0))), (5, .int (iZ (ex2 (!inb (fx xs (i + 1)) 0 3) (!inb (fx xs (i + 2)) 1 12)))), (4, .int (iZ i)), (3, .ref o), (2, .ref m0), (1, .ref (q 0)), (0, .ref b)]) hx hb dL_law_751 hl (by decide) rfl (fun ls hl => ?_)
  refine lv_goto (tgt := 3011) hx hb dL_law_753 (by decide) ?_
  refine W.widen (k := cs + 600) (n := ss + 4000) (by omega) (by omega) ?_
  exact kk r2 _ _ _ _ _ hI2 hS (by have h9 := h8.2; omega) (lv_sub hl [2, 3, 4, 5, 6] rfl)

set_option maxHeartbeats 4000000 in
set_option maxRecDepth 100000 in
theorem lc_8 {p : Program} {l : Launch} {e : Env} {s : State} {m : MethodId} {below : List Frame} {meth : Method} {c : Code} {Q : State → Prop} {b L : Nat} {xs : Nat → Int32} {dC : Nat → ClassId} {dI : Nat → Nat → Nat} {dA : Nat → ClassId} {k : Nat → Nat} (hst : l.stackTraces = false) (F : kF p s m meth c b L xs dC dI dA k)
    {q : Nat → Nat} {m0 : Nat} {r : Nat → Nat → Nat} {o : Nat} {σ : Nat → Nat → Int} {th : Int} {H : Heap} {locs : List Loc} {cs ss : Nat} {i : Int} {ls : Array Slot} (hI : LI dC dI dA k q m0 r o σ th H) (hS : va_S (kN0 k) s.heap H locs) (hi : 0 ≤ i ∧ i + 5 ≤ (L : Int)) (hcs : cs + 600 ≤ 652095) (hss : ss + 4000 ≤ 7139820) (h80 : 0 ≤ σ 8 0 ∧ σ 8 0 ≤ 100000) (hl : lv_has ls 7 [(4, .int (iZ i)), (3, .ref o), (2, .ref m0), (1, .ref (q 0)), (0, .ref b)])
    (kk : ∀ (r' : Nat → Nat → Nat) (σ' : Nat → Nat → Int) (th' : Int) (H' : Heap) (locs' : List Loc) (ls' : Array Slot), LI dC dI dA k q m0 r' o σ' th' H' → va_S (kN0 k) s.heap H' locs' → σ 8 0 ≤ σ' 8 0 ∧ σ' 8 0 ≤ σ 8 0 + 1 → lv_has ls' 7 [(4, .int (iZ i)), (3, .ref o), (2, .ref m0), (1, .ref (q 0)), (0, .ref b)] → W p l e room_1 s m #[Value.ref b] below meth c H' locs' (cs + 600) (ss + 4000) Q (F0 m 3011 ls' [])) :
    W p l e room_1 s m #[Value.ref b] below meth c H locs cs ss Q (F0 m 43 ls [.int (iZ 8)]) := by
  obtain ⟨hx, hb, hr9, hml, hown, hts, hX, hbl, hL5, hMJ, hL, hk0, hlocks⟩ := F
  obtain ⟨hG, hOK, hq, hY, hr, hO0, hko, ho9, h1, h2⟩ := id hI
  obtain ⟨sn, sv, -, hO⟩ := id hO0
  have hM := hMJ.1
  have hbA : ¬ kN0 k b := fun z => absurd (show k 0 ≤ b from z) (by omega)
  have hN : ∀ a, kN0 k a → k 0 ≤ a := fun _ h => h
  have hkH : k 0 ≤ H.size := by have := hS.1; omega
  refine lv_tableIn (tgt := 756) (off := 713) hx hb dL_law_43 (by rw [iZ_toInt (z := 8) (by omega)]; omega) (by rw [iZ_toInt (z := 8) (by omega)]; omega) (by rw [iZ_toInt (z := 8) (by omega)]; rfl) (by decide) ?_
  refine lv_aload_n hx hb dL_law_756 rfl (lv_at hl 3 rfl) ?_
  refine lv_aload_n hx hb dL_law_757 rfl (lv_at hl 4 rfl) ?_
  refine lv_iload hx hb dL_law_758 (lv_at hl 0 rfl) ?_
  refine lv_iconst (v := iZ 1) hx hb dL_law_760 rfl ?_
  refine kz_iadd hx hb dL_law_761 ?_
  refine kz_sld hx hb hX hbl hbA hS (by omega) hL5 dL_law_762 ?_
  refine lv_aload_n hx hb dL_law_763 rfl (lv_at hl 4 rfl) ?_
  refine lv_iload hx hb dL_law_764 (lv_at hl 0 rfl) ?_
  refine lv_iconst (v := iZ 2) hx hb dL_law_766 rfl ?_
  refine kz_iadd hx hb dL_law_767 ?_
  refine kz_sld hx hb hX hbl hbA hS (by omega) hL5 dL_law_768 ?_
  refine lv_aload_n hx hb dL_law_769 rfl (lv_at hl 4 rfl) ?_
  refine lv_iload hx hb dL_law_770 (lv_at hl 0 rfl) ?_
  refine lv_iconst (v := iZ 3) hx hb dL_law_772 rfl ?_
  refine kz_iadd hx hb dL_law_773 ?_
  refine kz_sld hx hb hX hbl hbA hS (by omega) hL5 dL_law_774 ?_
  refine lv_aload_n hx hb dL_law_775 rfl (lv_at hl 1 rfl) ?_
  refine kc2 (vx_runSW (As := [.ref (q 0), .int (iZ (fx xs (i + 1))), .int (iZ (fx xs (i + 2))), .int (iZ (fx xs (i + 3))), .ref o]) (rest := []) ⟨hx, hb, hml, hown, hts⟩ (c_L_leafWith l hst dC dI dA k q σ _ hG hOK hq o sn sv hO hko ho9 ((fx xs (i + 1))) ((fx xs (i + 2))) ((fx xs (i + 3))) (fx_rng _ _) (fx_rng _ _) (fx_rng _ _)) (vx_cwSW 5 hts (kg_S mw683 mw684 mw41 rfl mw685) rfl rfl rfl hdS_L_leafWith ⟨Nat.le_of_ble_eq_true rfl, Nat.le_of_ble_eq_true rfl⟩) ⟨fun a U g mk q => ⟨q.1, q.2.1, kMJ_call q.2.2.1, kL_call q.2.2.2⟩, fun U hU hW => ⟨rfl, hU, kMJ_kept hMJ hS hN hU hW, kL_warm hL hW⟩⟩ rfl rfl hl.1 rfl (lv_room (Nat.le_of_ble_eq_true rfl)) dL_law_776 ⟨kroomC (by omega), kroomS (by omega)⟩) hS (fun a _ h => kAO_N hq hko hkH a h) (fun a h => kAO_N hq hko hkH a h) (fun H1 locs hC hy9 hk9 hS => ?_)
  obtain ⟨hG1, hO1⟩ := hC
  have hY1 := kY_keptO hY hk9 h1 h2
  have h8 : kOK8 σ (if ex2 (!inb (fx xs (i + 1)) 0 3) (!inb (fx xs (i + 2)) 0 4 || noThing (fx xs (i + 2)) (fx xs (i + 3))) = 0 then (lwS σ ((fx xs (i + 1)).toNat) (fx xs (i + 2)) (fx xs (i + 3))) else σ) := k8_if hOK (fun h9 => k8m_leafWith hOK ((fx xs (i + 1))) ((fx xs (i + 2))) ((fx xs (i + 3))) h9)
  have hkH1 : k 0 ≤ H1.size := Nat.le_trans hkH hy9
  clear hk9
  refine lv_istore (lv' := [(5, .int (iZ (ex2 (!inb (fx xs (i + 1)) 0 3) (!inb (fx xs (i + 2)) 0 4 || noThing (fx xs (i + 2)) (fx xs (i + 3)))))), (4, .int (iZ i)), (3, .ref o), (2, .ref m0), (1, .ref (q 0)), (0, .ref b)]) hx hb dL_law_779 hl (by decide) rfl (fun ls hl => ?_)
  refine lv_aload_n hx hb dL_law_781 rfl (lv_at hl 3 rfl) ?_
  refine lv_aload_n hx hb dL_law_782 rfl (lv_at hl 5 rfl) ?_
  refine lv_iload hx hb dL_law_783 (lv_at hl 1 rfl) ?_
  refine lv_iconst (v := iZ 1) hx hb dL_law_785 rfl ?_
  refine kz_iadd hx hb dL_law_786 ?_
  refine kz_sld hx hb hX hbl hbA hS (by omega) hL5 dL_law_787 ?_
  refine lv_aload_n hx hb dL_law_788 rfl (lv_at hl 5 rfl) ?_
  refine lv_iload hx hb dL_law_789 (lv_at hl 1 rfl) ?_
  refine lv_iconst (v := iZ 2) hx hb dL_law_791 rfl ?_
  refine kz_iadd hx hb dL_law_792 ?_
  refine kz_sld hx hb hX hbl hbA hS (by omega) hL5 dL_law_793 ?_
  refine lv_aload_n hx hb dL_law_794 rfl (lv_at hl 5 rfl) ?_
  refine lv_iload hx hb dL_law_795 (lv_at hl 1 rfl) ?_
  refine lv_iconst (v := iZ 3) hx hb dL_law_797 rfl ?_
  refine kz_iadd hx hb dL_law_798 ?_
  refine kz_sld hx hb hX hbl hbA hS (by omega) hL5 dL_law_799 ?_
  refine kc2 (va_runV (As := [.int (iZ (fx xs (i + 1))), .int (iZ (fx xs (i + 2))), .int (iZ (fx xs (i + 3)))]) (rest := []) ⟨hx, hb, hml, hown, hts⟩ (c_X3_leafWith l dC dI dA k m0 r σ th _ hY1 hr hOK ((fx xs (i + 1))) ((fx xs (i + 2))) ((fx xs (i + 3))) (fx_rng _ _) (fx_rng _ _) (fx_rng _ _)) (cwV 3 hts (kg_V mw1106 mw1107 mw1108 mw47 rfl mw1109) rfl rfl rfl hdV_X3_leafWith ⟨Nat.le_of_ble_eq_true rfl, Nat.le_of_ble_eq_true rfl⟩) ⟨fun a U g mk q => ⟨q.1, q.2.1, kM_call q.2.2⟩, va_recv hM.1 hY1 (ci := 6) (q0 := 0) rfl rfl, fun U hU hW => ⟨rfl, hU, kM_kept hM hS hN hU hW⟩⟩ rfl rfl hl.1 rfl (lv_room (Nat.le_of_ble_eq_true rfl)) dL_law_800 ⟨kroomC (by omega), kroomS (by omega)⟩) hS (fun a _ h => kAy_N hr hkH1 a h) (fun a h => kAy_N hr hkH1 a h) (fun H2 locs hC2 hy8 hk8 hS => ?_)
  obtain ⟨r2, hI2, hO2⟩ := LI_step hI hG1 hO1 hC2 hk8 h8
  refine lv_istore (lv' := [(6, .int (iZ (if ex2 (!inb (fx xs (i + 1)) 0 3) (!inb (fx xs (i + 2)) 0 4 || noThing (fx xs (i + 2)) (fx xs (i + 3))) = 0 then (lwR σ ((fx xs (i + 1)).toNat) (fx xs (i + 2)) (fx xs (i + 3))) else 0))), (5, .int (iZ (ex2 (!inb (fx xs (i + 1)) 0 3) (!inb (fx xs (i + 2)) 0 4 || noThing (fx xs (i + 2)) (fx xs (i + 3)))))), (4, .int (iZ i)), (3, .ref o), (2, .ref m0), (1, .ref (q 0)), (0, .ref b)]) hx hb dL_law_803 hl (by decide) rfl (fun ls hl => ?_)
  refine lv_goto (tgt := 3011) hx hb dL_law_805 (by decide) ?_
  refine W.widen (k := cs + 600) (n := ss + 4000) (by omega) (by omega) ?_
  exact kk r2 _ _ _ _ _ hI2 hS (by have h9 := h8.2; omega) (lv_sub hl [2, 3, 4, 5, 6] rfl)

set_option maxHeartbeats 4000000 in
set_option maxRecDepth 100000 in
theorem lc_9 {p : Program} {l : Launch} {e : Env} {s : State} {m : MethodId} {below : List Frame} {meth : Method} {c : Code} {Q : State → Prop} {b L : Nat} {xs : Nat → Int32} {dC : Nat → ClassId} {dI : Nat → Nat → Nat} {dA : Nat → ClassId} {k : Nat → Nat} (hst : l.stackTraces = false) (F : kF p s m meth c b L xs dC dI dA k)
    {q : Nat → Nat} {m0 : Nat} {r : Nat → Nat → Nat} {o : Nat} {σ : Nat → Nat → Int} {th : Int} {H : Heap} {locs : List Loc} {cs ss : Nat} {i : Int} {ls : Array Slot} (hI : LI dC dI dA k q m0 r o σ th H) (hS : va_S (kN0 k) s.heap H locs) (hi : 0 ≤ i ∧ i + 5 ≤ (L : Int)) (hcs : cs + 600 ≤ 652095) (hss : ss + 4000 ≤ 7139820) (h80 : 0 ≤ σ 8 0 ∧ σ 8 0 ≤ 100000) (hl : lv_has ls 7 [(4, .int (iZ i)), (3, .ref o), (2, .ref m0), (1, .ref (q 0)), (0, .ref b)])
    (kk : ∀ (r' : Nat → Nat → Nat) (σ' : Nat → Nat → Int) (th' : Int) (H' : Heap) (locs' : List Loc) (ls' : Array Slot), LI dC dI dA k q m0 r' o σ' th' H' → va_S (kN0 k) s.heap H' locs' → σ 8 0 ≤ σ' 8 0 ∧ σ' 8 0 ≤ σ 8 0 + 1 → lv_has ls' 7 [(4, .int (iZ i)), (3, .ref o), (2, .ref m0), (1, .ref (q 0)), (0, .ref b)] → W p l e room_1 s m #[Value.ref b] below meth c H' locs' (cs + 600) (ss + 4000) Q (F0 m 3011 ls' [])) :
    W p l e room_1 s m #[Value.ref b] below meth c H locs cs ss Q (F0 m 43 ls [.int (iZ 9)]) := by
  obtain ⟨hx, hb, hr9, hml, hown, hts, hX, hbl, hL5, hMJ, hL, hk0, hlocks⟩ := F
  obtain ⟨hG, hOK, hq, hY, hr, hO0, hko, ho9, h1, h2⟩ := id hI
  obtain ⟨sn, sv, -, hO⟩ := id hO0
  have hM := hMJ.1
  have hbA : ¬ kN0 k b := fun z => absurd (show k 0 ≤ b from z) (by omega)
  have hN : ∀ a, kN0 k a → k 0 ≤ a := fun _ h => h
  have hkH : k 0 ≤ H.size := by have := hS.1; omega
  refine lv_tableIn (tgt := 808) (off := 765) hx hb dL_law_43 (by rw [iZ_toInt (z := 9) (by omega)]; omega) (by rw [iZ_toInt (z := 9) (by omega)]; omega) (by rw [iZ_toInt (z := 9) (by omega)]; rfl) (by decide) ?_
  refine lv_aload_n hx hb dL_law_808 rfl (lv_at hl 3 rfl) ?_
  refine lv_aload_n hx hb dL_law_809 rfl (lv_at hl 4 rfl) ?_
  refine lv_iload hx hb dL_law_810 (lv_at hl 0 rfl) ?_
  refine lv_iconst (v := iZ 1) hx hb dL_law_812 rfl ?_
  refine kz_iadd hx hb dL_law_813 ?_
  refine kz_sld hx hb hX hbl hbA hS (by omega) hL5 dL_law_814 ?_
  refine lv_aload_n hx hb dL_law_815 rfl (lv_at hl 4 rfl) ?_
  refine lv_iload hx hb dL_law_816 (lv_at hl 0 rfl) ?_
  refine lv_iconst (v := iZ 2) hx hb dL_law_818 rfl ?_
  refine kz_iadd hx hb dL_law_819 ?_
  refine kz_sld hx hb hX hbl hbA hS (by omega) hL5 dL_law_820 ?_
  refine lv_aload_n hx hb dL_law_821 rfl (lv_at hl 4 rfl) ?_
  refine lv_iload hx hb dL_law_822 (lv_at hl 0 rfl) ?_
  refine lv_iconst (v := iZ 3) hx hb dL_law_824 rfl ?_
  refine kz_iadd hx hb dL_law_825 ?_
  refine kz_sld hx hb hX hbl hbA hS (by omega) hL5 dL_law_826 ?_
  refine lv_aload_n hx hb dL_law_827 rfl (lv_at hl 1 rfl) ?_
  refine kc2 (vx_runSW (As := [.ref (q 0), .int (iZ (fx xs (i + 1))), .int (iZ (fx xs (i + 2))), .int (iZ (fx xs (i + 3))), .ref o]) (rest := []) ⟨hx, hb, hml, hown, hts⟩ (c_L_leafOf l hst dC dI dA k q σ _ hG hOK hq o sn sv hO hko ho9 ((fx xs (i + 1))) ((fx xs (i + 2))) ((fx xs (i + 3))) (fx_rng _ _) (fx_rng _ _) (fx_rng _ _)) (vx_cwSW 5 hts (kg_S mw701 mw702 mw41 rfl mw703) rfl rfl rfl hdS_L_leafOf ⟨Nat.le_of_ble_eq_true rfl, Nat.le_of_ble_eq_true rfl⟩) ⟨fun a U g mk q => ⟨q.1, q.2.1, kMJ_call q.2.2.1, kL_call q.2.2.2⟩, fun U hU hW => ⟨rfl, hU, kMJ_kept hMJ hS hN hU hW, kL_warm hL hW⟩⟩ rfl rfl hl.1 rfl (lv_room (Nat.le_of_ble_eq_true rfl)) dL_law_828 ⟨kroomC (by omega), kroomS (by omega)⟩) hS (fun a _ h => kAO_N hq hko hkH a h) (fun a h => kAO_N hq hko hkH a h) (fun H1 locs hC hy9 hk9 hS => ?_)
  obtain ⟨hG1, hO1⟩ := hC
  have hY1 := kY_keptO hY hk9 h1 h2
  have h8 : kOK8 σ (if ex2 (!inb (fx xs (i + 1)) 0 3 || !inb (fx xs (i + 2)) 0 3) (!inb (fx xs (i + 3)) 1 12) = 0 then (sU (sU σ 0 (fx xs (i + 1)).toNat (σ 2 ((fx xs (i + 2)).toNat))) 1 (fx xs (i + 1)).toNat (fx xs (i + 3))) else σ) := k8_if hOK (fun h9 => k8m_leafOf hOK ((fx xs (i + 1))) ((fx xs (i + 2))) ((fx xs (i + 3))) h9)
  have hkH1 : k 0 ≤ H1.size := Nat.le_trans hkH hy9
  clear hk9
  refine lv_istore (lv' := [(5, .int (iZ (ex2 (!inb (fx xs (i + 1)) 0 3 || !inb (fx xs (i + 2)) 0 3) (!inb (fx xs (i + 3)) 1 12)))), (4, .int (iZ i)), (3, .ref o), (2, .ref m0), (1, .ref (q 0)), (0, .ref b)]) hx hb dL_law_831 hl (by decide) rfl (fun ls hl => ?_)
  refine lv_aload_n hx hb dL_law_833 rfl (lv_at hl 3 rfl) ?_
  refine lv_aload_n hx hb dL_law_834 rfl (lv_at hl 5 rfl) ?_
  refine lv_iload hx hb dL_law_835 (lv_at hl 1 rfl) ?_
  refine lv_iconst (v := iZ 1) hx hb dL_law_837 rfl ?_
  refine kz_iadd hx hb dL_law_838 ?_
  refine kz_sld hx hb hX hbl hbA hS (by omega) hL5 dL_law_839 ?_
  refine lv_aload_n hx hb dL_law_840 rfl (lv_at hl 5 rfl) ?_
  refine lv_iload hx hb dL_law_841 (lv_at hl 1 rfl) ?_
  refine lv_iconst (v := iZ 2) hx hb dL_law_843 rfl ?_
  refine kz_iadd hx hb dL_law_844 ?_
  refine kz_sld hx hb hX hbl hbA hS (by omega) hL5 dL_law_845 ?_
  refine lv_aload_n hx hb dL_law_846 rfl (lv_at hl 5 rfl) ?_
  refine lv_iload hx hb dL_law_847 (lv_at hl 1 rfl) ?_
  refine lv_iconst (v := iZ 3) hx hb dL_law_849 rfl ?_
  refine kz_iadd hx hb dL_law_850 ?_
  refine kz_sld hx hb hX hbl hbA hS (by omega) hL5 dL_law_851 ?_
  refine kc2 (va_runV (As := [.int (iZ (fx xs (i + 1))), .int (iZ (fx xs (i + 2))), .int (iZ (fx xs (i + 3)))]) (rest := []) ⟨hx, hb, hml, hown, hts⟩ (c_X3_leafOf l dC dI dA k m0 r σ th _ hY1 hr hOK ((fx xs (i + 1))) ((fx xs (i + 2))) ((fx xs (i + 3))) (fx_rng _ _) (fx_rng _ _) (fx_rng _ _)) (cwV 3 hts (kg_V mw1125 mw1126 mw1127 mw47 rfl mw1128) rfl rfl rfl hdV_X3_leafOf ⟨Nat.le_of_ble_eq_true rfl, Nat.le_of_ble_eq_true rfl⟩) ⟨fun a U g mk q => ⟨q.1, q.2.1, kM_call q.2.2⟩, va_recv hM.1 hY1 (ci := 6) (q0 := 0) rfl rfl, fun U hU hW => ⟨rfl, hU, kM_kept hM hS hN hU hW⟩⟩ rfl rfl hl.1 rfl (lv_room (Nat.le_of_ble_eq_true rfl)) dL_law_852 ⟨kroomC (by omega), kroomS (by omega)⟩) hS (fun a _ h => kAy_N hr hkH1 a h) (fun a h => kAy_N hr hkH1 a h) (fun H2 locs hC2 hy8 hk8 hS => ?_)
  obtain ⟨r2, hI2, hO2⟩ := LI_step hI hG1 hO1 hC2 hk8 h8
  refine lv_istore (lv' := [(6, .int (iZ (if ex2 (!inb (fx xs (i + 1)) 0 3 || !inb (fx xs (i + 2)) 0 3) (!inb (fx xs (i + 3)) 1 12) = 0 then (mlen (leap (σ 2 ((fx xs (i + 2)).toNat))) (fx xs (i + 3))) else 0))), (5, .int (iZ (ex2 (!inb (fx xs (i + 1)) 0 3 || !inb (fx xs (i + 2)) 0 3) (!inb (fx xs (i + 3)) 1 12)))), (4, .int (iZ i)), (3, .ref o), (2, .ref m0), (1, .ref (q 0)), (0, .ref b)]) hx hb dL_law_855 hl (by decide) rfl (fun ls hl => ?_)
  refine lv_goto (tgt := 3011) hx hb dL_law_857 (by decide) ?_
  refine W.widen (k := cs + 600) (n := ss + 4000) (by omega) (by omega) ?_
  exact kk r2 _ _ _ _ _ hI2 hS (by have h9 := h8.2; omega) (lv_sub hl [2, 3, 4, 5, 6] rfl)

set_option maxHeartbeats 4000000 in
set_option maxRecDepth 100000 in
theorem lc_10 {p : Program} {l : Launch} {e : Env} {s : State} {m : MethodId} {below : List Frame} {meth : Method} {c : Code} {Q : State → Prop} {b L : Nat} {xs : Nat → Int32} {dC : Nat → ClassId} {dI : Nat → Nat → Nat} {dA : Nat → ClassId} {k : Nat → Nat} (hst : l.stackTraces = false) (F : kF p s m meth c b L xs dC dI dA k)
    {q : Nat → Nat} {m0 : Nat} {r : Nat → Nat → Nat} {o : Nat} {σ : Nat → Nat → Int} {th : Int} {H : Heap} {locs : List Loc} {cs ss : Nat} {i : Int} {ls : Array Slot} (hI : LI dC dI dA k q m0 r o σ th H) (hS : va_S (kN0 k) s.heap H locs) (hi : 0 ≤ i ∧ i + 5 ≤ (L : Int)) (hcs : cs + 600 ≤ 652095) (hss : ss + 4000 ≤ 7139820) (h80 : 0 ≤ σ 8 0 ∧ σ 8 0 ≤ 100000) (hl : lv_has ls 7 [(4, .int (iZ i)), (3, .ref o), (2, .ref m0), (1, .ref (q 0)), (0, .ref b)])
    (kk : ∀ (r' : Nat → Nat → Nat) (σ' : Nat → Nat → Int) (th' : Int) (H' : Heap) (locs' : List Loc) (ls' : Array Slot), LI dC dI dA k q m0 r' o σ' th' H' → va_S (kN0 k) s.heap H' locs' → σ 8 0 ≤ σ' 8 0 ∧ σ' 8 0 ≤ σ 8 0 + 1 → lv_has ls' 7 [(4, .int (iZ i)), (3, .ref o), (2, .ref m0), (1, .ref (q 0)), (0, .ref b)] → W p l e room_1 s m #[Value.ref b] below meth c H' locs' (cs + 600) (ss + 4000) Q (F0 m 3011 ls' [])) :
    W p l e room_1 s m #[Value.ref b] below meth c H locs cs ss Q (F0 m 43 ls [.int (iZ 10)]) := by
  obtain ⟨hx, hb, hr9, hml, hown, hts, hX, hbl, hL5, hMJ, hL, hk0, hlocks⟩ := F
  obtain ⟨hG, hOK, hq, hY, hr, hO0, hko, ho9, h1, h2⟩ := id hI
  obtain ⟨sn, sv, -, hO⟩ := id hO0
  have hM := hMJ.1
  have hbA : ¬ kN0 k b := fun z => absurd (show k 0 ≤ b from z) (by omega)
  have hN : ∀ a, kN0 k a → k 0 ≤ a := fun _ h => h
  have hkH : k 0 ≤ H.size := by have := hS.1; omega
  refine lv_tableIn (tgt := 860) (off := 817) hx hb dL_law_43 (by rw [iZ_toInt (z := 10) (by omega)]; omega) (by rw [iZ_toInt (z := 10) (by omega)]; omega) (by rw [iZ_toInt (z := 10) (by omega)]; rfl) (by decide) ?_
  refine lv_aload_n hx hb dL_law_860 rfl (lv_at hl 3 rfl) ?_
  refine lv_aload_n hx hb dL_law_861 rfl (lv_at hl 4 rfl) ?_
  refine lv_iload hx hb dL_law_862 (lv_at hl 0 rfl) ?_
  refine lv_iconst (v := iZ 1) hx hb dL_law_864 rfl ?_
  refine kz_iadd hx hb dL_law_865 ?_
  refine kz_sld hx hb hX hbl hbA hS (by omega) hL5 dL_law_866 ?_
  refine lv_aload_n hx hb dL_law_867 rfl (lv_at hl 4 rfl) ?_
  refine lv_iload hx hb dL_law_868 (lv_at hl 0 rfl) ?_
  refine lv_iconst (v := iZ 2) hx hb dL_law_870 rfl ?_
  refine kz_iadd hx hb dL_law_871 ?_
  refine kz_sld hx hb hX hbl hbA hS (by omega) hL5 dL_law_872 ?_
  refine lv_aload_n hx hb dL_law_873 rfl (lv_at hl 4 rfl) ?_
  refine lv_iload hx hb dL_law_874 (lv_at hl 0 rfl) ?_
  refine lv_iconst (v := iZ 3) hx hb dL_law_876 rfl ?_
  refine kz_iadd hx hb dL_law_877 ?_
  refine kz_sld hx hb hX hbl hbA hS (by omega) hL5 dL_law_878 ?_
  refine lv_aload_n hx hb dL_law_879 rfl (lv_at hl 1 rfl) ?_
  refine kc2 (vx_runSW (As := [.ref (q 0), .int (iZ (fx xs (i + 1))), .int (iZ (fx xs (i + 2))), .int (iZ (fx xs (i + 3))), .ref o]) (rest := []) ⟨hx, hb, hml, hown, hts⟩ (c_L_leafOfRound l hst dC dI dA k q σ _ hG hOK hq o sn sv hO hko ho9 ((fx xs (i + 1))) ((fx xs (i + 2))) ((fx xs (i + 3))) (fx_rng _ _) (fx_rng _ _) (fx_rng _ _)) (vx_cwSW 5 hts (kg_S mw708 mw709 mw41 rfl mw710) rfl rfl rfl hdS_L_leafOfRound ⟨Nat.le_of_ble_eq_true rfl, Nat.le_of_ble_eq_true rfl⟩) ⟨fun a U g mk q => ⟨q.1, q.2.1, kMJ_call q.2.2.1, kL_call q.2.2.2⟩, fun U hU hW => ⟨rfl, hU, kMJ_kept hMJ hS hN hU hW, kL_warm hL hW⟩⟩ rfl rfl hl.1 rfl (lv_room (Nat.le_of_ble_eq_true rfl)) dL_law_880 ⟨kroomC (by omega), kroomS (by omega)⟩) hS (fun a _ h => kAO_N hq hko hkH a h) (fun a h => kAO_N hq hko hkH a h) (fun H1 locs hC hy9 hk9 hS => ?_)
  obtain ⟨hG1, hO1⟩ := hC
  have hY1 := kY_keptO hY hk9 h1 h2
  have h8 : kOK8 σ (if ex2 (!inb (fx xs (i + 1)) 0 3 || !inb (fx xs (i + 2)) 0 3) (false) = 0 then (sU (sU σ 0 (fx xs (i + 1)).toNat (σ 2 ((fx xs (i + 2)).toNat))) 1 (fx xs (i + 1)).toNat (1 + (fx xs (i + 3)) % 12)) else σ) := k8_if hOK (fun h9 => k8m_leafOfRound hOK ((fx xs (i + 1))) ((fx xs (i + 2))) ((fx xs (i + 3))) h9)
  have hkH1 : k 0 ≤ H1.size := Nat.le_trans hkH hy9
  clear hk9
  refine lv_istore (lv' := [(5, .int (iZ (ex2 (!inb (fx xs (i + 1)) 0 3 || !inb (fx xs (i + 2)) 0 3) (false)))), (4, .int (iZ i)), (3, .ref o), (2, .ref m0), (1, .ref (q 0)), (0, .ref b)]) hx hb dL_law_883 hl (by decide) rfl (fun ls hl => ?_)
  refine lv_aload_n hx hb dL_law_885 rfl (lv_at hl 3 rfl) ?_
  refine lv_aload_n hx hb dL_law_886 rfl (lv_at hl 5 rfl) ?_
  refine lv_iload hx hb dL_law_887 (lv_at hl 1 rfl) ?_
  refine lv_iconst (v := iZ 1) hx hb dL_law_889 rfl ?_
  refine kz_iadd hx hb dL_law_890 ?_
  refine kz_sld hx hb hX hbl hbA hS (by omega) hL5 dL_law_891 ?_
  refine lv_aload_n hx hb dL_law_892 rfl (lv_at hl 5 rfl) ?_
  refine lv_iload hx hb dL_law_893 (lv_at hl 1 rfl) ?_
  refine lv_iconst (v := iZ 2) hx hb dL_law_895 rfl ?_
  refine kz_iadd hx hb dL_law_896 ?_
  refine kz_sld hx hb hX hbl hbA hS (by omega) hL5 dL_law_897 ?_
  refine lv_aload_n hx hb dL_law_898 rfl (lv_at hl 5 rfl) ?_
  refine lv_iload hx hb dL_law_899 (lv_at hl 1 rfl) ?_
  refine lv_iconst (v := iZ 3) hx hb dL_law_901 rfl ?_
  refine kz_iadd hx hb dL_law_902 ?_
  refine kz_sld hx hb hX hbl hbA hS (by omega) hL5 dL_law_903 ?_
  refine kc2 (va_runV (As := [.int (iZ (fx xs (i + 1))), .int (iZ (fx xs (i + 2))), .int (iZ (fx xs (i + 3)))]) (rest := []) ⟨hx, hb, hml, hown, hts⟩ (c_X3_leafOfRound l dC dI dA k m0 r σ th _ hY1 hr hOK ((fx xs (i + 1))) ((fx xs (i + 2))) ((fx xs (i + 3))) (fx_rng _ _) (fx_rng _ _) (fx_rng _ _)) (cwV 3 hts (kg_V mw1129 mw1130 mw1131 mw47 rfl mw1132) rfl rfl rfl hdV_X3_leafOfRound ⟨Nat.le_of_ble_eq_true rfl, Nat.le_of_ble_eq_true rfl⟩) ⟨fun a U g mk q => ⟨q.1, q.2.1, kM_call q.2.2⟩, va_recv hM.1 hY1 (ci := 6) (q0 := 0) rfl rfl, fun U hU hW => ⟨rfl, hU, kM_kept hM hS hN hU hW⟩⟩ rfl rfl hl.1 rfl (lv_room (Nat.le_of_ble_eq_true rfl)) dL_law_904 ⟨kroomC (by omega), kroomS (by omega)⟩) hS (fun a _ h => kAy_N hr hkH1 a h) (fun a h => kAy_N hr hkH1 a h) (fun H2 locs hC2 hy8 hk8 hS => ?_)
  obtain ⟨r2, hI2, hO2⟩ := LI_step hI hG1 hO1 hC2 hk8 h8
  refine lv_istore (lv' := [(6, .int (iZ (if ex2 (!inb (fx xs (i + 1)) 0 3 || !inb (fx xs (i + 2)) 0 3) (false) = 0 then (1 + (fx xs (i + 3)) % 12) else 0))), (5, .int (iZ (ex2 (!inb (fx xs (i + 1)) 0 3 || !inb (fx xs (i + 2)) 0 3) (false)))), (4, .int (iZ i)), (3, .ref o), (2, .ref m0), (1, .ref (q 0)), (0, .ref b)]) hx hb dL_law_907 hl (by decide) rfl (fun ls hl => ?_)
  refine lv_goto (tgt := 3011) hx hb dL_law_909 (by decide) ?_
  refine W.widen (k := cs + 600) (n := ss + 4000) (by omega) (by omega) ?_
  exact kk r2 _ _ _ _ _ hI2 hS (by have h9 := h8.2; omega) (lv_sub hl [2, 3, 4, 5, 6] rfl)

set_option maxHeartbeats 4000000 in
set_option maxRecDepth 100000 in
theorem lc_11 {p : Program} {l : Launch} {e : Env} {s : State} {m : MethodId} {below : List Frame} {meth : Method} {c : Code} {Q : State → Prop} {b L : Nat} {xs : Nat → Int32} {dC : Nat → ClassId} {dI : Nat → Nat → Nat} {dA : Nat → ClassId} {k : Nat → Nat} (hst : l.stackTraces = false) (F : kF p s m meth c b L xs dC dI dA k)
    {q : Nat → Nat} {m0 : Nat} {r : Nat → Nat → Nat} {o : Nat} {σ : Nat → Nat → Int} {th : Int} {H : Heap} {locs : List Loc} {cs ss : Nat} {i : Int} {ls : Array Slot} (hI : LI dC dI dA k q m0 r o σ th H) (hS : va_S (kN0 k) s.heap H locs) (hi : 0 ≤ i ∧ i + 5 ≤ (L : Int)) (hcs : cs + 600 ≤ 652095) (hss : ss + 4000 ≤ 7139820) (h80 : 0 ≤ σ 8 0 ∧ σ 8 0 ≤ 100000) (hl : lv_has ls 7 [(4, .int (iZ i)), (3, .ref o), (2, .ref m0), (1, .ref (q 0)), (0, .ref b)])
    (kk : ∀ (r' : Nat → Nat → Nat) (σ' : Nat → Nat → Int) (th' : Int) (H' : Heap) (locs' : List Loc) (ls' : Array Slot), LI dC dI dA k q m0 r' o σ' th' H' → va_S (kN0 k) s.heap H' locs' → σ 8 0 ≤ σ' 8 0 ∧ σ' 8 0 ≤ σ 8 0 + 1 → lv_has ls' 7 [(4, .int (iZ i)), (3, .ref o), (2, .ref m0), (1, .ref (q 0)), (0, .ref b)] → W p l e room_1 s m #[Value.ref b] below meth c H' locs' (cs + 600) (ss + 4000) Q (F0 m 3011 ls' [])) :
    W p l e room_1 s m #[Value.ref b] below meth c H locs cs ss Q (F0 m 43 ls [.int (iZ 11)]) := by
  obtain ⟨hx, hb, hr9, hml, hown, hts, hX, hbl, hL5, hMJ, hL, hk0, hlocks⟩ := F
  obtain ⟨hG, hOK, hq, hY, hr, hO0, hko, ho9, h1, h2⟩ := id hI
  obtain ⟨sn, sv, -, hO⟩ := id hO0
  have hM := hMJ.1
  have hbA : ¬ kN0 k b := fun z => absurd (show k 0 ≤ b from z) (by omega)
  have hN : ∀ a, kN0 k a → k 0 ≤ a := fun _ h => h
  have hkH : k 0 ≤ H.size := by have := hS.1; omega
  refine lv_tableIn (tgt := 912) (off := 869) hx hb dL_law_43 (by rw [iZ_toInt (z := 11) (by omega)]; omega) (by rw [iZ_toInt (z := 11) (by omega)]; omega) (by rw [iZ_toInt (z := 11) (by omega)]; rfl) (by decide) ?_
  refine lv_aload_n hx hb dL_law_912 rfl (lv_at hl 3 rfl) ?_
  refine lv_aload_n hx hb dL_law_913 rfl (lv_at hl 4 rfl) ?_
  refine lv_iload hx hb dL_law_914 (lv_at hl 0 rfl) ?_
  refine lv_iconst (v := iZ 1) hx hb dL_law_916 rfl ?_
  refine kz_iadd hx hb dL_law_917 ?_
  refine kz_sld hx hb hX hbl hbA hS (by omega) hL5 dL_law_918 ?_
  refine lv_aload_n hx hb dL_law_919 rfl (lv_at hl 4 rfl) ?_
  refine lv_iload hx hb dL_law_920 (lv_at hl 0 rfl) ?_
  refine lv_iconst (v := iZ 2) hx hb dL_law_922 rfl ?_
  refine kz_iadd hx hb dL_law_923 ?_
  refine kz_sld hx hb hX hbl hbA hS (by omega) hL5 dL_law_924 ?_
  refine lv_aload_n hx hb dL_law_925 rfl (lv_at hl 1 rfl) ?_
  refine kc2 (vx_runSW (As := [.ref (q 0), .int (iZ (fx xs (i + 1))), .int (iZ (fx xs (i + 2))), .ref o]) (rest := []) ⟨hx, hb, hml, hown, hts⟩ (c_L_leafOfDay l hst dC dI dA k q σ _ hG hOK hq o sn sv hO hko ho9 ((fx xs (i + 1))) ((fx xs (i + 2))) (fx_rng _ _) (fx_rng _ _)) (vx_cwSW 4 hts (kg_S mw715 mw716 mw41 rfl mw717) rfl rfl rfl hdS_L_leafOfDay ⟨Nat.le_of_ble_eq_true rfl, Nat.le_of_ble_eq_true rfl⟩) ⟨fun a U g mk q => ⟨q.1, q.2.1, kMJ_call q.2.2.1, kL_call q.2.2.2⟩, fun U hU hW => ⟨rfl, hU, kMJ_kept hMJ hS hN hU hW, kL_warm hL hW⟩⟩ rfl rfl hl.1 rfl (lv_room (Nat.le_of_ble_eq_true rfl)) dL_law_926 ⟨kroomC (by omega), kroomS (by omega)⟩) hS (fun a _ h => kAO_N hq hko hkH a h) (fun a h => kAO_N hq hko hkH a h) (fun H1 locs hC hy9 hk9 hS => ?_)
  obtain ⟨hG1, hO1⟩ := hC
  have hY1 := kY_keptO hY hk9 h1 h2
  have h8 : kOK8 σ (if ex2 (!inb (fx xs (i + 1)) 0 3 || !inb (fx xs (i + 2)) 0 3) (false) = 0 then (sU (sU σ 0 (fx xs (i + 1)).toNat (σ 5 ((fx xs (i + 2)).toNat))) 1 (fx xs (i + 1)).toNat (σ 6 ((fx xs (i + 2)).toNat))) else σ) := k8_if hOK (fun h9 => k8m_leafOfDay hOK ((fx xs (i + 1))) ((fx xs (i + 2))) h9)
  have hkH1 : k 0 ≤ H1.size := Nat.le_trans hkH hy9
  clear hk9
  refine lv_istore (lv' := [(5, .int (iZ (ex2 (!inb (fx xs (i + 1)) 0 3 || !inb (fx xs (i + 2)) 0 3) (false)))), (4, .int (iZ i)), (3, .ref o), (2, .ref m0), (1, .ref (q 0)), (0, .ref b)]) hx hb dL_law_929 hl (by decide) rfl (fun ls hl => ?_)
  refine lv_aload_n hx hb dL_law_931 rfl (lv_at hl 3 rfl) ?_
  refine lv_aload_n hx hb dL_law_932 rfl (lv_at hl 5 rfl) ?_
  refine lv_iload hx hb dL_law_933 (lv_at hl 1 rfl) ?_
  refine lv_iconst (v := iZ 1) hx hb dL_law_935 rfl ?_
  refine kz_iadd hx hb dL_law_936 ?_
  refine kz_sld hx hb hX hbl hbA hS (by omega) hL5 dL_law_937 ?_
  refine lv_aload_n hx hb dL_law_938 rfl (lv_at hl 5 rfl) ?_
  refine lv_iload hx hb dL_law_939 (lv_at hl 1 rfl) ?_
  refine lv_iconst (v := iZ 2) hx hb dL_law_941 rfl ?_
  refine kz_iadd hx hb dL_law_942 ?_
  refine kz_sld hx hb hX hbl hbA hS (by omega) hL5 dL_law_943 ?_
  refine kc2 (va_runV (As := [.int (iZ (fx xs (i + 1))), .int (iZ (fx xs (i + 2)))]) (rest := []) ⟨hx, hb, hml, hown, hts⟩ (c_X3_leafOfDay l dC dI dA k m0 r σ th _ hY1 hr hOK ((fx xs (i + 1))) ((fx xs (i + 2))) (fx_rng _ _) (fx_rng _ _)) (cwV 2 hts (kg_V mw1133 mw1134 mw1135 mw47 rfl mw1136) rfl rfl rfl hdV_X3_leafOfDay ⟨Nat.le_of_ble_eq_true rfl, Nat.le_of_ble_eq_true rfl⟩) ⟨fun a U g mk q => ⟨q.1, q.2.1, kM_call q.2.2⟩, va_recv hM.1 hY1 (ci := 6) (q0 := 0) rfl rfl, fun U hU hW => ⟨rfl, hU, kM_kept hM hS hN hU hW⟩⟩ rfl rfl hl.1 rfl (lv_room (Nat.le_of_ble_eq_true rfl)) dL_law_944 ⟨kroomC (by omega), kroomS (by omega)⟩) hS (fun a _ h => kAy_N hr hkH1 a h) (fun a h => kAy_N hr hkH1 a h) (fun H2 locs hC2 hy8 hk8 hS => ?_)
  obtain ⟨r2, hI2, hO2⟩ := LI_step hI hG1 hO1 hC2 hk8 h8
  refine lv_istore (lv' := [(6, .int (iZ (if ex2 (!inb (fx xs (i + 1)) 0 3 || !inb (fx xs (i + 2)) 0 3) (false) = 0 then (mlen (leap (σ 5 ((fx xs (i + 2)).toNat))) (σ 6 ((fx xs (i + 2)).toNat))) else 0))), (5, .int (iZ (ex2 (!inb (fx xs (i + 1)) 0 3 || !inb (fx xs (i + 2)) 0 3) (false)))), (4, .int (iZ i)), (3, .ref o), (2, .ref m0), (1, .ref (q 0)), (0, .ref b)]) hx hb dL_law_947 hl (by decide) rfl (fun ls hl => ?_)
  refine lv_goto (tgt := 3011) hx hb dL_law_949 (by decide) ?_
  refine W.widen (k := cs + 600) (n := ss + 4000) (by omega) (by omega) ?_
  exact kk r2 _ _ _ _ _ hI2 hS (by have h9 := h8.2; omega) (lv_sub hl [2, 3, 4, 5, 6] rfl)

set_option maxHeartbeats 4000000 in
set_option maxRecDepth 100000 in
theorem lc_12 {p : Program} {l : Launch} {e : Env} {s : State} {m : MethodId} {below : List Frame} {meth : Method} {c : Code} {Q : State → Prop} {b L : Nat} {xs : Nat → Int32} {dC : Nat → ClassId} {dI : Nat → Nat → Nat} {dA : Nat → ClassId} {k : Nat → Nat} (hst : l.stackTraces = false) (F : kF p s m meth c b L xs dC dI dA k)
    {q : Nat → Nat} {m0 : Nat} {r : Nat → Nat → Nat} {o : Nat} {σ : Nat → Nat → Int} {th : Int} {H : Heap} {locs : List Loc} {cs ss : Nat} {i : Int} {ls : Array Slot} (hI : LI dC dI dA k q m0 r o σ th H) (hS : va_S (kN0 k) s.heap H locs) (hi : 0 ≤ i ∧ i + 5 ≤ (L : Int)) (hcs : cs + 600 ≤ 652095) (hss : ss + 4000 ≤ 7139820) (h80 : 0 ≤ σ 8 0 ∧ σ 8 0 ≤ 100000) (hl : lv_has ls 7 [(4, .int (iZ i)), (3, .ref o), (2, .ref m0), (1, .ref (q 0)), (0, .ref b)])
    (kk : ∀ (r' : Nat → Nat → Nat) (σ' : Nat → Nat → Int) (th' : Int) (H' : Heap) (locs' : List Loc) (ls' : Array Slot), LI dC dI dA k q m0 r' o σ' th' H' → va_S (kN0 k) s.heap H' locs' → σ 8 0 ≤ σ' 8 0 ∧ σ' 8 0 ≤ σ 8 0 + 1 → lv_has ls' 7 [(4, .int (iZ i)), (3, .ref o), (2, .ref m0), (1, .ref (q 0)), (0, .ref b)] → W p l e room_1 s m #[Value.ref b] below meth c H' locs' (cs + 600) (ss + 4000) Q (F0 m 3011 ls' [])) :
    W p l e room_1 s m #[Value.ref b] below meth c H locs cs ss Q (F0 m 43 ls [.int (iZ 12)]) := by
  obtain ⟨hx, hb, hr9, hml, hown, hts, hX, hbl, hL5, hMJ, hL, hk0, hlocks⟩ := F
  obtain ⟨hG, hOK, hq, hY, hr, hO0, hko, ho9, h1, h2⟩ := id hI
  obtain ⟨sn, sv, -, hO⟩ := id hO0
  have hM := hMJ.1
  have hbA : ¬ kN0 k b := fun z => absurd (show k 0 ≤ b from z) (by omega)
  have hN : ∀ a, kN0 k a → k 0 ≤ a := fun _ h => h
  have hkH : k 0 ≤ H.size := by have := hS.1; omega
  refine lv_tableIn (tgt := 952) (off := 909) hx hb dL_law_43 (by rw [iZ_toInt (z := 12) (by omega)]; omega) (by rw [iZ_toInt (z := 12) (by omega)]; omega) (by rw [iZ_toInt (z := 12) (by omega)]; rfl) (by decide) ?_
  refine lv_aload_n hx hb dL_law_952 rfl (lv_at hl 3 rfl) ?_
  refine lv_aload_n hx hb dL_law_953 rfl (lv_at hl 4 rfl) ?_
  refine lv_iload hx hb dL_law_954 (lv_at hl 0 rfl) ?_
  refine lv_iconst (v := iZ 1) hx hb dL_law_956 rfl ?_
  refine kz_iadd hx hb dL_law_957 ?_
  refine kz_sld hx hb hX hbl hbA hS (by omega) hL5 dL_law_958 ?_
  refine lv_aload_n hx hb dL_law_959 rfl (lv_at hl 4 rfl) ?_
  refine lv_iload hx hb dL_law_960 (lv_at hl 0 rfl) ?_
  refine lv_iconst (v := iZ 2) hx hb dL_law_962 rfl ?_
  refine kz_iadd hx hb dL_law_963 ?_
  refine kz_sld hx hb hX hbl hbA hS (by omega) hL5 dL_law_964 ?_
  refine lv_aload_n hx hb dL_law_965 rfl (lv_at hl 1 rfl) ?_
  refine kc2 (vx_runSW (As := [.ref (q 0), .int (iZ (fx xs (i + 1))), .int (iZ (fx xs (i + 2))), .ref o]) (rest := []) ⟨hx, hb, hml, hown, hts⟩ (c_L_leafLike l hst dC dI dA k q σ _ hG hOK hq o sn sv hO hko ho9 ((fx xs (i + 1))) ((fx xs (i + 2))) (fx_rng _ _) (fx_rng _ _)) (vx_cwSW 4 hts (kg_S mw722 mw723 mw41 rfl mw724) rfl rfl rfl hdS_L_leafLike ⟨Nat.le_of_ble_eq_true rfl, Nat.le_of_ble_eq_true rfl⟩) ⟨fun a U g mk q => ⟨q.1, q.2.1, kMJ_call q.2.2.1, kL_call q.2.2.2⟩, fun U hU hW => ⟨rfl, hU, kMJ_kept hMJ hS hN hU hW, kL_warm hL hW⟩⟩ rfl rfl hl.1 rfl (lv_room (Nat.le_of_ble_eq_true rfl)) dL_law_966 ⟨kroomC (by omega), kroomS (by omega)⟩) hS (fun a _ h => kAO_N hq hko hkH a h) (fun a h => kAO_N hq hko hkH a h) (fun H1 locs hC hy9 hk9 hS => ?_)
  obtain ⟨hG1, hO1⟩ := hC
  have hY1 := kY_keptO hY hk9 h1 h2
  have h8 : kOK8 σ (if ex2 (!inb (fx xs (i + 1)) 0 3 || !inb (fx xs (i + 2)) 0 3) (false) = 0 then (sU (sU σ 0 (fx xs (i + 1)).toNat (σ 0 ((fx xs (i + 2)).toNat))) 1 (fx xs (i + 1)).toNat (σ 1 ((fx xs (i + 2)).toNat))) else σ) := k8_if hOK (fun h9 => k8m_leafLike hOK ((fx xs (i + 1))) ((fx xs (i + 2))) h9)
  have hkH1 : k 0 ≤ H1.size := Nat.le_trans hkH hy9
  clear hk9
  refine lv_istore (lv' := [(5, .int (iZ (ex2 (!inb (fx xs (i + 1)) 0 3 || !inb (fx xs (i + 2)) 0 3) (false)))), (4, .int (iZ i)), (3, .ref o), (2, .ref m0), (1, .ref (q 0)), (0, .ref b)]) hx hb dL_law_969 hl (by decide) rfl (fun ls hl => ?_)
  refine lv_aload_n hx hb dL_law_971 rfl (lv_at hl 3 rfl) ?_
  refine lv_aload_n hx hb dL_law_972 rfl (lv_at hl 5 rfl) ?_
  refine lv_iload hx hb dL_law_973 (lv_at hl 1 rfl) ?_
  refine lv_iconst (v := iZ 1) hx hb dL_law_975 rfl ?_
  refine kz_iadd hx hb dL_law_976 ?_
  refine kz_sld hx hb hX hbl hbA hS (by omega) hL5 dL_law_977 ?_
  refine lv_aload_n hx hb dL_law_978 rfl (lv_at hl 5 rfl) ?_
  refine lv_iload hx hb dL_law_979 (lv_at hl 1 rfl) ?_
  refine lv_iconst (v := iZ 2) hx hb dL_law_981 rfl ?_
  refine kz_iadd hx hb dL_law_982 ?_
  refine kz_sld hx hb hX hbl hbA hS (by omega) hL5 dL_law_983 ?_
  refine kc2 (va_runV (As := [.int (iZ (fx xs (i + 1))), .int (iZ (fx xs (i + 2)))]) (rest := []) ⟨hx, hb, hml, hown, hts⟩ (c_X3_leafLike l dC dI dA k m0 r σ th _ hY1 hr hOK ((fx xs (i + 1))) ((fx xs (i + 2))) (fx_rng _ _) (fx_rng _ _)) (cwV 2 hts (kg_V mw1137 mw1138 mw1139 mw47 rfl mw1140) rfl rfl rfl hdV_X3_leafLike ⟨Nat.le_of_ble_eq_true rfl, Nat.le_of_ble_eq_true rfl⟩) ⟨fun a U g mk q => ⟨q.1, q.2.1, kM_call q.2.2⟩, va_recv hM.1 hY1 (ci := 6) (q0 := 0) rfl rfl, fun U hU hW => ⟨rfl, hU, kM_kept hM hS hN hU hW⟩⟩ rfl rfl hl.1 rfl (lv_room (Nat.le_of_ble_eq_true rfl)) dL_law_984 ⟨kroomC (by omega), kroomS (by omega)⟩) hS (fun a _ h => kAy_N hr hkH1 a h) (fun a h => kAy_N hr hkH1 a h) (fun H2 locs hC2 hy8 hk8 hS => ?_)
  obtain ⟨r2, hI2, hO2⟩ := LI_step hI hG1 hO1 hC2 hk8 h8
  refine lv_istore (lv' := [(6, .int (iZ (if ex2 (!inb (fx xs (i + 1)) 0 3 || !inb (fx xs (i + 2)) 0 3) (false) = 0 then (bZ (decide (σ 0 ((fx xs (i + 1)).toNat) = σ 0 ((fx xs (i + 2)).toNat) ∧ σ 1 ((fx xs (i + 1)).toNat) = σ 1 ((fx xs (i + 2)).toNat)))) else 0))), (5, .int (iZ (ex2 (!inb (fx xs (i + 1)) 0 3 || !inb (fx xs (i + 2)) 0 3) (false)))), (4, .int (iZ i)), (3, .ref o), (2, .ref m0), (1, .ref (q 0)), (0, .ref b)]) hx hb dL_law_987 hl (by decide) rfl (fun ls hl => ?_)
  refine lv_goto (tgt := 3011) hx hb dL_law_989 (by decide) ?_
  refine W.widen (k := cs + 600) (n := ss + 4000) (by omega) (by omega) ?_
  exact kk r2 _ _ _ _ _ hI2 hS (by have h9 := h8.2; omega) (lv_sub hl [2, 3, 4, 5, 6] rfl)

set_option maxHeartbeats 4000000 in
set_option maxRecDepth 100000 in
theorem lc_13 {p : Program} {l : Launch} {e : Env} {s : State} {m : MethodId} {below : List Frame} {meth : Method} {c : Code} {Q : State → Prop} {b L : Nat} {xs : Nat → Int32} {dC : Nat → ClassId} {dI : Nat → Nat → Nat} {dA : Nat → ClassId} {k : Nat → Nat} (hst : l.stackTraces = false) (F : kF p s m meth c b L xs dC dI dA k)
    {q : Nat → Nat} {m0 : Nat} {r : Nat → Nat → Nat} {o : Nat} {σ : Nat → Nat → Int} {th : Int} {H : Heap} {locs : List Loc} {cs ss : Nat} {i : Int} {ls : Array Slot} (hI : LI dC dI dA k q m0 r o σ th H) (hS : va_S (kN0 k) s.heap H locs) (hi : 0 ≤ i ∧ i + 5 ≤ (L : Int)) (hcs : cs + 600 ≤ 652095) (hss : ss + 4000 ≤ 7139820) (h80 : 0 ≤ σ 8 0 ∧ σ 8 0 ≤ 100000) (hl : lv_has ls 7 [(4, .int (iZ i)), (3, .ref o), (2, .ref m0), (1, .ref (q 0)), (0, .ref b)])
    (kk : ∀ (r' : Nat → Nat → Nat) (σ' : Nat → Nat → Int) (th' : Int) (H' : Heap) (locs' : List Loc) (ls' : Array Slot), LI dC dI dA k q m0 r' o σ' th' H' → va_S (kN0 k) s.heap H' locs' → σ 8 0 ≤ σ' 8 0 ∧ σ' 8 0 ≤ σ 8 0 + 1 → lv_has ls' 7 [(4, .int (iZ i)), (3, .ref o), (2, .ref m0), (1, .ref (q 0)), (0, .ref b)] → W p l e room_1 s m #[Value.ref b] below meth c H' locs' (cs + 600) (ss + 4000) Q (F0 m 3011 ls' [])) :
    W p l e room_1 s m #[Value.ref b] below meth c H locs cs ss Q (F0 m 43 ls [.int (iZ 13)]) := by
  obtain ⟨hx, hb, hr9, hml, hown, hts, hX, hbl, hL5, hMJ, hL, hk0, hlocks⟩ := F
  obtain ⟨hG, hOK, hq, hY, hr, hO0, hko, ho9, h1, h2⟩ := id hI
  obtain ⟨sn, sv, -, hO⟩ := id hO0
  have hM := hMJ.1
  have hbA : ¬ kN0 k b := fun z => absurd (show k 0 ≤ b from z) (by omega)
  have hN : ∀ a, kN0 k a → k 0 ≤ a := fun _ h => h
  have hkH : k 0 ≤ H.size := by have := hS.1; omega
  refine lv_tableIn (tgt := 992) (off := 949) hx hb dL_law_43 (by rw [iZ_toInt (z := 13) (by omega)]; omega) (by rw [iZ_toInt (z := 13) (by omega)]; omega) (by rw [iZ_toInt (z := 13) (by omega)]; rfl) (by decide) ?_
  refine lv_aload_n hx hb dL_law_992 rfl (lv_at hl 3 rfl) ?_
  refine lv_aload_n hx hb dL_law_993 rfl (lv_at hl 4 rfl) ?_
  refine lv_iload hx hb dL_law_994 (lv_at hl 0 rfl) ?_
  refine lv_iconst (v := iZ 1) hx hb dL_law_996 rfl ?_
  refine kz_iadd hx hb dL_law_997 ?_
  refine kz_sld hx hb hX hbl hbA hS (by omega) hL5 dL_law_998 ?_
  refine lv_aload_n hx hb dL_law_999 rfl (lv_at hl 4 rfl) ?_
  refine lv_iload hx hb dL_law_1000 (lv_at hl 0 rfl) ?_
  refine lv_iconst (v := iZ 2) hx hb dL_law_1002 rfl ?_
  refine kz_iadd hx hb dL_law_1003 ?_
  refine kz_sld hx hb hX hbl hbA hS (by omega) hL5 dL_law_1004 ?_
  refine lv_aload_n hx hb dL_law_1005 rfl (lv_at hl 1 rfl) ?_
  refine kc2 (vx_runSW (As := [.ref (q 0), .int (iZ (fx xs (i + 1))), .int (iZ (fx xs (i + 2))), .ref o]) (rest := []) ⟨hx, hb, hml, hown, hts⟩ (c_L_year l hst dC dI dA k q σ _ hG hOK hq o sn sv hO hko ho9 ((fx xs (i + 1))) ((fx xs (i + 2))) (fx_rng _ _) (fx_rng _ _)) (vx_cwSW 4 hts (kg_S mw729 mw730 mw41 rfl mw731) rfl rfl rfl hdS_L_year ⟨Nat.le_of_ble_eq_true rfl, Nat.le_of_ble_eq_true rfl⟩) ⟨fun a U g mk q => ⟨q.1, q.2.1, kMJ_call q.2.2.1, kL_call q.2.2.2⟩, fun U hU hW => ⟨rfl, hU, kMJ_kept hMJ hS hN hU hW, kL_warm hL hW⟩⟩ rfl rfl hl.1 rfl (lv_room (Nat.le_of_ble_eq_true rfl)) dL_law_1006 ⟨kroomC (by omega), kroomS (by omega)⟩) hS (fun a _ h => kAO_N hq hko hkH a h) (fun a h => kAO_N hq hko hkH a h) (fun H1 locs hC hy9 hk9 hS => ?_)
  obtain ⟨hG1, hO1⟩ := hC
  have hY1 := kY_keptO hY hk9 h1 h2
  have h8 : kOK8 σ (if ex2 (!inb (fx xs (i + 1)) 0 3) (!inb (fx xs (i + 2)) (-999999999) 999999999) = 0 then (sU σ 2 (fx xs (i + 1)).toNat (fx xs (i + 2))) else σ) := k8_if hOK (fun h9 => k8m_year hOK ((fx xs (i + 1))) ((fx xs (i + 2))) h9)
  have hkH1 : k 0 ≤ H1.size := Nat.le_trans hkH hy9
  clear hk9
  refine lv_istore (lv' := [(5, .int (iZ (ex2 (!inb (fx xs (i + 1)) 0 3) (!inb (fx xs (i + 2)) (-999999999) 999999999)))), (4, .int (iZ i)), (3, .ref o), (2, .ref m0), (1, .ref (q 0)), (0, .ref b)]) hx hb dL_law_1009 hl (by decide) rfl (fun ls hl => ?_)
  refine lv_aload_n hx hb dL_law_1011 rfl (lv_at hl 3 rfl) ?_
  refine lv_aload_n hx hb dL_law_1012 rfl (lv_at hl 5 rfl) ?_
  refine lv_iload hx hb dL_law_1013 (lv_at hl 1 rfl) ?_
  refine lv_iconst (v := iZ 1) hx hb dL_law_1015 rfl ?_
  refine kz_iadd hx hb dL_law_1016 ?_
  refine kz_sld hx hb hX hbl hbA hS (by omega) hL5 dL_law_1017 ?_
  refine lv_aload_n hx hb dL_law_1018 rfl (lv_at hl 5 rfl) ?_
  refine lv_iload hx hb dL_law_1019 (lv_at hl 1 rfl) ?_
  refine lv_iconst (v := iZ 2) hx hb dL_law_1021 rfl ?_
  refine kz_iadd hx hb dL_law_1022 ?_
  refine kz_sld hx hb hX hbl hbA hS (by omega) hL5 dL_law_1023 ?_
  refine kc2 (va_runV (As := [.int (iZ (fx xs (i + 1))), .int (iZ (fx xs (i + 2)))]) (rest := []) ⟨hx, hb, hml, hown, hts⟩ (c_X3_year l dC dI dA k m0 r σ th _ hY1 hr hOK ((fx xs (i + 1))) ((fx xs (i + 2))) (fx_rng _ _) (fx_rng _ _)) (cwV 2 hts (kg_V mw1144 mw1145 mw1146 mw47 rfl mw1147) rfl rfl rfl hdV_X3_year ⟨Nat.le_of_ble_eq_true rfl, Nat.le_of_ble_eq_true rfl⟩) ⟨fun a U g mk q => ⟨q.1, q.2.1, kM_call q.2.2⟩, va_recv hM.1 hY1 (ci := 6) (q0 := 0) rfl rfl, fun U hU hW => ⟨rfl, hU, kM_kept hM hS hN hU hW⟩⟩ rfl rfl hl.1 rfl (lv_room (Nat.le_of_ble_eq_true rfl)) dL_law_1024 ⟨kroomC (by omega), kroomS (by omega)⟩) hS (fun a _ h => kAy_N hr hkH1 a h) (fun a h => kAy_N hr hkH1 a h) (fun H2 locs hC2 hy8 hk8 hS => ?_)
  obtain ⟨r2, hI2, hO2⟩ := LI_step hI hG1 hO1 hC2 hk8 h8
  refine lv_istore (lv' := [(6, .int (iZ (if ex2 (!inb (fx xs (i + 1)) 0 3) (!inb (fx xs (i + 2)) (-999999999) 999999999) = 0 then (ylen (fx xs (i + 2))) else 0))), (5, .int (iZ (ex2 (!inb (fx xs (i + 1)) 0 3) (!inb (fx xs (i + 2)) (-999999999) 999999999)))), (4, .int (iZ i)), (3, .ref o), (2, .ref m0), (1, .ref (q 0)), (0, .ref b)]) hx hb dL_law_1027 hl (by decide) rfl (fun ls hl => ?_)
  refine lv_goto (tgt := 3011) hx hb dL_law_1029 (by decide) ?_
  refine W.widen (k := cs + 600) (n := ss + 4000) (by omega) (by omega) ?_
  exact kk r2 _ _ _ _ _ hI2 hS (by have h9 := h8.2; omega) (lv_sub hl [2, 3, 4, 5, 6] rfl)

