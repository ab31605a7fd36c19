theorem gWt_of {dC : Nat → ClassId} {dI : Nat → Nat → Nat} {dA : Nat → ClassId} {b v : Nat} {z : Int} {n : Nat} {H : Heap} {g : Nat → Int} {tm : Int32} (hg : kG g) (ht : ∀ j, j < TL z → g j = TX z j) (htm : tm = 0 ∨ tm = 1) (hP : va_P (dC, dI) vwCl (kW b v dA g tm n) H) : gWt dC dI dA b v z n H := ⟨g, hg, ht, tm, htm, hP⟩
abbrev ww_J5_append_66267 : List Cond := .code yJ5_append_66267 cJ5_append_66267 5 (some (.object "java/lang/AbstractStringBuilder")) :: gT
set_option maxHeartbeats 4000000 in
set_option maxRecDepth 100000 in
theorem c_J5_append_66267 (l : Launch) (dC : Nat → ClassId) (dI : Nat → Nat → Nat) (dA : Nat → ClassId) (k : Nat → Nat) (b v : Nat) (g : Nat → Int) (tm : Int32) (H0 : Heap) (hP : va_P (dC, dI) vwCl (kW b v dA g tm 0) H0) (htm : tm = 0 ∨ tm = 1) (hbv : b ≠ v) (hkb : k 0 ≤ b) (hkv : k 0 ≤ v) (hg : kG g) (zz : Int) (h0 : zz.natAbs < 10000000000000) : Met l yJ5_append_66267 ww_J5_append_66267 ({ frames := 1, cells := 0, slots := 0, locals := 30 }) (va_Pc [.ref b, .long (lZ (zz))] (fun U => U.heap = H0 ∧ kMJ dC dI dA k U)) (kQ2 (some (.ref b)) (gWt dC dI dA b v zz (TL zz)) (kAB b v H0.size)) 0 0 (kAB b v H0.size) := by
  refine va_MetF (cc := cJ5_append_66267) (maxL := 5) (ret := (some (.object "java/lang/AbstractStringBuilder"))) (by decide +kernel) rfl ?_
  intro p e s m args below meth c s₁ B hml hv
  obtain ⟨rfl, hH, hM⟩ := hv
  subst hH
  have hAN : ∀ a, kAB b v s.heap.size a → k 0 ≤ a := kAB_N hkb hkv hM.1.2.1.1
  have hS : va_S (kAB b v s.heap.size) s.heap s.heap [] := va_S.rf
  have hD : va_D (kAB b v s.heap.size) ([(b, .inr (1, [.ref v, .int 0, .int tm, .int (iZ (((0 : Nat) : Int)))])), (v, .inl (dA 2, 16, .inl (fun j => iZ (g j))))] : va_W) := kW_D hbv
  have hP : va_P (dC, dI) vwCl ([(b, .inr (1, [.ref v, .int 0, .int tm, .int (iZ (((0 : Nat) : Int)))])), (v, .inl (dA 2, 16, .inl (fun j => iZ (g j))))] : va_W) s.heap := hP
  have hL := TL_rng h0
  have hz0 : -10000000000000 < zz ∧ zz < 10000000000000 := by omega
  have hx := B.exec
  have hb := B.bytes
  have hr9 := B.returns
  have hts := atoms_spec (ws := ww_J5_append_66267) B.pre
  have hown : s.vm.findClass RJ5 = some m.cls := findClass_of_methodNamed B.named
  have hlocks := B.notSynchronized
  have hl := lv_entry ([.ref b, .long (lZ (zz))]) (n := 5) (Nat.le_of_ble_eq_true rfl)
  rw [lg_entry_eq]
  generalize (lg_sl ([.ref b, .long (lZ (zz))]) ++ List.replicate (5 - (lg_sl ([.ref b, .long (lZ (zz))])).length) Slot.unset).toArray = ls at hl ⊢
  have hl : lv_has ls 5 [(0, .ref b), (1, .long (lZ (zz)))] := hl
  refine lv_aload_n hx hb dJ5_append_66267_0 rfl (lv_at hl 0 rfl) ?_
  refine va_get (D := (dC, dI)) (ci := 1) (v := .int (iZ (((0 : Nat) : Int)))) (C := RJ4) (T := TJ4) (N := 4) hx hb hts (fun w h => List.mem_cons_of_mem _ (gF_3_in h)) hown hM.1.1 hP 0 rfl rfl 3 (by decide) (hts _ (List.mem_cons_of_mem _ mw92)) (fun _ h9 => h9) rfl dJ5_append_66267_1 ?_
  refine lv_istore_n (lv' := [(3, .int (iZ (((0 : Nat) : Int)))), (0, .ref b), (1, .long (lZ (zz)))]) hx hb dJ5_append_66267_4 rfl hl (by decide) rfl (fun ls hl => ?_)
  refine lv_iload_n hx hb dJ5_append_66267_5 rfl (lv_at hl 0 rfl) ?_
  refine lv_lload_n hx hb dJ5_append_66267_6 rfl (lv_at hl 2 rfl) ?_
  refine kc0 (fun _ q => q) (va_runS (As := [.long (lZ (zz))]) (rest := [.int (iZ (((0 : Nat) : Int)))]) ⟨hx, hb, hml, hown, hts⟩ (c_J13_stringSize_95d88 l _ (zz) h0) (va_cwS 1 hts (kg_S mw1272 mw1273 mw62 rfl mw1274) rfl rfl rfl hdS_J13_stringSize_95d88 ⟨Nat.le_of_ble_eq_true rfl, Nat.le_of_ble_eq_true rfl⟩) ⟨fun a U g mk q => q, fun U hU hW => ⟨rfl, hU⟩⟩ rfl rfl hl.1 rfl (lv_room (Nat.le_of_ble_eq_true rfl)) dJ5_append_66267_7 ⟨Nat.le_of_ble_eq_true rfl, Nat.le_of_ble_eq_true rfl⟩) ?_
  refine kz_iadd hx hb dJ5_append_66267_10 ?_
  refine W.eq (g2 := F0 m 11 ls [.int (iZ (((TL zz : Nat) : Int)))]) (by rw [show ((((0 : Nat) : Int)) + (((TL zz : Nat) : Int))) = ((TL zz : Nat) : Int) from by omega]; try rfl) ?_
  refine lv_istore (lv' := [(4, .int (iZ (((TL zz : Nat) : Int)))), (3, .int (iZ (((0 : Nat) : Int)))), (0, .ref b), (1, .long (lZ (zz)))]) hx hb dJ5_append_66267_11 hl (by decide) rfl (fun ls hl => ?_)
  refine lv_aload_n hx hb dJ5_append_66267_13 rfl (lv_at hl 2 rfl) ?_
  refine lv_iload hx hb dJ5_append_66267_14 (lv_at hl 0 rfl) ?_
  refine kc0v (fun _ q => q) (va_runU (As := [.int (iZ (((TL zz : Nat) : Int)))]) (rest := []) ⟨hx, hb, hml, hown, hts⟩ (c_J5_ensureCapacityInternal_d00df l dC dI dA k b v (g) (tm) (0) _ hP htm hbv hkb hkv hg (by omega) (((TL zz : Nat) : Int)) (by omega)) (va_cwU 1 hts (kg_U (C := RJ4) (owner := "java/lang/AbstractStringBuilder") (x := ⟨"java/lang/AbstractStringBuilder", "ensureCapacityInternal", "(I)V"⟩) mw266 mw1446 mwS0 mw267 mw43 rfl mw268) rfl rfl rfl rfl (by decide +kernel) ⟨Nat.le_of_ble_eq_true rfl, Nat.le_of_ble_eq_true rfl⟩) ⟨fun a U g mk q => ⟨q.1, q.2.1, kMJ_call q.2.2⟩, va_recv hM.1.1 hP (ci := 1) (q0 := 0) rfl rfl, fun U hU hW => ⟨rfl, hU, kMJ_kept hM hS hAN hU hW⟩⟩ rfl rfl hl.1 rfl (lv_room (Nat.le_of_ble_eq_true rfl)) dJ5_append_66267_16 ⟨Nat.le_of_ble_eq_true rfl, Nat.le_of_ble_eq_true rfl⟩) ?_
  refine lv_aload_n hx hb dJ5_append_66267_19 rfl (lv_at hl 2 rfl) ?_
  refine kc0 (fun _ q => q) (va_runU (As := []) (rest := []) ⟨hx, hb, hml, hown, hts⟩ (c_J5_isLatin1_aae02 l dC dI dA k b v (g) (tm) (0) _ hP htm hbv hkb hkv hg (by omega) ) (va_cwU 0 hts (kg_U (C := RJ4) (owner := "java/lang/AbstractStringBuilder") (x := ⟨"java/lang/AbstractStringBuilder", "isLatin1", "()Z"⟩) mw298 mw300 mw301 mw299 mw43 rfl mw302) rfl rfl rfl rfl (by decide +kernel) ⟨Nat.le_of_ble_eq_true rfl, Nat.le_of_ble_eq_true rfl⟩) ⟨fun a U g mk q => ⟨q.1, q.2.1, kMJ_call q.2.2⟩, va_recv hM.1.1 hP (ci := 1) (q0 := 0) rfl rfl, fun U hU hW => ⟨rfl, hU, kMJ_kept hM hS hAN hU hW⟩⟩ rfl rfl hl.1 rfl (lv_room (Nat.le_of_ble_eq_true rfl)) dJ5_append_66267_20 ⟨Nat.le_of_ble_eq_true rfl, Nat.le_of_ble_eq_true rfl⟩) ?_
  refine kz_ifb_eq (tgt := 40) hx hb  dJ5_append_66267_23 (by decide) (fun c_1 => absurd c_1 (by decide)) (fun c_1 => ?_)
  refine lv_lload_n hx hb dJ5_append_66267_26 rfl (lv_at hl 3 rfl) ?_
  refine lv_iload hx hb dJ5_append_66267_27 (lv_at hl 0 rfl) ?_
  refine lv_aload_n hx hb dJ5_append_66267_29 rfl (lv_at hl 2 rfl) ?_
  refine va_get (D := (dC, dI)) (ci := 1) (v := .ref v) (C := RJ4) (T := TJ4) (N := 4) hx hb hts (fun w h => List.mem_cons_of_mem _ (gF_3_in h)) hown hM.1.1 hP 0 rfl rfl 0 (by decide) (hts _ (List.mem_cons_of_mem _ mw88)) (fun _ h9 => h9) rfl dJ5_append_66267_30 ?_
  refine kc2 (va_runS (As := [.long (lZ (zz)), .int (iZ (((TL zz : Nat) : Int))), .ref v]) (rest := []) ⟨hx, hb, hml, hown, hts⟩ (c_J13_getChars_11360 l dC dI dA k b v g tm 0 _ hP htm hbv hkb hkv hg (by omega) (zz) h0) (va_cwS 3 hts (kg_S mw1277 mw1278 mw62 rfl mw1279) rfl rfl rfl hdS_J13_getChars_11360 ⟨Nat.le_of_ble_eq_true rfl, Nat.le_of_ble_eq_true rfl⟩) ⟨fun a U g mk q => ⟨q.1, q.2.1, kMJ_call q.2.2⟩, fun U hU hW => ⟨rfl, hU, kMJ_kept hM hS hAN hU hW⟩⟩ rfl rfl hl.1 rfl (lv_room (Nat.le_of_ble_eq_true rfl)) dJ5_append_66267_33 ⟨Nat.le_of_ble_eq_true rfl, Nat.le_of_ble_eq_true rfl⟩) hS (fun a _ h => kAB_up hS.1 a h) (fun a h => kAB_up hS.1 a h) (fun H1 locs hG hz9 hk9 hS => ?_)
  obtain ⟨g9, hg9, ht9, tm9, htm9, hP9⟩ := hG
  have hP : va_P (dC, dI) vwCl ([(b, .inr (1, [.ref v, .int 0, .int tm9, .int (iZ (((0 : Nat) : Int)))])), (v, .inl (dA 2, 16, .inl (fun j => iZ (g9 j))))] : va_W) H1 := hP9
  generalize H1 = H at hP hS ⊢
  have hD : va_D (kAB b v s.heap.size) ([(b, .inr (1, [.ref v, .int 0, .int tm9, .int (iZ (((0 : Nat) : Int)))])), (v, .inl (dA 2, 16, .inl (fun j => iZ (g9 j))))] : va_W) := kW_D hbv
  refine lv_pop hx hb dJ5_append_66267_36 rfl ?_
  refine lv_goto (tgt := 52) hx hb dJ5_append_66267_37 (by decide) ?_
  refine lv_aload_n hx hb dJ5_append_66267_52 rfl (lv_at hl 2 rfl) ?_
  refine lv_iload hx hb dJ5_append_66267_53 (lv_at hl 0 rfl) ?_
  refine va_put (D := (dC, dI)) (ci := 1) (v := .int (iZ (((TL zz : Nat) : Int)))) (ty := .int) (C := RJ4) (T := TJ4) (N := 4) hx hb hts (fun w h => List.mem_cons_of_mem _ (gF_3_in h)) tyJ4 tyJ4_ok nmJ4 hown hM.1.1 hP hD hS 0 rfl rfl 3 (by decide) (hts _ (List.mem_cons_of_mem _ mw92)) (fun _ h9 => h9) rfl (by decide +kernel) rfl rfl (Nat.le_of_ble_eq_true rfl) dJ5_append_66267_55 (fun H locs hP hD hS => ?_)
  have hP : va_P (dC, dI) vwCl ([(b, .inr (1, [.ref v, .int 0, .int tm9, .int (iZ (((TL zz : Nat) : Int)))])), (v, .inl (dA 2, 16, .inl (fun j => iZ (g9 j))))] : va_W) _ := hP
  have hD : va_D (kAB b v s.heap.size) ([(b, .inr (1, [.ref v, .int 0, .int tm9, .int (iZ (((TL zz : Nat) : Int)))])), (v, .inl (dA 2, 16, .inl (fun j => iZ (g9 j))))] : va_W) := hD
  refine lv_aload_n hx hb dJ5_append_66267_58 rfl (lv_at hl 2 rfl) ?_
  have hP : va_P (dC, dI) vwCl (kW b v dA g9 tm9 (TL zz)) _ := hP
  exact W.aret (rt := .object "java/lang/AbstractStringBuilder") hx hb hr9 (Or.inl ⟨_, rfl⟩) (Or.inr ⟨_, rfl⟩) (fun t ht hW => ⟨⟨rfl, gWt_of hg9 ht9 htm9 (by rw [ht]; exact hP)⟩, hS.F ht⟩) hS.2.2 dJ5_append_66267_59 hlocks

abbrev ww_J4_append_f7089 : List Cond := .code yJ4_append_f7089 cJ4_append_f7089 3 (some (.object "java/lang/StringBuilder")) :: gT
set_option maxHeartbeats 4000000 in
set_option maxRecDepth 100000 in
theorem c_J4_append_f7089 (l : Launch) (dC : Nat → ClassId) (dI : Nat → Nat → Nat) (dA : Nat → ClassId) (k : Nat → Nat) (b v : Nat) (g : Nat → Int) (tm : Int32) (H0 : Heap) (hP : va_P (dC, dI) vwCl (kW b v dA g tm 0) H0) (htm : tm = 0 ∨ tm = 1) (hbv : b ≠ v) (hkb : k 0 ≤ b) (hkv : k 0 ≤ v) (hg : kG g) (zz : Int) (h0 : zz.natAbs < 10000000000000) : Met l yJ4_append_f7089 ww_J4_append_f7089 ({ frames := 2, cells := 0, slots := 0, locals := 54 }) (va_Pc [.ref b, .long (lZ (zz))] (fun U => U.heap = H0 ∧ kMJ dC dI dA k U)) (kQ2 (some (.ref b)) (gWt dC dI dA b v zz (TL zz)) (kAB b v H0.size)) 0 0 (kAB b v H0.size) := by
  refine va_MetF (cc := cJ4_append_f7089) (maxL := 3) (ret := (some (.object "java/lang/StringBuilder"))) (by decide +kernel) rfl ?_
  intro p e s m args below meth c s₁ B hml hv
  obtain ⟨rfl, hH, hM⟩ := hv
  subst hH
  have hAN : ∀ a, kAB b v s.heap.size a → k 0 ≤ a := kAB_N hkb hkv hM.1.2.1.1
  have hS : va_S (kAB b v s.heap.size) s.heap s.heap [] := va_S.rf
  have hD : va_D (kAB b v s.heap.size) ([(b, .inr (1, [.ref v, .int 0, .int tm, .int (iZ (((0 : Nat) : Int)))])), (v, .inl (dA 2, 16, .inl (fun j => iZ (g j))))] : va_W) := kW_D hbv
  have hP : va_P (dC, dI) vwCl ([(b, .inr (1, [.ref v, .int 0, .int tm, .int (iZ (((0 : Nat) : Int)))])), (v, .inl (dA 2, 16, .inl (fun j => iZ (g j))))] : va_W) s.heap := hP
  have hL := TL_rng h0
  have hz0 : -10000000000000 < zz ∧ zz < 10000000000000 := by omega
  have hx := B.exec
  have hb := B.bytes
  have hr9 := B.returns
  have hts := atoms_spec (ws := ww_J4_append_f7089) B.pre
  have hown : s.vm.findClass RJ4 = some m.cls := findClass_of_methodNamed B.named
  have hlocks := B.notSynchronized
  have hl := lv_entry ([.ref b, .long (lZ (zz))]) (n := 3) (Nat.le_of_ble_eq_true rfl)
  rw [lg_entry_eq]
  generalize (lg_sl ([.ref b, .long (lZ (zz))]) ++ List.replicate (3 - (lg_sl ([.ref b, .long (lZ (zz))])).length) Slot.unset).toArray = ls at hl ⊢
  have hl : lv_has ls 3 [(0, .ref b), (1, .long (lZ (zz)))] := hl
  refine lv_aload_n hx hb dJ4_append_f7089_0 rfl (lv_at hl 0 rfl) ?_
  refine lv_lload_n hx hb dJ4_append_f7089_1 rfl (lv_at hl 1 rfl) ?_
  refine kc2 (va_runSU (As := [.long (lZ (zz))]) (rest := []) ((hM.1.1.1 1 _ rfl).2) ⟨hx, hb, hml, hown, hts⟩ (c_J5_append_66267 l dC dI dA k b v g tm _ hP htm hbv hkb hkv hg (zz) h0) (va_cwSU 1 hts (kg_SU mw1269 mw1456 mw93 mw1270 mw43 rfl mw1271) rfl rfl rfl (by decide +kernel) ⟨Nat.le_of_ble_eq_true rfl, Nat.le_of_ble_eq_true rfl⟩) ⟨fun a U g mk q => ⟨q.1, q.2.1, kMJ_call q.2.2⟩, va_recv hM.1.1 hP (ci := 1) (q0 := 0) rfl rfl, fun U hU hW => ⟨rfl, hU, kMJ_kept hM hS hAN hU hW⟩⟩ rfl rfl hl.1 rfl (lv_room (Nat.le_of_ble_eq_true rfl)) dJ4_append_f7089_2 ⟨Nat.le_of_ble_eq_true rfl, Nat.le_of_ble_eq_true rfl⟩) hS (fun a _ h => kAB_up hS.1 a h) (fun a h => kAB_up hS.1 a h) (fun H1 locs hG hz9 hk9 hS => ?_)
  obtain ⟨g9, hg9, ht9, tm9, htm9, hP9⟩ := hG
  have hP : va_P (dC, dI) vwCl ([(b, .inr (1, [.ref v, .int 0, .int tm9, .int (iZ (((TL zz : Nat) : Int)))])), (v, .inl (dA 2, 16, .inl (fun j => iZ (g9 j))))] : va_W) H1 := hP9
  generalize H1 = H at hP hS ⊢
  have hD : va_D (kAB b v s.heap.size) ([(b, .inr (1, [.ref v, .int 0, .int tm9, .int (iZ (((TL zz : Nat) : Int)))])), (v, .inl (dA 2, 16, .inl (fun j => iZ (g9 j))))] : va_W) := kW_D hbv
  refine lv_pop hx hb dJ4_append_f7089_5 rfl ?_
  refine lv_aload_n hx hb dJ4_append_f7089_6 rfl (lv_at hl 0 rfl) ?_
  have hP : va_P (dC, dI) vwCl (kW b v dA g9 tm9 (TL zz)) _ := hP
  exact W.aret (rt := .object "java/lang/StringBuilder") hx hb hr9 (Or.inl ⟨_, rfl⟩) (Or.inr ⟨_, rfl⟩) (fun t ht hW => ⟨⟨rfl, gWt_of hg9 ht9 htm9 (by rw [ht]; exact hP)⟩, hS.F ht⟩) hS.2.2 dJ4_append_f7089_7 hlocks

