abbrev ww_J1_equals_b5fdf : List Cond := .code yJ1_equals_b5fdf cJ1_equals_b5fdf 3 (some .boolean) :: gT
set_option maxHeartbeats 4000000 in
set_option maxRecDepth 100000 in
theorem c_J1_equals_b5fdf (l : Launch) (dC : Nat → ClassId) (dI : Nat → Nat → Nat) (dA : Nat → ClassId) (k : Nat → Nat) (w w2 : Nat) (g g2 : Nat → Int) (n : Nat) (H0 : Heap) (hP : va_P (dC, dI) vwCl ([(w, .inl (dA 2, n, .inl (fun j => iZ (g j)))), (w2, .inl (dA 2, n, .inl (fun j => iZ (g2 j))))] : va_W) H0) (hn : n < 65536) (hg : ∀ j, j < n → -128 ≤ g j ∧ g j < 128) (he : ∀ j, j < n → g j = g2 j) : Met l yJ1_equals_b5fdf ww_J1_equals_b5fdf ({ frames := 0, cells := 0, slots := 0, locals := 0 }) (va_Pc [.ref w, .ref w2] (fun U => U.heap = H0 ∧ kMJ dC dI dA k U)) (kQ0 (some (.int (iZ 1))) H0) 0 0 kN := by
  refine va_MetF (cc := cJ1_equals_b5fdf) (maxL := 3) (ret := (some .boolean)) (by decide +kernel) rfl ?_
  intro p e s m args below meth c s₁ B hml hv
  obtain ⟨rfl, hH, hM⟩ := hv
  subst hH
  have hAN : ∀ a, kN0 k a → k 0 ≤ a := fun a h => h
  have hS : va_S (kN0 k) s.heap s.heap [] := va_S.rf
  have hx := B.exec
  have hb := B.bytes
  have hr9 := B.returns
  have hts := atoms_spec (ws := ww_J1_equals_b5fdf) B.pre
  have hown : s.vm.findClass RJ1 = some m.cls := findClass_of_methodNamed B.named
  have hlocks := B.notSynchronized
  have hl := lv_entry ([.ref w, .ref w2]) (n := 3) (Nat.le_of_ble_eq_true rfl)
  rw [lg_entry_eq]
  generalize (lg_sl ([.ref w, .ref w2]) ++ List.replicate (3 - (lg_sl ([.ref w, .ref w2])).length) Slot.unset).toArray = ls at hl ⊢
  have hl : lv_has ls 3 [(0, .ref w), (1, .ref w2)] := hl
  refine lv_aload_n hx hb dJ1_equals_b5fdf_0 rfl (lv_at hl 0 rfl) ?_
  refine kz_blen hx hb hM.1.1 hP 0 rfl dJ1_equals_b5fdf_1 ?_
  refine lv_aload_n hx hb dJ1_equals_b5fdf_2 rfl (lv_at hl 1 rfl) ?_
  refine kz_blen hx hb hM.1.1 hP 1 rfl dJ1_equals_b5fdf_3 ?_
  refine kz_icmp_ne (tgt := 34) hx hb (by omega) (by omega) dJ1_equals_b5fdf_4 (by decide) (fun c_1 => absurd c_1 (by omega)) (fun c_1 => ?_)
  refine lv_iconst (v := iZ 0) hx hb dJ1_equals_b5fdf_7 rfl ?_
  refine lv_istore_n (lv' := [(2, .int (iZ 0)), (0, .ref w), (1, .ref w2)]) hx hb dJ1_equals_b5fdf_8 rfl hl (by decide) rfl (fun ls hl => ?_)
  refine k_loop (W := fun ls => W p l e _ s m _ below meth c s.heap [] 0 0 _ (F0 m 9 ls [])) (I := fun (kk : Nat) ls => lv_has ls 3 [(2, .int (iZ (((kk : Nat) : Int)))), (0, .ref w), (1, .ref w2)]) (n) 0 (Nat.zero_le _) (by have h9 := (lv_sub hl [0, 1, 2] rfl); exact h9) (fun ls hl => ?_) (fun kk ls hk hl ih => ?_)
  · refine lv_iload_n hx hb dJ1_equals_b5fdf_9 rfl (lv_at hl 0 rfl) ?_
    refine lv_aload_n hx hb dJ1_equals_b5fdf_10 rfl (lv_at hl 1 rfl) ?_
    refine kz_blen hx hb hM.1.1 hP 0 rfl dJ1_equals_b5fdf_11 ?_
    refine kz_icmp_ge (tgt := 32) hx hb (by omega) (by omega) dJ1_equals_b5fdf_12 (by decide) (fun c_2 => ?_) (fun c_2 => absurd c_2 (by omega))
    refine lv_iconst (v := iZ 1) hx hb dJ1_equals_b5fdf_32 rfl ?_
    exact W.zret (v := iZ 1) (ty := .boolean) hx hb hr9 rfl (fun t ht hW => ⟨rfl, ht⟩) (fun q h => by cases h) dJ1_equals_b5fdf_33
  · refine lv_iload_n hx hb dJ1_equals_b5fdf_9 rfl (lv_at hl 0 rfl) ?_
    refine lv_aload_n hx hb dJ1_equals_b5fdf_10 rfl (lv_at hl 1 rfl) ?_
    refine kz_blen hx hb hM.1.1 hP 0 rfl dJ1_equals_b5fdf_11 ?_
    refine kz_icmp_ge (tgt := 32) hx hb (by omega) (by omega) dJ1_equals_b5fdf_12 (by decide) (fun c_3 => absurd c_3 (by omega)) (fun c_3 => ?_)
    refine lv_aload_n hx hb dJ1_equals_b5fdf_15 rfl (lv_at hl 1 rfl) ?_
    refine lv_iload_n hx hb dJ1_equals_b5fdf_16 rfl (lv_at hl 0 rfl) ?_
    refine kz_bald hx hb hM.1.1 hP 0 rfl (by omega) (by omega) dJ1_equals_b5fdf_17 ?_
    refine lv_aload_n hx hb dJ1_equals_b5fdf_18 rfl (lv_at hl 2 rfl) ?_
    refine lv_iload_n hx hb dJ1_equals_b5fdf_19 rfl (lv_at hl 0 rfl) ?_
    refine kz_bald hx hb hM.1.1 hP 1 rfl (by omega) (by omega) dJ1_equals_b5fdf_20 ?_
    refine kz_icmp_eq (tgt := 26) hx hb (by have h9 := he ((kk : Nat) : Int).toNat (by omega); have h8 := hg ((kk : Nat) : Int).toNat (by omega); omega) (by have h9 := he ((kk : Nat) : Int).toNat (by omega); have h8 := hg ((kk : Nat) : Int).toNat (by omega); omega) dJ1_equals_b5fdf_21 (by decide) (fun c_4 => ?_) (fun c_4 => absurd c_4 (by have h9 := he ((kk : Nat) : Int).toNat (by omega); omega))
    refine lv_iinc (v := iZ ((((kk : Nat) : Int)) + 1)) (lv' := [(2, .int (iZ ((((kk : Nat) : Int)) + 1))), (0, .ref w), (1, .ref w2)]) hx hb dJ1_equals_b5fdf_26 hl (k := 0) rfl (iZ_add _ _) (by decide) rfl (fun ls hl => ?_)
    refine lv_goto (tgt := 9) hx hb dJ1_equals_b5fdf_29 (by decide) ?_
    exact ih ls (by have h9 := lv_sub hl [0, 1, 2] rfl; rw [show ((kk : Nat) : Int) + 1 = ((kk + 1 : Nat) : Int) from by omega] at h9; exact h9)

abbrev ww_J0_equals_9ea2d : List Cond := .code yJ0_equals_9ea2d cJ0_equals_9ea2d 3 (some .boolean) :: gT
set_option maxHeartbeats 4000000 in
set_option maxRecDepth 100000 in
theorem c_J0_equals_9ea2dD (l : Launch) (dC : Nat → ClassId) (dI : Nat → Nat → Nat) (dA : Nat → ClassId) (k : Nat → Nat) (q w q2 w2 : Nat) (g g2 : Nat → Int) (n : Nat) (H0 : Heap) (hP : va_P (dC, dI) vwCl (kS q w dA g n ++ kS q2 w2 dA g2 n) H0) (hn : n < 65536) (hg : ∀ j, j < n → -128 ≤ g j ∧ g j < 128) (he : ∀ j, j < n → g j = g2 j) : Met l yJ0_equals_9ea2d ww_J0_equals_9ea2d ({ frames := 1, cells := 0, slots := 0, locals := 22 }) (va_Pc [.ref q, .ref q2] (fun U => U.heap = H0 ∧ kMJ dC dI dA k U)) (kQ0 (some (.int (iZ (bZ true)))) H0) 0 0 kN := by
  refine va_MetF (cc := cJ0_equals_9ea2d) (maxL := 3) (ret := (some .boolean)) (by decide +kernel) rfl ?_
  intro p e s m args below meth c s₁ B hml hv
  obtain ⟨rfl, hH, hM⟩ := hv
  subst hH
  have hAN : ∀ a, kN0 k a → k 0 ≤ a := fun a h => h
  have hS : va_S (kN0 k) s.heap s.heap [] := va_S.rf
  have hP : va_P (dC, dI) vwCl ([(q, .inr (0, [.ref w, .int 0, .int 0, .int 0])), (w, .inl (dA 2, n, .inl (fun j => iZ (g j)))), (q2, .inr (0, [.ref w2, .int 0, .int 0, .int 0])), (w2, .inl (dA 2, n, .inl (fun j => iZ (g2 j))))] : va_W) s.heap := hP
  have hx := B.exec
  have hb := B.bytes
  have hr9 := B.returns
  have hts := atoms_spec (ws := ww_J0_equals_9ea2d) B.pre
  have hown : s.vm.findClass RJ0 = some m.cls := findClass_of_methodNamed B.named
  have hlocks := B.notSynchronized
  have hl := lv_entry ([.ref q, .ref q2]) (n := 3) (Nat.le_of_ble_eq_true rfl)
  rw [lg_entry_eq]
  generalize (lg_sl ([.ref q, .ref q2]) ++ List.replicate (3 - (lg_sl ([.ref q, .ref q2])).length) Slot.unset).toArray = ls at hl ⊢
  have hl : lv_has ls 3 [(0, .ref q), (1, .ref q2)] := hl
  refine lv_aload_n hx hb dJ0_equals_9ea2d_0 rfl (lv_at hl 0 rfl) ?_
  refine lv_aload_n hx hb dJ0_equals_9ea2d_1 rfl (lv_at hl 1 rfl) ?_
  refine lv_acmp_ne (rx := some q) (ry := some q2) (tgt := 7) hx hb dJ0_equals_9ea2d_2 (by decide) (fun c_1 => ?_) (fun c_1 => ?_)
  · refine lv_aload_n hx hb dJ0_equals_9ea2d_7 rfl (lv_at hl 1 rfl) ?_
    refine va_instE (nm := RJ0) hx hb hown (hts _ (List.mem_cons_of_mem _ mw1439)) (va_recv hM.1.1 hP (ci := 0) (q0 := 2) rfl rfl) dJ0_equals_9ea2d_8 ?_
    refine W.eq (g2 := F0 m 11 ls [.int (iZ 1)]) rfl ?_
    refine kz_if_eq (tgt := 54) hx hb (by omega) dJ0_equals_9ea2d_11 (by decide) (fun c_2 => absurd c_2 (by omega)) (fun c_2 => ?_)
    refine lv_aload_n hx hb dJ0_equals_9ea2d_14 rfl (lv_at hl 1 rfl) ?_
    refine va_castE (nm := RJ0) hx hb hown (hts _ (List.mem_cons_of_mem _ mw1439)) (va_recv hM.1.1 hP (ci := 0) (q0 := 2) rfl rfl) dJ0_equals_9ea2d_15 ?_
    refine lv_astore_n (lv' := [(2, .ref q2), (0, .ref q), (1, .ref q2)]) hx hb dJ0_equals_9ea2d_18 rfl hl (by decide) rfl (fun ls hl => ?_)
    refine va_gets (v := .int 1) hx hb hM.2.1 (kSN hS hAN) hown (hts _ (List.mem_cons_of_mem _ mw333)) (fun _ h9 => h9) dJ0_equals_9ea2d_19 ?_
    refine W.eq (g2 := F0 m 22 ls [.int (iZ 1)]) rfl ?_
    refine kz_if_eq (tgt := 36) hx hb (by omega) dJ0_equals_9ea2d_22 (by decide) (fun c_3 => absurd c_3 (by omega)) (fun c_3 => ?_)
    refine lv_aload_n hx hb dJ0_equals_9ea2d_25 rfl (lv_at hl 1 rfl) ?_
    refine va_get (D := (dC, dI)) (ci := 0) (v := .int 0) (C := RJ0) (T := TJ0) (N := 4) hx hb hts (fun w h => List.mem_cons_of_mem _ (gF_4_in h)) hown hM.1.1 hP 0 rfl rfl 1 (by decide) (hts _ (List.mem_cons_of_mem _ mw439)) (fun _ h9 => h9) rfl dJ0_equals_9ea2d_26 ?_
    refine lv_aload_n hx hb dJ0_equals_9ea2d_29 rfl (lv_at hl 0 rfl) ?_
    refine va_get (D := (dC, dI)) (ci := 0) (v := .int 0) (C := RJ0) (T := TJ0) (N := 4) hx hb hts (fun w h => List.mem_cons_of_mem _ (gF_4_in h)) hown hM.1.1 hP 2 rfl rfl 1 (by decide) (hts _ (List.mem_cons_of_mem _ mw439)) (fun _ h9 => h9) rfl dJ0_equals_9ea2d_30 ?_
    refine W.eq (g2 := F0 m 33 ls [.int (iZ 0), .int (iZ 0)]) rfl ?_
    refine kz_icmp_ne (tgt := 54) hx hb (by omega) (by omega) dJ0_equals_9ea2d_33 (by decide) (fun c_4 => absurd c_4 (by omega)) (fun c_4 => ?_)
    refine lv_aload_n hx hb dJ0_equals_9ea2d_36 rfl (lv_at hl 1 rfl) ?_
    refine va_get (D := (dC, dI)) (ci := 0) (v := .ref w) (C := RJ0) (T := TJ0) (N := 4) hx hb hts (fun w h => List.mem_cons_of_mem _ (gF_4_in h)) hown hM.1.1 hP 0 rfl rfl 0 (by decide) (hts _ (List.mem_cons_of_mem _ mw438)) (fun _ h9 => h9) rfl dJ0_equals_9ea2d_37 ?_
    refine lv_aload_n hx hb dJ0_equals_9ea2d_40 rfl (lv_at hl 0 rfl) ?_
    refine va_get (D := (dC, dI)) (ci := 0) (v := .ref w2) (C := RJ0) (T := TJ0) (N := 4) hx hb hts (fun w h => List.mem_cons_of_mem _ (gF_4_in h)) hown hM.1.1 hP 2 rfl rfl 0 (by decide) (hts _ (List.mem_cons_of_mem _ mw438)) (fun _ h9 => h9) rfl dJ0_equals_9ea2d_41 ?_
    refine kc0 (fun _ q => q) (va_runS (As := [.ref w, .ref w2]) (rest := []) ⟨hx, hb, hml, hown, hts⟩ (c_J1_equals_b5fdf l dC dI dA k w w2 g g2 n _ (hP.sub [1, 3] rfl) hn hg he) (va_cwS 2 hts (kg_S mw1440 mw1441 mw58 rfl mw1442) rfl rfl rfl (by decide +kernel) ⟨Nat.le_of_ble_eq_true rfl, Nat.le_of_ble_eq_true rfl⟩) ⟨fun a U g mk q => ⟨q.1, q.2.1, kMJ_call q.2.2⟩, fun U hU hW => ⟨rfl, hU, kMJ_kept hM hS hAN hU hW⟩⟩ rfl rfl hl.1 rfl (lv_room (Nat.le_of_ble_eq_true rfl)) dJ0_equals_9ea2d_44 ⟨Nat.le_of_ble_eq_true rfl, Nat.le_of_ble_eq_true rfl⟩) ?_
    refine kz_if_eq (tgt := 54) hx hb (by omega) dJ0_equals_9ea2d_47 (by decide) (fun c_5 => absurd c_5 (by omega)) (fun c_5 => ?_)
    refine lv_iconst (v := iZ 1) hx hb dJ0_equals_9ea2d_50 rfl ?_
    refine lv_goto (tgt := 55) hx hb dJ0_equals_9ea2d_51 (by decide) ?_
    exact W.zret (v := iZ 1) (ty := .boolean) hx hb hr9 rfl (fun t ht hW => ⟨rfl, ht⟩) (fun q h => by cases h) dJ0_equals_9ea2d_55
  · refine lv_iconst (v := iZ 1) hx hb dJ0_equals_9ea2d_5 rfl ?_
    exact W.zret (v := iZ 1) (ty := .boolean) hx hb hr9 rfl (fun t ht hW => ⟨rfl, ht⟩) (fun q h => by cases h) dJ0_equals_9ea2d_6

