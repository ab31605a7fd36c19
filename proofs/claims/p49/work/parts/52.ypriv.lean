abbrev ww_X3_fails : List Cond := .code yX3_fails cX3_fails 3 (some .boolean) :: gT
set_option maxHeartbeats 4000000 in
set_option maxRecDepth 100000 in
theorem c_X3_fails (l : Launch) (dC : Nat → ClassId) (dI : Nat → Nat → Nat) (dA : Nat → ClassId) (k : Nat → Nat) (m0 : Nat) (r0 : Nat → Nat → Nat) (σ : Nat → Nat → Int) (th : Int) (H0 : Heap) (hP : va_P (dC, dI) vwCl (kY dA m0 r0 σ th) H0) (hr : kRI m0 r0 k) (hOK : kOK σ) (ba : Bool) (bb : Bool)  : Met l yX3_fails ww_X3_fails ({ frames := 0, cells := 0, slots := 0, locals := 0 }) (va_Pc [.ref m0, .int (iZ (bZ (ba))), .int (iZ (bZ (bb)))] (fun U => U.heap = H0 ∧ kM dC dI dA k U)) (kQ2 (some (.int (iZ (bZ (kf ba bb))))) (fun H => va_P (dC, dI) vwCl (kY dA m0 r0 (σ) (ex2 ba bb)) H) (kAy m0 r0 H0.size)) 0 0 (kAy m0 r0 H0.size) := by
  refine Met.ofW (cc := cX3_fails) (maxL := 3) (ret := (some .boolean)) (by decide) rfl ?_
  intro p e s m args below meth c s₁ B hml hv
  obtain ⟨rfl, hH, hM⟩ := hv
  subst hH
  have hr0 := hr
  have hAN : ∀ a, kAy m0 r0 s.heap.size a → k 0 ≤ a := fun a h => kAy_N hr0 hM.2.1.1 a h
  have hrA : ∀ i : Nat, i < 17 → kAy m0 r0 s.heap.size (kR m0 r0 i) := fun i hi => Or.inl ⟨i, hi, rfl⟩
  have hD : va_D (kAy m0 r0 s.heap.size) (kY dA m0 r0 σ (th) ++ ([] : va_W)) := by rw [← kap]; exact kYD_A hr hrA
  have hP : va_P (dC, dI) vwCl (kY dA m0 r0 σ (th) ++ ([] : va_W)) s.heap := hP
  have hS : va_S (kAy m0 r0 s.heap.size) s.heap s.heap [] := va_S.rf
  have hx := B.exec
  have hb := B.bytes
  have hr9 := B.returns
  have hts := atoms_spec (ws := ww_X3_fails) B.pre
  have hown : s.vm.findClass RX3 = some m.cls := findClass_of_methodNamed B.named
  have hlocks := B.notSynchronized
  have hl := lv_entry ([.ref m0, .int (iZ (bZ (ba))), .int (iZ (bZ (bb)))]) (n := 3) (Nat.le_of_ble_eq_true rfl)
  rw [lg_entry_eq]
  generalize (lg_sl ([.ref m0, .int (iZ (bZ (ba))), .int (iZ (bZ (bb)))]) ++ List.replicate (3 - (lg_sl ([.ref m0, .int (iZ (bZ (ba))), .int (iZ (bZ (bb)))])).length) Slot.unset).toArray = ls at hl ⊢
  have hl : lv_has ls 3 [(0, .ref m0), (1, .int (iZ (bZ (ba)))), (2, .int (iZ (bZ (bb))))] := hl
  refine lv_aload_n hx hb dX3_fails_0 rfl (lv_at hl 0 rfl) ?_
  refine lv_iload_n hx hb dX3_fails_1 rfl (lv_at hl 1 rfl) ?_
  refine kz_ifb_eq (tgt := 9) hx hb  dX3_fails_2 (by decide) (fun c_1 => ?_) (fun c_1 => ?_)
  · refine lv_iload_n hx hb dX3_fails_9 rfl (lv_at hl 2 rfl) ?_
    refine kz_ifb_eq (tgt := 17) hx hb  dX3_fails_10 (by decide) (fun c_2 => ?_) (fun c_2 => ?_)
    · refine lv_iconst (v := iZ 0) hx hb dX3_fails_17 rfl ?_
      refine va_put (D := (dC, dI)) (ci := 6) (v := .int (iZ 0)) (ty := .int) (C := RX3) (T := TX3) (N := 6) hx hb hts (fun w h => List.mem_cons_of_mem _ (gF_2_in h)) tyX3 tyX3_ok nmX3 hown hM.1 hP hD hS 0 rfl rfl 5 (by decide) (hts _ (List.mem_cons_of_mem _ mw1012)) (fun _ h9 => h9) rfl (by decide +kernel) rfl rfl (Nat.le_of_ble_eq_true rfl) dX3_fails_18 (fun H locs hP hD hS => ?_)
      have hP : va_P (dC, dI) vwCl (kY dA m0 r0 σ (0) ++ ([] : va_W)) _ := hP
      have hD : va_D (kAy m0 r0 s.heap.size) (kY dA m0 r0 σ (0) ++ ([] : va_W)) := hD
      refine lv_aload_n hx hb dX3_fails_21 rfl (lv_at hl 0 rfl) ?_
      refine va_get (D := (dC, dI)) (ci := 6) (v := .int (iZ 0)) (C := RX3) (T := TX3) (N := 6) hx hb hts (fun w h => List.mem_cons_of_mem _ (gF_2_in h)) hown hM.1 hP 0 rfl rfl 5 (by decide) (hts _ (List.mem_cons_of_mem _ mw1012)) (fun _ h9 => h9) rfl dX3_fails_22 ?_
      refine kz_if_le (tgt := 32) hx hb (by omega) dX3_fails_25 (by decide) (fun c_3 => ?_) (fun c_3 => absurd c_3 (by omega))
      refine lv_iconst (v := iZ 0) hx hb dX3_fails_32 rfl ?_
      refine W.widen (k := 0) (n := 0) (Nat.le_of_ble_eq_true rfl) (Nat.le_of_ble_eq_true rfl) ?_
      exact W.zret (v := iZ 0) (ty := .boolean) hx hb hr9 rfl (fun t ht hW => ⟨⟨congrArg (fun z : Int => Outcome.returned (some (Value.int (iZ z)))) (show 0 = (bZ (kf ba bb)) from by unfold kf; simp [*, ex2, bZ]), kYcast (by rw [ht]; exact va_Pl hP) (show (σ) = (σ) from rfl) (show (0) = (ex2 ba bb) from by simp [*, ex2])⟩, hS.F ht⟩) hS.2.2 dX3_fails_33
    · refine lv_iconst (v := iZ 2) hx hb dX3_fails_13 rfl ?_
      refine lv_goto (tgt := 18) hx hb dX3_fails_14 (by decide) ?_
      refine va_put (D := (dC, dI)) (ci := 6) (v := .int (iZ 2)) (ty := .int) (C := RX3) (T := TX3) (N := 6) hx hb hts (fun w h => List.mem_cons_of_mem _ (gF_2_in h)) tyX3 tyX3_ok nmX3 hown hM.1 hP hD hS 0 rfl rfl 5 (by decide) (hts _ (List.mem_cons_of_mem _ mw1012)) (fun _ h9 => h9) rfl (by decide +kernel) rfl rfl (Nat.le_of_ble_eq_true rfl) dX3_fails_18 (fun H locs hP hD hS => ?_)
      have hP : va_P (dC, dI) vwCl (kY dA m0 r0 σ (2) ++ ([] : va_W)) _ := hP
      have hD : va_D (kAy m0 r0 s.heap.size) (kY dA m0 r0 σ (2) ++ ([] : va_W)) := hD
      refine lv_aload_n hx hb dX3_fails_21 rfl (lv_at hl 0 rfl) ?_
      refine va_get (D := (dC, dI)) (ci := 6) (v := .int (iZ 2)) (C := RX3) (T := TX3) (N := 6) hx hb hts (fun w h => List.mem_cons_of_mem _ (gF_2_in h)) hown hM.1 hP 0 rfl rfl 5 (by decide) (hts _ (List.mem_cons_of_mem _ mw1012)) (fun _ h9 => h9) rfl dX3_fails_22 ?_
      refine kz_if_le (tgt := 32) hx hb (by omega) dX3_fails_25 (by decide) (fun c_4 => absurd c_4 (by omega)) (fun c_4 => ?_)
      refine lv_iconst (v := iZ 1) hx hb dX3_fails_28 rfl ?_
      refine lv_goto (tgt := 33) hx hb dX3_fails_29 (by decide) ?_
      refine W.widen (k := 0) (n := 0) (Nat.le_of_ble_eq_true rfl) (Nat.le_of_ble_eq_true rfl) ?_
      exact W.zret (v := iZ 1) (ty := .boolean) hx hb hr9 rfl (fun t ht hW => ⟨⟨congrArg (fun z : Int => Outcome.returned (some (Value.int (iZ z)))) (show 1 = (bZ (kf ba bb)) from by unfold kf; simp [*, ex2, bZ]), kYcast (by rw [ht]; exact va_Pl hP) (show (σ) = (σ) from rfl) (show (2) = (ex2 ba bb) from by simp [*, ex2])⟩, hS.F ht⟩) hS.2.2 dX3_fails_33
  · refine lv_iconst (v := iZ 1) hx hb dX3_fails_5 rfl ?_
    refine lv_goto (tgt := 18) hx hb dX3_fails_6 (by decide) ?_
    refine va_put (D := (dC, dI)) (ci := 6) (v := .int (iZ 1)) (ty := .int) (C := RX3) (T := TX3) (N := 6) hx hb hts (fun w h => List.mem_cons_of_mem _ (gF_2_in h)) tyX3 tyX3_ok nmX3 hown hM.1 hP hD hS 0 rfl rfl 5 (by decide) (hts _ (List.mem_cons_of_mem _ mw1012)) (fun _ h9 => h9) rfl (by decide +kernel) rfl rfl (Nat.le_of_ble_eq_true rfl) dX3_fails_18 (fun H locs hP hD hS => ?_)
    have hP : va_P (dC, dI) vwCl (kY dA m0 r0 σ (1) ++ ([] : va_W)) _ := hP
    have hD : va_D (kAy m0 r0 s.heap.size) (kY dA m0 r0 σ (1) ++ ([] : va_W)) := hD
    refine lv_aload_n hx hb dX3_fails_21 rfl (lv_at hl 0 rfl) ?_
    refine va_get (D := (dC, dI)) (ci := 6) (v := .int (iZ 1)) (C := RX3) (T := TX3) (N := 6) hx hb hts (fun w h => List.mem_cons_of_mem _ (gF_2_in h)) hown hM.1 hP 0 rfl rfl 5 (by decide) (hts _ (List.mem_cons_of_mem _ mw1012)) (fun _ h9 => h9) rfl dX3_fails_22 ?_
    refine kz_if_le (tgt := 32) hx hb (by omega) dX3_fails_25 (by decide) (fun c_5 => absurd c_5 (by omega)) (fun c_5 => ?_)
    refine lv_iconst (v := iZ 1) hx hb dX3_fails_28 rfl ?_
    refine lv_goto (tgt := 33) hx hb dX3_fails_29 (by decide) ?_
    refine W.widen (k := 0) (n := 0) (Nat.le_of_ble_eq_true rfl) (Nat.le_of_ble_eq_true rfl) ?_
    exact W.zret (v := iZ 1) (ty := .boolean) hx hb hr9 rfl (fun t ht hW => ⟨⟨congrArg (fun z : Int => Outcome.returned (some (Value.int (iZ z)))) (show 1 = (bZ (kf ba bb)) from by unfold kf; simp [*, ex2, bZ]), kYcast (by rw [ht]; exact va_Pl hP) (show (σ) = (σ) from rfl) (show (1) = (ex2 ba bb) from by simp [*, ex2])⟩, hS.F ht⟩) hS.2.2 dX3_fails_33

abbrev ww_X3_lengthAt : List Cond := .code yX3_lengthAt cX3_lengthAt 2 (some .int) :: gT
set_option maxHeartbeats 4000000 in
set_option maxRecDepth 100000 in
theorem c_X3_lengthAt (l : Launch) (dC : Nat → ClassId) (dI : Nat → Nat → Nat) (dA : Nat → ClassId) (k : Nat → Nat) (m0 : Nat) (r0 : Nat → Nat → Nat) (σ : Nat → Nat → Int) (th : Int) (H0 : Heap) (hP : va_P (dC, dI) vwCl (kY dA m0 r0 σ th) H0) (hr : kRI m0 r0 k) (hOK : kOK σ) (pj : Nat) (hpj : pj < 4) : Met l yX3_lengthAt ww_X3_lengthAt ({ frames := 3, cells := 0, slots := 0, locals := 65 }) (va_Pc [.ref m0, .int (iZ ((pj : Nat) : Int))] (fun U => U.heap = H0 ∧ kM dC dI dA k U)) (kQ0 (some (.int (iZ (mlen (leap (σ 0 pj)) (σ 1 pj))))) H0) 0 0 kN := by
  refine Met.ofW (cc := cX3_lengthAt) (maxL := 2) (ret := (some .int)) (by decide) rfl ?_
  intro p e s m args below meth c s₁ B hml hv
  obtain ⟨rfl, hH, hM⟩ := hv
  subst hH
  have hr0 := hr
  have hAN : ∀ a, kAy m0 r0 s.heap.size a → k 0 ≤ a := fun a h => kAy_N hr0 hM.2.1.1 a h
  have hrA : ∀ i : Nat, i < 17 → kAy m0 r0 s.heap.size (kR m0 r0 i) := fun i hi => Or.inl ⟨i, hi, rfl⟩
  have hD : va_D (kAy m0 r0 s.heap.size) (kY dA m0 r0 σ (th) ++ ([] : va_W)) := by rw [← kap]; exact kYD_A hr hrA
  have hP : va_P (dC, dI) vwCl (kY dA m0 r0 σ (th) ++ ([] : va_W)) s.heap := hP
  have hS : va_S (kAy m0 r0 s.heap.size) s.heap s.heap [] := va_S.rf
  have o_pj := kOKr hOK hpj
  have hx := B.exec
  have hb := B.bytes
  have hr9 := B.returns
  have hts := atoms_spec (ws := ww_X3_lengthAt) B.pre
  have hown : s.vm.findClass RX3 = some m.cls := findClass_of_methodNamed B.named
  have hlocks := B.notSynchronized
  have hl := lv_entry ([.ref m0, .int (iZ ((pj : Nat) : Int))]) (n := 2) (Nat.le_of_ble_eq_true rfl)
  rw [lg_entry_eq]
  generalize (lg_sl ([.ref m0, .int (iZ ((pj : Nat) : Int))]) ++ List.replicate (2 - (lg_sl ([.ref m0, .int (iZ ((pj : Nat) : Int))])).length) Slot.unset).toArray = ls at hl ⊢
  have hl : lv_has ls 2 [(0, .ref m0), (1, .int (iZ ((pj : Nat) : Int)))] := hl
  refine lv_aload_n hx hb dX3_lengthAt_0 rfl (lv_at hl 0 rfl) ?_
  refine va_get (D := (dC, dI)) (ci := 6) (v := .ref (r0 0 1)) (C := RX3) (T := TX3) (N := 6) hx hb hts (fun w h => List.mem_cons_of_mem _ (gF_2_in h)) hown hM.1 hP 0 rfl rfl 0 (by decide) (hts _ (List.mem_cons_of_mem _ mw1007)) (fun _ h9 => h9) rfl dX3_lengthAt_1 ?_
  refine lv_iload_n hx hb dX3_lengthAt_4 rfl (lv_at hl 1 rfl) ?_
  refine kz_aald (v := r0 1 pj) hx hb hM.1 hP 1 rfl (by omega) (by decide) rfl dX3_lengthAt_5 ?_
  refine lv_iconst (v := iZ 0) hx hb dX3_lengthAt_6 rfl ?_
  refine kz_iald (v := σ 0 pj) hx hb hM.1 hP (5 + pj) 0 (kY_L _ hpj) rfl (by omega) (by decide) rfl dX3_lengthAt_7 ?_
  refine kz_i2l hx hb (by omega) dX3_lengthAt_8 ?_
  refine lv_aload_n hx hb dX3_lengthAt_9 rfl (lv_at hl 0 rfl) ?_
  refine va_get (D := (dC, dI)) (ci := 6) (v := .ref (r0 0 1)) (C := RX3) (T := TX3) (N := 6) hx hb hts (fun w h => List.mem_cons_of_mem _ (gF_2_in h)) hown hM.1 hP 0 rfl rfl 0 (by decide) (hts _ (List.mem_cons_of_mem _ mw1007)) (fun _ h9 => h9) rfl dX3_lengthAt_10 ?_
  refine lv_iload_n hx hb dX3_lengthAt_13 rfl (lv_at hl 1 rfl) ?_
  refine kz_aald (v := r0 1 pj) hx hb hM.1 hP 1 rfl (by omega) (by decide) rfl dX3_lengthAt_14 ?_
  refine lv_iconst (v := iZ 1) hx hb dX3_lengthAt_15 rfl ?_
  refine kz_iald (v := σ 1 pj) hx hb hM.1 hP (5 + pj) 0 (kY_L _ hpj) rfl (by omega) (by decide) rfl dX3_lengthAt_16 ?_
  refine kc0 (fun _ q => q) (va_runS (As := [.long (lZ ((σ 0 pj))), .int (iZ (σ 1 pj))]) (rest := []) ⟨hx, hb, hml, hown, hts⟩ (c_X3_length l dC dI dA k _ (((σ 0 pj))) ((σ 1 pj)) (by omega) (by omega)) (va_cwS 2 hts (kg_S mw1046 mw1047 mw47 rfl mw1048) rfl rfl rfl hdS_X3_length ⟨Nat.le_of_ble_eq_true rfl, Nat.le_of_ble_eq_true rfl⟩) ⟨fun a U g mk q => ⟨q.1, q.2.1, kM_call q.2.2⟩, fun U hU hW => ⟨rfl, hU, kM_kept hM hS hAN hU hW⟩⟩ rfl rfl hl.1 rfl (lv_room (Nat.le_of_ble_eq_true rfl)) dX3_lengthAt_17 ⟨Nat.le_of_ble_eq_true rfl, Nat.le_of_ble_eq_true rfl⟩) ?_
  exact W.iret (v := iZ (mlen (leap ((((σ 0 pj))))) (((σ 1 pj))))) hx hb hr9 (fun t ht hW => ⟨congrArg (fun z : Int => Outcome.returned (some (Value.int (iZ z)))) (show (mlen (leap ((((σ 0 pj))))) (((σ 1 pj)))) = (mlen (leap (σ 0 pj)) (σ 1 pj)) from by rfl), ht⟩) (fun q h => by cases h) dX3_lengthAt_20

abbrev ww_X3_putLeaf : List Cond := .code yX3_putLeaf cX3_putLeaf 4 (some .int) :: gT
set_option maxHeartbeats 4000000 in
set_option maxRecDepth 100000 in
theorem c_X3_putLeaf (l : Launch) (dC : Nat → ClassId) (dI : Nat → Nat → Nat) (dA : Nat → ClassId) (k : Nat → Nat) (m0 : Nat) (r0 : Nat → Nat → Nat) (σ : Nat → Nat → Int) (th : Int) (H0 : Heap) (hP : va_P (dC, dI) vwCl (kY dA m0 r0 σ th) H0) (hr : kRI m0 r0 k) (hOK : kOK σ) (pj : Nat) (yy : Int) (mo : Int) (hpj : pj < 4) (h0 : -999999999 ≤ yy ∧ yy ≤ 999999999) (h1 : 1 ≤ mo ∧ mo ≤ 12) : Met l yX3_putLeaf ww_X3_putLeaf ({ frames := 4, cells := 1, slots := 2, locals := 86 }) (va_Pc [.ref m0, .int (iZ ((pj : Nat) : Int)), .int (iZ yy), .int (iZ mo)] (fun U => U.heap = H0 ∧ kM dC dI dA k U)) (kQ2 (some (.int (iZ (mlen (leap yy) mo)))) (gY dC dI dA k m0 r0 H0.size (sU (sU σ 0 pj yy) 1 pj mo) (th)) (kAy m0 r0 H0.size)) 1 2 (kAy m0 r0 H0.size) := by
  refine Met.ofW (cc := cX3_putLeaf) (maxL := 4) (ret := (some .int)) (by decide) rfl ?_
  intro p e s m args below meth c s₁ B hml hv
  obtain ⟨rfl, hH, hM⟩ := hv
  subst hH
  have hr0 := hr
  have hAN : ∀ a, kAy m0 r0 s.heap.size a → k 0 ≤ a := fun a h => kAy_N hr0 hM.2.1.1 a h
  have hrA : ∀ i : Nat, i < 17 → kAy m0 r0 s.heap.size (kR m0 r0 i) := fun i hi => Or.inl ⟨i, hi, rfl⟩
  have hD : va_D (kAy m0 r0 s.heap.size) (kY dA m0 r0 σ (th) ++ ([] : va_W)) := by rw [← kap]; exact kYD_A hr hrA
  have hP : va_P (dC, dI) vwCl (kY dA m0 r0 σ (th) ++ ([] : va_W)) s.heap := hP
  have hS : va_S (kAy m0 r0 s.heap.size) s.heap s.heap [] := va_S.rf
  have o_pj := kOKr hOK hpj
  have hx := B.exec
  have hb := B.bytes
  have hr9 := B.returns
  have hts := atoms_spec (ws := ww_X3_putLeaf) B.pre
  have hown : s.vm.findClass RX3 = some m.cls := findClass_of_methodNamed B.named
  have hlocks := B.notSynchronized
  have hl := lv_entry ([.ref m0, .int (iZ ((pj : Nat) : Int)), .int (iZ yy), .int (iZ mo)]) (n := 4) (Nat.le_of_ble_eq_true rfl)
  rw [lg_entry_eq]
  generalize (lg_sl ([.ref m0, .int (iZ ((pj : Nat) : Int)), .int (iZ yy), .int (iZ mo)]) ++ List.replicate (4 - (lg_sl ([.ref m0, .int (iZ ((pj : Nat) : Int)), .int (iZ yy), .int (iZ mo)])).length) Slot.unset).toArray = ls at hl ⊢
  have hl : lv_has ls 4 [(0, .ref m0), (1, .int (iZ ((pj : Nat) : Int))), (2, .int (iZ yy)), (3, .int (iZ mo))] := hl
  refine lv_aload_n hx hb dX3_putLeaf_0 rfl (lv_at hl 0 rfl) ?_
  refine va_get (D := (dC, dI)) (ci := 6) (v := .ref (r0 0 1)) (C := RX3) (T := TX3) (N := 6) hx hb hts (fun w h => List.mem_cons_of_mem _ (gF_2_in h)) hown hM.1 hP 0 rfl rfl 0 (by decide) (hts _ (List.mem_cons_of_mem _ mw1007)) (fun _ h9 => h9) rfl dX3_putLeaf_1 ?_
  refine lv_iload_n hx hb dX3_putLeaf_4 rfl (lv_at hl 1 rfl) ?_
  refine lv_iconst (v := iZ 2) hx hb dX3_putLeaf_5 rfl ?_
  refine kz_newI (N := 2) hx hb (hts _ (List.mem_cons_of_mem _ mw95)) hM.1 hP hD hS kAy_new (by decide) (Nat.le_of_ble_eq_true rfl) (Nat.le_of_ble_eq_true rfl) dX3_putLeaf_6 (fun v_1 H hP hD hS => ?_)
  have hP : va_P (dC, dI) vwCl (kY dA m0 r0 σ (th) ++ ([(v_1, .inl (dA 0, 2, .inl (fun _ => 0)))] : va_W)) _ := hP
  have hD : va_D (kAy m0 r0 s.heap.size) (kY dA m0 r0 σ (th) ++ ([(v_1, .inl (dA 0, 2, .inl (fun _ => 0)))] : va_W)) := hD
  refine lv_dup hx hb dX3_putLeaf_8 rfl ?_
  refine lv_iconst (v := iZ 0) hx hb dX3_putLeaf_9 rfl ?_
  refine lv_iload_n hx hb dX3_putLeaf_10 rfl (lv_at hl 2 rfl) ?_
  refine kz_iast hx hb hM.1 hP hD hS 17 rfl (by omega) (by decide) dX3_putLeaf_11 (fun H locs hP hD hS => ?_)
  have hP : va_P (dC, dI) vwCl (kY dA m0 r0 σ (th) ++ ([(v_1, .inl (dA 0, 2, .inl (upd (fun _ => 0) 0 (iZ yy))))] : va_W)) _ := hP
  have hD : va_D (kAy m0 r0 s.heap.size) (kY dA m0 r0 σ (th) ++ ([(v_1, .inl (dA 0, 2, .inl (upd (fun _ => 0) 0 (iZ yy))))] : va_W)) := hD
  refine lv_dup hx hb dX3_putLeaf_12 rfl ?_
  refine lv_iconst (v := iZ 1) hx hb dX3_putLeaf_13 rfl ?_
  refine lv_iload_n hx hb dX3_putLeaf_14 rfl (lv_at hl 3 rfl) ?_
  refine kz_iast hx hb hM.1 hP hD hS 17 rfl (by omega) (by decide) dX3_putLeaf_15 (fun H locs hP hD hS => ?_)
  have hP : va_P (dC, dI) vwCl (kY dA m0 r0 σ (th) ++ ([(v_1, .inl (dA 0, 2, .inl (upd (upd (fun _ => 0) 0 (iZ yy)) 1 (iZ mo))))] : va_W)) _ := hP
  have hD : va_D (kAy m0 r0 s.heap.size) (kY dA m0 r0 σ (th) ++ ([(v_1, .inl (dA 0, 2, .inl (upd (upd (fun _ => 0) 0 (iZ yy)) 1 (iZ mo))))] : va_W)) := hD
  have hf9 := kfreshY hD
  have hv9 : kAy m0 r0 s.heap.size v_1 := hD.2 17 _ rfl
  refine kz_aast hx hb hM.1 hM.2.2 hP hD hS 1 17 rfl rfl (by omega) (by decide) dX3_putLeaf_16 (fun H locs hP hD hS => ?_)
  have hP := kys_L (y1 := yy) (m1 := mo) hpj hP
  have hrA := kup_A (b := 1) (by decide) hpj hrA hv9
  have hr := kRI_up (b := 1) hr (by decide) hpj (hAN _ hv9) hf9
  have hD : va_D (kAy m0 r0 s.heap.size) (kY dA m0 (upN r0 1 pj v_1) (sU (sU (σ) 0 pj yy) 1 pj mo) (th) ++ ([] : va_W)) := by rw [← kap]; exact kYD_A hr hrA
  have hP : va_P (dC, dI) vwCl (kY dA m0 (upN r0 1 pj v_1) (sU (sU (σ) 0 pj yy) 1 pj mo) (th) ++ ([] : va_W)) _ := hP
  refine lv_aload_n hx hb dX3_putLeaf_17 rfl (lv_at hl 0 rfl) ?_
  refine lv_iload_n hx hb dX3_putLeaf_18 rfl (lv_at hl 1 rfl) ?_
  refine kc0 (fun _ q => q) (va_runV (As := [.int (iZ ((pj : Nat) : Int))]) (rest := []) ⟨hx, hb, hml, hown, hts⟩ (c_X3_lengthAt l dC dI dA k m0 (upN r0 1 pj v_1) (sU (sU (σ) 0 pj yy) 1 pj mo) (th) _ (va_Pl hP) hr (kOK_leaf hOK (j := pj) h0 h1) pj hpj) (cwV 1 hts (kg_V mw1043 mw1044 mw29 mw47 rfl mw1045) rfl rfl rfl hdV_X3_lengthAt ⟨Nat.le_of_ble_eq_true rfl, Nat.le_of_ble_eq_true rfl⟩) ⟨fun a U g mk q => ⟨q.1, q.2.1, kM_call q.2.2⟩, va_recv hM.1 hP (ci := 6) (q0 := 0) rfl rfl, fun U hU hW => ⟨rfl, hU, kM_kept hM hS hAN hU hW⟩⟩ rfl rfl hl.1 rfl (lv_room (Nat.le_of_ble_eq_true rfl)) dX3_putLeaf_19 ⟨Nat.le_of_ble_eq_true rfl, Nat.le_of_ble_eq_true rfl⟩) ?_
  refine W.widen (k := 1) (n := 2) (Nat.le_of_ble_eq_true rfl) (Nat.le_of_ble_eq_true rfl) ?_
  exact W.iret (v := iZ (mlen (leap ((sU (sU (σ) 0 pj yy) 1 pj mo) 0 pj)) ((sU (sU (σ) 0 pj yy) 1 pj mo) 1 pj))) hx hb hr9 (fun t ht hW => ⟨⟨congrArg (fun z : Int => Outcome.returned (some (Value.int (iZ z)))) (show (mlen (leap ((sU (sU (σ) 0 pj yy) 1 pj mo) 0 pj)) ((sU (sU (σ) 0 pj yy) 1 pj mo) 1 pj)) = (mlen (leap yy) mo) from by simp only [sU]; simp), gY_cast ⟨upN r0 1 pj v_1, hr, hrA, by rw [ht]; exact va_Pl hP⟩ (show (sU (sU (σ) 0 pj yy) 1 pj mo) = (sU (sU σ 0 pj yy) 1 pj mo) from by rfl) (show (th) = (th) from rfl)⟩, hS.F ht⟩) hS.2.2 dX3_putLeaf_22

theorem inb_cnt (cn : Int) : inb (cn / 12) (-999999999) 999999999 = inb cn (-11999999988) 11999999999 := by unfold inb; rw [decide_eq_decide]; omega
abbrev ww_X3_putCount : List Cond := .code yX3_putCount cX3_putCount 6 (some .int) :: gT
set_option maxHeartbeats 4000000 in
set_option maxRecDepth 100000 in
theorem c_X3_putCount (l : Launch) (dC : Nat → ClassId) (dI : Nat → Nat → Nat) (dA : Nat → ClassId) (k : Nat → Nat) (m0 : Nat) (r0 : Nat → Nat → Nat) (σ : Nat → Nat → Int) (th : Int) (H0 : Heap) (hP : va_P (dC, dI) vwCl (kY dA m0 r0 σ th) H0) (hr : kRI m0 r0 k) (hOK : kOK σ) (pj : Nat) (cn : Int) (hpj : pj < 4) (h0 : -9000000000000000000 ≤ cn ∧ cn ≤ 9000000000000000000) : Met l yX3_putCount ww_X3_putCount ({ frames := 5, cells := 1, slots := 2, locals := 109 }) (va_Pc [.ref m0, .int (iZ ((pj : Nat) : Int)), .long (lZ (cn))] (fun U => U.heap = H0 ∧ kM dC dI dA k U)) (kQ2 (some (.int (iZ (putLr cn)))) (gY dC dI dA k m0 r0 H0.size (putLs σ pj cn) (th)) (kAy m0 r0 H0.size)) 1 2 (kAy m0 r0 H0.size) := by
  refine Met.ofW (cc := cX3_putCount) (maxL := 6) (ret := (some .int)) (by decide) rfl ?_
  intro p e s m args below meth c s₁ B hml hv
  obtain ⟨rfl, hH, hM⟩ := hv
  subst hH
  have hr0 := hr
  have hAN : ∀ a, kAy m0 r0 s.heap.size a → k 0 ≤ a := fun a h => kAy_N hr0 hM.2.1.1 a h
  have hrA : ∀ i : Nat, i < 17 → kAy m0 r0 s.heap.size (kR m0 r0 i) := fun i hi => Or.inl ⟨i, hi, rfl⟩
  have hD : va_D (kAy m0 r0 s.heap.size) (kY dA m0 r0 σ (th) ++ ([] : va_W)) := by rw [← kap]; exact kYD_A hr hrA
  have hP : va_P (dC, dI) vwCl (kY dA m0 r0 σ (th) ++ ([] : va_W)) s.heap := hP
  have hS : va_S (kAy m0 r0 s.heap.size) s.heap s.heap [] := va_S.rf
  have o_pj := kOKr hOK hpj
  have hx := B.exec
  have hb := B.bytes
  have hr9 := B.returns
  have hts := atoms_spec (ws := ww_X3_putCount) B.pre
  have hown : s.vm.findClass RX3 = some m.cls := findClass_of_methodNamed B.named
  have hlocks := B.notSynchronized
  have hl := lv_entry ([.ref m0, .int (iZ ((pj : Nat) : Int)), .long (lZ (cn))]) (n := 6) (Nat.le_of_ble_eq_true rfl)
  rw [lg_entry_eq]
  generalize (lg_sl ([.ref m0, .int (iZ ((pj : Nat) : Int)), .long (lZ (cn))]) ++ List.replicate (6 - (lg_sl ([.ref m0, .int (iZ ((pj : Nat) : Int)), .long (lZ (cn))])).length) Slot.unset).toArray = ls at hl ⊢
  have hl : lv_has ls 6 [(0, .ref m0), (1, .int (iZ ((pj : Nat) : Int))), (2, .long (lZ (cn)))] := hl
  refine lv_lload_n hx hb dX3_putCount_0 rfl (lv_at hl 2 rfl) ?_
  refine lv_bipush (v := iZ 12) hx hb dX3_putCount_1 rfl ?_
  refine kc0 (fun _ q => q) (va_runS (As := [.long (lZ (cn)), .int (iZ 12)]) (rest := []) ⟨hx, hb, hml, hown, hts⟩ (c_X3_floor l _ (cn) (12) (by first | omega | (simp only [inb, Bool.not_eq_true', Bool.not_eq_false', decide_eq_true_eq, decide_eq_false_iff_not] at *; omega)) (by first | omega | (simp only [inb, Bool.not_eq_true', Bool.not_eq_false', decide_eq_true_eq, decide_eq_false_iff_not] at *; omega))) (va_cwS 2 hts (kg_S mw1079 mw1080 mw47 rfl mw1081) rfl rfl rfl hdS_X3_floor ⟨Nat.le_of_ble_eq_true rfl, Nat.le_of_ble_eq_true rfl⟩) ⟨fun a U g mk q => q, fun U hU hW => ⟨rfl, hU⟩⟩ rfl rfl hl.1 rfl (lv_room (Nat.le_of_ble_eq_true rfl)) dX3_putCount_3 ⟨Nat.le_of_ble_eq_true rfl, Nat.le_of_ble_eq_true rfl⟩) ?_
  refine lv_lstore (lv' := [(4, .long (lZ (((cn)) / ((12))))), (0, .ref m0), (1, .int (iZ ((pj : Nat) : Int))), (2, .long (lZ (cn)))]) hx hb dX3_putCount_6 hl (by decide) rfl (fun ls hl => ?_)
  refine lv_lload hx hb dX3_putCount_8 (lv_at hl 0 rfl) ?_
  refine kc0 (fun _ q => q) (va_runS (As := [.long (lZ (((cn)) / ((12))))]) (rest := []) ⟨hx, hb, hml, hown, hts⟩ (c_X3_isNoYear l _ ((((cn)) / ((12)))) (by first | omega | (simp only [inb, Bool.not_eq_true', Bool.not_eq_false', decide_eq_true_eq, decide_eq_false_iff_not] at *; omega))) (va_cwS 1 hts (kg_S mw1028 mw1029 mw47 rfl mw1030) rfl rfl rfl hdS_X3_isNoYear ⟨Nat.le_of_ble_eq_true rfl, Nat.le_of_ble_eq_true rfl⟩) ⟨fun a U g mk q => q, fun U hU hW => ⟨rfl, hU⟩⟩ rfl rfl hl.1 rfl (lv_room (Nat.le_of_ble_eq_true rfl)) dX3_putCount_10 ⟨Nat.le_of_ble_eq_true rfl, Nat.le_of_ble_eq_true rfl⟩) ?_
  refine kz_ifb_eq (tgt := 21) hx hb  dX3_putCount_13 (by decide) (fun c_1 => ?_) (fun c_1 => ?_)
  · refine lv_aload_n hx hb dX3_putCount_21 rfl (lv_at hl 1 rfl) ?_
    refine lv_iload_n hx hb dX3_putCount_22 rfl (lv_at hl 2 rfl) ?_
    refine lv_lload hx hb dX3_putCount_23 (lv_at hl 0 rfl) ?_
    refine kz_l2i hx hb dX3_putCount_25 ?_
    refine lv_iconst (v := iZ 1) hx hb dX3_putCount_26 rfl ?_
    refine lv_lload_n hx hb dX3_putCount_27 rfl (lv_at hl 3 rfl) ?_
    refine lv_bipush (v := iZ 12) hx hb dX3_putCount_28 rfl ?_
    refine kc0 (fun _ q => q) (va_runS (As := [.long (lZ (cn)), .int (iZ 12)]) (rest := [.int (iZ 1), .int (iZ (((cn)) / ((12)))), .int (iZ ((pj : Nat) : Int)), .ref m0]) ⟨hx, hb, hml, hown, hts⟩ (c_X3_rest l _ (cn) (12) (by first | omega | (simp only [inb, Bool.not_eq_true', Bool.not_eq_false', decide_eq_true_eq, decide_eq_false_iff_not] at *; omega)) (by first | omega | (simp only [inb, Bool.not_eq_true', Bool.not_eq_false', decide_eq_true_eq, decide_eq_false_iff_not] at *; omega))) (va_cwS 2 hts (kg_S mw1063 mw1064 mw47 rfl mw1065) rfl rfl rfl hdS_X3_rest ⟨Nat.le_of_ble_eq_true rfl, Nat.le_of_ble_eq_true rfl⟩) ⟨fun a U g mk q => q, fun U hU hW => ⟨rfl, hU⟩⟩ rfl rfl hl.1 rfl (lv_room (Nat.le_of_ble_eq_true rfl)) dX3_putCount_30 ⟨Nat.le_of_ble_eq_true rfl, Nat.le_of_ble_eq_true rfl⟩) ?_
    refine kz_iadd hx hb dX3_putCount_33 ?_
    refine kc2 (va_runV (As := [.int (iZ ((pj : Nat) : Int)), .int (iZ (((cn)) / ((12)))), .int (iZ (1 + (((cn)) % ((12)))))]) (rest := []) ⟨hx, hb, hml, hown, hts⟩ (c_X3_putLeaf l dC dI dA k m0 (r0) (σ) (th) _ (va_Pl hP) hr hOK pj ((((cn)) / ((12)))) ((1 + (((cn)) % ((12))))) hpj (by first | omega | (simp only [inb, Bool.not_eq_true', Bool.not_eq_false', decide_eq_true_eq, decide_eq_false_iff_not] at *; omega)) (by first | omega | (simp only [inb, Bool.not_eq_true', Bool.not_eq_false', decide_eq_true_eq, decide_eq_false_iff_not] at *; omega))) (cwV 3 hts (kg_V mw1040 mw1041 mw28 mw47 rfl mw1042) rfl rfl rfl hdV_X3_putLeaf ⟨Nat.le_of_ble_eq_true rfl, Nat.le_of_ble_eq_true rfl⟩) ⟨fun a U g mk q => ⟨q.1, q.2.1, kM_call q.2.2⟩, va_recv hM.1 hP (ci := 6) (q0 := 0) rfl rfl, fun U hU hW => ⟨rfl, hU, kM_kept hM hS hAN hU hW⟩⟩ rfl rfl hl.1 rfl (lv_room (Nat.le_of_ble_eq_true rfl)) dX3_putCount_34 ⟨Nat.le_of_ble_eq_true rfl, Nat.le_of_ble_eq_true rfl⟩) hS (fun a _ h => kAy_tr hrA hS.1 a h) (fun a h => kAy_tr hrA hS.1 a h) (fun H locs hG hz9 hk9 hS9 => ?_)
    obtain ⟨r_2, hr, hrA9, hP⟩ := hG
    have hrA := kAy_tr2 hrA hS.1 hrA9
    have hS := hS9
    have hP : va_P (dC, dI) vwCl (kY dA m0 r_2 (sU (sU σ 0 pj (((((cn)) / ((12)))))) 1 pj (((1 + (((cn)) % ((12))))))) (th) ++ ([] : va_W)) _ := hP
    have hD : va_D (kAy m0 r0 s.heap.size) (kY dA m0 r_2 (sU (sU σ 0 pj (((((cn)) / ((12)))))) 1 pj (((1 + (((cn)) % ((12))))))) (th) ++ ([] : va_W)) := by rw [← kap]; exact kYD_A hr hrA
    refine W.widen (k := 1) (n := 2) (Nat.le_of_ble_eq_true rfl) (Nat.le_of_ble_eq_true rfl) ?_
    exact W.iret (v := iZ (mlen (leap (((((cn)) / ((12)))))) (((1 + (((cn)) % ((12)))))))) hx hb hr9 (fun t ht hW => ⟨⟨congrArg (fun z : Int => Outcome.returned (some (Value.int (iZ z)))) (show (mlen (leap (((((cn)) / ((12)))))) (((1 + (((cn)) % ((12))))))) = (putLr cn) from by have e1 := inb_cnt cn; unfold putLr; first | (rw [if_pos (by simp_all)]; first | done | rfl) | (rw [if_neg (by simp_all)])), gY_cast ⟨r_2, hr, hrA, by rw [ht]; exact va_Pl hP⟩ (show (sU (sU σ 0 pj (((((cn)) / ((12)))))) 1 pj (((1 + (((cn)) % ((12))))))) = (putLs σ pj cn) from by have e1 := inb_cnt cn; unfold putLs; first | (rw [if_pos (by simp_all)]; first | done | rfl) | (rw [if_neg (by simp_all)])) (show (th) = (th) from rfl)⟩, hS.F ht⟩) hS.2.2 dX3_putCount_37
  · refine lv_bipush (v := iZ (-9)) hx hb dX3_putCount_16 rfl ?_
    refine lv_goto (tgt := 37) hx hb dX3_putCount_18 (by decide) ?_
    refine W.widen (k := 1) (n := 2) (Nat.le_of_ble_eq_true rfl) (Nat.le_of_ble_eq_true rfl) ?_
    exact W.iret (v := iZ ((-9))) hx hb hr9 (fun t ht hW => ⟨⟨congrArg (fun z : Int => Outcome.returned (some (Value.int (iZ z)))) (show ((-9)) = (putLr cn) from by have e1 := inb_cnt cn; unfold putLr; first | (rw [if_pos (by simp_all)]; first | done | rfl) | (rw [if_neg (by simp_all)])), gY_cast ⟨r0, hr, hrA, by rw [ht]; exact va_Pl hP⟩ (show (σ) = (putLs σ pj cn) from by have e1 := inb_cnt cn; unfold putLs; first | (rw [if_pos (by simp_all)]; first | done | rfl) | (rw [if_neg (by simp_all)])) (show (th) = (th) from rfl)⟩, hS.F ht⟩) hS.2.2 dX3_putCount_37

abbrev ww_X3_putYear : List Cond := .code yX3_putYear cX3_putYear 4 (some .int) :: gT
set_option maxHeartbeats 4000000 in
set_option maxRecDepth 100000 in
theorem c_X3_putYear (l : Launch) (dC : Nat → ClassId) (dI : Nat → Nat → Nat) (dA : Nat → ClassId) (k : Nat → Nat) (m0 : Nat) (r0 : Nat → Nat → Nat) (σ : Nat → Nat → Int) (th : Int) (H0 : Heap) (hP : va_P (dC, dI) vwCl (kY dA m0 r0 σ th) H0) (hr : kRI m0 r0 k) (hOK : kOK σ) (pj : Nat) (nn : Int) (hpj : pj < 4) (h0 : -9223372036854775808 ≤ nn ∧ nn < 9223372036854775808) : Met l yX3_putYear ww_X3_putYear ({ frames := 3, cells := 0, slots := 0, locals := 64 }) (va_Pc [.ref m0, .int (iZ ((pj : Nat) : Int)), .long (lZ (nn))] (fun U => U.heap = H0 ∧ kM dC dI dA k U)) (kQ2 (some (.int (iZ (putYr nn)))) (fun H => va_P (dC, dI) vwCl (kY dA m0 r0 (putYs σ pj nn) (th)) H) (kAy m0 r0 H0.size)) 0 0 (kAy m0 r0 H0.size) := by
  refine Met.ofW (cc := cX3_putYear) (maxL := 4) (ret := (some .int)) (by decide) rfl ?_
  intro p e s m args below meth c s₁ B hml hv
  obtain ⟨rfl, hH, hM⟩ := hv
  subst hH
  have hr0 := hr
  have hAN : ∀ a, kAy m0 r0 s.heap.size a → k 0 ≤ a := fun a h => kAy_N hr0 hM.2.1.1 a h
  have hrA : ∀ i : Nat, i < 17 → kAy m0 r0 s.heap.size (kR m0 r0 i) := fun i hi => Or.inl ⟨i, hi, rfl⟩
  have hD : va_D (kAy m0 r0 s.heap.size) (kY dA m0 r0 σ (th) ++ ([] : va_W)) := by rw [← kap]; exact kYD_A hr hrA
  have hP : va_P (dC, dI) vwCl (kY dA m0 r0 σ (th) ++ ([] : va_W)) s.heap := hP
  have hS : va_S (kAy m0 r0 s.heap.size) s.heap s.heap [] := va_S.rf
  have o_pj := kOKr hOK hpj
  have hx := B.exec
  have hb := B.bytes
  have hr9 := B.returns
  have hts := atoms_spec (ws := ww_X3_putYear) B.pre
  have hown : s.vm.findClass RX3 = some m.cls := findClass_of_methodNamed B.named
  have hlocks := B.notSynchronized
  have hl := lv_entry ([.ref m0, .int (iZ ((pj : Nat) : Int)), .long (lZ (nn))]) (n := 4) (Nat.le_of_ble_eq_true rfl)
  rw [lg_entry_eq]
  generalize (lg_sl ([.ref m0, .int (iZ ((pj : Nat) : Int)), .long (lZ (nn))]) ++ List.replicate (4 - (lg_sl ([.ref m0, .int (iZ ((pj : Nat) : Int)), .long (lZ (nn))])).length) Slot.unset).toArray = ls at hl ⊢
  have hl : lv_has ls 4 [(0, .ref m0), (1, .int (iZ ((pj : Nat) : Int))), (2, .long (lZ (nn)))] := hl
  refine lv_lload_n hx hb dX3_putYear_0 rfl (lv_at hl 2 rfl) ?_
  refine kc0 (fun _ q => q) (va_runS (As := [.long (lZ (nn))]) (rest := []) ⟨hx, hb, hml, hown, hts⟩ (c_X3_isNoYear l _ (nn) (by omega)) (va_cwS 1 hts (kg_S mw1028 mw1029 mw47 rfl mw1030) rfl rfl rfl hdS_X3_isNoYear ⟨Nat.le_of_ble_eq_true rfl, Nat.le_of_ble_eq_true rfl⟩) ⟨fun a U g mk q => q, fun U hU hW => ⟨rfl, hU⟩⟩ rfl rfl hl.1 rfl (lv_room (Nat.le_of_ble_eq_true rfl)) dX3_putYear_1 ⟨Nat.le_of_ble_eq_true rfl, Nat.le_of_ble_eq_true rfl⟩) ?_
  refine kz_ifb_eq (tgt := 10) hx hb  dX3_putYear_4 (by decide) (fun c_1 => ?_) (fun c_1 => ?_)
  · refine lv_aload_n hx hb dX3_putYear_10 rfl (lv_at hl 0 rfl) ?_
    refine va_get (D := (dC, dI)) (ci := 6) (v := .ref (r0 0 2)) (C := RX3) (T := TX3) (N := 6) hx hb hts (fun w h => List.mem_cons_of_mem _ (gF_2_in h)) hown hM.1 hP 0 rfl rfl 1 (by decide) (hts _ (List.mem_cons_of_mem _ mw1008)) (fun _ h9 => h9) rfl dX3_putYear_11 ?_
    refine lv_iload_n hx hb dX3_putYear_14 rfl (lv_at hl 1 rfl) ?_
    refine lv_lload_n hx hb dX3_putYear_15 rfl (lv_at hl 2 rfl) ?_
    refine kz_l2i hx hb dX3_putYear_16 ?_
    refine kz_iast hx hb hM.1 hP hD hS 2 rfl (by omega) (by decide) dX3_putYear_17 (fun H locs hP hD hS => ?_)
    have hP : va_P (dC, dI) vwCl (kY dA m0 r0 (sU (σ) 2 pj nn) (th) ++ ([] : va_W)) _ := kys_Y hP
    have hD : va_D (kAy m0 r0 s.heap.size) (kY dA m0 r0 (sU (σ) 2 pj nn) (th) ++ ([] : va_W)) := by rw [← kap]; exact kYD_A hr hrA
    refine lv_lload_n hx hb dX3_putYear_18 rfl (lv_at hl 2 rfl) ?_
    refine kc0 (fun _ q => q) (va_runS (As := [.long (lZ (nn))]) (rest := []) ⟨hx, hb, hml, hown, hts⟩ (c_X3_daysOf l _ (nn) (by omega)) (va_cwS 1 hts (kg_S mw1151 mw1152 mw47 rfl mw1153) rfl rfl rfl hdS_X3_daysOf ⟨Nat.le_of_ble_eq_true rfl, Nat.le_of_ble_eq_true rfl⟩) ⟨fun a U g mk q => q, fun U hU hW => ⟨rfl, hU⟩⟩ rfl rfl hl.1 rfl (lv_room (Nat.le_of_ble_eq_true rfl)) dX3_putYear_19 ⟨Nat.le_of_ble_eq_true rfl, Nat.le_of_ble_eq_true rfl⟩) ?_
    refine W.widen (k := 0) (n := 0) (Nat.le_of_ble_eq_true rfl) (Nat.le_of_ble_eq_true rfl) ?_
    exact W.iret (v := iZ (ylen ((nn)))) hx hb hr9 (fun t ht hW => ⟨⟨congrArg (fun z : Int => Outcome.returned (some (Value.int (iZ z)))) (show (ylen ((nn))) = (putYr nn) from by unfold putYr; simp only [Bool.not_eq_true', Bool.not_eq_false', *] at *; simp [*]), kYcast (by rw [ht]; exact va_Pl hP) (show (sU (σ) 2 pj nn) = (putYs σ pj nn) from by unfold putYs; simp only [Bool.not_eq_true', Bool.not_eq_false', *] at *; simp [*]) (show (th) = (th) from rfl)⟩, hS.F ht⟩) hS.2.2 dX3_putYear_22
  · refine lv_bipush (v := iZ (-9)) hx hb dX3_putYear_7 rfl ?_
    refine W.widen (k := 0) (n := 0) (Nat.le_of_ble_eq_true rfl) (Nat.le_of_ble_eq_true rfl) ?_
    exact W.iret (v := iZ ((-9))) hx hb hr9 (fun t ht hW => ⟨⟨congrArg (fun z : Int => Outcome.returned (some (Value.int (iZ z)))) (show ((-9)) = (putYr nn) from by unfold putYr; simp only [Bool.not_eq_true', Bool.not_eq_false', *] at *; simp [*]), kYcast (by rw [ht]; exact va_Pl hP) (show (σ) = (putYs σ pj nn) from by unfold putYs; simp only [Bool.not_eq_true', Bool.not_eq_false', *] at *; simp [*]) (show (th) = (th) from rfl)⟩, hS.F ht⟩) hS.2.2 dX3_putYear_9

abbrev ww_X3_isPutFeast : List Cond := .code yX3_isPutFeast cX3_isPutFeast 4 (some .boolean) :: gT
set_option maxHeartbeats 4000000 in
set_option maxRecDepth 100000 in
theorem c_X3_isPutFeast (l : Launch) (dC : Nat → ClassId) (dI : Nat → Nat → Nat) (dA : Nat → ClassId) (k : Nat → Nat) (m0 : Nat) (r0 : Nat → Nat → Nat) (σ : Nat → Nat → Int) (th : Int) (H0 : Heap) (hP : va_P (dC, dI) vwCl (kY dA m0 r0 σ th) H0) (hr : kRI m0 r0 k) (hOK : kOK σ) (pj : Nat) (mo : Int) (dd : Int) (hpj : pj < 4) (h0 : 1 ≤ mo ∧ mo ≤ 12) (h1 : -2147483648 ≤ dd ∧ dd < 2147483648) : Met l yX3_isPutFeast ww_X3_isPutFeast ({ frames := 3, cells := 1, slots := 2, locals := 65 }) (va_Pc [.ref m0, .int (iZ ((pj : Nat) : Int)), .int (iZ mo), .int (iZ dd)] (fun U => U.heap = H0 ∧ kM dC dI dA k U)) (kQ2 (some (.int (iZ (bZ (putFr mo dd))))) (gY dC dI dA k m0 r0 H0.size (putFs σ pj mo dd) (th)) (kAy m0 r0 H0.size)) 1 2 (kAy m0 r0 H0.size) := by
  refine Met.ofW (cc := cX3_isPutFeast) (maxL := 4) (ret := (some .boolean)) (by decide) rfl ?_
  intro p e s m args below meth c s₁ B hml hv
  obtain ⟨rfl, hH, hM⟩ := hv
  subst hH
  have hr0 := hr
  have hAN : ∀ a, kAy m0 r0 s.heap.size a → k 0 ≤ a := fun a h => kAy_N hr0 hM.2.1.1 a h
  have hrA : ∀ i : Nat, i < 17 → kAy m0 r0 s.heap.size (kR m0 r0 i) := fun i hi => Or.inl ⟨i, hi, rfl⟩
  have hD : va_D (kAy m0 r0 s.heap.size) (kY dA m0 r0 σ (th) ++ ([] : va_W)) := by rw [← kap]; exact kYD_A hr hrA
  have hP : va_P (dC, dI) vwCl (kY dA m0 r0 σ (th) ++ ([] : va_W)) s.heap := hP
  have hS : va_S (kAy m0 r0 s.heap.size) s.heap s.heap [] := va_S.rf
  have o_pj := kOKr hOK hpj
  have hx := B.exec
  have hb := B.bytes
  have hr9 := B.returns
  have hts := atoms_spec (ws := ww_X3_isPutFeast) B.pre
  have hown : s.vm.findClass RX3 = some m.cls := findClass_of_methodNamed B.named
  have hlocks := B.notSynchronized
  have hl := lv_entry ([.ref m0, .int (iZ ((pj : Nat) : Int)), .int (iZ mo), .int (iZ dd)]) (n := 4) (Nat.le_of_ble_eq_true rfl)
  rw [lg_entry_eq]
  generalize (lg_sl ([.ref m0, .int (iZ ((pj : Nat) : Int)), .int (iZ mo), .int (iZ dd)]) ++ List.replicate (4 - (lg_sl ([.ref m0, .int (iZ ((pj : Nat) : Int)), .int (iZ mo), .int (iZ dd)])).length) Slot.unset).toArray = ls at hl ⊢
  have hl : lv_has ls 4 [(0, .ref m0), (1, .int (iZ ((pj : Nat) : Int))), (2, .int (iZ mo)), (3, .int (iZ dd))] := hl
  refine lv_iload_n hx hb dX3_isPutFeast_0 rfl (lv_at hl 3 rfl) ?_
  refine lv_lconst (v := lZ 0) hx hb dX3_isPutFeast_1 rfl ?_
  refine lv_iload_n hx hb dX3_isPutFeast_2 rfl (lv_at hl 2 rfl) ?_
  refine kc0 (fun _ q => q) (va_runS (As := [.long (lZ (0)), .int (iZ mo)]) (rest := [.int (iZ dd)]) ⟨hx, hb, hml, hown, hts⟩ (c_X3_length l dC dI dA k _ (0) (mo) (by omega) (by omega)) (va_cwS 2 hts (kg_S mw1046 mw1047 mw47 rfl mw1048) rfl rfl rfl hdS_X3_length ⟨Nat.le_of_ble_eq_true rfl, Nat.le_of_ble_eq_true rfl⟩) ⟨fun a U g mk q => ⟨q.1, q.2.1, kM_call q.2.2⟩, fun U hU hW => ⟨rfl, hU, kM_kept hM hS hAN hU hW⟩⟩ rfl rfl hl.1 rfl (lv_room (Nat.le_of_ble_eq_true rfl)) dX3_isPutFeast_3 ⟨Nat.le_of_ble_eq_true rfl, Nat.le_of_ble_eq_true rfl⟩) ?_
  refine kz_icmp_le (tgt := 11) hx hb (by first | omega | (have := mlen_rng (leap 0) mo; omega)) (by first | omega | (have := mlen_rng (leap 0) mo; omega)) dX3_isPutFeast_6 (by decide) (fun c_1 => ?_) (fun c_1 => ?_)
  · refine lv_aload_n hx hb dX3_isPutFeast_11 rfl (lv_at hl 0 rfl) ?_
    refine va_get (D := (dC, dI)) (ci := 6) (v := .ref (r0 0 3)) (C := RX3) (T := TX3) (N := 6) hx hb hts (fun w h => List.mem_cons_of_mem _ (gF_2_in h)) hown hM.1 hP 0 rfl rfl 2 (by decide) (hts _ (List.mem_cons_of_mem _ mw1009)) (fun _ h9 => h9) rfl dX3_isPutFeast_12 ?_
    refine lv_iload_n hx hb dX3_isPutFeast_15 rfl (lv_at hl 1 rfl) ?_
    refine lv_iconst (v := iZ 2) hx hb dX3_isPutFeast_16 rfl ?_
    refine kz_newI (N := 2) hx hb (hts _ (List.mem_cons_of_mem _ mw95)) hM.1 hP hD hS kAy_new (by decide) (Nat.le_of_ble_eq_true rfl) (Nat.le_of_ble_eq_true rfl) dX3_isPutFeast_17 (fun v_2 H hP hD hS => ?_)
    have hP : va_P (dC, dI) vwCl (kY dA m0 r0 σ (th) ++ ([(v_2, .inl (dA 0, 2, .inl (fun _ => 0)))] : va_W)) _ := hP
    have hD : va_D (kAy m0 r0 s.heap.size) (kY dA m0 r0 σ (th) ++ ([(v_2, .inl (dA 0, 2, .inl (fun _ => 0)))] : va_W)) := hD
    refine lv_dup hx hb dX3_isPutFeast_19 rfl ?_
    refine lv_iconst (v := iZ 0) hx hb dX3_isPutFeast_20 rfl ?_
    refine lv_iload_n hx hb dX3_isPutFeast_21 rfl (lv_at hl 2 rfl) ?_
    refine kz_iast hx hb hM.1 hP hD hS 17 rfl (by omega) (by decide) dX3_isPutFeast_22 (fun H locs hP hD hS => ?_)
    have hP : va_P (dC, dI) vwCl (kY dA m0 r0 σ (th) ++ ([(v_2, .inl (dA 0, 2, .inl (upd (fun _ => 0) 0 (iZ mo))))] : va_W)) _ := hP
    have hD : va_D (kAy m0 r0 s.heap.size) (kY dA m0 r0 σ (th) ++ ([(v_2, .inl (dA 0, 2, .inl (upd (fun _ => 0) 0 (iZ mo))))] : va_W)) := hD
    refine lv_dup hx hb dX3_isPutFeast_23 rfl ?_
    refine lv_iconst (v := iZ 1) hx hb dX3_isPutFeast_24 rfl ?_
    refine lv_iload_n hx hb dX3_isPutFeast_25 rfl (lv_at hl 3 rfl) ?_
    refine kz_iast hx hb hM.1 hP hD hS 17 rfl (by omega) (by decide) dX3_isPutFeast_26 (fun H locs hP hD hS => ?_)
    have hP : va_P (dC, dI) vwCl (kY dA m0 r0 σ (th) ++ ([(v_2, .inl (dA 0, 2, .inl (upd (upd (fun _ => 0) 0 (iZ mo)) 1 (iZ dd))))] : va_W)) _ := hP
    have hD : va_D (kAy m0 r0 s.heap.size) (kY dA m0 r0 σ (th) ++ ([(v_2, .inl (dA 0, 2, .inl (upd (upd (fun _ => 0) 0 (iZ mo)) 1 (iZ dd))))] : va_W)) := hD
    have hf9 := kfreshY hD
    have hv9 : kAy m0 r0 s.heap.size v_2 := hD.2 17 _ rfl
    refine kz_aast hx hb hM.1 hM.2.2 hP hD hS 3 17 rfl rfl (by omega) (by decide) dX3_isPutFeast_27 (fun H locs hP hD hS => ?_)
    have hP := kys_F (y1 := mo) (m1 := dd) hpj hP
    have hrA := kup_A (b := 2) (by decide) hpj hrA hv9
    have hr := kRI_up (b := 2) hr (by decide) hpj (hAN _ hv9) hf9
    have hD : va_D (kAy m0 r0 s.heap.size) (kY dA m0 (upN r0 2 pj v_2) (sU (sU (σ) 3 pj mo) 4 pj dd) (th) ++ ([] : va_W)) := by rw [← kap]; exact kYD_A hr hrA
    have hP : va_P (dC, dI) vwCl (kY dA m0 (upN r0 2 pj v_2) (sU (sU (σ) 3 pj mo) 4 pj dd) (th) ++ ([] : va_W)) _ := hP
    refine lv_iconst (v := iZ 1) hx hb dX3_isPutFeast_28 rfl ?_
    refine W.widen (k := 1) (n := 2) (Nat.le_of_ble_eq_true rfl) (Nat.le_of_ble_eq_true rfl) ?_
    exact W.zret (v := iZ 1) (ty := .boolean) hx hb hr9 rfl (fun t ht hW => ⟨⟨congrArg (fun z : Int => Outcome.returned (some (Value.int (iZ z)))) (show 1 = (bZ (putFr mo dd)) from by unfold putFr; rw [show leap 0 = true from by decide] at *; exact bZ_d1 (by omega)), gY_cast ⟨upN r0 2 pj v_2, hr, hrA, by rw [ht]; exact va_Pl hP⟩ (show (sU (sU (σ) 3 pj mo) 4 pj dd) = (putFs σ pj mo dd) from by rw [show leap 0 = true from by decide] at *; unfold putFs putFr; rw [if_pos (by simp; omega)]) (show (th) = (th) from rfl)⟩, hS.F ht⟩) hS.2.2 dX3_isPutFeast_29
  · refine lv_iconst (v := iZ 0) hx hb dX3_isPutFeast_9 rfl ?_
    refine W.widen (k := 1) (n := 2) (Nat.le_of_ble_eq_true rfl) (Nat.le_of_ble_eq_true rfl) ?_
    exact W.zret (v := iZ 0) (ty := .boolean) hx hb hr9 rfl (fun t ht hW => ⟨⟨congrArg (fun z : Int => Outcome.returned (some (Value.int (iZ z)))) (show 0 = (bZ (putFr mo dd)) from by unfold putFr; rw [show leap 0 = true from by decide] at *; exact bZ_d0 (by omega)), gY_cast ⟨r0, hr, hrA, by rw [ht]; exact va_Pl hP⟩ (show (σ) = (putFs σ pj mo dd) from by rw [show leap 0 = true from by decide] at *; unfold putFs putFr; rw [if_neg (by simp; omega)]) (show (th) = (th) from rfl)⟩, hS.F ht⟩) hS.2.2 dX3_isPutFeast_10

abbrev ww_X3_putDay : List Cond := .code yX3_putDay cX3_putDay 5 none :: gT
set_option maxHeartbeats 4000000 in
set_option maxRecDepth 100000 in
theorem c_X3_putDay (l : Launch) (dC : Nat → ClassId) (dI : Nat → Nat → Nat) (dA : Nat → ClassId) (k : Nat → Nat) (m0 : Nat) (r0 : Nat → Nat → Nat) (σ : Nat → Nat → Int) (th : Int) (H0 : Heap) (hP : va_P (dC, dI) vwCl (kY dA m0 r0 σ th) H0) (hr : kRI m0 r0 k) (hOK : kOK σ) (pj : Nat) (yy : Int) (mo : Int) (dd : Int) (hpj : pj < 4) : Met l yX3_putDay ww_X3_putDay ({ frames := 0, cells := 1, slots := 3, locals := 0 }) (va_Pc [.ref m0, .int (iZ ((pj : Nat) : Int)), .int (iZ yy), .int (iZ mo), .int (iZ dd)] (fun U => U.heap = H0 ∧ kM dC dI dA k U)) (kQ2 (none) (gY dC dI dA k m0 r0 H0.size (setD σ pj yy mo dd) (th)) (kAy m0 r0 H0.size)) 1 3 (kAy m0 r0 H0.size) := by
  refine Met.ofW (cc := cX3_putDay) (maxL := 5) (ret := none) (by decide) rfl ?_
  intro p e s m args below meth c s₁ B hml hv
  obtain ⟨rfl, hH, hM⟩ := hv
  subst hH
  have hr0 := hr
  have hAN : ∀ a, kAy m0 r0 s.heap.size a → k 0 ≤ a := fun a h => kAy_N hr0 hM.2.1.1 a h
  have hrA : ∀ i : Nat, i < 17 → kAy m0 r0 s.heap.size (kR m0 r0 i) := fun i hi => Or.inl ⟨i, hi, rfl⟩
  have hD : va_D (kAy m0 r0 s.heap.size) (kY dA m0 r0 σ (th) ++ ([] : va_W)) := by rw [← kap]; exact kYD_A hr hrA
  have hP : va_P (dC, dI) vwCl (kY dA m0 r0 σ (th) ++ ([] : va_W)) s.heap := hP
  have hS : va_S (kAy m0 r0 s.heap.size) s.heap s.heap [] := va_S.rf
  have o_pj := kOKr hOK hpj
  have hx := B.exec
  have hb := B.bytes
  have hr9 := B.returns
  have hts := atoms_spec (ws := ww_X3_putDay) B.pre
  have hown : s.vm.findClass RX3 = some m.cls := findClass_of_methodNamed B.named
  have hlocks := B.notSynchronized
  have hl := lv_entry ([.ref m0, .int (iZ ((pj : Nat) : Int)), .int (iZ yy), .int (iZ mo), .int (iZ dd)]) (n := 5) (Nat.le_of_ble_eq_true rfl)
  rw [lg_entry_eq]
  generalize (lg_sl ([.ref m0, .int (iZ ((pj : Nat) : Int)), .int (iZ yy), .int (iZ mo), .int (iZ dd)]) ++ List.replicate (5 - (lg_sl ([.ref m0, .int (iZ ((pj : Nat) : Int)), .int (iZ yy), .int (iZ mo), .int (iZ dd)])).length) Slot.unset).toArray = ls at hl ⊢
  have hl : lv_has ls 5 [(0, .ref m0), (1, .int (iZ ((pj : Nat) : Int))), (2, .int (iZ yy)), (3, .int (iZ mo)), (4, .int (iZ dd))] := hl
  refine lv_aload_n hx hb dX3_putDay_0 rfl (lv_at hl 0 rfl) ?_
  refine va_get (D := (dC, dI)) (ci := 6) (v := .ref (r0 0 4)) (C := RX3) (T := TX3) (N := 6) hx hb hts (fun w h => List.mem_cons_of_mem _ (gF_2_in h)) hown hM.1 hP 0 rfl rfl 3 (by decide) (hts _ (List.mem_cons_of_mem _ mw1010)) (fun _ h9 => h9) rfl dX3_putDay_1 ?_
  refine lv_iload_n hx hb dX3_putDay_4 rfl (lv_at hl 1 rfl) ?_
  refine lv_iconst (v := iZ 3) hx hb dX3_putDay_5 rfl ?_
  refine kz_newI (N := 3) hx hb (hts _ (List.mem_cons_of_mem _ mw95)) hM.1 hP hD hS kAy_new (by decide) (Nat.le_of_ble_eq_true rfl) (Nat.le_of_ble_eq_true rfl) dX3_putDay_6 (fun v_1 H hP hD hS => ?_)
  have hP : va_P (dC, dI) vwCl (kY dA m0 r0 σ (th) ++ ([(v_1, .inl (dA 0, 3, .inl (fun _ => 0)))] : va_W)) _ := hP
  have hD : va_D (kAy m0 r0 s.heap.size) (kY dA m0 r0 σ (th) ++ ([(v_1, .inl (dA 0, 3, .inl (fun _ => 0)))] : va_W)) := hD
  refine lv_dup hx hb dX3_putDay_8 rfl ?_
  refine lv_iconst (v := iZ 0) hx hb dX3_putDay_9 rfl ?_
  refine lv_iload_n hx hb dX3_putDay_10 rfl (lv_at hl 2 rfl) ?_
  refine kz_iast hx hb hM.1 hP hD hS 17 rfl (by omega) (by decide) dX3_putDay_11 (fun H locs hP hD hS => ?_)
  have hP : va_P (dC, dI) vwCl (kY dA m0 r0 σ (th) ++ ([(v_1, .inl (dA 0, 3, .inl (upd (fun _ => 0) 0 (iZ yy))))] : va_W)) _ := hP
  have hD : va_D (kAy m0 r0 s.heap.size) (kY dA m0 r0 σ (th) ++ ([(v_1, .inl (dA 0, 3, .inl (upd (fun _ => 0) 0 (iZ yy))))] : va_W)) := hD
  refine lv_dup hx hb dX3_putDay_12 rfl ?_
  refine lv_iconst (v := iZ 1) hx hb dX3_putDay_13 rfl ?_
  refine lv_iload_n hx hb dX3_putDay_14 rfl (lv_at hl 3 rfl) ?_
  refine kz_iast hx hb hM.1 hP hD hS 17 rfl (by omega) (by decide) dX3_putDay_15 (fun H locs hP hD hS => ?_)
  have hP : va_P (dC, dI) vwCl (kY dA m0 r0 σ (th) ++ ([(v_1, .inl (dA 0, 3, .inl (upd (upd (fun _ => 0) 0 (iZ yy)) 1 (iZ mo))))] : va_W)) _ := hP
  have hD : va_D (kAy m0 r0 s.heap.size) (kY dA m0 r0 σ (th) ++ ([(v_1, .inl (dA 0, 3, .inl (upd (upd (fun _ => 0) 0 (iZ yy)) 1 (iZ mo))))] : va_W)) := hD
  refine lv_dup hx hb dX3_putDay_16 rfl ?_
  refine lv_iconst (v := iZ 2) hx hb dX3_putDay_17 rfl ?_
  refine lv_iload hx hb dX3_putDay_18 (lv_at hl 4 rfl) ?_
  refine kz_iast hx hb hM.1 hP hD hS 17 rfl (by omega) (by decide) dX3_putDay_20 (fun H locs hP hD hS => ?_)
  have hP : va_P (dC, dI) vwCl (kY dA m0 r0 σ (th) ++ ([(v_1, .inl (dA 0, 3, .inl (upd (upd (upd (fun _ => 0) 0 (iZ yy)) 1 (iZ mo)) 2 (iZ dd))))] : va_W)) _ := hP
  have hD : va_D (kAy m0 r0 s.heap.size) (kY dA m0 r0 σ (th) ++ ([(v_1, .inl (dA 0, 3, .inl (upd (upd (upd (fun _ => 0) 0 (iZ yy)) 1 (iZ mo)) 2 (iZ dd))))] : va_W)) := hD
  have hf9 := kfreshY hD
  have hv9 : kAy m0 r0 s.heap.size v_1 := hD.2 17 _ rfl
  refine kz_aast hx hb hM.1 hM.2.2 hP hD hS 4 17 rfl rfl (by omega) (by decide) dX3_putDay_21 (fun H locs hP hD hS => ?_)
  have hP := kys_D (y1 := yy) (m1 := mo) (d1 := dd) hpj hP
  have hrA := kup_A (b := 3) (by decide) hpj hrA hv9
  have hr := kRI_up (b := 3) hr (by decide) hpj (hAN _ hv9) hf9
  have hD : va_D (kAy m0 r0 s.heap.size) (kY dA m0 (upN r0 3 pj v_1) (sU (sU (sU (σ) 5 pj yy) 6 pj mo) 7 pj dd) (th) ++ ([] : va_W)) := by rw [← kap]; exact kYD_A hr hrA
  have hP : va_P (dC, dI) vwCl (kY dA m0 (upN r0 3 pj v_1) (sU (sU (sU (σ) 5 pj yy) 6 pj mo) 7 pj dd) (th) ++ ([] : va_W)) _ := hP
  refine W.widen (k := 1) (n := 3) (Nat.le_of_ble_eq_true rfl) (Nat.le_of_ble_eq_true rfl) ?_
  exact W.vret hx hb hr9 (fun t ht hW => ⟨⟨rfl, gY_cast ⟨upN r0 3 pj v_1, hr, hrA, by rw [ht]; exact va_Pl hP⟩ (show (sU (sU (sU (σ) 5 pj yy) 6 pj mo) 7 pj dd) = (setD σ pj yy mo dd) from by rfl) (show (th) = (th) from rfl)⟩, hS.F ht⟩) hS.2.2 dX3_putDay_22

