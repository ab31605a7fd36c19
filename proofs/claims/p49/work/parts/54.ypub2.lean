abbrev ww_X3_failsSame : List Cond := .code yX3_failsSame cX3_failsSame 4 (some .boolean) :: gT
set_option maxHeartbeats 4000000 in
set_option maxRecDepth 100000 in
theorem c_X3_failsSame (l : Launch) (dC : Nat → ClassId) (dI : Nat → Nat → Nat) (dA : Nat → ClassId) (k : Nat → Nat) (m0 : Nat) (r0 : Nat → Nat → Nat) (σ : Nat → Nat → Int) (th : Int) (H0 : Heap) (hP : va_P (dC, dI) vwCl (kY dA m0 r0 σ th) H0) (hr : kRI m0 r0 k) (hOK : kOK σ) (z1 : Int) (w0 : Int) (z2 : Int) (h0 : -2147483648 ≤ z1 ∧ z1 < 2147483648) (h1 : -2147483648 ≤ w0 ∧ w0 < 2147483648) (h2 : -2147483648 ≤ z2 ∧ z2 < 2147483648) : Met l yX3_failsSame ww_X3_failsSame ({ frames := 2, cells := 0, slots := 0, locals := 45 }) (va_Pc [.ref m0, .int (iZ z1), .int (iZ w0), .int (iZ z2)] (fun U => U.heap = H0 ∧ kM dC dI dA k U)) (kQ2 (some (.int (iZ (bZ (kf (!inb z1 0 3 || !inb z2 0 3) (!inb w0 0 4)))))) (fun H => va_P (dC, dI) vwCl (kY dA m0 r0 (σ) (ex2 (!inb z1 0 3 || !inb z2 0 3) (!inb w0 0 4))) H) (kAy m0 r0 H0.size)) 0 0 (kAy m0 r0 H0.size) := by
  refine Met.ofW (cc := cX3_failsSame) (maxL := 4) (ret := (some .boolean)) (by decide) rfl ?_
  intro p e s m args below meth c s₁ B hml hv
  obtain ⟨rfl, hH, hM⟩ := hv
  subst hH
  have hr0 := hr
  have hAN : ∀ a, kAy m0 r0 s.heap.size a → k 0 ≤ a := fun a h => kAy_N hr0 hM.2.1.1 a h
  have hrA : ∀ i : Nat, i < 17 → kAy m0 r0 s.heap.size (kR m0 r0 i) := fun i hi => Or.inl ⟨i, hi, rfl⟩
  have hD : va_D (kAy m0 r0 s.heap.size) (kY dA m0 r0 σ (th) ++ ([] : va_W)) := by rw [← kap]; exact kYD_A hr hrA
  have hP : va_P (dC, dI) vwCl (kY dA m0 r0 σ (th) ++ ([] : va_W)) s.heap := hP
  have hS : va_S (kAy m0 r0 s.heap.size) s.heap s.heap [] := va_S.rf
  have hx := B.exec
  have hb := B.bytes
  have hr9 := B.returns
  have hts := atoms_spec (ws := ww_X3_failsSame) B.pre
  have hown : s.vm.findClass RX3 = some m.cls := findClass_of_methodNamed B.named
  have hlocks := B.notSynchronized
  have hl := lv_entry ([.ref m0, .int (iZ z1), .int (iZ w0), .int (iZ z2)]) (n := 4) (Nat.le_of_ble_eq_true rfl)
  rw [lg_entry_eq]
  generalize (lg_sl ([.ref m0, .int (iZ z1), .int (iZ w0), .int (iZ z2)]) ++ List.replicate (4 - (lg_sl ([.ref m0, .int (iZ z1), .int (iZ w0), .int (iZ z2)])).length) Slot.unset).toArray = ls at hl ⊢
  have hl : lv_has ls 4 [(0, .ref m0), (1, .int (iZ z1)), (2, .int (iZ w0)), (3, .int (iZ z2))] := hl
  refine lv_aload_n hx hb dX3_failsSame_0 rfl (lv_at hl 0 rfl) ?_
  refine lv_iload_n hx hb dX3_failsSame_1 rfl (lv_at hl 1 rfl) ?_
  refine kc0 (fun _ q => q) (va_runS (As := [.int (iZ z1)]) (rest := [.ref m0]) ⟨hx, hb, hml, hown, hts⟩ (c_X3_isNo l _ (z1) (by omega)) (va_cwS 1 hts (kg_S mw1021 mw1022 mw47 rfl mw1023) rfl rfl rfl hdS_X3_isNo ⟨Nat.le_of_ble_eq_true rfl, Nat.le_of_ble_eq_true rfl⟩) ⟨fun a U g mk q => q, fun U hU hW => ⟨rfl, hU⟩⟩ rfl rfl hl.1 rfl (lv_room (Nat.le_of_ble_eq_true rfl)) dX3_failsSame_2 ⟨Nat.le_of_ble_eq_true rfl, Nat.le_of_ble_eq_true rfl⟩) ?_
  refine kz_ifb_ne (tgt := 15) hx hb  dX3_failsSame_5 (by decide) (fun c_1 => ?_) (fun c_1 => ?_)
  · refine lv_iconst (v := iZ 1) hx hb dX3_failsSame_15 rfl ?_
    refine lv_goto (tgt := 20) hx hb dX3_failsSame_16 (by decide) ?_
    refine lv_iload_n hx hb dX3_failsSame_20 rfl (lv_at hl 2 rfl) ?_
    refine kz_i2l hx hb (by omega) dX3_failsSame_21 ?_
    refine lv_lconst (v := lZ 0) hx hb dX3_failsSame_22 rfl ?_
    refine lv_ldc2 (v := lZ 4) hx hb hown (hts _ (List.mem_cons_of_mem _ mw1090)) dX3_failsSame_23 ?_
    refine kc0 (fun _ q => q) (va_runS (As := [.long (lZ (w0)), .long (lZ (0)), .long (lZ (4))]) (rest := [.int (iZ 1), .ref m0]) ⟨hx, hb, hml, hown, hts⟩ (c_X3_isIn l _ (w0) (0) (4) (by omega) (by omega) (by omega)) (va_cwS 3 hts (kg_S mw1025 mw1026 mw47 rfl mw1027) rfl rfl rfl hdS_X3_isIn ⟨Nat.le_of_ble_eq_true rfl, Nat.le_of_ble_eq_true rfl⟩) ⟨fun a U g mk q => q, fun U hU hW => ⟨rfl, hU⟩⟩ rfl rfl hl.1 rfl (lv_room (Nat.le_of_ble_eq_true rfl)) dX3_failsSame_26 ⟨Nat.le_of_ble_eq_true rfl, Nat.le_of_ble_eq_true rfl⟩) ?_
    refine kz_ifb_ne (tgt := 36) hx hb  dX3_failsSame_29 (by decide) (fun c_2 => ?_) (fun c_2 => ?_)
    · refine lv_iconst (v := iZ 0) hx hb dX3_failsSame_36 rfl ?_
      refine kc2 (va_runV (As := [.int (iZ (bZ true)), .int (iZ (bZ false))]) (rest := []) ⟨hx, hb, hml, hown, hts⟩ (c_X3_fails l dC dI dA k m0 (r0) (σ) (th) _ (va_Pl hP) hr hOK true false ) (cwV 2 hts (kg_V mw1037 mw1038 mw27 mw47 rfl mw1039) rfl rfl rfl hdV_X3_fails ⟨Nat.le_of_ble_eq_true rfl, Nat.le_of_ble_eq_true rfl⟩) ⟨fun a U g mk q => ⟨q.1, q.2.1, kM_call q.2.2⟩, va_recv hM.1 hP (ci := 6) (q0 := 0) rfl rfl, fun U hU hW => ⟨rfl, hU, kM_kept hM hS hAN hU hW⟩⟩ rfl rfl hl.1 rfl (lv_room (Nat.le_of_ble_eq_true rfl)) dX3_failsSame_37 ⟨Nat.le_of_ble_eq_true rfl, Nat.le_of_ble_eq_true rfl⟩) hS (fun a _ h => kAy_tr hrA hS.1 a h) (fun a h => kAy_tr hrA hS.1 a h) (fun H locs hP9 hz9 hk9 hS => ?_)
      have hP : va_P (dC, dI) vwCl (kY dA m0 r0 σ (ex2 true false) ++ ([] : va_W)) _ := hP9
      have hD : va_D (kAy m0 r0 s.heap.size) (kY dA m0 r0 σ (ex2 true false) ++ ([] : va_W)) := by rw [← kap]; exact kYD_A hr hrA
      refine W.widen (k := 0) (n := 0) (Nat.le_of_ble_eq_true rfl) (Nat.le_of_ble_eq_true rfl) ?_
      exact W.zret (v := iZ (bZ (kf true false))) (ty := .boolean) hx hb hr9 (by cases (kf true false) <;> rfl) (fun t ht hW => ⟨⟨congrArg (fun z : Int => Outcome.returned (some (Value.int (iZ z)))) (show (bZ (kf true false)) = (bZ (kf (!inb z1 0 3 || !inb z2 0 3) (!inb w0 0 4))) from by simp only [*, Bool.true_or, Bool.or_true, Bool.false_or, Bool.or_false, Bool.not_true, Bool.not_false]), kYcast (by rw [ht]; exact va_Pl hP) (show (σ) = (σ) from rfl) (show (ex2 true false) = (ex2 (!inb z1 0 3 || !inb z2 0 3) (!inb w0 0 4)) from by simp only [*, Bool.true_or, Bool.or_true, Bool.false_or, Bool.or_false, Bool.not_true, Bool.not_false])⟩, hS.F ht⟩) hS.2.2 dX3_failsSame_40
    · refine lv_iconst (v := iZ 1) hx hb dX3_failsSame_32 rfl ?_
      refine lv_goto (tgt := 37) hx hb dX3_failsSame_33 (by decide) ?_
      refine kc2 (va_runV (As := [.int (iZ (bZ true)), .int (iZ (bZ true))]) (rest := []) ⟨hx, hb, hml, hown, hts⟩ (c_X3_fails l dC dI dA k m0 (r0) (σ) (th) _ (va_Pl hP) hr hOK true true ) (cwV 2 hts (kg_V mw1037 mw1038 mw27 mw47 rfl mw1039) rfl rfl rfl hdV_X3_fails ⟨Nat.le_of_ble_eq_true rfl, Nat.le_of_ble_eq_true rfl⟩) ⟨fun a U g mk q => ⟨q.1, q.2.1, kM_call q.2.2⟩, va_recv hM.1 hP (ci := 6) (q0 := 0) rfl rfl, fun U hU hW => ⟨rfl, hU, kM_kept hM hS hAN hU hW⟩⟩ rfl rfl hl.1 rfl (lv_room (Nat.le_of_ble_eq_true rfl)) dX3_failsSame_37 ⟨Nat.le_of_ble_eq_true rfl, Nat.le_of_ble_eq_true rfl⟩) hS (fun a _ h => kAy_tr hrA hS.1 a h) (fun a h => kAy_tr hrA hS.1 a h) (fun H locs hP9 hz9 hk9 hS => ?_)
      have hP : va_P (dC, dI) vwCl (kY dA m0 r0 σ (ex2 true true) ++ ([] : va_W)) _ := hP9
      have hD : va_D (kAy m0 r0 s.heap.size) (kY dA m0 r0 σ (ex2 true true) ++ ([] : va_W)) := by rw [← kap]; exact kYD_A hr hrA
      refine W.widen (k := 0) (n := 0) (Nat.le_of_ble_eq_true rfl) (Nat.le_of_ble_eq_true rfl) ?_
      exact W.zret (v := iZ (bZ (kf true true))) (ty := .boolean) hx hb hr9 (by cases (kf true true) <;> rfl) (fun t ht hW => ⟨⟨congrArg (fun z : Int => Outcome.returned (some (Value.int (iZ z)))) (show (bZ (kf true true)) = (bZ (kf (!inb z1 0 3 || !inb z2 0 3) (!inb w0 0 4))) from by simp only [*, Bool.true_or, Bool.or_true, Bool.false_or, Bool.or_false, Bool.not_true, Bool.not_false]), kYcast (by rw [ht]; exact va_Pl hP) (show (σ) = (σ) from rfl) (show (ex2 true true) = (ex2 (!inb z1 0 3 || !inb z2 0 3) (!inb w0 0 4)) from by simp only [*, Bool.true_or, Bool.or_true, Bool.false_or, Bool.or_false, Bool.not_true, Bool.not_false])⟩, hS.F ht⟩) hS.2.2 dX3_failsSame_40
  · refine lv_iload_n hx hb dX3_failsSame_8 rfl (lv_at hl 3 rfl) ?_
    refine kc0 (fun _ q => q) (va_runS (As := [.int (iZ z2)]) (rest := [.ref m0]) ⟨hx, hb, hml, hown, hts⟩ (c_X3_isNo l _ (z2) (by omega)) (va_cwS 1 hts (kg_S mw1021 mw1022 mw47 rfl mw1023) rfl rfl rfl hdS_X3_isNo ⟨Nat.le_of_ble_eq_true rfl, Nat.le_of_ble_eq_true rfl⟩) ⟨fun a U g mk q => q, fun U hU hW => ⟨rfl, hU⟩⟩ rfl rfl hl.1 rfl (lv_room (Nat.le_of_ble_eq_true rfl)) dX3_failsSame_9 ⟨Nat.le_of_ble_eq_true rfl, Nat.le_of_ble_eq_true rfl⟩) ?_
    refine kz_ifb_eq (tgt := 19) hx hb  dX3_failsSame_12 (by decide) (fun c_3 => ?_) (fun c_3 => ?_)
    · refine lv_iconst (v := iZ 0) hx hb dX3_failsSame_19 rfl ?_
      refine lv_iload_n hx hb dX3_failsSame_20 rfl (lv_at hl 2 rfl) ?_
      refine kz_i2l hx hb (by omega) dX3_failsSame_21 ?_
      refine lv_lconst (v := lZ 0) hx hb dX3_failsSame_22 rfl ?_
      refine lv_ldc2 (v := lZ 4) hx hb hown (hts _ (List.mem_cons_of_mem _ mw1090)) dX3_failsSame_23 ?_
      refine kc0 (fun _ q => q) (va_runS (As := [.long (lZ (w0)), .long (lZ (0)), .long (lZ (4))]) (rest := [.int (iZ 0), .ref m0]) ⟨hx, hb, hml, hown, hts⟩ (c_X3_isIn l _ (w0) (0) (4) (by omega) (by omega) (by omega)) (va_cwS 3 hts (kg_S mw1025 mw1026 mw47 rfl mw1027) rfl rfl rfl hdS_X3_isIn ⟨Nat.le_of_ble_eq_true rfl, Nat.le_of_ble_eq_true rfl⟩) ⟨fun a U g mk q => q, fun U hU hW => ⟨rfl, hU⟩⟩ rfl rfl hl.1 rfl (lv_room (Nat.le_of_ble_eq_true rfl)) dX3_failsSame_26 ⟨Nat.le_of_ble_eq_true rfl, Nat.le_of_ble_eq_true rfl⟩) ?_
      refine kz_ifb_ne (tgt := 36) hx hb  dX3_failsSame_29 (by decide) (fun c_4 => ?_) (fun c_4 => ?_)
      · refine lv_iconst (v := iZ 0) hx hb dX3_failsSame_36 rfl ?_
        refine kc2 (va_runV (As := [.int (iZ (bZ false)), .int (iZ (bZ false))]) (rest := []) ⟨hx, hb, hml, hown, hts⟩ (c_X3_fails l dC dI dA k m0 (r0) (σ) (th) _ (va_Pl hP) hr hOK false false ) (cwV 2 hts (kg_V mw1037 mw1038 mw27 mw47 rfl mw1039) rfl rfl rfl hdV_X3_fails ⟨Nat.le_of_ble_eq_true rfl, Nat.le_of_ble_eq_true rfl⟩) ⟨fun a U g mk q => ⟨q.1, q.2.1, kM_call q.2.2⟩, va_recv hM.1 hP (ci := 6) (q0 := 0) rfl rfl, fun U hU hW => ⟨rfl, hU, kM_kept hM hS hAN hU hW⟩⟩ rfl rfl hl.1 rfl (lv_room (Nat.le_of_ble_eq_true rfl)) dX3_failsSame_37 ⟨Nat.le_of_ble_eq_true rfl, Nat.le_of_ble_eq_true rfl⟩) hS (fun a _ h => kAy_tr hrA hS.1 a h) (fun a h => kAy_tr hrA hS.1 a h) (fun H locs hP9 hz9 hk9 hS => ?_)
        have hP : va_P (dC, dI) vwCl (kY dA m0 r0 σ (ex2 false false) ++ ([] : va_W)) _ := hP9
        have hD : va_D (kAy m0 r0 s.heap.size) (kY dA m0 r0 σ (ex2 false false) ++ ([] : va_W)) := by rw [← kap]; exact kYD_A hr hrA
        refine W.widen (k := 0) (n := 0) (Nat.le_of_ble_eq_true rfl) (Nat.le_of_ble_eq_true rfl) ?_
        exact W.zret (v := iZ (bZ (kf false false))) (ty := .boolean) hx hb hr9 (by cases (kf false false) <;> rfl) (fun t ht hW => ⟨⟨congrArg (fun z : Int => Outcome.returned (some (Value.int (iZ z)))) (show (bZ (kf false false)) = (bZ (kf (!inb z1 0 3 || !inb z2 0 3) (!inb w0 0 4))) from by simp only [*, Bool.true_or, Bool.or_true, Bool.false_or, Bool.or_false, Bool.not_true, Bool.not_false]), kYcast (by rw [ht]; exact va_Pl hP) (show (σ) = (σ) from rfl) (show (ex2 false false) = (ex2 (!inb z1 0 3 || !inb z2 0 3) (!inb w0 0 4)) from by simp only [*, Bool.true_or, Bool.or_true, Bool.false_or, Bool.or_false, Bool.not_true, Bool.not_false])⟩, hS.F ht⟩) hS.2.2 dX3_failsSame_40
      · refine lv_iconst (v := iZ 1) hx hb dX3_failsSame_32 rfl ?_
        refine lv_goto (tgt := 37) hx hb dX3_failsSame_33 (by decide) ?_
        refine kc2 (va_runV (As := [.int (iZ (bZ false)), .int (iZ (bZ true))]) (rest := []) ⟨hx, hb, hml, hown, hts⟩ (c_X3_fails l dC dI dA k m0 (r0) (σ) (th) _ (va_Pl hP) hr hOK false true ) (cwV 2 hts (kg_V mw1037 mw1038 mw27 mw47 rfl mw1039) rfl rfl rfl hdV_X3_fails ⟨Nat.le_of_ble_eq_true rfl, Nat.le_of_ble_eq_true rfl⟩) ⟨fun a U g mk q => ⟨q.1, q.2.1, kM_call q.2.2⟩, va_recv hM.1 hP (ci := 6) (q0 := 0) rfl rfl, fun U hU hW => ⟨rfl, hU, kM_kept hM hS hAN hU hW⟩⟩ rfl rfl hl.1 rfl (lv_room (Nat.le_of_ble_eq_true rfl)) dX3_failsSame_37 ⟨Nat.le_of_ble_eq_true rfl, Nat.le_of_ble_eq_true rfl⟩) hS (fun a _ h => kAy_tr hrA hS.1 a h) (fun a h => kAy_tr hrA hS.1 a h) (fun H locs hP9 hz9 hk9 hS => ?_)
        have hP : va_P (dC, dI) vwCl (kY dA m0 r0 σ (ex2 false true) ++ ([] : va_W)) _ := hP9
        have hD : va_D (kAy m0 r0 s.heap.size) (kY dA m0 r0 σ (ex2 false true) ++ ([] : va_W)) := by rw [← kap]; exact kYD_A hr hrA
        refine W.widen (k := 0) (n := 0) (Nat.le_of_ble_eq_true rfl) (Nat.le_of_ble_eq_true rfl) ?_
        exact W.zret (v := iZ (bZ (kf false true))) (ty := .boolean) hx hb hr9 (by cases (kf false true) <;> rfl) (fun t ht hW => ⟨⟨congrArg (fun z : Int => Outcome.returned (some (Value.int (iZ z)))) (show (bZ (kf false true)) = (bZ (kf (!inb z1 0 3 || !inb z2 0 3) (!inb w0 0 4))) from by simp only [*, Bool.true_or, Bool.or_true, Bool.false_or, Bool.or_false, Bool.not_true, Bool.not_false]), kYcast (by rw [ht]; exact va_Pl hP) (show (σ) = (σ) from rfl) (show (ex2 false true) = (ex2 (!inb z1 0 3 || !inb z2 0 3) (!inb w0 0 4)) from by simp only [*, Bool.true_or, Bool.or_true, Bool.false_or, Bool.or_false, Bool.not_true, Bool.not_false])⟩, hS.F ht⟩) hS.2.2 dX3_failsSame_40
    · refine lv_iconst (v := iZ 1) hx hb dX3_failsSame_15 rfl ?_
      refine lv_goto (tgt := 20) hx hb dX3_failsSame_16 (by decide) ?_
      refine lv_iload_n hx hb dX3_failsSame_20 rfl (lv_at hl 2 rfl) ?_
      refine kz_i2l hx hb (by omega) dX3_failsSame_21 ?_
      refine lv_lconst (v := lZ 0) hx hb dX3_failsSame_22 rfl ?_
      refine lv_ldc2 (v := lZ 4) hx hb hown (hts _ (List.mem_cons_of_mem _ mw1090)) dX3_failsSame_23 ?_
      refine kc0 (fun _ q => q) (va_runS (As := [.long (lZ (w0)), .long (lZ (0)), .long (lZ (4))]) (rest := [.int (iZ 1), .ref m0]) ⟨hx, hb, hml, hown, hts⟩ (c_X3_isIn l _ (w0) (0) (4) (by omega) (by omega) (by omega)) (va_cwS 3 hts (kg_S mw1025 mw1026 mw47 rfl mw1027) rfl rfl rfl hdS_X3_isIn ⟨Nat.le_of_ble_eq_true rfl, Nat.le_of_ble_eq_true rfl⟩) ⟨fun a U g mk q => q, fun U hU hW => ⟨rfl, hU⟩⟩ rfl rfl hl.1 rfl (lv_room (Nat.le_of_ble_eq_true rfl)) dX3_failsSame_26 ⟨Nat.le_of_ble_eq_true rfl, Nat.le_of_ble_eq_true rfl⟩) ?_
      refine kz_ifb_ne (tgt := 36) hx hb  dX3_failsSame_29 (by decide) (fun c_5 => ?_) (fun c_5 => ?_)
      · refine lv_iconst (v := iZ 0) hx hb dX3_failsSame_36 rfl ?_
        refine kc2 (va_runV (As := [.int (iZ (bZ true)), .int (iZ (bZ false))]) (rest := []) ⟨hx, hb, hml, hown, hts⟩ (c_X3_fails l dC dI dA k m0 (r0) (σ) (th) _ (va_Pl hP) hr hOK true false ) (cwV 2 hts (kg_V mw1037 mw1038 mw27 mw47 rfl mw1039) rfl rfl rfl hdV_X3_fails ⟨Nat.le_of_ble_eq_true rfl, Nat.le_of_ble_eq_true rfl⟩) ⟨fun a U g mk q => ⟨q.1, q.2.1, kM_call q.2.2⟩, va_recv hM.1 hP (ci := 6) (q0 := 0) rfl rfl, fun U hU hW => ⟨rfl, hU, kM_kept hM hS hAN hU hW⟩⟩ rfl rfl hl.1 rfl (lv_room (Nat.le_of_ble_eq_true rfl)) dX3_failsSame_37 ⟨Nat.le_of_ble_eq_true rfl, Nat.le_of_ble_eq_true rfl⟩) hS (fun a _ h => kAy_tr hrA hS.1 a h) (fun a h => kAy_tr hrA hS.1 a h) (fun H locs hP9 hz9 hk9 hS => ?_)
        have hP : va_P (dC, dI) vwCl (kY dA m0 r0 σ (ex2 true false) ++ ([] : va_W)) _ := hP9
        have hD : va_D (kAy m0 r0 s.heap.size) (kY dA m0 r0 σ (ex2 true false) ++ ([] : va_W)) := by rw [← kap]; exact kYD_A hr hrA
        refine W.widen (k := 0) (n := 0) (Nat.le_of_ble_eq_true rfl) (Nat.le_of_ble_eq_true rfl) ?_
        exact W.zret (v := iZ (bZ (kf true false))) (ty := .boolean) hx hb hr9 (by cases (kf true false) <;> rfl) (fun t ht hW => ⟨⟨congrArg (fun z : Int => Outcome.returned (some (Value.int (iZ z)))) (show (bZ (kf true false)) = (bZ (kf (!inb z1 0 3 || !inb z2 0 3) (!inb w0 0 4))) from by simp only [*, Bool.true_or, Bool.or_true, Bool.false_or, Bool.or_false, Bool.not_true, Bool.not_false]), kYcast (by rw [ht]; exact va_Pl hP) (show (σ) = (σ) from rfl) (show (ex2 true false) = (ex2 (!inb z1 0 3 || !inb z2 0 3) (!inb w0 0 4)) from by simp only [*, Bool.true_or, Bool.or_true, Bool.false_or, Bool.or_false, Bool.not_true, Bool.not_false])⟩, hS.F ht⟩) hS.2.2 dX3_failsSame_40
      · refine lv_iconst (v := iZ 1) hx hb dX3_failsSame_32 rfl ?_
        refine lv_goto (tgt := 37) hx hb dX3_failsSame_33 (by decide) ?_
        refine kc2 (va_runV (As := [.int (iZ (bZ true)), .int (iZ (bZ true))]) (rest := []) ⟨hx, hb, hml, hown, hts⟩ (c_X3_fails l dC dI dA k m0 (r0) (σ) (th) _ (va_Pl hP) hr hOK true true ) (cwV 2 hts (kg_V mw1037 mw1038 mw27 mw47 rfl mw1039) rfl rfl rfl hdV_X3_fails ⟨Nat.le_of_ble_eq_true rfl, Nat.le_of_ble_eq_true rfl⟩) ⟨fun a U g mk q => ⟨q.1, q.2.1, kM_call q.2.2⟩, va_recv hM.1 hP (ci := 6) (q0 := 0) rfl rfl, fun U hU hW => ⟨rfl, hU, kM_kept hM hS hAN hU hW⟩⟩ rfl rfl hl.1 rfl (lv_room (Nat.le_of_ble_eq_true rfl)) dX3_failsSame_37 ⟨Nat.le_of_ble_eq_true rfl, Nat.le_of_ble_eq_true rfl⟩) hS (fun a _ h => kAy_tr hrA hS.1 a h) (fun a h => kAy_tr hrA hS.1 a h) (fun H locs hP9 hz9 hk9 hS => ?_)
        have hP : va_P (dC, dI) vwCl (kY dA m0 r0 σ (ex2 true true) ++ ([] : va_W)) _ := hP9
        have hD : va_D (kAy m0 r0 s.heap.size) (kY dA m0 r0 σ (ex2 true true) ++ ([] : va_W)) := by rw [← kap]; exact kYD_A hr hrA
        refine W.widen (k := 0) (n := 0) (Nat.le_of_ble_eq_true rfl) (Nat.le_of_ble_eq_true rfl) ?_
        exact W.zret (v := iZ (bZ (kf true true))) (ty := .boolean) hx hb hr9 (by cases (kf true true) <;> rfl) (fun t ht hW => ⟨⟨congrArg (fun z : Int => Outcome.returned (some (Value.int (iZ z)))) (show (bZ (kf true true)) = (bZ (kf (!inb z1 0 3 || !inb z2 0 3) (!inb w0 0 4))) from by simp only [*, Bool.true_or, Bool.or_true, Bool.false_or, Bool.or_false, Bool.not_true, Bool.not_false]), kYcast (by rw [ht]; exact va_Pl hP) (show (σ) = (σ) from rfl) (show (ex2 true true) = (ex2 (!inb z1 0 3 || !inb z2 0 3) (!inb w0 0 4)) from by simp only [*, Bool.true_or, Bool.or_true, Bool.false_or, Bool.or_false, Bool.not_true, Bool.not_false])⟩, hS.F ht⟩) hS.2.2 dX3_failsSame_40

abbrev ww_X3_leafLike : List Cond := .code yX3_leafLike cX3_leafLike 4 (some .int) :: gT
set_option maxHeartbeats 4000000 in
set_option maxRecDepth 100000 in
theorem c_X3_leafLike (l : Launch) (dC : Nat → ClassId) (dI : Nat → Nat → Nat) (dA : Nat → ClassId) (k : Nat → Nat) (m0 : Nat) (r0 : Nat → Nat → Nat) (σ : Nat → Nat → Int) (th : Int) (H0 : Heap) (hP : va_P (dC, dI) vwCl (kY dA m0 r0 σ th) H0) (hr : kRI m0 r0 k) (hOK : kOK σ) (z1 : Int) (z2 : Int) (rz1 : -2147483648 ≤ z1 ∧ z1 < 2147483648) (rz2 : -2147483648 ≤ z2 ∧ z2 < 2147483648) : Met l yX3_leafLike ww_X3_leafLike ({ frames := 5, cells := 1, slots := 2, locals := 109 }) (va_Pc [.ref m0, .int (iZ z1), .int (iZ z2)] (fun U => U.heap = H0 ∧ kM dC dI dA k U)) (kQ2 (some (.int (iZ (if ex2 (!inb z1 0 3 || !inb z2 0 3) (false) = 0 then (bZ (decide (σ 0 (z1.toNat) = σ 0 (z2.toNat) ∧ σ 1 (z1.toNat) = σ 1 (z2.toNat)))) else 0)))) (gY dC dI dA k m0 r0 H0.size (if ex2 (!inb z1 0 3 || !inb z2 0 3) (false) = 0 then (sU (sU σ 0 z1.toNat (σ 0 (z2.toNat))) 1 z1.toNat (σ 1 (z2.toNat))) else σ) (ex2 (!inb z1 0 3 || !inb z2 0 3) (false))) (kAy m0 r0 H0.size)) 1 2 (kAy m0 r0 H0.size) := by
  refine Met.ofW (cc := cX3_leafLike) (maxL := 4) (ret := (some .int)) (by decide) rfl ?_
  intro p e s m args below meth c s₁ B hml hv
  obtain ⟨rfl, hH, hM⟩ := hv
  subst hH
  have hr0 := hr
  have hAN : ∀ a, kAy m0 r0 s.heap.size a → k 0 ≤ a := fun a h => kAy_N hr0 hM.2.1.1 a h
  have hrA : ∀ i : Nat, i < 17 → kAy m0 r0 s.heap.size (kR m0 r0 i) := fun i hi => Or.inl ⟨i, hi, rfl⟩
  have hD : va_D (kAy m0 r0 s.heap.size) (kY dA m0 r0 σ (th) ++ ([] : va_W)) := by rw [← kap]; exact kYD_A hr hrA
  have hP : va_P (dC, dI) vwCl (kY dA m0 r0 σ (th) ++ ([] : va_W)) s.heap := hP
  have hS : va_S (kAy m0 r0 s.heap.size) s.heap s.heap [] := va_S.rf
  have hx := B.exec
  have hb := B.bytes
  have hr9 := B.returns
  have hts := atoms_spec (ws := ww_X3_leafLike) B.pre
  have hown : s.vm.findClass RX3 = some m.cls := findClass_of_methodNamed B.named
  have hlocks := B.notSynchronized
  have hl := lv_entry ([.ref m0, .int (iZ z1), .int (iZ z2)]) (n := 4) (Nat.le_of_ble_eq_true rfl)
  rw [lg_entry_eq]
  generalize (lg_sl ([.ref m0, .int (iZ z1), .int (iZ z2)]) ++ List.replicate (4 - (lg_sl ([.ref m0, .int (iZ z1), .int (iZ z2)])).length) Slot.unset).toArray = ls at hl ⊢
  have hl : lv_has ls 4 [(0, .ref m0), (1, .int (iZ z1)), (2, .int (iZ z2))] := hl
  refine lv_aload_n hx hb dX3_leafLike_0 rfl (lv_at hl 0 rfl) ?_
  refine lv_iload_n hx hb dX3_leafLike_1 rfl (lv_at hl 1 rfl) ?_
  refine kc0 (fun _ q => q) (va_runS (As := [.int (iZ z1)]) (rest := [.ref m0]) ⟨hx, hb, hml, hown, hts⟩ (c_X3_isNo l _ (z1) (by first | omega | (unfold sgn; (try split) <;> omega))) (va_cwS 1 hts (kg_S mw1021 mw1022 mw47 rfl mw1023) rfl rfl rfl hdS_X3_isNo ⟨Nat.le_of_ble_eq_true rfl, Nat.le_of_ble_eq_true rfl⟩) ⟨fun a U g mk q => q, fun U hU hW => ⟨rfl, hU⟩⟩ rfl rfl hl.1 rfl (lv_room (Nat.le_of_ble_eq_true rfl)) dX3_leafLike_2 ⟨Nat.le_of_ble_eq_true rfl, Nat.le_of_ble_eq_true rfl⟩) ?_
  refine kz_ifb_ne (tgt := 15) hx hb  dX3_leafLike_5 (by decide) (fun c_1 => ?_) (fun c_1 => ?_)
  · refine lv_iconst (v := iZ 1) hx hb dX3_leafLike_15 rfl ?_
    refine lv_goto (tgt := 20) hx hb dX3_leafLike_16 (by decide) ?_
    refine lv_iconst (v := iZ 0) hx hb dX3_leafLike_20 rfl ?_
    refine kc2 (va_runV (As := [.int (iZ (bZ true)), .int (iZ (bZ false))]) (rest := []) ⟨hx, hb, hml, hown, hts⟩ (c_X3_fails l dC dI dA k m0 (r0) (σ) (th) _ (va_Pl hP) hr hOK true false ) (cwV 2 hts (kg_V mw1037 mw1038 mw27 mw47 rfl mw1039) rfl rfl rfl hdV_X3_fails ⟨Nat.le_of_ble_eq_true rfl, Nat.le_of_ble_eq_true rfl⟩) ⟨fun a U g mk q => ⟨q.1, q.2.1, kM_call q.2.2⟩, va_recv hM.1 hP (ci := 6) (q0 := 0) rfl rfl, fun U hU hW => ⟨rfl, hU, kM_kept hM hS hAN hU hW⟩⟩ rfl rfl hl.1 rfl (lv_room (Nat.le_of_ble_eq_true rfl)) dX3_leafLike_21 ⟨Nat.le_of_ble_eq_true rfl, Nat.le_of_ble_eq_true rfl⟩) hS (fun a _ h => kAy_tr hrA hS.1 a h) (fun a h => kAy_tr hrA hS.1 a h) (fun H locs hP9 hz9 hk9 hS => ?_)
    have hP : va_P (dC, dI) vwCl (kY dA m0 r0 σ (ex2 true false) ++ ([] : va_W)) _ := hP9
    have hD : va_D (kAy m0 r0 s.heap.size) (kY dA m0 r0 σ (ex2 true false) ++ ([] : va_W)) := by rw [← kap]; exact kYD_A hr hrA
    refine kz_ifb_eq (tgt := 29) hx hb  dX3_leafLike_24 (by decide) (fun c_2 => absurd (kf_f c_2).1 (by decide)) (fun c_2 => ?_)
    have hX : ex2 (!inb z1 0 3 || !inb z2 0 3) (false) = ex2 true false := by first | rfl | simp only [c_1, Bool.true_or, Bool.or_true, Bool.false_or, Bool.or_false, Bool.not_true, Bool.not_false]
    have hN : ¬ ex2 (!inb z1 0 3 || !inb z2 0 3) (false) = 0 := kf_ne hX c_2
    refine lv_iconst (v := iZ 0) hx hb dX3_leafLike_27 rfl ?_
    refine W.widen (k := 1) (n := 2) (Nat.le_of_ble_eq_true rfl) (Nat.le_of_ble_eq_true rfl) ?_
    exact W.iret (v := iZ 0) hx hb hr9 (fun t ht hW => ⟨⟨congrArg (fun z : Int => Outcome.returned (some (Value.int (iZ z)))) (show 0 = (if ex2 (!inb z1 0 3 || !inb z2 0 3) (false) = 0 then (bZ (decide (σ 0 (z1.toNat) = σ 0 (z2.toNat) ∧ σ 1 (z1.toNat) = σ 1 (z2.toNat)))) else 0) from by rw [if_neg hN]), gY_cast ⟨r0, hr, hrA, by rw [ht]; exact va_Pl hP⟩ (show (σ) = (if ex2 (!inb z1 0 3 || !inb z2 0 3) (false) = 0 then (sU (sU σ 0 z1.toNat (σ 0 (z2.toNat))) 1 z1.toNat (σ 1 (z2.toNat))) else σ) from by rw [if_neg hN]) (show (ex2 true false) = ex2 (!inb z1 0 3 || !inb z2 0 3) (false) from hX.symm)⟩, hS.F ht⟩) hS.2.2 dX3_leafLike_28
  · refine lv_iload_n hx hb dX3_leafLike_8 rfl (lv_at hl 2 rfl) ?_
    refine kc0 (fun _ q => q) (va_runS (As := [.int (iZ z2)]) (rest := [.ref m0]) ⟨hx, hb, hml, hown, hts⟩ (c_X3_isNo l _ (z2) (by first | omega | (unfold sgn; (try split) <;> omega))) (va_cwS 1 hts (kg_S mw1021 mw1022 mw47 rfl mw1023) rfl rfl rfl hdS_X3_isNo ⟨Nat.le_of_ble_eq_true rfl, Nat.le_of_ble_eq_true rfl⟩) ⟨fun a U g mk q => q, fun U hU hW => ⟨rfl, hU⟩⟩ rfl rfl hl.1 rfl (lv_room (Nat.le_of_ble_eq_true rfl)) dX3_leafLike_9 ⟨Nat.le_of_ble_eq_true rfl, Nat.le_of_ble_eq_true rfl⟩) ?_
    refine kz_ifb_eq (tgt := 19) hx hb  dX3_leafLike_12 (by decide) (fun c_3 => ?_) (fun c_3 => ?_)
    · refine lv_iconst (v := iZ 0) hx hb dX3_leafLike_19 rfl ?_
      refine lv_iconst (v := iZ 0) hx hb dX3_leafLike_20 rfl ?_
      refine kc2 (va_runV (As := [.int (iZ (bZ false)), .int (iZ (bZ false))]) (rest := []) ⟨hx, hb, hml, hown, hts⟩ (c_X3_fails l dC dI dA k m0 (r0) (σ) (th) _ (va_Pl hP) hr hOK false false ) (cwV 2 hts (kg_V mw1037 mw1038 mw27 mw47 rfl mw1039) rfl rfl rfl hdV_X3_fails ⟨Nat.le_of_ble_eq_true rfl, Nat.le_of_ble_eq_true rfl⟩) ⟨fun a U g mk q => ⟨q.1, q.2.1, kM_call q.2.2⟩, va_recv hM.1 hP (ci := 6) (q0 := 0) rfl rfl, fun U hU hW => ⟨rfl, hU, kM_kept hM hS hAN hU hW⟩⟩ rfl rfl hl.1 rfl (lv_room (Nat.le_of_ble_eq_true rfl)) dX3_leafLike_21 ⟨Nat.le_of_ble_eq_true rfl, Nat.le_of_ble_eq_true rfl⟩) hS (fun a _ h => kAy_tr hrA hS.1 a h) (fun a h => kAy_tr hrA hS.1 a h) (fun H locs hP9 hz9 hk9 hS => ?_)
      have hP : va_P (dC, dI) vwCl (kY dA m0 r0 σ (ex2 false false) ++ ([] : va_W)) _ := hP9
      have hD : va_D (kAy m0 r0 s.heap.size) (kY dA m0 r0 σ (ex2 false false) ++ ([] : va_W)) := by rw [← kap]; exact kYD_A hr hrA
      refine kz_ifb_eq (tgt := 29) hx hb  dX3_leafLike_24 (by decide) (fun c_4 => ?_) (fun c_4 => absurd (show ex2 false false = 0 from rfl) (kf_t c_4))
      have hX : ex2 (!inb z1 0 3 || !inb z2 0 3) (false) = ex2 false false := by first | rfl | simp only [c_1, c_3, Bool.true_or, Bool.or_true, Bool.false_or, Bool.or_false, Bool.not_true, Bool.not_false]
      have hZ : ex2 (!inb z1 0 3 || !inb z2 0 3) (false) = 0 := kf_eq hX c_4
      obtain ⟨hA9, hB9⟩ := ex2_z hZ
      simp only [Bool.or_eq_false_iff, Bool.not_eq_false', Bool.not_eq_true', inb, decide_eq_true_eq, decide_eq_false_iff_not, noThing_niff] at hA9
      obtain ⟨p1, hp1, rfl⟩ : ∃ p1 : Nat, p1 < 4 ∧ z1 = (p1 : Int) := ⟨z1.toNat, by omega, by omega⟩
      have o_p1 := kOKr hOK hp1
      have l_p1 := mlen_rng (leap (σ 0 p1)) (σ 1 p1)
      have n_p1 := dnum_rng (y := σ 5 p1) (m := σ 6 p1) (d := σ 7 p1) (by omega) (by omega) (by omega)
      obtain ⟨p2, hp2, rfl⟩ : ∃ p2 : Nat, p2 < 4 ∧ z2 = (p2 : Int) := ⟨z2.toNat, by omega, by omega⟩
      have o_p2 := kOKr hOK hp2
      have l_p2 := mlen_rng (leap (σ 0 p2)) (σ 1 p2)
      have n_p2 := dnum_rng (y := σ 5 p2) (m := σ 6 p2) (d := σ 7 p2) (by omega) (by omega) (by omega)
      have hP := kY0 hP (kf_e c_4)
      have hD := kD0 hD (kf_e c_4)
      refine lv_aload_n hx hb dX3_leafLike_29 rfl (lv_at hl 0 rfl) ?_
      refine va_get (D := (dC, dI)) (ci := 6) (v := .ref (r0 0 1)) (C := RX3) (T := TX3) (N := 6) hx hb hts (fun w h => List.mem_cons_of_mem _ (gF_2_in h)) hown hM.1 hP 0 rfl rfl 0 (by decide) (hts _ (List.mem_cons_of_mem _ mw1007)) (fun _ h9 => h9) rfl dX3_leafLike_30 ?_
      refine lv_iload_n hx hb dX3_leafLike_33 rfl (lv_at hl 1 rfl) ?_
      refine kz_aald (v := r0 1 p1) hx hb hM.1 hP 1 rfl (by omega) (by decide) rfl dX3_leafLike_34 ?_
      refine lv_aload_n hx hb dX3_leafLike_35 rfl (lv_at hl 0 rfl) ?_
      refine va_get (D := (dC, dI)) (ci := 6) (v := .ref (r0 0 1)) (C := RX3) (T := TX3) (N := 6) hx hb hts (fun w h => List.mem_cons_of_mem _ (gF_2_in h)) hown hM.1 hP 0 rfl rfl 0 (by decide) (hts _ (List.mem_cons_of_mem _ mw1007)) (fun _ h9 => h9) rfl dX3_leafLike_36 ?_
      refine lv_iload_n hx hb dX3_leafLike_39 rfl (lv_at hl 2 rfl) ?_
      refine kz_aald (v := r0 1 p2) hx hb hM.1 hP 1 rfl (by omega) (by decide) rfl dX3_leafLike_40 ?_
      refine kc0 (fun _ q => q) (va_runS (As := [.ref (r0 1 p1), .ref (r0 1 p2)]) (rest := []) ⟨hx, hb, hml, hown, hts⟩ (c_X3_areSame l dC dI dA k _ _ hP (5 + p1) (r0 1 p1) _ (σ 0 p1) (σ 1 p1) (5 + p2) (r0 1 p2) _ (σ 0 p2) (σ 1 p2) (kY_L _ hp1) rfl rfl (kY_L _ hp2) rfl rfl (by first | omega | (unfold sgn; (try split) <;> omega)) (by first | omega | (unfold sgn; (try split) <;> omega)) (by first | omega | (unfold sgn; (try split) <;> omega)) (by first | omega | (unfold sgn; (try split) <;> omega))) (va_cwS 2 hts (kg_S mw1141 mw1142 mw47 rfl mw1143) rfl rfl rfl hdS_X3_areSame ⟨Nat.le_of_ble_eq_true rfl, Nat.le_of_ble_eq_true rfl⟩) ⟨fun a U g mk q => ⟨q.1, q.2.1, kM_call q.2.2⟩, fun U hU hW => ⟨rfl, hU, kM_kept hM hS hAN hU hW⟩⟩ rfl rfl hl.1 rfl (lv_room (Nat.le_of_ble_eq_true rfl)) dX3_leafLike_41 ⟨Nat.le_of_ble_eq_true rfl, Nat.le_of_ble_eq_true rfl⟩) ?_
      refine lv_istore_n (lv' := [(3, .int (iZ (bZ (decide (((σ 0 p1)) = ((σ 0 p2)) ∧ ((σ 1 p1)) = ((σ 1 p2))))))), (0, .ref m0), (1, .int (iZ ((p1 : Nat) : Int))), (2, .int (iZ ((p2 : Nat) : Int)))]) hx hb dX3_leafLike_44 rfl hl (by decide) rfl (fun ls hl => ?_)
      refine lv_aload_n hx hb dX3_leafLike_45 rfl (lv_at hl 1 rfl) ?_
      refine lv_iload_n hx hb dX3_leafLike_46 rfl (lv_at hl 2 rfl) ?_
      refine lv_aload_n hx hb dX3_leafLike_47 rfl (lv_at hl 1 rfl) ?_
      refine va_get (D := (dC, dI)) (ci := 6) (v := .ref (r0 0 1)) (C := RX3) (T := TX3) (N := 6) hx hb hts (fun w h => List.mem_cons_of_mem _ (gF_2_in h)) hown hM.1 hP 0 rfl rfl 0 (by decide) (hts _ (List.mem_cons_of_mem _ mw1007)) (fun _ h9 => h9) rfl dX3_leafLike_48 ?_
      refine lv_iload_n hx hb dX3_leafLike_51 rfl (lv_at hl 3 rfl) ?_
      refine kz_aald (v := r0 1 p2) hx hb hM.1 hP 1 rfl (by omega) (by decide) rfl dX3_leafLike_52 ?_
      refine lv_iconst (v := iZ 0) hx hb dX3_leafLike_53 rfl ?_
      refine kz_iald (v := σ 0 p2) hx hb hM.1 hP (5 + p2) 0 (kY_L _ hp2) rfl (by omega) (by decide) rfl dX3_leafLike_54 ?_
      refine lv_aload_n hx hb dX3_leafLike_55 rfl (lv_at hl 1 rfl) ?_
      refine va_get (D := (dC, dI)) (ci := 6) (v := .ref (r0 0 1)) (C := RX3) (T := TX3) (N := 6) hx hb hts (fun w h => List.mem_cons_of_mem _ (gF_2_in h)) hown hM.1 hP 0 rfl rfl 0 (by decide) (hts _ (List.mem_cons_of_mem _ mw1007)) (fun _ h9 => h9) rfl dX3_leafLike_56 ?_
      refine lv_iload_n hx hb dX3_leafLike_59 rfl (lv_at hl 3 rfl) ?_
      refine kz_aald (v := r0 1 p2) hx hb hM.1 hP 1 rfl (by omega) (by decide) rfl dX3_leafLike_60 ?_
      refine lv_iconst (v := iZ 1) hx hb dX3_leafLike_61 rfl ?_
      refine kz_iald (v := σ 1 p2) hx hb hM.1 hP (5 + p2) 0 (kY_L _ hp2) rfl (by omega) (by decide) rfl dX3_leafLike_62 ?_
      refine kc2 (va_runV (As := [.int (iZ ((p1 : Nat) : Int)), .int (iZ (σ 0 p2)), .int (iZ (σ 1 p2))]) (rest := []) ⟨hx, hb, hml, hown, hts⟩ (c_X3_putLeaf l dC dI dA k m0 (r0) (σ) (0) _ (va_Pl hP) hr hOK p1 ((σ 0 p2)) ((σ 1 p2)) hp1 (by first | omega | (unfold sgn; (try split) <;> omega)) (by first | omega | (unfold sgn; (try split) <;> omega))) (cwV 3 hts (kg_V mw1040 mw1041 mw28 mw47 rfl mw1042) rfl rfl rfl hdV_X3_putLeaf ⟨Nat.le_of_ble_eq_true rfl, Nat.le_of_ble_eq_true rfl⟩) ⟨fun a U g mk q => ⟨q.1, q.2.1, kM_call q.2.2⟩, va_recv hM.1 hP (ci := 6) (q0 := 0) rfl rfl, fun U hU hW => ⟨rfl, hU, kM_kept hM hS hAN hU hW⟩⟩ rfl rfl hl.1 rfl (lv_room (Nat.le_of_ble_eq_true rfl)) dX3_leafLike_63 ⟨Nat.le_of_ble_eq_true rfl, Nat.le_of_ble_eq_true rfl⟩) hS (fun a _ h => kAy_tr hrA hS.1 a h) (fun a h => kAy_tr hrA hS.1 a h) (fun H locs hG hz9 hk9 hS9 => ?_)
      obtain ⟨r_5, hr, hrA9, hP⟩ := hG
      have hrA := kAy_tr2 hrA hS.1 hrA9
      have hS := hS9
      have hP : va_P (dC, dI) vwCl (kY dA m0 r_5 (sU (sU σ 0 p1 (((σ 0 p2)))) 1 p1 (((σ 1 p2)))) (0) ++ ([] : va_W)) _ := hP
      have hD : va_D (kAy m0 r0 s.heap.size) (kY dA m0 r_5 (sU (sU σ 0 p1 (((σ 0 p2)))) 1 p1 (((σ 1 p2)))) (0) ++ ([] : va_W)) := by rw [← kap]; exact kYD_A hr hrA
      refine lv_pop hx hb dX3_leafLike_66 rfl ?_
      refine lv_iload_n hx hb dX3_leafLike_67 rfl (lv_at hl 0 rfl) ?_
      refine kc0 (fun _ q => q) (va_runS (As := [.int (iZ (bZ (decide (((σ 0 p1)) = ((σ 0 p2)) ∧ ((σ 1 p1)) = ((σ 1 p2))))))]) (rest := []) ⟨hx, hb, hml, hown, hts⟩ (c_X3_bit l _ (decide (((σ 0 p1)) = ((σ 0 p2)) ∧ ((σ 1 p1)) = ((σ 1 p2))))) (va_cwS 1 hts (kg_S mw1116 mw1117 mw47 rfl mw1118) rfl rfl rfl hdS_X3_bit ⟨Nat.le_of_ble_eq_true rfl, Nat.le_of_ble_eq_true rfl⟩) ⟨fun a U g mk q => q, fun U hU hW => ⟨rfl, hU⟩⟩ rfl rfl hl.1 rfl (lv_room (Nat.le_of_ble_eq_true rfl)) dX3_leafLike_68 ⟨Nat.le_of_ble_eq_true rfl, Nat.le_of_ble_eq_true rfl⟩) ?_
      refine W.widen (k := 1) (n := 2) (Nat.le_of_ble_eq_true rfl) (Nat.le_of_ble_eq_true rfl) ?_
      exact W.iret (v := iZ (bZ ((decide (((σ 0 p1)) = ((σ 0 p2)) ∧ ((σ 1 p1)) = ((σ 1 p2))))))) hx hb hr9 (fun t ht hW => ⟨⟨congrArg (fun z : Int => Outcome.returned (some (Value.int (iZ z)))) (show (bZ ((decide (((σ 0 p1)) = ((σ 0 p2)) ∧ ((σ 1 p1)) = ((σ 1 p2)))))) = (if ex2 (!inb ((p1 : Nat) : Int) 0 3 || !inb ((p2 : Nat) : Int) 0 3) (false) = 0 then (bZ (decide (σ 0 p1 = σ 0 p2 ∧ σ 1 p1 = σ 1 p2))) else 0) from by rw [if_pos hZ]; done), gY_cast ⟨r_5, hr, hrA, by rw [ht]; exact va_Pl hP⟩ (show (sU (sU σ 0 p1 (((σ 0 p2)))) 1 p1 (((σ 1 p2)))) = (if ex2 (!inb ((p1 : Nat) : Int) 0 3 || !inb ((p2 : Nat) : Int) 0 3) (false) = 0 then (sU (sU σ 0 p1 (σ 0 p2)) 1 p1 (σ 1 p2)) else σ) from by rw [if_pos hZ]; done) (show (0) = ex2 (!inb ((p1 : Nat) : Int) 0 3 || !inb ((p2 : Nat) : Int) 0 3) (false) from hZ.symm)⟩, hS.F ht⟩) hS.2.2 dX3_leafLike_71
    · refine lv_iconst (v := iZ 1) hx hb dX3_leafLike_15 rfl ?_
      refine lv_goto (tgt := 20) hx hb dX3_leafLike_16 (by decide) ?_
      refine lv_iconst (v := iZ 0) hx hb dX3_leafLike_20 rfl ?_
      refine kc2 (va_runV (As := [.int (iZ (bZ true)), .int (iZ (bZ false))]) (rest := []) ⟨hx, hb, hml, hown, hts⟩ (c_X3_fails l dC dI dA k m0 (r0) (σ) (th) _ (va_Pl hP) hr hOK true false ) (cwV 2 hts (kg_V mw1037 mw1038 mw27 mw47 rfl mw1039) rfl rfl rfl hdV_X3_fails ⟨Nat.le_of_ble_eq_true rfl, Nat.le_of_ble_eq_true rfl⟩) ⟨fun a U g mk q => ⟨q.1, q.2.1, kM_call q.2.2⟩, va_recv hM.1 hP (ci := 6) (q0 := 0) rfl rfl, fun U hU hW => ⟨rfl, hU, kM_kept hM hS hAN hU hW⟩⟩ rfl rfl hl.1 rfl (lv_room (Nat.le_of_ble_eq_true rfl)) dX3_leafLike_21 ⟨Nat.le_of_ble_eq_true rfl, Nat.le_of_ble_eq_true rfl⟩) hS (fun a _ h => kAy_tr hrA hS.1 a h) (fun a h => kAy_tr hrA hS.1 a h) (fun H locs hP9 hz9 hk9 hS => ?_)
      have hP : va_P (dC, dI) vwCl (kY dA m0 r0 σ (ex2 true false) ++ ([] : va_W)) _ := hP9
      have hD : va_D (kAy m0 r0 s.heap.size) (kY dA m0 r0 σ (ex2 true false) ++ ([] : va_W)) := by rw [← kap]; exact kYD_A hr hrA
      refine kz_ifb_eq (tgt := 29) hx hb  dX3_leafLike_24 (by decide) (fun c_6 => absurd (kf_f c_6).1 (by decide)) (fun c_6 => ?_)
      have hX : ex2 (!inb z1 0 3 || !inb z2 0 3) (false) = ex2 true false := by first | rfl | simp only [c_1, c_3, Bool.true_or, Bool.or_true, Bool.false_or, Bool.or_false, Bool.not_true, Bool.not_false]
      have hN : ¬ ex2 (!inb z1 0 3 || !inb z2 0 3) (false) = 0 := kf_ne hX c_6
      refine lv_iconst (v := iZ 0) hx hb dX3_leafLike_27 rfl ?_
      refine W.widen (k := 1) (n := 2) (Nat.le_of_ble_eq_true rfl) (Nat.le_of_ble_eq_true rfl) ?_
      exact W.iret (v := iZ 0) hx hb hr9 (fun t ht hW => ⟨⟨congrArg (fun z : Int => Outcome.returned (some (Value.int (iZ z)))) (show 0 = (if ex2 (!inb z1 0 3 || !inb z2 0 3) (false) = 0 then (bZ (decide (σ 0 (z1.toNat) = σ 0 (z2.toNat) ∧ σ 1 (z1.toNat) = σ 1 (z2.toNat)))) else 0) from by rw [if_neg hN]), gY_cast ⟨r0, hr, hrA, by rw [ht]; exact va_Pl hP⟩ (show (σ) = (if ex2 (!inb z1 0 3 || !inb z2 0 3) (false) = 0 then (sU (sU σ 0 z1.toNat (σ 0 (z2.toNat))) 1 z1.toNat (σ 1 (z2.toNat))) else σ) from by rw [if_neg hN]) (show (ex2 true false) = ex2 (!inb z1 0 3 || !inb z2 0 3) (false) from hX.symm)⟩, hS.F ht⟩) hS.2.2 dX3_leafLike_28

abbrev ww_X3_yearLike : List Cond := .code yX3_yearLike cX3_yearLike 4 (some .int) :: gT
set_option maxHeartbeats 4000000 in
set_option maxRecDepth 100000 in
theorem c_X3_yearLike (l : Launch) (dC : Nat → ClassId) (dI : Nat → Nat → Nat) (dA : Nat → ClassId) (k : Nat → Nat) (m0 : Nat) (r0 : Nat → Nat → Nat) (σ : Nat → Nat → Int) (th : Int) (H0 : Heap) (hP : va_P (dC, dI) vwCl (kY dA m0 r0 σ th) H0) (hr : kRI m0 r0 k) (hOK : kOK σ) (z1 : Int) (z2 : Int) (rz1 : -2147483648 ≤ z1 ∧ z1 < 2147483648) (rz2 : -2147483648 ≤ z2 ∧ z2 < 2147483648) : Met l yX3_yearLike ww_X3_yearLike ({ frames := 2, cells := 0, slots := 0, locals := 45 }) (va_Pc [.ref m0, .int (iZ z1), .int (iZ z2)] (fun U => U.heap = H0 ∧ kM dC dI dA k U)) (kQ2 (some (.int (iZ (if ex2 (!inb z1 0 3 || !inb z2 0 3) (false) = 0 then (bZ (decide (σ 2 (z1.toNat) = σ 2 (z2.toNat)))) else 0)))) (gY dC dI dA k m0 r0 H0.size (if ex2 (!inb z1 0 3 || !inb z2 0 3) (false) = 0 then (sU σ 2 (z1.toNat) (σ 2 (z2.toNat))) else σ) (ex2 (!inb z1 0 3 || !inb z2 0 3) (false))) (kAy m0 r0 H0.size)) 0 0 (kAy m0 r0 H0.size) := by
  refine Met.ofW (cc := cX3_yearLike) (maxL := 4) (ret := (some .int)) (by decide) rfl ?_
  intro p e s m args below meth c s₁ B hml hv
  obtain ⟨rfl, hH, hM⟩ := hv
  subst hH
  have hr0 := hr
  have hAN : ∀ a, kAy m0 r0 s.heap.size a → k 0 ≤ a := fun a h => kAy_N hr0 hM.2.1.1 a h
  have hrA : ∀ i : Nat, i < 17 → kAy m0 r0 s.heap.size (kR m0 r0 i) := fun i hi => Or.inl ⟨i, hi, rfl⟩
  have hD : va_D (kAy m0 r0 s.heap.size) (kY dA m0 r0 σ (th) ++ ([] : va_W)) := by rw [← kap]; exact kYD_A hr hrA
  have hP : va_P (dC, dI) vwCl (kY dA m0 r0 σ (th) ++ ([] : va_W)) s.heap := hP
  have hS : va_S (kAy m0 r0 s.heap.size) s.heap s.heap [] := va_S.rf
  have hx := B.exec
  have hb := B.bytes
  have hr9 := B.returns
  have hts := atoms_spec (ws := ww_X3_yearLike) B.pre
  have hown : s.vm.findClass RX3 = some m.cls := findClass_of_methodNamed B.named
  have hlocks := B.notSynchronized
  have hl := lv_entry ([.ref m0, .int (iZ z1), .int (iZ z2)]) (n := 4) (Nat.le_of_ble_eq_true rfl)
  rw [lg_entry_eq]
  generalize (lg_sl ([.ref m0, .int (iZ z1), .int (iZ z2)]) ++ List.replicate (4 - (lg_sl ([.ref m0, .int (iZ z1), .int (iZ z2)])).length) Slot.unset).toArray = ls at hl ⊢
  have hl : lv_has ls 4 [(0, .ref m0), (1, .int (iZ z1)), (2, .int (iZ z2))] := hl
  refine lv_aload_n hx hb dX3_yearLike_0 rfl (lv_at hl 0 rfl) ?_
  refine lv_iload_n hx hb dX3_yearLike_1 rfl (lv_at hl 1 rfl) ?_
  refine kc0 (fun _ q => q) (va_runS (As := [.int (iZ z1)]) (rest := [.ref m0]) ⟨hx, hb, hml, hown, hts⟩ (c_X3_isNo l _ (z1) (by first | omega | (unfold sgn; (try split) <;> omega))) (va_cwS 1 hts (kg_S mw1021 mw1022 mw47 rfl mw1023) rfl rfl rfl hdS_X3_isNo ⟨Nat.le_of_ble_eq_true rfl, Nat.le_of_ble_eq_true rfl⟩) ⟨fun a U g mk q => q, fun U hU hW => ⟨rfl, hU⟩⟩ rfl rfl hl.1 rfl (lv_room (Nat.le_of_ble_eq_true rfl)) dX3_yearLike_2 ⟨Nat.le_of_ble_eq_true rfl, Nat.le_of_ble_eq_true rfl⟩) ?_
  refine kz_ifb_ne (tgt := 15) hx hb  dX3_yearLike_5 (by decide) (fun c_1 => ?_) (fun c_1 => ?_)
  · refine lv_iconst (v := iZ 1) hx hb dX3_yearLike_15 rfl ?_
    refine lv_goto (tgt := 20) hx hb dX3_yearLike_16 (by decide) ?_
    refine lv_iconst (v := iZ 0) hx hb dX3_yearLike_20 rfl ?_
    refine kc2 (va_runV (As := [.int (iZ (bZ true)), .int (iZ (bZ false))]) (rest := []) ⟨hx, hb, hml, hown, hts⟩ (c_X3_fails l dC dI dA k m0 (r0) (σ) (th) _ (va_Pl hP) hr hOK true false ) (cwV 2 hts (kg_V mw1037 mw1038 mw27 mw47 rfl mw1039) rfl rfl rfl hdV_X3_fails ⟨Nat.le_of_ble_eq_true rfl, Nat.le_of_ble_eq_true rfl⟩) ⟨fun a U g mk q => ⟨q.1, q.2.1, kM_call q.2.2⟩, va_recv hM.1 hP (ci := 6) (q0 := 0) rfl rfl, fun U hU hW => ⟨rfl, hU, kM_kept hM hS hAN hU hW⟩⟩ rfl rfl hl.1 rfl (lv_room (Nat.le_of_ble_eq_true rfl)) dX3_yearLike_21 ⟨Nat.le_of_ble_eq_true rfl, Nat.le_of_ble_eq_true rfl⟩) hS (fun a _ h => kAy_tr hrA hS.1 a h) (fun a h => kAy_tr hrA hS.1 a h) (fun H locs hP9 hz9 hk9 hS => ?_)
    have hP : va_P (dC, dI) vwCl (kY dA m0 r0 σ (ex2 true false) ++ ([] : va_W)) _ := hP9
    have hD : va_D (kAy m0 r0 s.heap.size) (kY dA m0 r0 σ (ex2 true false) ++ ([] : va_W)) := by rw [← kap]; exact kYD_A hr hrA
    refine kz_ifb_eq (tgt := 29) hx hb  dX3_yearLike_24 (by decide) (fun c_2 => absurd (kf_f c_2).1 (by decide)) (fun c_2 => ?_)
    have hX : ex2 (!inb z1 0 3 || !inb z2 0 3) (false) = ex2 true false := by first | rfl | simp only [c_1, Bool.true_or, Bool.or_true, Bool.false_or, Bool.or_false, Bool.not_true, Bool.not_false]
    have hN : ¬ ex2 (!inb z1 0 3 || !inb z2 0 3) (false) = 0 := kf_ne hX c_2
    refine lv_iconst (v := iZ 0) hx hb dX3_yearLike_27 rfl ?_
    refine W.widen (k := 0) (n := 0) (Nat.le_of_ble_eq_true rfl) (Nat.le_of_ble_eq_true rfl) ?_
    exact W.iret (v := iZ 0) hx hb hr9 (fun t ht hW => ⟨⟨congrArg (fun z : Int => Outcome.returned (some (Value.int (iZ z)))) (show 0 = (if ex2 (!inb z1 0 3 || !inb z2 0 3) (false) = 0 then (bZ (decide (σ 2 (z1.toNat) = σ 2 (z2.toNat)))) else 0) from by rw [if_neg hN]), gY_cast ⟨r0, hr, hrA, by rw [ht]; exact va_Pl hP⟩ (show (σ) = (if ex2 (!inb z1 0 3 || !inb z2 0 3) (false) = 0 then (sU σ 2 (z1.toNat) (σ 2 (z2.toNat))) else σ) from by rw [if_neg hN]) (show (ex2 true false) = ex2 (!inb z1 0 3 || !inb z2 0 3) (false) from hX.symm)⟩, hS.F ht⟩) hS.2.2 dX3_yearLike_28
  · refine lv_iload_n hx hb dX3_yearLike_8 rfl (lv_at hl 2 rfl) ?_
    refine kc0 (fun _ q => q) (va_runS (As := [.int (iZ z2)]) (rest := [.ref m0]) ⟨hx, hb, hml, hown, hts⟩ (c_X3_isNo l _ (z2) (by first | omega | (unfold sgn; (try split) <;> omega))) (va_cwS 1 hts (kg_S mw1021 mw1022 mw47 rfl mw1023) rfl rfl rfl hdS_X3_isNo ⟨Nat.le_of_ble_eq_true rfl, Nat.le_of_ble_eq_true rfl⟩) ⟨fun a U g mk q => q, fun U hU hW => ⟨rfl, hU⟩⟩ rfl rfl hl.1 rfl (lv_room (Nat.le_of_ble_eq_true rfl)) dX3_yearLike_9 ⟨Nat.le_of_ble_eq_true rfl, Nat.le_of_ble_eq_true rfl⟩) ?_
    refine kz_ifb_eq (tgt := 19) hx hb  dX3_yearLike_12 (by decide) (fun c_3 => ?_) (fun c_3 => ?_)
    · refine lv_iconst (v := iZ 0) hx hb dX3_yearLike_19 rfl ?_
      refine lv_iconst (v := iZ 0) hx hb dX3_yearLike_20 rfl ?_
      refine kc2 (va_runV (As := [.int (iZ (bZ false)), .int (iZ (bZ false))]) (rest := []) ⟨hx, hb, hml, hown, hts⟩ (c_X3_fails l dC dI dA k m0 (r0) (σ) (th) _ (va_Pl hP) hr hOK false false ) (cwV 2 hts (kg_V mw1037 mw1038 mw27 mw47 rfl mw1039) rfl rfl rfl hdV_X3_fails ⟨Nat.le_of_ble_eq_true rfl, Nat.le_of_ble_eq_true rfl⟩) ⟨fun a U g mk q => ⟨q.1, q.2.1, kM_call q.2.2⟩, va_recv hM.1 hP (ci := 6) (q0 := 0) rfl rfl, fun U hU hW => ⟨rfl, hU, kM_kept hM hS hAN hU hW⟩⟩ rfl rfl hl.1 rfl (lv_room (Nat.le_of_ble_eq_true rfl)) dX3_yearLike_21 ⟨Nat.le_of_ble_eq_true rfl, Nat.le_of_ble_eq_true rfl⟩) hS (fun a _ h => kAy_tr hrA hS.1 a h) (fun a h => kAy_tr hrA hS.1 a h) (fun H locs hP9 hz9 hk9 hS => ?_)
      have hP : va_P (dC, dI) vwCl (kY dA m0 r0 σ (ex2 false false) ++ ([] : va_W)) _ := hP9
      have hD : va_D (kAy m0 r0 s.heap.size) (kY dA m0 r0 σ (ex2 false false) ++ ([] : va_W)) := by rw [← kap]; exact kYD_A hr hrA
      refine kz_ifb_eq (tgt := 29) hx hb  dX3_yearLike_24 (by decide) (fun c_4 => ?_) (fun c_4 => absurd (show ex2 false false = 0 from rfl) (kf_t c_4))
      have hX : ex2 (!inb z1 0 3 || !inb z2 0 3) (false) = ex2 false false := by first | rfl | simp only [c_1, c_3, Bool.true_or, Bool.or_true, Bool.false_or, Bool.or_false, Bool.not_true, Bool.not_false]
      have hZ : ex2 (!inb z1 0 3 || !inb z2 0 3) (false) = 0 := kf_eq hX c_4
      obtain ⟨hA9, hB9⟩ := ex2_z hZ
      simp only [Bool.or_eq_false_iff, Bool.not_eq_false', Bool.not_eq_true', inb, decide_eq_true_eq, decide_eq_false_iff_not, noThing_niff] at hA9
      obtain ⟨p1, hp1, rfl⟩ : ∃ p1 : Nat, p1 < 4 ∧ z1 = (p1 : Int) := ⟨z1.toNat, by omega, by omega⟩
      have o_p1 := kOKr hOK hp1
      have l_p1 := mlen_rng (leap (σ 0 p1)) (σ 1 p1)
      have n_p1 := dnum_rng (y := σ 5 p1) (m := σ 6 p1) (d := σ 7 p1) (by omega) (by omega) (by omega)
      obtain ⟨p2, hp2, rfl⟩ : ∃ p2 : Nat, p2 < 4 ∧ z2 = (p2 : Int) := ⟨z2.toNat, by omega, by omega⟩
      have o_p2 := kOKr hOK hp2
      have l_p2 := mlen_rng (leap (σ 0 p2)) (σ 1 p2)
      have n_p2 := dnum_rng (y := σ 5 p2) (m := σ 6 p2) (d := σ 7 p2) (by omega) (by omega) (by omega)
      have hP := kY0 hP (kf_e c_4)
      have hD := kD0 hD (kf_e c_4)
      refine lv_aload_n hx hb dX3_yearLike_29 rfl (lv_at hl 0 rfl) ?_
      refine va_get (D := (dC, dI)) (ci := 6) (v := .ref (r0 0 2)) (C := RX3) (T := TX3) (N := 6) hx hb hts (fun w h => List.mem_cons_of_mem _ (gF_2_in h)) hown hM.1 hP 0 rfl rfl 1 (by decide) (hts _ (List.mem_cons_of_mem _ mw1008)) (fun _ h9 => h9) rfl dX3_yearLike_30 ?_
      refine lv_iload_n hx hb dX3_yearLike_33 rfl (lv_at hl 1 rfl) ?_
      refine kz_iald (v := σ 2 p1) hx hb hM.1 hP 2 0 rfl rfl (by omega) (by decide) rfl dX3_yearLike_34 ?_
      refine lv_aload_n hx hb dX3_yearLike_35 rfl (lv_at hl 0 rfl) ?_
      refine va_get (D := (dC, dI)) (ci := 6) (v := .ref (r0 0 2)) (C := RX3) (T := TX3) (N := 6) hx hb hts (fun w h => List.mem_cons_of_mem _ (gF_2_in h)) hown hM.1 hP 0 rfl rfl 1 (by decide) (hts _ (List.mem_cons_of_mem _ mw1008)) (fun _ h9 => h9) rfl dX3_yearLike_36 ?_
      refine lv_iload_n hx hb dX3_yearLike_39 rfl (lv_at hl 2 rfl) ?_
      refine kz_iald (v := σ 2 p2) hx hb hM.1 hP 2 0 rfl rfl (by omega) (by decide) rfl dX3_yearLike_40 ?_
      refine kz_icmp_ne (tgt := 48) hx hb (by first | omega | (unfold sgn; (try split) <;> omega)) (by first | omega | (unfold sgn; (try split) <;> omega)) dX3_yearLike_41 (by decide) (fun c_5 => ?_) (fun c_5 => ?_)
      · refine lv_iconst (v := iZ 0) hx hb dX3_yearLike_48 rfl ?_
        refine lv_istore_n (lv' := [(3, .int (iZ 0)), (0, .ref m0), (1, .int (iZ ((p1 : Nat) : Int))), (2, .int (iZ ((p2 : Nat) : Int)))]) hx hb dX3_yearLike_49 rfl hl (by decide) rfl (fun ls hl => ?_)
        refine lv_aload_n hx hb dX3_yearLike_50 rfl (lv_at hl 1 rfl) ?_
        refine va_get (D := (dC, dI)) (ci := 6) (v := .ref (r0 0 2)) (C := RX3) (T := TX3) (N := 6) hx hb hts (fun w h => List.mem_cons_of_mem _ (gF_2_in h)) hown hM.1 hP 0 rfl rfl 1 (by decide) (hts _ (List.mem_cons_of_mem _ mw1008)) (fun _ h9 => h9) rfl dX3_yearLike_51 ?_
        refine lv_iload_n hx hb dX3_yearLike_54 rfl (lv_at hl 2 rfl) ?_
        refine lv_aload_n hx hb dX3_yearLike_55 rfl (lv_at hl 1 rfl) ?_
        refine va_get (D := (dC, dI)) (ci := 6) (v := .ref (r0 0 2)) (C := RX3) (T := TX3) (N := 6) hx hb hts (fun w h => List.mem_cons_of_mem _ (gF_2_in h)) hown hM.1 hP 0 rfl rfl 1 (by decide) (hts _ (List.mem_cons_of_mem _ mw1008)) (fun _ h9 => h9) rfl dX3_yearLike_56 ?_
        refine lv_iload_n hx hb dX3_yearLike_59 rfl (lv_at hl 3 rfl) ?_
        refine kz_iald (v := σ 2 p2) hx hb hM.1 hP 2 0 rfl rfl (by omega) (by decide) rfl dX3_yearLike_60 ?_
        refine kz_iast hx hb hM.1 hP hD hS 2 rfl (by omega) (by decide) dX3_yearLike_61 (fun H locs hP hD hS => ?_)
        have hP : va_P (dC, dI) vwCl (kY dA m0 r0 (sU (σ) 2 p1 (σ 2 p2)) (0) ++ ([] : va_W)) _ := kys_Y hP
        have hD : va_D (kAy m0 r0 s.heap.size) (kY dA m0 r0 (sU (σ) 2 p1 (σ 2 p2)) (0) ++ ([] : va_W)) := by rw [← kap]; exact kYD_A hr hrA
        refine lv_iload_n hx hb dX3_yearLike_62 rfl (lv_at hl 0 rfl) ?_
        refine kc0 (fun _ q => q) (va_runS (As := [.int (iZ (bZ false))]) (rest := []) ⟨hx, hb, hml, hown, hts⟩ (c_X3_bit l _ false) (va_cwS 1 hts (kg_S mw1116 mw1117 mw47 rfl mw1118) rfl rfl rfl hdS_X3_bit ⟨Nat.le_of_ble_eq_true rfl, Nat.le_of_ble_eq_true rfl⟩) ⟨fun a U g mk q => q, fun U hU hW => ⟨rfl, hU⟩⟩ rfl rfl hl.1 rfl (lv_room (Nat.le_of_ble_eq_true rfl)) dX3_yearLike_63 ⟨Nat.le_of_ble_eq_true rfl, Nat.le_of_ble_eq_true rfl⟩) ?_
        refine W.widen (k := 0) (n := 0) (Nat.le_of_ble_eq_true rfl) (Nat.le_of_ble_eq_true rfl) ?_
        exact W.iret (v := iZ 0) hx hb hr9 (fun t ht hW => ⟨⟨congrArg (fun z : Int => Outcome.returned (some (Value.int (iZ z)))) (show 0 = (if ex2 (!inb ((p1 : Nat) : Int) 0 3 || !inb ((p2 : Nat) : Int) 0 3) (false) = 0 then (bZ (decide (σ 2 p1 = σ 2 p2))) else 0) from by rw [if_pos hZ]; exact bZ_d0 (by omega)), gY_cast ⟨r0, hr, hrA, by rw [ht]; exact va_Pl hP⟩ (show (sU (σ) 2 p1 (σ 2 p2)) = (if ex2 (!inb ((p1 : Nat) : Int) 0 3 || !inb ((p2 : Nat) : Int) 0 3) (false) = 0 then (sU σ 2 p1 (σ 2 p2)) else σ) from by rw [if_pos hZ]; done) (show (0) = ex2 (!inb ((p1 : Nat) : Int) 0 3 || !inb ((p2 : Nat) : Int) 0 3) (false) from hZ.symm)⟩, hS.F ht⟩) hS.2.2 dX3_yearLike_66
      · refine lv_iconst (v := iZ 1) hx hb dX3_yearLike_44 rfl ?_
        refine lv_goto (tgt := 49) hx hb dX3_yearLike_45 (by decide) ?_
        refine lv_istore_n (lv' := [(3, .int (iZ 1)), (0, .ref m0), (1, .int (iZ ((p1 : Nat) : Int))), (2, .int (iZ ((p2 : Nat) : Int)))]) hx hb dX3_yearLike_49 rfl hl (by decide) rfl (fun ls hl => ?_)
        refine lv_aload_n hx hb dX3_yearLike_50 rfl (lv_at hl 1 rfl) ?_
        refine va_get (D := (dC, dI)) (ci := 6) (v := .ref (r0 0 2)) (C := RX3) (T := TX3) (N := 6) hx hb hts (fun w h => List.mem_cons_of_mem _ (gF_2_in h)) hown hM.1 hP 0 rfl rfl 1 (by decide) (hts _ (List.mem_cons_of_mem _ mw1008)) (fun _ h9 => h9) rfl dX3_yearLike_51 ?_
        refine lv_iload_n hx hb dX3_yearLike_54 rfl (lv_at hl 2 rfl) ?_
        refine lv_aload_n hx hb dX3_yearLike_55 rfl (lv_at hl 1 rfl) ?_
        refine va_get (D := (dC, dI)) (ci := 6) (v := .ref (r0 0 2)) (C := RX3) (T := TX3) (N := 6) hx hb hts (fun w h => List.mem_cons_of_mem _ (gF_2_in h)) hown hM.1 hP 0 rfl rfl 1 (by decide) (hts _ (List.mem_cons_of_mem _ mw1008)) (fun _ h9 => h9) rfl dX3_yearLike_56 ?_
        refine lv_iload_n hx hb dX3_yearLike_59 rfl (lv_at hl 3 rfl) ?_
        refine kz_iald (v := σ 2 p2) hx hb hM.1 hP 2 0 rfl rfl (by omega) (by decide) rfl dX3_yearLike_60 ?_
        refine kz_iast hx hb hM.1 hP hD hS 2 rfl (by omega) (by decide) dX3_yearLike_61 (fun H locs hP hD hS => ?_)
        have hP : va_P (dC, dI) vwCl (kY dA m0 r0 (sU (σ) 2 p1 (σ 2 p2)) (0) ++ ([] : va_W)) _ := kys_Y hP
        have hD : va_D (kAy m0 r0 s.heap.size) (kY dA m0 r0 (sU (σ) 2 p1 (σ 2 p2)) (0) ++ ([] : va_W)) := by rw [← kap]; exact kYD_A hr hrA
        refine lv_iload_n hx hb dX3_yearLike_62 rfl (lv_at hl 0 rfl) ?_
        refine kc0 (fun _ q => q) (va_runS (As := [.int (iZ (bZ true))]) (rest := []) ⟨hx, hb, hml, hown, hts⟩ (c_X3_bit l _ true) (va_cwS 1 hts (kg_S mw1116 mw1117 mw47 rfl mw1118) rfl rfl rfl hdS_X3_bit ⟨Nat.le_of_ble_eq_true rfl, Nat.le_of_ble_eq_true rfl⟩) ⟨fun a U g mk q => q, fun U hU hW => ⟨rfl, hU⟩⟩ rfl rfl hl.1 rfl (lv_room (Nat.le_of_ble_eq_true rfl)) dX3_yearLike_63 ⟨Nat.le_of_ble_eq_true rfl, Nat.le_of_ble_eq_true rfl⟩) ?_
        refine W.widen (k := 0) (n := 0) (Nat.le_of_ble_eq_true rfl) (Nat.le_of_ble_eq_true rfl) ?_
        exact W.iret (v := iZ 1) hx hb hr9 (fun t ht hW => ⟨⟨congrArg (fun z : Int => Outcome.returned (some (Value.int (iZ z)))) (show 1 = (if ex2 (!inb ((p1 : Nat) : Int) 0 3 || !inb ((p2 : Nat) : Int) 0 3) (false) = 0 then (bZ (decide (σ 2 p1 = σ 2 p2))) else 0) from by rw [if_pos hZ]; exact bZ_d1 (by omega)), gY_cast ⟨r0, hr, hrA, by rw [ht]; exact va_Pl hP⟩ (show (sU (σ) 2 p1 (σ 2 p2)) = (if ex2 (!inb ((p1 : Nat) : Int) 0 3 || !inb ((p2 : Nat) : Int) 0 3) (false) = 0 then (sU σ 2 p1 (σ 2 p2)) else σ) from by rw [if_pos hZ]; done) (show (0) = ex2 (!inb ((p1 : Nat) : Int) 0 3 || !inb ((p2 : Nat) : Int) 0 3) (false) from hZ.symm)⟩, hS.F ht⟩) hS.2.2 dX3_yearLike_66
    · refine lv_iconst (v := iZ 1) hx hb dX3_yearLike_15 rfl ?_
      refine lv_goto (tgt := 20) hx hb dX3_yearLike_16 (by decide) ?_
      refine lv_iconst (v := iZ 0) hx hb dX3_yearLike_20 rfl ?_
      refine kc2 (va_runV (As := [.int (iZ (bZ true)), .int (iZ (bZ false))]) (rest := []) ⟨hx, hb, hml, hown, hts⟩ (c_X3_fails l dC dI dA k m0 (r0) (σ) (th) _ (va_Pl hP) hr hOK true false ) (cwV 2 hts (kg_V mw1037 mw1038 mw27 mw47 rfl mw1039) rfl rfl rfl hdV_X3_fails ⟨Nat.le_of_ble_eq_true rfl, Nat.le_of_ble_eq_true rfl⟩) ⟨fun a U g mk q => ⟨q.1, q.2.1, kM_call q.2.2⟩, va_recv hM.1 hP (ci := 6) (q0 := 0) rfl rfl, fun U hU hW => ⟨rfl, hU, kM_kept hM hS hAN hU hW⟩⟩ rfl rfl hl.1 rfl (lv_room (Nat.le_of_ble_eq_true rfl)) dX3_yearLike_21 ⟨Nat.le_of_ble_eq_true rfl, Nat.le_of_ble_eq_true rfl⟩) hS (fun a _ h => kAy_tr hrA hS.1 a h) (fun a h => kAy_tr hrA hS.1 a h) (fun H locs hP9 hz9 hk9 hS => ?_)
      have hP : va_P (dC, dI) vwCl (kY dA m0 r0 σ (ex2 true false) ++ ([] : va_W)) _ := hP9
      have hD : va_D (kAy m0 r0 s.heap.size) (kY dA m0 r0 σ (ex2 true false) ++ ([] : va_W)) := by rw [← kap]; exact kYD_A hr hrA
      refine kz_ifb_eq (tgt := 29) hx hb  dX3_yearLike_24 (by decide) (fun c_6 => absurd (kf_f c_6).1 (by decide)) (fun c_6 => ?_)
      have hX : ex2 (!inb z1 0 3 || !inb z2 0 3) (false) = ex2 true false := by first | rfl | simp only [c_1, c_3, Bool.true_or, Bool.or_true, Bool.false_or, Bool.or_false, Bool.not_true, Bool.not_false]
      have hN : ¬ ex2 (!inb z1 0 3 || !inb z2 0 3) (false) = 0 := kf_ne hX c_6
      refine lv_iconst (v := iZ 0) hx hb dX3_yearLike_27 rfl ?_
      refine W.widen (k := 0) (n := 0) (Nat.le_of_ble_eq_true rfl) (Nat.le_of_ble_eq_true rfl) ?_
      exact W.iret (v := iZ 0) hx hb hr9 (fun t ht hW => ⟨⟨congrArg (fun z : Int => Outcome.returned (some (Value.int (iZ z)))) (show 0 = (if ex2 (!inb z1 0 3 || !inb z2 0 3) (false) = 0 then (bZ (decide (σ 2 (z1.toNat) = σ 2 (z2.toNat)))) else 0) from by rw [if_neg hN]), gY_cast ⟨r0, hr, hrA, by rw [ht]; exact va_Pl hP⟩ (show (σ) = (if ex2 (!inb z1 0 3 || !inb z2 0 3) (false) = 0 then (sU σ 2 (z1.toNat) (σ 2 (z2.toNat))) else σ) from by rw [if_neg hN]) (show (ex2 true false) = ex2 (!inb z1 0 3 || !inb z2 0 3) (false) from hX.symm)⟩, hS.F ht⟩) hS.2.2 dX3_yearLike_28

abbrev ww_X3_hasDay : List Cond := .code yX3_hasDay cX3_hasDay 3 (some .boolean) :: gT
set_option maxHeartbeats 4000000 in
set_option maxRecDepth 100000 in
theorem c_X3_hasDay (l : Launch) (dC : Nat → ClassId) (dI : Nat → Nat → Nat) (dA : Nat → ClassId) (k : Nat → Nat) (m0 : Nat) (r0 : Nat → Nat → Nat) (σ : Nat → Nat → Int) (th : Int) (H0 : Heap) (hP : va_P (dC, dI) vwCl (kY dA m0 r0 σ th) H0) (hr : kRI m0 r0 k) (hOK : kOK σ) (z1 : Int) (nn : Int) (rz1 : -2147483648 ≤ z1 ∧ z1 < 2147483648) (rnn : -2147483648 ≤ nn ∧ nn < 2147483648) : Met l yX3_hasDay ww_X3_hasDay ({ frames := 4, cells := 0, slots := 0, locals := 86 }) (va_Pc [.ref m0, .int (iZ z1), .int (iZ nn)] (fun U => U.heap = H0 ∧ kM dC dI dA k U)) (kQ2 (some (.int (iZ (bZ (decide (ex2 (!inb z1 0 3) (false) = 0) && (decide (1 ≤ nn ∧ nn ≤ mlen (leap (σ 0 (z1.toNat))) (σ 1 (z1.toNat))))))))) (gY dC dI dA k m0 r0 H0.size (σ) (ex2 (!inb z1 0 3) (false))) (kAy m0 r0 H0.size)) 0 0 (kAy m0 r0 H0.size) := by
  refine Met.ofW (cc := cX3_hasDay) (maxL := 3) (ret := (some .boolean)) (by decide) rfl ?_
  intro p e s m args below meth c s₁ B hml hv
  obtain ⟨rfl, hH, hM⟩ := hv
  subst hH
  have hr0 := hr
  have hAN : ∀ a, kAy m0 r0 s.heap.size a → k 0 ≤ a := fun a h => kAy_N hr0 hM.2.1.1 a h
  have hrA : ∀ i : Nat, i < 17 → kAy m0 r0 s.heap.size (kR m0 r0 i) := fun i hi => Or.inl ⟨i, hi, rfl⟩
  have hD : va_D (kAy m0 r0 s.heap.size) (kY dA m0 r0 σ (th) ++ ([] : va_W)) := by rw [← kap]; exact kYD_A hr hrA
  have hP : va_P (dC, dI) vwCl (kY dA m0 r0 σ (th) ++ ([] : va_W)) s.heap := hP
  have hS : va_S (kAy m0 r0 s.heap.size) s.heap s.heap [] := va_S.rf
  have hx := B.exec
  have hb := B.bytes
  have hr9 := B.returns
  have hts := atoms_spec (ws := ww_X3_hasDay) B.pre
  have hown : s.vm.findClass RX3 = some m.cls := findClass_of_methodNamed B.named
  have hlocks := B.notSynchronized
  have hl := lv_entry ([.ref m0, .int (iZ z1), .int (iZ nn)]) (n := 3) (Nat.le_of_ble_eq_true rfl)
  rw [lg_entry_eq]
  generalize (lg_sl ([.ref m0, .int (iZ z1), .int (iZ nn)]) ++ List.replicate (3 - (lg_sl ([.ref m0, .int (iZ z1), .int (iZ nn)])).length) Slot.unset).toArray = ls at hl ⊢
  have hl : lv_has ls 3 [(0, .ref m0), (1, .int (iZ z1)), (2, .int (iZ nn))] := hl
  refine lv_aload_n hx hb dX3_hasDay_0 rfl (lv_at hl 0 rfl) ?_
  refine lv_iload_n hx hb dX3_hasDay_1 rfl (lv_at hl 1 rfl) ?_
  refine kc0 (fun _ q => q) (va_runS (As := [.int (iZ z1)]) (rest := [.ref m0]) ⟨hx, hb, hml, hown, hts⟩ (c_X3_isNo l _ (z1) (by first | omega | (unfold sgn; (try split) <;> omega))) (va_cwS 1 hts (kg_S mw1021 mw1022 mw47 rfl mw1023) rfl rfl rfl hdS_X3_isNo ⟨Nat.le_of_ble_eq_true rfl, Nat.le_of_ble_eq_true rfl⟩) ⟨fun a U g mk q => q, fun U hU hW => ⟨rfl, hU⟩⟩ rfl rfl hl.1 rfl (lv_room (Nat.le_of_ble_eq_true rfl)) dX3_hasDay_2 ⟨Nat.le_of_ble_eq_true rfl, Nat.le_of_ble_eq_true rfl⟩) ?_
  refine lv_iconst (v := iZ 0) hx hb dX3_hasDay_5 rfl ?_
  refine kc2 (va_runV (As := [.int (iZ (bZ (!inb ((z1)) 0 3))), .int (iZ (bZ false))]) (rest := []) ⟨hx, hb, hml, hown, hts⟩ (c_X3_fails l dC dI dA k m0 (r0) (σ) (th) _ (va_Pl hP) hr hOK (!inb ((z1)) 0 3) false ) (cwV 2 hts (kg_V mw1037 mw1038 mw27 mw47 rfl mw1039) rfl rfl rfl hdV_X3_fails ⟨Nat.le_of_ble_eq_true rfl, Nat.le_of_ble_eq_true rfl⟩) ⟨fun a U g mk q => ⟨q.1, q.2.1, kM_call q.2.2⟩, va_recv hM.1 hP (ci := 6) (q0 := 0) rfl rfl, fun U hU hW => ⟨rfl, hU, kM_kept hM hS hAN hU hW⟩⟩ rfl rfl hl.1 rfl (lv_room (Nat.le_of_ble_eq_true rfl)) dX3_hasDay_6 ⟨Nat.le_of_ble_eq_true rfl, Nat.le_of_ble_eq_true rfl⟩) hS (fun a _ h => kAy_tr hrA hS.1 a h) (fun a h => kAy_tr hrA hS.1 a h) (fun H locs hP9 hz9 hk9 hS => ?_)
  have hP : va_P (dC, dI) vwCl (kY dA m0 r0 σ (ex2 ((!inb ((z1)) 0 3)) false) ++ ([] : va_W)) _ := hP9
  have hD : va_D (kAy m0 r0 s.heap.size) (kY dA m0 r0 σ (ex2 ((!inb ((z1)) 0 3)) false) ++ ([] : va_W)) := by rw [← kap]; exact kYD_A hr hrA
  refine kz_ifb_ne (tgt := 31) hx hb  dX3_hasDay_9 (by decide) (fun c_1 => ?_) (fun c_1 => ?_)
  · have hX : ex2 (!inb z1 0 3) (false) = ex2 (!inb ((z1)) 0 3) false := by first | rfl | simp only [Bool.true_or, Bool.or_true, Bool.false_or, Bool.or_false, Bool.not_true, Bool.not_false]
    have hN : ¬ ex2 (!inb z1 0 3) (false) = 0 := kf_ne hX c_1
    refine lv_iconst (v := iZ 0) hx hb dX3_hasDay_31 rfl ?_
    refine W.widen (k := 0) (n := 0) (Nat.le_of_ble_eq_true rfl) (Nat.le_of_ble_eq_true rfl) ?_
    exact W.zret (v := iZ 0) (ty := .boolean) hx hb hr9 rfl (fun t ht hW => ⟨⟨congrArg (fun z : Int => Outcome.returned (some (Value.int (iZ z)))) (show 0 = (bZ (decide (ex2 (!inb z1 0 3) (false) = 0) && (decide (1 ≤ nn ∧ nn ≤ mlen (leap (σ 0 (z1.toNat))) (σ 1 (z1.toNat)))))) from by rw [decide_eq_false hN]; rfl), gY_cast ⟨r0, hr, hrA, by rw [ht]; exact va_Pl hP⟩ (show (σ) = (σ) from rfl) (show (ex2 ((!inb ((z1)) 0 3)) false) = ex2 (!inb z1 0 3) (false) from hX.symm)⟩, hS.F ht⟩) hS.2.2 dX3_hasDay_32
  · have hX : ex2 (!inb z1 0 3) (false) = ex2 (!inb ((z1)) 0 3) false := by first | rfl | simp only [Bool.true_or, Bool.or_true, Bool.false_or, Bool.or_false, Bool.not_true, Bool.not_false]
    have hZ : ex2 (!inb z1 0 3) (false) = 0 := kf_eq hX c_1
    obtain ⟨hA9, hB9⟩ := ex2_z hZ
    simp only [Bool.or_eq_false_iff, Bool.not_eq_false', Bool.not_eq_true', inb, decide_eq_true_eq, decide_eq_false_iff_not, noThing_niff] at hA9
    obtain ⟨p1, hp1, rfl⟩ : ∃ p1 : Nat, p1 < 4 ∧ z1 = (p1 : Int) := ⟨z1.toNat, by omega, by omega⟩
    have o_p1 := kOKr hOK hp1
    have l_p1 := mlen_rng (leap (σ 0 p1)) (σ 1 p1)
    have n_p1 := dnum_rng (y := σ 5 p1) (m := σ 6 p1) (d := σ 7 p1) (by omega) (by omega) (by omega)
    have hP := kY0 hP (kf_e c_1)
    have hD := kD0 hD (kf_e c_1)
    refine lv_iload_n hx hb dX3_hasDay_12 rfl (lv_at hl 2 rfl) ?_
    refine kz_i2l hx hb (by first | omega | (unfold sgn; (try split) <;> omega)) dX3_hasDay_13 ?_
    refine lv_lconst (v := lZ 1) hx hb dX3_hasDay_14 rfl ?_
    refine lv_aload_n hx hb dX3_hasDay_15 rfl (lv_at hl 0 rfl) ?_
    refine lv_iload_n hx hb dX3_hasDay_16 rfl (lv_at hl 1 rfl) ?_
    refine kc0 (fun _ q => q) (va_runV (As := [.int (iZ ((p1 : Nat) : Int))]) (rest := [.long (lZ (1)), .long (lZ (nn))]) ⟨hx, hb, hml, hown, hts⟩ (c_X3_lengthAt l dC dI dA k m0 (r0) (σ) (0) _ (va_Pl hP) hr hOK p1 hp1) (cwV 1 hts (kg_V mw1043 mw1044 mw29 mw47 rfl mw1045) rfl rfl rfl hdV_X3_lengthAt ⟨Nat.le_of_ble_eq_true rfl, Nat.le_of_ble_eq_true rfl⟩) ⟨fun a U g mk q => ⟨q.1, q.2.1, kM_call q.2.2⟩, va_recv hM.1 hP (ci := 6) (q0 := 0) rfl rfl, fun U hU hW => ⟨rfl, hU, kM_kept hM hS hAN hU hW⟩⟩ rfl rfl hl.1 rfl (lv_room (Nat.le_of_ble_eq_true rfl)) dX3_hasDay_17 ⟨Nat.le_of_ble_eq_true rfl, Nat.le_of_ble_eq_true rfl⟩) ?_
    refine kz_i2l hx hb (by first | omega | (unfold sgn; (try split) <;> omega)) dX3_hasDay_20 ?_
    refine kc0 (fun _ q => q) (va_runS (As := [.long (lZ (nn)), .long (lZ (1)), .long (lZ ((mlen (leap (σ 0 p1)) (σ 1 p1))))]) (rest := []) ⟨hx, hb, hml, hown, hts⟩ (c_X3_isIn l _ (nn) (1) (((mlen (leap (σ 0 p1)) (σ 1 p1)))) (by first | omega | (unfold sgn; (try split) <;> omega)) (by first | omega | (unfold sgn; (try split) <;> omega)) (by first | omega | (unfold sgn; (try split) <;> omega))) (va_cwS 3 hts (kg_S mw1025 mw1026 mw47 rfl mw1027) rfl rfl rfl hdS_X3_isIn ⟨Nat.le_of_ble_eq_true rfl, Nat.le_of_ble_eq_true rfl⟩) ⟨fun a U g mk q => q, fun U hU hW => ⟨rfl, hU⟩⟩ rfl rfl hl.1 rfl (lv_room (Nat.le_of_ble_eq_true rfl)) dX3_hasDay_21 ⟨Nat.le_of_ble_eq_true rfl, Nat.le_of_ble_eq_true rfl⟩) ?_
    refine kz_ifb_eq (tgt := 31) hx hb  dX3_hasDay_24 (by decide) (fun c_2 => ?_) (fun c_2 => ?_)
    · refine lv_iconst (v := iZ 0) hx hb dX3_hasDay_31 rfl ?_
      refine W.widen (k := 0) (n := 0) (Nat.le_of_ble_eq_true rfl) (Nat.le_of_ble_eq_true rfl) ?_
      exact W.zret (v := iZ 0) (ty := .boolean) hx hb hr9 rfl (fun t ht hW => ⟨⟨congrArg (fun z : Int => Outcome.returned (some (Value.int (iZ z)))) (show 0 = (bZ (decide (ex2 (!inb ((p1 : Nat) : Int) 0 3) (false) = 0) && (decide (1 ≤ nn ∧ nn ≤ mlen (leap (σ 0 p1)) (σ 1 p1))))) from by rw [decide_eq_true hZ, Bool.true_and]; (try simp only [inb, decide_eq_true_eq, decide_eq_false_iff_not] at c_2); exact bZ_d0 (by omega)), gY_cast ⟨r0, hr, hrA, by rw [ht]; exact va_Pl hP⟩ (show (σ) = (σ) from rfl) (show (0) = ex2 (!inb ((p1 : Nat) : Int) 0 3) (false) from hZ.symm)⟩, hS.F ht⟩) hS.2.2 dX3_hasDay_32
    · refine lv_iconst (v := iZ 1) hx hb dX3_hasDay_27 rfl ?_
      refine lv_goto (tgt := 32) hx hb dX3_hasDay_28 (by decide) ?_
      refine W.widen (k := 0) (n := 0) (Nat.le_of_ble_eq_true rfl) (Nat.le_of_ble_eq_true rfl) ?_
      exact W.zret (v := iZ 1) (ty := .boolean) hx hb hr9 rfl (fun t ht hW => ⟨⟨congrArg (fun z : Int => Outcome.returned (some (Value.int (iZ z)))) (show 1 = (bZ (decide (ex2 (!inb ((p1 : Nat) : Int) 0 3) (false) = 0) && (decide (1 ≤ nn ∧ nn ≤ mlen (leap (σ 0 p1)) (σ 1 p1))))) from by rw [decide_eq_true hZ, Bool.true_and]; (try simp only [inb, decide_eq_true_eq, decide_eq_false_iff_not] at c_2); exact bZ_d1 (by omega)), gY_cast ⟨r0, hr, hrA, by rw [ht]; exact va_Pl hP⟩ (show (σ) = (σ) from rfl) (show (0) = ex2 (!inb ((p1 : Nat) : Int) 0 3) (false) from hZ.symm)⟩, hS.F ht⟩) hS.2.2 dX3_hasDay_32

abbrev ww_X3_leafOrder : List Cond := .code yX3_leafOrder cX3_leafOrder 4 (some .int) :: gT
set_option maxHeartbeats 4000000 in
set_option maxRecDepth 100000 in
theorem c_X3_leafOrder (l : Launch) (dC : Nat → ClassId) (dI : Nat → Nat → Nat) (dA : Nat → ClassId) (k : Nat → Nat) (m0 : Nat) (r0 : Nat → Nat → Nat) (σ : Nat → Nat → Int) (th : Int) (H0 : Heap) (hP : va_P (dC, dI) vwCl (kY dA m0 r0 σ th) H0) (hr : kRI m0 r0 k) (hOK : kOK σ) (z1 : Int) (z2 : Int) (w0 : Int) (rz1 : -2147483648 ≤ z1 ∧ z1 < 2147483648) (rz2 : -2147483648 ≤ z2 ∧ z2 < 2147483648) (rw0 : -2147483648 ≤ w0 ∧ w0 < 2147483648) : Met l yX3_leafOrder ww_X3_leafOrder ({ frames := 2, cells := 0, slots := 0, locals := 45 }) (va_Pc [.ref m0, .int (iZ z1), .int (iZ z2), .int (iZ w0)] (fun U => U.heap = H0 ∧ kM dC dI dA k U)) (kQ2 (some (.int (iZ (if ex2 (!inb z1 0 3 || !inb z2 0 3) (!inb w0 0 2) = 0 then (ordT (cnt (σ 0 (z1.toNat)) (σ 1 (z1.toNat))) (cnt (σ 0 (z2.toNat)) (σ 1 (z2.toNat))) w0) else 0)))) (gY dC dI dA k m0 r0 H0.size (σ) (ex2 (!inb z1 0 3 || !inb z2 0 3) (!inb w0 0 2))) (kAy m0 r0 H0.size)) 0 0 (kAy m0 r0 H0.size) := by
  refine Met.ofW (cc := cX3_leafOrder) (maxL := 4) (ret := (some .int)) (by decide) rfl ?_
  intro p e s m args below meth c s₁ B hml hv
  obtain ⟨rfl, hH, hM⟩ := hv
  subst hH
  have hr0 := hr
  have hAN : ∀ a, kAy m0 r0 s.heap.size a → k 0 ≤ a := fun a h => kAy_N hr0 hM.2.1.1 a h
  have hrA : ∀ i : Nat, i < 17 → kAy m0 r0 s.heap.size (kR m0 r0 i) := fun i hi => Or.inl ⟨i, hi, rfl⟩
  have hD : va_D (kAy m0 r0 s.heap.size) (kY dA m0 r0 σ (th) ++ ([] : va_W)) := by rw [← kap]; exact kYD_A hr hrA
  have hP : va_P (dC, dI) vwCl (kY dA m0 r0 σ (th) ++ ([] : va_W)) s.heap := hP
  have hS : va_S (kAy m0 r0 s.heap.size) s.heap s.heap [] := va_S.rf
  have hx := B.exec
  have hb := B.bytes
  have hr9 := B.returns
  have hts := atoms_spec (ws := ww_X3_leafOrder) B.pre
  have hown : s.vm.findClass RX3 = some m.cls := findClass_of_methodNamed B.named
  have hlocks := B.notSynchronized
  have hl := lv_entry ([.ref m0, .int (iZ z1), .int (iZ z2), .int (iZ w0)]) (n := 4) (Nat.le_of_ble_eq_true rfl)
  rw [lg_entry_eq]
  generalize (lg_sl ([.ref m0, .int (iZ z1), .int (iZ z2), .int (iZ w0)]) ++ List.replicate (4 - (lg_sl ([.ref m0, .int (iZ z1), .int (iZ z2), .int (iZ w0)])).length) Slot.unset).toArray = ls at hl ⊢
  have hl : lv_has ls 4 [(0, .ref m0), (1, .int (iZ z1)), (2, .int (iZ z2)), (3, .int (iZ w0))] := hl
  refine lv_aload_n hx hb dX3_leafOrder_0 rfl (lv_at hl 0 rfl) ?_
  refine lv_iload_n hx hb dX3_leafOrder_1 rfl (lv_at hl 1 rfl) ?_
  refine kc0 (fun _ q => q) (va_runS (As := [.int (iZ z1)]) (rest := [.ref m0]) ⟨hx, hb, hml, hown, hts⟩ (c_X3_isNo l _ (z1) (by first | omega | (unfold sgn; (try split) <;> omega))) (va_cwS 1 hts (kg_S mw1021 mw1022 mw47 rfl mw1023) rfl rfl rfl hdS_X3_isNo ⟨Nat.le_of_ble_eq_true rfl, Nat.le_of_ble_eq_true rfl⟩) ⟨fun a U g mk q => q, fun U hU hW => ⟨rfl, hU⟩⟩ rfl rfl hl.1 rfl (lv_room (Nat.le_of_ble_eq_true rfl)) dX3_leafOrder_2 ⟨Nat.le_of_ble_eq_true rfl, Nat.le_of_ble_eq_true rfl⟩) ?_
  refine kz_ifb_ne (tgt := 15) hx hb  dX3_leafOrder_5 (by decide) (fun c_1 => ?_) (fun c_1 => ?_)
  · refine lv_iconst (v := iZ 1) hx hb dX3_leafOrder_15 rfl ?_
    refine lv_goto (tgt := 20) hx hb dX3_leafOrder_16 (by decide) ?_
    refine lv_iload_n hx hb dX3_leafOrder_20 rfl (lv_at hl 3 rfl) ?_
    refine kc0 (fun _ q => q) (va_runS (As := [.int (iZ w0)]) (rest := [.int (iZ 1), .ref m0]) ⟨hx, hb, hml, hown, hts⟩ (c_X3_isNoOrder l _ (w0) (by first | omega | (unfold sgn; (try split) <;> omega))) (va_cwS 1 hts (kg_S mw1301 mw1302 mw47 rfl mw1303) rfl rfl rfl hdS_X3_isNoOrder ⟨Nat.le_of_ble_eq_true rfl, Nat.le_of_ble_eq_true rfl⟩) ⟨fun a U g mk q => q, fun U hU hW => ⟨rfl, hU⟩⟩ rfl rfl hl.1 rfl (lv_room (Nat.le_of_ble_eq_true rfl)) dX3_leafOrder_21 ⟨Nat.le_of_ble_eq_true rfl, Nat.le_of_ble_eq_true rfl⟩) ?_
    refine kc2 (va_runV (As := [.int (iZ (bZ true)), .int (iZ (bZ (!inb ((w0)) 0 2)))]) (rest := []) ⟨hx, hb, hml, hown, hts⟩ (c_X3_fails l dC dI dA k m0 (r0) (σ) (th) _ (va_Pl hP) hr hOK true (!inb ((w0)) 0 2) ) (cwV 2 hts (kg_V mw1037 mw1038 mw27 mw47 rfl mw1039) rfl rfl rfl hdV_X3_fails ⟨Nat.le_of_ble_eq_true rfl, Nat.le_of_ble_eq_true rfl⟩) ⟨fun a U g mk q => ⟨q.1, q.2.1, kM_call q.2.2⟩, va_recv hM.1 hP (ci := 6) (q0 := 0) rfl rfl, fun U hU hW => ⟨rfl, hU, kM_kept hM hS hAN hU hW⟩⟩ rfl rfl hl.1 rfl (lv_room (Nat.le_of_ble_eq_true rfl)) dX3_leafOrder_24 ⟨Nat.le_of_ble_eq_true rfl, Nat.le_of_ble_eq_true rfl⟩) hS (fun a _ h => kAy_tr hrA hS.1 a h) (fun a h => kAy_tr hrA hS.1 a h) (fun H locs hP9 hz9 hk9 hS => ?_)
    have hP : va_P (dC, dI) vwCl (kY dA m0 r0 σ (ex2 true ((!inb ((w0)) 0 2))) ++ ([] : va_W)) _ := hP9
    have hD : va_D (kAy m0 r0 s.heap.size) (kY dA m0 r0 σ (ex2 true ((!inb ((w0)) 0 2))) ++ ([] : va_W)) := by rw [← kap]; exact kYD_A hr hrA
    refine kz_ifb_eq (tgt := 34) hx hb  dX3_leafOrder_27 (by decide) (fun c_2 => absurd (kf_f c_2).1 (by decide)) (fun c_2 => ?_)
    have hX : ex2 (!inb z1 0 3 || !inb z2 0 3) (!inb w0 0 2) = ex2 true (!inb ((w0)) 0 2) := by first | rfl | simp only [c_1, Bool.true_or, Bool.or_true, Bool.false_or, Bool.or_false, Bool.not_true, Bool.not_false]
    have hN : ¬ ex2 (!inb z1 0 3 || !inb z2 0 3) (!inb w0 0 2) = 0 := kf_ne hX c_2
    refine lv_iconst (v := iZ 0) hx hb dX3_leafOrder_30 rfl ?_
    refine lv_goto (tgt := 56) hx hb dX3_leafOrder_31 (by decide) ?_
    refine W.widen (k := 0) (n := 0) (Nat.le_of_ble_eq_true rfl) (Nat.le_of_ble_eq_true rfl) ?_
    exact W.iret (v := iZ 0) hx hb hr9 (fun t ht hW => ⟨⟨congrArg (fun z : Int => Outcome.returned (some (Value.int (iZ z)))) (show 0 = (if ex2 (!inb z1 0 3 || !inb z2 0 3) (!inb w0 0 2) = 0 then (ordT (cnt (σ 0 (z1.toNat)) (σ 1 (z1.toNat))) (cnt (σ 0 (z2.toNat)) (σ 1 (z2.toNat))) w0) else 0) from by rw [if_neg hN]), gY_cast ⟨r0, hr, hrA, by rw [ht]; exact va_Pl hP⟩ (show (σ) = (σ) from rfl) (show (ex2 true ((!inb ((w0)) 0 2))) = ex2 (!inb z1 0 3 || !inb z2 0 3) (!inb w0 0 2) from hX.symm)⟩, hS.F ht⟩) hS.2.2 dX3_leafOrder_56
  · refine lv_iload_n hx hb dX3_leafOrder_8 rfl (lv_at hl 2 rfl) ?_
    refine kc0 (fun _ q => q) (va_runS (As := [.int (iZ z2)]) (rest := [.ref m0]) ⟨hx, hb, hml, hown, hts⟩ (c_X3_isNo l _ (z2) (by first | omega | (unfold sgn; (try split) <;> omega))) (va_cwS 1 hts (kg_S mw1021 mw1022 mw47 rfl mw1023) rfl rfl rfl hdS_X3_isNo ⟨Nat.le_of_ble_eq_true rfl, Nat.le_of_ble_eq_true rfl⟩) ⟨fun a U g mk q => q, fun U hU hW => ⟨rfl, hU⟩⟩ rfl rfl hl.1 rfl (lv_room (Nat.le_of_ble_eq_true rfl)) dX3_leafOrder_9 ⟨Nat.le_of_ble_eq_true rfl, Nat.le_of_ble_eq_true rfl⟩) ?_
    refine kz_ifb_eq (tgt := 19) hx hb  dX3_leafOrder_12 (by decide) (fun c_3 => ?_) (fun c_3 => ?_)
    · refine lv_iconst (v := iZ 0) hx hb dX3_leafOrder_19 rfl ?_
      refine lv_iload_n hx hb dX3_leafOrder_20 rfl (lv_at hl 3 rfl) ?_
      refine kc0 (fun _ q => q) (va_runS (As := [.int (iZ w0)]) (rest := [.int (iZ 0), .ref m0]) ⟨hx, hb, hml, hown, hts⟩ (c_X3_isNoOrder l _ (w0) (by first | omega | (unfold sgn; (try split) <;> omega))) (va_cwS 1 hts (kg_S mw1301 mw1302 mw47 rfl mw1303) rfl rfl rfl hdS_X3_isNoOrder ⟨Nat.le_of_ble_eq_true rfl, Nat.le_of_ble_eq_true rfl⟩) ⟨fun a U g mk q => q, fun U hU hW => ⟨rfl, hU⟩⟩ rfl rfl hl.1 rfl (lv_room (Nat.le_of_ble_eq_true rfl)) dX3_leafOrder_21 ⟨Nat.le_of_ble_eq_true rfl, Nat.le_of_ble_eq_true rfl⟩) ?_
      refine kc2 (va_runV (As := [.int (iZ (bZ false)), .int (iZ (bZ (!inb ((w0)) 0 2)))]) (rest := []) ⟨hx, hb, hml, hown, hts⟩ (c_X3_fails l dC dI dA k m0 (r0) (σ) (th) _ (va_Pl hP) hr hOK false (!inb ((w0)) 0 2) ) (cwV 2 hts (kg_V mw1037 mw1038 mw27 mw47 rfl mw1039) rfl rfl rfl hdV_X3_fails ⟨Nat.le_of_ble_eq_true rfl, Nat.le_of_ble_eq_true rfl⟩) ⟨fun a U g mk q => ⟨q.1, q.2.1, kM_call q.2.2⟩, va_recv hM.1 hP (ci := 6) (q0 := 0) rfl rfl, fun U hU hW => ⟨rfl, hU, kM_kept hM hS hAN hU hW⟩⟩ rfl rfl hl.1 rfl (lv_room (Nat.le_of_ble_eq_true rfl)) dX3_leafOrder_24 ⟨Nat.le_of_ble_eq_true rfl, Nat.le_of_ble_eq_true rfl⟩) hS (fun a _ h => kAy_tr hrA hS.1 a h) (fun a h => kAy_tr hrA hS.1 a h) (fun H locs hP9 hz9 hk9 hS => ?_)
      have hP : va_P (dC, dI) vwCl (kY dA m0 r0 σ (ex2 false ((!inb ((w0)) 0 2))) ++ ([] : va_W)) _ := hP9
      have hD : va_D (kAy m0 r0 s.heap.size) (kY dA m0 r0 σ (ex2 false ((!inb ((w0)) 0 2))) ++ ([] : va_W)) := by rw [← kap]; exact kYD_A hr hrA
      refine kz_ifb_eq (tgt := 34) hx hb  dX3_leafOrder_27 (by decide) (fun c_4 => ?_) (fun c_4 => ?_)
      · have hX : ex2 (!inb z1 0 3 || !inb z2 0 3) (!inb w0 0 2) = ex2 false (!inb ((w0)) 0 2) := by first | rfl | simp only [c_1, c_3, Bool.true_or, Bool.or_true, Bool.false_or, Bool.or_false, Bool.not_true, Bool.not_false]
        have hZ : ex2 (!inb z1 0 3 || !inb z2 0 3) (!inb w0 0 2) = 0 := kf_eq hX c_4
        obtain ⟨hA9, hB9⟩ := ex2_z hZ
        simp only [Bool.or_eq_false_iff, Bool.not_eq_false', Bool.not_eq_true', inb, decide_eq_true_eq, decide_eq_false_iff_not, noThing_niff] at hA9
        simp only [Bool.or_eq_false_iff, Bool.not_eq_false', Bool.not_eq_true', inb, decide_eq_true_eq, decide_eq_false_iff_not, noThing_niff] at hB9
        obtain ⟨p1, hp1, rfl⟩ : ∃ p1 : Nat, p1 < 4 ∧ z1 = (p1 : Int) := ⟨z1.toNat, by omega, by omega⟩
        have o_p1 := kOKr hOK hp1
        have l_p1 := mlen_rng (leap (σ 0 p1)) (σ 1 p1)
        have n_p1 := dnum_rng (y := σ 5 p1) (m := σ 6 p1) (d := σ 7 p1) (by omega) (by omega) (by omega)
        obtain ⟨p2, hp2, rfl⟩ : ∃ p2 : Nat, p2 < 4 ∧ z2 = (p2 : Int) := ⟨z2.toNat, by omega, by omega⟩
        have o_p2 := kOKr hOK hp2
        have l_p2 := mlen_rng (leap (σ 0 p2)) (σ 1 p2)
        have n_p2 := dnum_rng (y := σ 5 p2) (m := σ 6 p2) (d := σ 7 p2) (by omega) (by omega) (by omega)
        have hP := kY0 hP (kf_e c_4)
        have hD := kD0 hD (kf_e c_4)
        refine lv_aload_n hx hb dX3_leafOrder_34 rfl (lv_at hl 0 rfl) ?_
        refine va_get (D := (dC, dI)) (ci := 6) (v := .ref (r0 0 1)) (C := RX3) (T := TX3) (N := 6) hx hb hts (fun w h => List.mem_cons_of_mem _ (gF_2_in h)) hown hM.1 hP 0 rfl rfl 0 (by decide) (hts _ (List.mem_cons_of_mem _ mw1007)) (fun _ h9 => h9) rfl dX3_leafOrder_35 ?_
        refine lv_iload_n hx hb dX3_leafOrder_38 rfl (lv_at hl 1 rfl) ?_
        refine kz_aald (v := r0 1 p1) hx hb hM.1 hP 1 rfl (by omega) (by decide) rfl dX3_leafOrder_39 ?_
        refine kc0 (fun _ q => q) (va_runS (As := [.ref (r0 1 p1)]) (rest := []) ⟨hx, hb, hml, hown, hts⟩ (c_X3_countOf l dC dI dA k _ _ hP (5 + p1) (r0 1 p1) _ (σ 0 p1) (σ 1 p1) (kY_L _ hp1) rfl rfl (by first | omega | (unfold sgn; (try split) <;> omega)) (by first | omega | (unfold sgn; (try split) <;> omega))) (va_cwS 1 hts (kg_S mw1070 mw1071 mw47 rfl mw1072) rfl rfl rfl hdS_X3_countOf ⟨Nat.le_of_ble_eq_true rfl, Nat.le_of_ble_eq_true rfl⟩) ⟨fun a U g mk q => ⟨q.1, q.2.1, kM_call q.2.2⟩, fun U hU hW => ⟨rfl, hU, kM_kept hM hS hAN hU hW⟩⟩ rfl rfl hl.1 rfl (lv_room (Nat.le_of_ble_eq_true rfl)) dX3_leafOrder_40 ⟨Nat.le_of_ble_eq_true rfl, Nat.le_of_ble_eq_true rfl⟩) ?_
        refine lv_aload_n hx hb dX3_leafOrder_43 rfl (lv_at hl 0 rfl) ?_
        refine va_get (D := (dC, dI)) (ci := 6) (v := .ref (r0 0 1)) (C := RX3) (T := TX3) (N := 6) hx hb hts (fun w h => List.mem_cons_of_mem _ (gF_2_in h)) hown hM.1 hP 0 rfl rfl 0 (by decide) (hts _ (List.mem_cons_of_mem _ mw1007)) (fun _ h9 => h9) rfl dX3_leafOrder_44 ?_
        refine lv_iload_n hx hb dX3_leafOrder_47 rfl (lv_at hl 2 rfl) ?_
        refine kz_aald (v := r0 1 p2) hx hb hM.1 hP 1 rfl (by omega) (by decide) rfl dX3_leafOrder_48 ?_
        refine kc0 (fun _ q => q) (va_runS (As := [.ref (r0 1 p2)]) (rest := [.long (lZ (cnt ((σ 0 p1)) ((σ 1 p1))))]) ⟨hx, hb, hml, hown, hts⟩ (c_X3_countOf l dC dI dA k _ _ hP (5 + p2) (r0 1 p2) _ (σ 0 p2) (σ 1 p2) (kY_L _ hp2) rfl rfl (by first | omega | (unfold sgn; (try split) <;> omega)) (by first | omega | (unfold sgn; (try split) <;> omega))) (va_cwS 1 hts (kg_S mw1070 mw1071 mw47 rfl mw1072) rfl rfl rfl hdS_X3_countOf ⟨Nat.le_of_ble_eq_true rfl, Nat.le_of_ble_eq_true rfl⟩) ⟨fun a U g mk q => ⟨q.1, q.2.1, kM_call q.2.2⟩, fun U hU hW => ⟨rfl, hU, kM_kept hM hS hAN hU hW⟩⟩ rfl rfl hl.1 rfl (lv_room (Nat.le_of_ble_eq_true rfl)) dX3_leafOrder_49 ⟨Nat.le_of_ble_eq_true rfl, Nat.le_of_ble_eq_true rfl⟩) ?_
        refine lv_iload_n hx hb dX3_leafOrder_52 rfl (lv_at hl 3 rfl) ?_
        refine kc0 (fun _ q => q) (va_runS (As := [.long (lZ (cnt ((σ 0 p1)) ((σ 1 p1)))), .long (lZ (cnt ((σ 0 p2)) ((σ 1 p2)))), .int (iZ w0)]) (rest := []) ⟨hx, hb, hml, hown, hts⟩ (c_X3_order l _ ((cnt ((σ 0 p1)) ((σ 1 p1)))) ((cnt ((σ 0 p2)) ((σ 1 p2)))) (w0) (by first | omega | (unfold sgn; (try split) <;> omega)) (by first | omega | (unfold sgn; (try split) <;> omega)) (by first | omega | (unfold sgn; (try split) <;> omega))) (va_cwS 3 hts (kg_S mw1304 mw1305 mw47 rfl mw1306) rfl rfl rfl hdS_X3_order ⟨Nat.le_of_ble_eq_true rfl, Nat.le_of_ble_eq_true rfl⟩) ⟨fun a U g mk q => q, fun U hU hW => ⟨rfl, hU⟩⟩ rfl rfl hl.1 rfl (lv_room (Nat.le_of_ble_eq_true rfl)) dX3_leafOrder_53 ⟨Nat.le_of_ble_eq_true rfl, Nat.le_of_ble_eq_true rfl⟩) ?_
        refine W.widen (k := 0) (n := 0) (Nat.le_of_ble_eq_true rfl) (Nat.le_of_ble_eq_true rfl) ?_
        exact W.iret (v := iZ (ordT (((cnt ((σ 0 p1)) ((σ 1 p1))))) (((cnt ((σ 0 p2)) ((σ 1 p2))))) ((w0)))) hx hb hr9 (fun t ht hW => ⟨⟨congrArg (fun z : Int => Outcome.returned (some (Value.int (iZ z)))) (show (ordT (((cnt ((σ 0 p1)) ((σ 1 p1))))) (((cnt ((σ 0 p2)) ((σ 1 p2))))) ((w0))) = (if ex2 (!inb ((p1 : Nat) : Int) 0 3 || !inb ((p2 : Nat) : Int) 0 3) (!inb w0 0 2) = 0 then (ordT (cnt (σ 0 p1) (σ 1 p1)) (cnt (σ 0 p2) (σ 1 p2)) w0) else 0) from by rw [if_pos hZ]; done), gY_cast ⟨r0, hr, hrA, by rw [ht]; exact va_Pl hP⟩ (show (σ) = (σ) from rfl) (show (0) = ex2 (!inb ((p1 : Nat) : Int) 0 3 || !inb ((p2 : Nat) : Int) 0 3) (!inb w0 0 2) from hZ.symm)⟩, hS.F ht⟩) hS.2.2 dX3_leafOrder_56
      · have hX : ex2 (!inb z1 0 3 || !inb z2 0 3) (!inb w0 0 2) = ex2 false (!inb ((w0)) 0 2) := by first | rfl | simp only [c_1, c_3, Bool.true_or, Bool.or_true, Bool.false_or, Bool.or_false, Bool.not_true, Bool.not_false]
        have hN : ¬ ex2 (!inb z1 0 3 || !inb z2 0 3) (!inb w0 0 2) = 0 := kf_ne hX c_4
        refine lv_iconst (v := iZ 0) hx hb dX3_leafOrder_30 rfl ?_
        refine lv_goto (tgt := 56) hx hb dX3_leafOrder_31 (by decide) ?_
        refine W.widen (k := 0) (n := 0) (Nat.le_of_ble_eq_true rfl) (Nat.le_of_ble_eq_true rfl) ?_
        exact W.iret (v := iZ 0) hx hb hr9 (fun t ht hW => ⟨⟨congrArg (fun z : Int => Outcome.returned (some (Value.int (iZ z)))) (show 0 = (if ex2 (!inb z1 0 3 || !inb z2 0 3) (!inb w0 0 2) = 0 then (ordT (cnt (σ 0 (z1.toNat)) (σ 1 (z1.toNat))) (cnt (σ 0 (z2.toNat)) (σ 1 (z2.toNat))) w0) else 0) from by rw [if_neg hN]), gY_cast ⟨r0, hr, hrA, by rw [ht]; exact va_Pl hP⟩ (show (σ) = (σ) from rfl) (show (ex2 false ((!inb ((w0)) 0 2))) = ex2 (!inb z1 0 3 || !inb z2 0 3) (!inb w0 0 2) from hX.symm)⟩, hS.F ht⟩) hS.2.2 dX3_leafOrder_56
    · refine lv_iconst (v := iZ 1) hx hb dX3_leafOrder_15 rfl ?_
      refine lv_goto (tgt := 20) hx hb dX3_leafOrder_16 (by decide) ?_
      refine lv_iload_n hx hb dX3_leafOrder_20 rfl (lv_at hl 3 rfl) ?_
      refine kc0 (fun _ q => q) (va_runS (As := [.int (iZ w0)]) (rest := [.int (iZ 1), .ref m0]) ⟨hx, hb, hml, hown, hts⟩ (c_X3_isNoOrder l _ (w0) (by first | omega | (unfold sgn; (try split) <;> omega))) (va_cwS 1 hts (kg_S mw1301 mw1302 mw47 rfl mw1303) rfl rfl rfl hdS_X3_isNoOrder ⟨Nat.le_of_ble_eq_true rfl, Nat.le_of_ble_eq_true rfl⟩) ⟨fun a U g mk q => q, fun U hU hW => ⟨rfl, hU⟩⟩ rfl rfl hl.1 rfl (lv_room (Nat.le_of_ble_eq_true rfl)) dX3_leafOrder_21 ⟨Nat.le_of_ble_eq_true rfl, Nat.le_of_ble_eq_true rfl⟩) ?_
      refine kc2 (va_runV (As := [.int (iZ (bZ true)), .int (iZ (bZ (!inb ((w0)) 0 2)))]) (rest := []) ⟨hx, hb, hml, hown, hts⟩ (c_X3_fails l dC dI dA k m0 (r0) (σ) (th) _ (va_Pl hP) hr hOK true (!inb ((w0)) 0 2) ) (cwV 2 hts (kg_V mw1037 mw1038 mw27 mw47 rfl mw1039) rfl rfl rfl hdV_X3_fails ⟨Nat.le_of_ble_eq_true rfl, Nat.le_of_ble_eq_true rfl⟩) ⟨fun a U g mk q => ⟨q.1, q.2.1, kM_call q.2.2⟩, va_recv hM.1 hP (ci := 6) (q0 := 0) rfl rfl, fun U hU hW => ⟨rfl, hU, kM_kept hM hS hAN hU hW⟩⟩ rfl rfl hl.1 rfl (lv_room (Nat.le_of_ble_eq_true rfl)) dX3_leafOrder_24 ⟨Nat.le_of_ble_eq_true rfl, Nat.le_of_ble_eq_true rfl⟩) hS (fun a _ h => kAy_tr hrA hS.1 a h) (fun a h => kAy_tr hrA hS.1 a h) (fun H locs hP9 hz9 hk9 hS => ?_)
      have hP : va_P (dC, dI) vwCl (kY dA m0 r0 σ (ex2 true ((!inb ((w0)) 0 2))) ++ ([] : va_W)) _ := hP9
      have hD : va_D (kAy m0 r0 s.heap.size) (kY dA m0 r0 σ (ex2 true ((!inb ((w0)) 0 2))) ++ ([] : va_W)) := by rw [← kap]; exact kYD_A hr hrA
      refine kz_ifb_eq (tgt := 34) hx hb  dX3_leafOrder_27 (by decide) (fun c_5 => absurd (kf_f c_5).1 (by decide)) (fun c_5 => ?_)
      have hX : ex2 (!inb z1 0 3 || !inb z2 0 3) (!inb w0 0 2) = ex2 true (!inb ((w0)) 0 2) := by first | rfl | simp only [c_1, c_3, Bool.true_or, Bool.or_true, Bool.false_or, Bool.or_false, Bool.not_true, Bool.not_false]
      have hN : ¬ ex2 (!inb z1 0 3 || !inb z2 0 3) (!inb w0 0 2) = 0 := kf_ne hX c_5
      refine lv_iconst (v := iZ 0) hx hb dX3_leafOrder_30 rfl ?_
      refine lv_goto (tgt := 56) hx hb dX3_leafOrder_31 (by decide) ?_
      refine W.widen (k := 0) (n := 0) (Nat.le_of_ble_eq_true rfl) (Nat.le_of_ble_eq_true rfl) ?_
      exact W.iret (v := iZ 0) hx hb hr9 (fun t ht hW => ⟨⟨congrArg (fun z : Int => Outcome.returned (some (Value.int (iZ z)))) (show 0 = (if ex2 (!inb z1 0 3 || !inb z2 0 3) (!inb w0 0 2) = 0 then (ordT (cnt (σ 0 (z1.toNat)) (σ 1 (z1.toNat))) (cnt (σ 0 (z2.toNat)) (σ 1 (z2.toNat))) w0) else 0) from by rw [if_neg hN]), gY_cast ⟨r0, hr, hrA, by rw [ht]; exact va_Pl hP⟩ (show (σ) = (σ) from rfl) (show (ex2 true ((!inb ((w0)) 0 2))) = ex2 (!inb z1 0 3 || !inb z2 0 3) (!inb w0 0 2) from hX.symm)⟩, hS.F ht⟩) hS.2.2 dX3_leafOrder_56

abbrev ww_X3_yearOrder : List Cond := .code yX3_yearOrder cX3_yearOrder 4 (some .int) :: gT
set_option maxHeartbeats 4000000 in
set_option maxRecDepth 100000 in
theorem c_X3_yearOrder (l : Launch) (dC : Nat → ClassId) (dI : Nat → Nat → Nat) (dA : Nat → ClassId) (k : Nat → Nat) (m0 : Nat) (r0 : Nat → Nat → Nat) (σ : Nat → Nat → Int) (th : Int) (H0 : Heap) (hP : va_P (dC, dI) vwCl (kY dA m0 r0 σ th) H0) (hr : kRI m0 r0 k) (hOK : kOK σ) (z1 : Int) (z2 : Int) (w0 : Int) (rz1 : -2147483648 ≤ z1 ∧ z1 < 2147483648) (rz2 : -2147483648 ≤ z2 ∧ z2 < 2147483648) (rw0 : -2147483648 ≤ w0 ∧ w0 < 2147483648) : Met l yX3_yearOrder ww_X3_yearOrder ({ frames := 2, cells := 0, slots := 0, locals := 45 }) (va_Pc [.ref m0, .int (iZ z1), .int (iZ z2), .int (iZ w0)] (fun U => U.heap = H0 ∧ kM dC dI dA k U)) (kQ2 (some (.int (iZ (if ex2 (!inb z1 0 3 || !inb z2 0 3) (!inb w0 0 2) = 0 then (ordT (σ 2 (z1.toNat)) (σ 2 (z2.toNat)) w0) else 0)))) (gY dC dI dA k m0 r0 H0.size (σ) (ex2 (!inb z1 0 3 || !inb z2 0 3) (!inb w0 0 2))) (kAy m0 r0 H0.size)) 0 0 (kAy m0 r0 H0.size) := by
  refine Met.ofW (cc := cX3_yearOrder) (maxL := 4) (ret := (some .int)) (by decide) rfl ?_
  intro p e s m args below meth c s₁ B hml hv
  obtain ⟨rfl, hH, hM⟩ := hv
  subst hH
  have hr0 := hr
  have hAN : ∀ a, kAy m0 r0 s.heap.size a → k 0 ≤ a := fun a h => kAy_N hr0 hM.2.1.1 a h
  have hrA : ∀ i : Nat, i < 17 → kAy m0 r0 s.heap.size (kR m0 r0 i) := fun i hi => Or.inl ⟨i, hi, rfl⟩
  have hD : va_D (kAy m0 r0 s.heap.size) (kY dA m0 r0 σ (th) ++ ([] : va_W)) := by rw [← kap]; exact kYD_A hr hrA
  have hP : va_P (dC, dI) vwCl (kY dA m0 r0 σ (th) ++ ([] : va_W)) s.heap := hP
  have hS : va_S (kAy m0 r0 s.heap.size) s.heap s.heap [] := va_S.rf
  have hx := B.exec
  have hb := B.bytes
  have hr9 := B.returns
  have hts := atoms_spec (ws := ww_X3_yearOrder) B.pre
  have hown : s.vm.findClass RX3 = some m.cls := findClass_of_methodNamed B.named
  have hlocks := B.notSynchronized
  have hl := lv_entry ([.ref m0, .int (iZ z1), .int (iZ z2), .int (iZ w0)]) (n := 4) (Nat.le_of_ble_eq_true rfl)
  rw [lg_entry_eq]
  generalize (lg_sl ([.ref m0, .int (iZ z1), .int (iZ z2), .int (iZ w0)]) ++ List.replicate (4 - (lg_sl ([.ref m0, .int (iZ z1), .int (iZ z2), .int (iZ w0)])).length) Slot.unset).toArray = ls at hl ⊢
  have hl : lv_has ls 4 [(0, .ref m0), (1, .int (iZ z1)), (2, .int (iZ z2)), (3, .int (iZ w0))] := hl
  refine lv_aload_n hx hb dX3_yearOrder_0 rfl (lv_at hl 0 rfl) ?_
  refine lv_iload_n hx hb dX3_yearOrder_1 rfl (lv_at hl 1 rfl) ?_
  refine kc0 (fun _ q => q) (va_runS (As := [.int (iZ z1)]) (rest := [.ref m0]) ⟨hx, hb, hml, hown, hts⟩ (c_X3_isNo l _ (z1) (by first | omega | (unfold sgn; (try split) <;> omega))) (va_cwS 1 hts (kg_S mw1021 mw1022 mw47 rfl mw1023) rfl rfl rfl hdS_X3_isNo ⟨Nat.le_of_ble_eq_true rfl, Nat.le_of_ble_eq_true rfl⟩) ⟨fun a U g mk q => q, fun U hU hW => ⟨rfl, hU⟩⟩ rfl rfl hl.1 rfl (lv_room (Nat.le_of_ble_eq_true rfl)) dX3_yearOrder_2 ⟨Nat.le_of_ble_eq_true rfl, Nat.le_of_ble_eq_true rfl⟩) ?_
  refine kz_ifb_ne (tgt := 15) hx hb  dX3_yearOrder_5 (by decide) (fun c_1 => ?_) (fun c_1 => ?_)
  · refine lv_iconst (v := iZ 1) hx hb dX3_yearOrder_15 rfl ?_
    refine lv_goto (tgt := 20) hx hb dX3_yearOrder_16 (by decide) ?_
    refine lv_iload_n hx hb dX3_yearOrder_20 rfl (lv_at hl 3 rfl) ?_
    refine kc0 (fun _ q => q) (va_runS (As := [.int (iZ w0)]) (rest := [.int (iZ 1), .ref m0]) ⟨hx, hb, hml, hown, hts⟩ (c_X3_isNoOrder l _ (w0) (by first | omega | (unfold sgn; (try split) <;> omega))) (va_cwS 1 hts (kg_S mw1301 mw1302 mw47 rfl mw1303) rfl rfl rfl hdS_X3_isNoOrder ⟨Nat.le_of_ble_eq_true rfl, Nat.le_of_ble_eq_true rfl⟩) ⟨fun a U g mk q => q, fun U hU hW => ⟨rfl, hU⟩⟩ rfl rfl hl.1 rfl (lv_room (Nat.le_of_ble_eq_true rfl)) dX3_yearOrder_21 ⟨Nat.le_of_ble_eq_true rfl, Nat.le_of_ble_eq_true rfl⟩) ?_
    refine kc2 (va_runV (As := [.int (iZ (bZ true)), .int (iZ (bZ (!inb ((w0)) 0 2)))]) (rest := []) ⟨hx, hb, hml, hown, hts⟩ (c_X3_fails l dC dI dA k m0 (r0) (σ) (th) _ (va_Pl hP) hr hOK true (!inb ((w0)) 0 2) ) (cwV 2 hts (kg_V mw1037 mw1038 mw27 mw47 rfl mw1039) rfl rfl rfl hdV_X3_fails ⟨Nat.le_of_ble_eq_true rfl, Nat.le_of_ble_eq_true rfl⟩) ⟨fun a U g mk q => ⟨q.1, q.2.1, kM_call q.2.2⟩, va_recv hM.1 hP (ci := 6) (q0 := 0) rfl rfl, fun U hU hW => ⟨rfl, hU, kM_kept hM hS hAN hU hW⟩⟩ rfl rfl hl.1 rfl (lv_room (Nat.le_of_ble_eq_true rfl)) dX3_yearOrder_24 ⟨Nat.le_of_ble_eq_true rfl, Nat.le_of_ble_eq_true rfl⟩) hS (fun a _ h => kAy_tr hrA hS.1 a h) (fun a h => kAy_tr hrA hS.1 a h) (fun H locs hP9 hz9 hk9 hS => ?_)
    have hP : va_P (dC, dI) vwCl (kY dA m0 r0 σ (ex2 true ((!inb ((w0)) 0 2))) ++ ([] : va_W)) _ := hP9
    have hD : va_D (kAy m0 r0 s.heap.size) (kY dA m0 r0 σ (ex2 true ((!inb ((w0)) 0 2))) ++ ([] : va_W)) := by rw [← kap]; exact kYD_A hr hrA
    refine kz_ifb_eq (tgt := 34) hx hb  dX3_yearOrder_27 (by decide) (fun c_2 => absurd (kf_f c_2).1 (by decide)) (fun c_2 => ?_)
    have hX : ex2 (!inb z1 0 3 || !inb z2 0 3) (!inb w0 0 2) = ex2 true (!inb ((w0)) 0 2) := by first | rfl | simp only [c_1, Bool.true_or, Bool.or_true, Bool.false_or, Bool.or_false, Bool.not_true, Bool.not_false]
    have hN : ¬ ex2 (!inb z1 0 3 || !inb z2 0 3) (!inb w0 0 2) = 0 := kf_ne hX c_2
    refine lv_iconst (v := iZ 0) hx hb dX3_yearOrder_30 rfl ?_
    refine lv_goto (tgt := 52) hx hb dX3_yearOrder_31 (by decide) ?_
    refine W.widen (k := 0) (n := 0) (Nat.le_of_ble_eq_true rfl) (Nat.le_of_ble_eq_true rfl) ?_
    exact W.iret (v := iZ 0) hx hb hr9 (fun t ht hW => ⟨⟨congrArg (fun z : Int => Outcome.returned (some (Value.int (iZ z)))) (show 0 = (if ex2 (!inb z1 0 3 || !inb z2 0 3) (!inb w0 0 2) = 0 then (ordT (σ 2 (z1.toNat)) (σ 2 (z2.toNat)) w0) else 0) from by rw [if_neg hN]), gY_cast ⟨r0, hr, hrA, by rw [ht]; exact va_Pl hP⟩ (show (σ) = (σ) from rfl) (show (ex2 true ((!inb ((w0)) 0 2))) = ex2 (!inb z1 0 3 || !inb z2 0 3) (!inb w0 0 2) from hX.symm)⟩, hS.F ht⟩) hS.2.2 dX3_yearOrder_52
  · refine lv_iload_n hx hb dX3_yearOrder_8 rfl (lv_at hl 2 rfl) ?_
    refine kc0 (fun _ q => q) (va_runS (As := [.int (iZ z2)]) (rest := [.ref m0]) ⟨hx, hb, hml, hown, hts⟩ (c_X3_isNo l _ (z2) (by first | omega | (unfold sgn; (try split) <;> omega))) (va_cwS 1 hts (kg_S mw1021 mw1022 mw47 rfl mw1023) rfl rfl rfl hdS_X3_isNo ⟨Nat.le_of_ble_eq_true rfl, Nat.le_of_ble_eq_true rfl⟩) ⟨fun a U g mk q => q, fun U hU hW => ⟨rfl, hU⟩⟩ rfl rfl hl.1 rfl (lv_room (Nat.le_of_ble_eq_true rfl)) dX3_yearOrder_9 ⟨Nat.le_of_ble_eq_true rfl, Nat.le_of_ble_eq_true rfl⟩) ?_
    refine kz_ifb_eq (tgt := 19) hx hb  dX3_yearOrder_12 (by decide) (fun c_3 => ?_) (fun c_3 => ?_)
    · refine lv_iconst (v := iZ 0) hx hb dX3_yearOrder_19 rfl ?_
      refine lv_iload_n hx hb dX3_yearOrder_20 rfl (lv_at hl 3 rfl) ?_
      refine kc0 (fun _ q => q) (va_runS (As := [.int (iZ w0)]) (rest := [.int (iZ 0), .ref m0]) ⟨hx, hb, hml, hown, hts⟩ (c_X3_isNoOrder l _ (w0) (by first | omega | (unfold sgn; (try split) <;> omega))) (va_cwS 1 hts (kg_S mw1301 mw1302 mw47 rfl mw1303) rfl rfl rfl hdS_X3_isNoOrder ⟨Nat.le_of_ble_eq_true rfl, Nat.le_of_ble_eq_true rfl⟩) ⟨fun a U g mk q => q, fun U hU hW => ⟨rfl, hU⟩⟩ rfl rfl hl.1 rfl (lv_room (Nat.le_of_ble_eq_true rfl)) dX3_yearOrder_21 ⟨Nat.le_of_ble_eq_true rfl, Nat.le_of_ble_eq_true rfl⟩) ?_
      refine kc2 (va_runV (As := [.int (iZ (bZ false)), .int (iZ (bZ (!inb ((w0)) 0 2)))]) (rest := []) ⟨hx, hb, hml, hown, hts⟩ (c_X3_fails l dC dI dA k m0 (r0) (σ) (th) _ (va_Pl hP) hr hOK false (!inb ((w0)) 0 2) ) (cwV 2 hts (kg_V mw1037 mw1038 mw27 mw47 rfl mw1039) rfl rfl rfl hdV_X3_fails ⟨Nat.le_of_ble_eq_true rfl, Nat.le_of_ble_eq_true rfl⟩) ⟨fun a U g mk q => ⟨q.1, q.2.1, kM_call q.2.2⟩, va_recv hM.1 hP (ci := 6) (q0 := 0) rfl rfl, fun U hU hW => ⟨rfl, hU, kM_kept hM hS hAN hU hW⟩⟩ rfl rfl hl.1 rfl (lv_room (Nat.le_of_ble_eq_true rfl)) dX3_yearOrder_24 ⟨Nat.le_of_ble_eq_true rfl, Nat.le_of_ble_eq_true rfl⟩) hS (fun a _ h => kAy_tr hrA hS.1 a h) (fun a h => kAy_tr hrA hS.1 a h) (fun H locs hP9 hz9 hk9 hS => ?_)
      have hP : va_P (dC, dI) vwCl (kY dA m0 r0 σ (ex2 false ((!inb ((w0)) 0 2))) ++ ([] : va_W)) _ := hP9
      have hD : va_D (kAy m0 r0 s.heap.size) (kY dA m0 r0 σ (ex2 false ((!inb ((w0)) 0 2))) ++ ([] : va_W)) := by rw [← kap]; exact kYD_A hr hrA
      refine kz_ifb_eq (tgt := 34) hx hb  dX3_yearOrder_27 (by decide) (fun c_4 => ?_) (fun c_4 => ?_)
      · have hX : ex2 (!inb z1 0 3 || !inb z2 0 3) (!inb w0 0 2) = ex2 false (!inb ((w0)) 0 2) := by first | rfl | simp only [c_1, c_3, Bool.true_or, Bool.or_true, Bool.false_or, Bool.or_false, Bool.not_true, Bool.not_false]
        have hZ : ex2 (!inb z1 0 3 || !inb z2 0 3) (!inb w0 0 2) = 0 := kf_eq hX c_4
        obtain ⟨hA9, hB9⟩ := ex2_z hZ
        simp only [Bool.or_eq_false_iff, Bool.not_eq_false', Bool.not_eq_true', inb, decide_eq_true_eq, decide_eq_false_iff_not, noThing_niff] at hA9
        simp only [Bool.or_eq_false_iff, Bool.not_eq_false', Bool.not_eq_true', inb, decide_eq_true_eq, decide_eq_false_iff_not, noThing_niff] at hB9
        obtain ⟨p1, hp1, rfl⟩ : ∃ p1 : Nat, p1 < 4 ∧ z1 = (p1 : Int) := ⟨z1.toNat, by omega, by omega⟩
        have o_p1 := kOKr hOK hp1
        have l_p1 := mlen_rng (leap (σ 0 p1)) (σ 1 p1)
        have n_p1 := dnum_rng (y := σ 5 p1) (m := σ 6 p1) (d := σ 7 p1) (by omega) (by omega) (by omega)
        obtain ⟨p2, hp2, rfl⟩ : ∃ p2 : Nat, p2 < 4 ∧ z2 = (p2 : Int) := ⟨z2.toNat, by omega, by omega⟩
        have o_p2 := kOKr hOK hp2
        have l_p2 := mlen_rng (leap (σ 0 p2)) (σ 1 p2)
        have n_p2 := dnum_rng (y := σ 5 p2) (m := σ 6 p2) (d := σ 7 p2) (by omega) (by omega) (by omega)
        have hP := kY0 hP (kf_e c_4)
        have hD := kD0 hD (kf_e c_4)
        refine lv_aload_n hx hb dX3_yearOrder_34 rfl (lv_at hl 0 rfl) ?_
        refine va_get (D := (dC, dI)) (ci := 6) (v := .ref (r0 0 2)) (C := RX3) (T := TX3) (N := 6) hx hb hts (fun w h => List.mem_cons_of_mem _ (gF_2_in h)) hown hM.1 hP 0 rfl rfl 1 (by decide) (hts _ (List.mem_cons_of_mem _ mw1008)) (fun _ h9 => h9) rfl dX3_yearOrder_35 ?_
        refine lv_iload_n hx hb dX3_yearOrder_38 rfl (lv_at hl 1 rfl) ?_
        refine kz_iald (v := σ 2 p1) hx hb hM.1 hP 2 0 rfl rfl (by omega) (by decide) rfl dX3_yearOrder_39 ?_
        refine kz_i2l hx hb (by first | omega | (unfold sgn; (try split) <;> omega)) dX3_yearOrder_40 ?_
        refine lv_aload_n hx hb dX3_yearOrder_41 rfl (lv_at hl 0 rfl) ?_
        refine va_get (D := (dC, dI)) (ci := 6) (v := .ref (r0 0 2)) (C := RX3) (T := TX3) (N := 6) hx hb hts (fun w h => List.mem_cons_of_mem _ (gF_2_in h)) hown hM.1 hP 0 rfl rfl 1 (by decide) (hts _ (List.mem_cons_of_mem _ mw1008)) (fun _ h9 => h9) rfl dX3_yearOrder_42 ?_
        refine lv_iload_n hx hb dX3_yearOrder_45 rfl (lv_at hl 2 rfl) ?_
        refine kz_iald (v := σ 2 p2) hx hb hM.1 hP 2 0 rfl rfl (by omega) (by decide) rfl dX3_yearOrder_46 ?_
        refine kz_i2l hx hb (by first | omega | (unfold sgn; (try split) <;> omega)) dX3_yearOrder_47 ?_
        refine lv_iload_n hx hb dX3_yearOrder_48 rfl (lv_at hl 3 rfl) ?_
        refine kc0 (fun _ q => q) (va_runS (As := [.long (lZ ((σ 2 p1))), .long (lZ ((σ 2 p2))), .int (iZ w0)]) (rest := []) ⟨hx, hb, hml, hown, hts⟩ (c_X3_order l _ (((σ 2 p1))) (((σ 2 p2))) (w0) (by first | omega | (unfold sgn; (try split) <;> omega)) (by first | omega | (unfold sgn; (try split) <;> omega)) (by first | omega | (unfold sgn; (try split) <;> omega))) (va_cwS 3 hts (kg_S mw1304 mw1305 mw47 rfl mw1306) rfl rfl rfl hdS_X3_order ⟨Nat.le_of_ble_eq_true rfl, Nat.le_of_ble_eq_true rfl⟩) ⟨fun a U g mk q => q, fun U hU hW => ⟨rfl, hU⟩⟩ rfl rfl hl.1 rfl (lv_room (Nat.le_of_ble_eq_true rfl)) dX3_yearOrder_49 ⟨Nat.le_of_ble_eq_true rfl, Nat.le_of_ble_eq_true rfl⟩) ?_
        refine W.widen (k := 0) (n := 0) (Nat.le_of_ble_eq_true rfl) (Nat.le_of_ble_eq_true rfl) ?_
        exact W.iret (v := iZ (ordT ((((σ 2 p1)))) ((((σ 2 p2)))) ((w0)))) hx hb hr9 (fun t ht hW => ⟨⟨congrArg (fun z : Int => Outcome.returned (some (Value.int (iZ z)))) (show (ordT ((((σ 2 p1)))) ((((σ 2 p2)))) ((w0))) = (if ex2 (!inb ((p1 : Nat) : Int) 0 3 || !inb ((p2 : Nat) : Int) 0 3) (!inb w0 0 2) = 0 then (ordT (σ 2 p1) (σ 2 p2) w0) else 0) from by rw [if_pos hZ]; done), gY_cast ⟨r0, hr, hrA, by rw [ht]; exact va_Pl hP⟩ (show (σ) = (σ) from rfl) (show (0) = ex2 (!inb ((p1 : Nat) : Int) 0 3 || !inb ((p2 : Nat) : Int) 0 3) (!inb w0 0 2) from hZ.symm)⟩, hS.F ht⟩) hS.2.2 dX3_yearOrder_52
      · have hX : ex2 (!inb z1 0 3 || !inb z2 0 3) (!inb w0 0 2) = ex2 false (!inb ((w0)) 0 2) := by first | rfl | simp only [c_1, c_3, Bool.true_or, Bool.or_true, Bool.false_or, Bool.or_false, Bool.not_true, Bool.not_false]
        have hN : ¬ ex2 (!inb z1 0 3 || !inb z2 0 3) (!inb w0 0 2) = 0 := kf_ne hX c_4
        refine lv_iconst (v := iZ 0) hx hb dX3_yearOrder_30 rfl ?_
        refine lv_goto (tgt := 52) hx hb dX3_yearOrder_31 (by decide) ?_
        refine W.widen (k := 0) (n := 0) (Nat.le_of_ble_eq_true rfl) (Nat.le_of_ble_eq_true rfl) ?_
        exact W.iret (v := iZ 0) hx hb hr9 (fun t ht hW => ⟨⟨congrArg (fun z : Int => Outcome.returned (some (Value.int (iZ z)))) (show 0 = (if ex2 (!inb z1 0 3 || !inb z2 0 3) (!inb w0 0 2) = 0 then (ordT (σ 2 (z1.toNat)) (σ 2 (z2.toNat)) w0) else 0) from by rw [if_neg hN]), gY_cast ⟨r0, hr, hrA, by rw [ht]; exact va_Pl hP⟩ (show (σ) = (σ) from rfl) (show (ex2 false ((!inb ((w0)) 0 2))) = ex2 (!inb z1 0 3 || !inb z2 0 3) (!inb w0 0 2) from hX.symm)⟩, hS.F ht⟩) hS.2.2 dX3_yearOrder_52
    · refine lv_iconst (v := iZ 1) hx hb dX3_yearOrder_15 rfl ?_
      refine lv_goto (tgt := 20) hx hb dX3_yearOrder_16 (by decide) ?_
      refine lv_iload_n hx hb dX3_yearOrder_20 rfl (lv_at hl 3 rfl) ?_
      refine kc0 (fun _ q => q) (va_runS (As := [.int (iZ w0)]) (rest := [.int (iZ 1), .ref m0]) ⟨hx, hb, hml, hown, hts⟩ (c_X3_isNoOrder l _ (w0) (by first | omega | (unfold sgn; (try split) <;> omega))) (va_cwS 1 hts (kg_S mw1301 mw1302 mw47 rfl mw1303) rfl rfl rfl hdS_X3_isNoOrder ⟨Nat.le_of_ble_eq_true rfl, Nat.le_of_ble_eq_true rfl⟩) ⟨fun a U g mk q => q, fun U hU hW => ⟨rfl, hU⟩⟩ rfl rfl hl.1 rfl (lv_room (Nat.le_of_ble_eq_true rfl)) dX3_yearOrder_21 ⟨Nat.le_of_ble_eq_true rfl, Nat.le_of_ble_eq_true rfl⟩) ?_
      refine kc2 (va_runV (As := [.int (iZ (bZ true)), .int (iZ (bZ (!inb ((w0)) 0 2)))]) (rest := []) ⟨hx, hb, hml, hown, hts⟩ (c_X3_fails l dC dI dA k m0 (r0) (σ) (th) _ (va_Pl hP) hr hOK true (!inb ((w0)) 0 2) ) (cwV 2 hts (kg_V mw1037 mw1038 mw27 mw47 rfl mw1039) rfl rfl rfl hdV_X3_fails ⟨Nat.le_of_ble_eq_true rfl, Nat.le_of_ble_eq_true rfl⟩) ⟨fun a U g mk q => ⟨q.1, q.2.1, kM_call q.2.2⟩, va_recv hM.1 hP (ci := 6) (q0 := 0) rfl rfl, fun U hU hW => ⟨rfl, hU, kM_kept hM hS hAN hU hW⟩⟩ rfl rfl hl.1 rfl (lv_room (Nat.le_of_ble_eq_true rfl)) dX3_yearOrder_24 ⟨Nat.le_of_ble_eq_true rfl, Nat.le_of_ble_eq_true rfl⟩) hS (fun a _ h => kAy_tr hrA hS.1 a h) (fun a h => kAy_tr hrA hS.1 a h) (fun H locs hP9 hz9 hk9 hS => ?_)
      have hP : va_P (dC, dI) vwCl (kY dA m0 r0 σ (ex2 true ((!inb ((w0)) 0 2))) ++ ([] : va_W)) _ := hP9
      have hD : va_D (kAy m0 r0 s.heap.size) (kY dA m0 r0 σ (ex2 true ((!inb ((w0)) 0 2))) ++ ([] : va_W)) := by rw [← kap]; exact kYD_A hr hrA
      refine kz_ifb_eq (tgt := 34) hx hb  dX3_yearOrder_27 (by decide) (fun c_5 => absurd (kf_f c_5).1 (by decide)) (fun c_5 => ?_)
      have hX : ex2 (!inb z1 0 3 || !inb z2 0 3) (!inb w0 0 2) = ex2 true (!inb ((w0)) 0 2) := by first | rfl | simp only [c_1, c_3, Bool.true_or, Bool.or_true, Bool.false_or, Bool.or_false, Bool.not_true, Bool.not_false]
      have hN : ¬ ex2 (!inb z1 0 3 || !inb z2 0 3) (!inb w0 0 2) = 0 := kf_ne hX c_5
      refine lv_iconst (v := iZ 0) hx hb dX3_yearOrder_30 rfl ?_
      refine lv_goto (tgt := 52) hx hb dX3_yearOrder_31 (by decide) ?_
      refine W.widen (k := 0) (n := 0) (Nat.le_of_ble_eq_true rfl) (Nat.le_of_ble_eq_true rfl) ?_
      exact W.iret (v := iZ 0) hx hb hr9 (fun t ht hW => ⟨⟨congrArg (fun z : Int => Outcome.returned (some (Value.int (iZ z)))) (show 0 = (if ex2 (!inb z1 0 3 || !inb z2 0 3) (!inb w0 0 2) = 0 then (ordT (σ 2 (z1.toNat)) (σ 2 (z2.toNat)) w0) else 0) from by rw [if_neg hN]), gY_cast ⟨r0, hr, hrA, by rw [ht]; exact va_Pl hP⟩ (show (σ) = (σ) from rfl) (show (ex2 true ((!inb ((w0)) 0 2))) = ex2 (!inb z1 0 3 || !inb z2 0 3) (!inb w0 0 2) from hX.symm)⟩, hS.F ht⟩) hS.2.2 dX3_yearOrder_52

abbrev ww_X3_feastOrder : List Cond := .code yX3_feastOrder cX3_feastOrder 4 (some .int) :: gT
set_option maxHeartbeats 4000000 in
set_option maxRecDepth 100000 in
theorem c_X3_feastOrder (l : Launch) (dC : Nat → ClassId) (dI : Nat → Nat → Nat) (dA : Nat → ClassId) (k : Nat → Nat) (m0 : Nat) (r0 : Nat → Nat → Nat) (σ : Nat → Nat → Int) (th : Int) (H0 : Heap) (hP : va_P (dC, dI) vwCl (kY dA m0 r0 σ th) H0) (hr : kRI m0 r0 k) (hOK : kOK σ) (z1 : Int) (z2 : Int) (w0 : Int) (rz1 : -2147483648 ≤ z1 ∧ z1 < 2147483648) (rz2 : -2147483648 ≤ z2 ∧ z2 < 2147483648) (rw0 : -2147483648 ≤ w0 ∧ w0 < 2147483648) : Met l yX3_feastOrder ww_X3_feastOrder ({ frames := 2, cells := 0, slots := 0, locals := 45 }) (va_Pc [.ref m0, .int (iZ z1), .int (iZ z2), .int (iZ w0)] (fun U => U.heap = H0 ∧ kM dC dI dA k U)) (kQ2 (some (.int (iZ (if ex2 (!inb z1 0 3 || !inb z2 0 3) (!inb w0 0 2) = 0 then (ordT (32 * σ 3 (z1.toNat) + σ 4 (z1.toNat)) (32 * σ 3 (z2.toNat) + σ 4 (z2.toNat)) w0) else 0)))) (gY dC dI dA k m0 r0 H0.size (σ) (ex2 (!inb z1 0 3 || !inb z2 0 3) (!inb w0 0 2))) (kAy m0 r0 H0.size)) 0 0 (kAy m0 r0 H0.size) := by
  refine Met.ofW (cc := cX3_feastOrder) (maxL := 4) (ret := (some .int)) (by decide) rfl ?_
  intro p e s m args below meth c s₁ B hml hv
  obtain ⟨rfl, hH, hM⟩ := hv
  subst hH
  have hr0 := hr
  have hAN : ∀ a, kAy m0 r0 s.heap.size a → k 0 ≤ a := fun a h => kAy_N hr0 hM.2.1.1 a h
  have hrA : ∀ i : Nat, i < 17 → kAy m0 r0 s.heap.size (kR m0 r0 i) := fun i hi => Or.inl ⟨i, hi, rfl⟩
  have hD : va_D (kAy m0 r0 s.heap.size) (kY dA m0 r0 σ (th) ++ ([] : va_W)) := by rw [← kap]; exact kYD_A hr hrA
  have hP : va_P (dC, dI) vwCl (kY dA m0 r0 σ (th) ++ ([] : va_W)) s.heap := hP
  have hS : va_S (kAy m0 r0 s.heap.size) s.heap s.heap [] := va_S.rf
  have hx := B.exec
  have hb := B.bytes
  have hr9 := B.returns
  have hts := atoms_spec (ws := ww_X3_feastOrder) B.pre
  have hown : s.vm.findClass RX3 = some m.cls := findClass_of_methodNamed B.named
  have hlocks := B.notSynchronized
  have hl := lv_entry ([.ref m0, .int (iZ z1), .int (iZ z2), .int (iZ w0)]) (n := 4) (Nat.le_of_ble_eq_true rfl)
  rw [lg_entry_eq]
  generalize (lg_sl ([.ref m0, .int (iZ z1), .int (iZ z2), .int (iZ w0)]) ++ List.replicate (4 - (lg_sl ([.ref m0, .int (iZ z1), .int (iZ z2), .int (iZ w0)])).length) Slot.unset).toArray = ls at hl ⊢
  have hl : lv_has ls 4 [(0, .ref m0), (1, .int (iZ z1)), (2, .int (iZ z2)), (3, .int (iZ w0))] := hl
  refine lv_aload_n hx hb dX3_feastOrder_0 rfl (lv_at hl 0 rfl) ?_
  refine lv_iload_n hx hb dX3_feastOrder_1 rfl (lv_at hl 1 rfl) ?_
  refine kc0 (fun _ q => q) (va_runS (As := [.int (iZ z1)]) (rest := [.ref m0]) ⟨hx, hb, hml, hown, hts⟩ (c_X3_isNo l _ (z1) (by first | omega | (unfold sgn; (try split) <;> omega))) (va_cwS 1 hts (kg_S mw1021 mw1022 mw47 rfl mw1023) rfl rfl rfl hdS_X3_isNo ⟨Nat.le_of_ble_eq_true rfl, Nat.le_of_ble_eq_true rfl⟩) ⟨fun a U g mk q => q, fun U hU hW => ⟨rfl, hU⟩⟩ rfl rfl hl.1 rfl (lv_room (Nat.le_of_ble_eq_true rfl)) dX3_feastOrder_2 ⟨Nat.le_of_ble_eq_true rfl, Nat.le_of_ble_eq_true rfl⟩) ?_
  refine kz_ifb_ne (tgt := 15) hx hb  dX3_feastOrder_5 (by decide) (fun c_1 => ?_) (fun c_1 => ?_)
  · refine lv_iconst (v := iZ 1) hx hb dX3_feastOrder_15 rfl ?_
    refine lv_goto (tgt := 20) hx hb dX3_feastOrder_16 (by decide) ?_
    refine lv_iload_n hx hb dX3_feastOrder_20 rfl (lv_at hl 3 rfl) ?_
    refine kc0 (fun _ q => q) (va_runS (As := [.int (iZ w0)]) (rest := [.int (iZ 1), .ref m0]) ⟨hx, hb, hml, hown, hts⟩ (c_X3_isNoOrder l _ (w0) (by first | omega | (unfold sgn; (try split) <;> omega))) (va_cwS 1 hts (kg_S mw1301 mw1302 mw47 rfl mw1303) rfl rfl rfl hdS_X3_isNoOrder ⟨Nat.le_of_ble_eq_true rfl, Nat.le_of_ble_eq_true rfl⟩) ⟨fun a U g mk q => q, fun U hU hW => ⟨rfl, hU⟩⟩ rfl rfl hl.1 rfl (lv_room (Nat.le_of_ble_eq_true rfl)) dX3_feastOrder_21 ⟨Nat.le_of_ble_eq_true rfl, Nat.le_of_ble_eq_true rfl⟩) ?_
    refine kc2 (va_runV (As := [.int (iZ (bZ true)), .int (iZ (bZ (!inb ((w0)) 0 2)))]) (rest := []) ⟨hx, hb, hml, hown, hts⟩ (c_X3_fails l dC dI dA k m0 (r0) (σ) (th) _ (va_Pl hP) hr hOK true (!inb ((w0)) 0 2) ) (cwV 2 hts (kg_V mw1037 mw1038 mw27 mw47 rfl mw1039) rfl rfl rfl hdV_X3_fails ⟨Nat.le_of_ble_eq_true rfl, Nat.le_of_ble_eq_true rfl⟩) ⟨fun a U g mk q => ⟨q.1, q.2.1, kM_call q.2.2⟩, va_recv hM.1 hP (ci := 6) (q0 := 0) rfl rfl, fun U hU hW => ⟨rfl, hU, kM_kept hM hS hAN hU hW⟩⟩ rfl rfl hl.1 rfl (lv_room (Nat.le_of_ble_eq_true rfl)) dX3_feastOrder_24 ⟨Nat.le_of_ble_eq_true rfl, Nat.le_of_ble_eq_true rfl⟩) hS (fun a _ h => kAy_tr hrA hS.1 a h) (fun a h => kAy_tr hrA hS.1 a h) (fun H locs hP9 hz9 hk9 hS => ?_)
    have hP : va_P (dC, dI) vwCl (kY dA m0 r0 σ (ex2 true ((!inb ((w0)) 0 2))) ++ ([] : va_W)) _ := hP9
    have hD : va_D (kAy m0 r0 s.heap.size) (kY dA m0 r0 σ (ex2 true ((!inb ((w0)) 0 2))) ++ ([] : va_W)) := by rw [← kap]; exact kYD_A hr hrA
    refine kz_ifb_eq (tgt := 32) hx hb  dX3_feastOrder_27 (by decide) (fun c_2 => absurd (kf_f c_2).1 (by decide)) (fun c_2 => ?_)
    have hX : ex2 (!inb z1 0 3 || !inb z2 0 3) (!inb w0 0 2) = ex2 true (!inb ((w0)) 0 2) := by first | rfl | simp only [c_1, Bool.true_or, Bool.or_true, Bool.false_or, Bool.or_false, Bool.not_true, Bool.not_false]
    have hN : ¬ ex2 (!inb z1 0 3 || !inb z2 0 3) (!inb w0 0 2) = 0 := kf_ne hX c_2
    refine lv_iconst (v := iZ 0) hx hb dX3_feastOrder_30 rfl ?_
    refine W.widen (k := 0) (n := 0) (Nat.le_of_ble_eq_true rfl) (Nat.le_of_ble_eq_true rfl) ?_
    exact W.iret (v := iZ 0) hx hb hr9 (fun t ht hW => ⟨⟨congrArg (fun z : Int => Outcome.returned (some (Value.int (iZ z)))) (show 0 = (if ex2 (!inb z1 0 3 || !inb z2 0 3) (!inb w0 0 2) = 0 then (ordT (32 * σ 3 (z1.toNat) + σ 4 (z1.toNat)) (32 * σ 3 (z2.toNat) + σ 4 (z2.toNat)) w0) else 0) from by rw [if_neg hN]), gY_cast ⟨r0, hr, hrA, by rw [ht]; exact va_Pl hP⟩ (show (σ) = (σ) from rfl) (show (ex2 true ((!inb ((w0)) 0 2))) = ex2 (!inb z1 0 3 || !inb z2 0 3) (!inb w0 0 2) from hX.symm)⟩, hS.F ht⟩) hS.2.2 dX3_feastOrder_31
  · refine lv_iload_n hx hb dX3_feastOrder_8 rfl (lv_at hl 2 rfl) ?_
    refine kc0 (fun _ q => q) (va_runS (As := [.int (iZ z2)]) (rest := [.ref m0]) ⟨hx, hb, hml, hown, hts⟩ (c_X3_isNo l _ (z2) (by first | omega | (unfold sgn; (try split) <;> omega))) (va_cwS 1 hts (kg_S mw1021 mw1022 mw47 rfl mw1023) rfl rfl rfl hdS_X3_isNo ⟨Nat.le_of_ble_eq_true rfl, Nat.le_of_ble_eq_true rfl⟩) ⟨fun a U g mk q => q, fun U hU hW => ⟨rfl, hU⟩⟩ rfl rfl hl.1 rfl (lv_room (Nat.le_of_ble_eq_true rfl)) dX3_feastOrder_9 ⟨Nat.le_of_ble_eq_true rfl, Nat.le_of_ble_eq_true rfl⟩) ?_
    refine kz_ifb_eq (tgt := 19) hx hb  dX3_feastOrder_12 (by decide) (fun c_3 => ?_) (fun c_3 => ?_)
    · refine lv_iconst (v := iZ 0) hx hb dX3_feastOrder_19 rfl ?_
      refine lv_iload_n hx hb dX3_feastOrder_20 rfl (lv_at hl 3 rfl) ?_
      refine kc0 (fun _ q => q) (va_runS (As := [.int (iZ w0)]) (rest := [.int (iZ 0), .ref m0]) ⟨hx, hb, hml, hown, hts⟩ (c_X3_isNoOrder l _ (w0) (by first | omega | (unfold sgn; (try split) <;> omega))) (va_cwS 1 hts (kg_S mw1301 mw1302 mw47 rfl mw1303) rfl rfl rfl hdS_X3_isNoOrder ⟨Nat.le_of_ble_eq_true rfl, Nat.le_of_ble_eq_true rfl⟩) ⟨fun a U g mk q => q, fun U hU hW => ⟨rfl, hU⟩⟩ rfl rfl hl.1 rfl (lv_room (Nat.le_of_ble_eq_true rfl)) dX3_feastOrder_21 ⟨Nat.le_of_ble_eq_true rfl, Nat.le_of_ble_eq_true rfl⟩) ?_
      refine kc2 (va_runV (As := [.int (iZ (bZ false)), .int (iZ (bZ (!inb ((w0)) 0 2)))]) (rest := []) ⟨hx, hb, hml, hown, hts⟩ (c_X3_fails l dC dI dA k m0 (r0) (σ) (th) _ (va_Pl hP) hr hOK false (!inb ((w0)) 0 2) ) (cwV 2 hts (kg_V mw1037 mw1038 mw27 mw47 rfl mw1039) rfl rfl rfl hdV_X3_fails ⟨Nat.le_of_ble_eq_true rfl, Nat.le_of_ble_eq_true rfl⟩) ⟨fun a U g mk q => ⟨q.1, q.2.1, kM_call q.2.2⟩, va_recv hM.1 hP (ci := 6) (q0 := 0) rfl rfl, fun U hU hW => ⟨rfl, hU, kM_kept hM hS hAN hU hW⟩⟩ rfl rfl hl.1 rfl (lv_room (Nat.le_of_ble_eq_true rfl)) dX3_feastOrder_24 ⟨Nat.le_of_ble_eq_true rfl, Nat.le_of_ble_eq_true rfl⟩) hS (fun a _ h => kAy_tr hrA hS.1 a h) (fun a h => kAy_tr hrA hS.1 a h) (fun H locs hP9 hz9 hk9 hS => ?_)
      have hP : va_P (dC, dI) vwCl (kY dA m0 r0 σ (ex2 false ((!inb ((w0)) 0 2))) ++ ([] : va_W)) _ := hP9
      have hD : va_D (kAy m0 r0 s.heap.size) (kY dA m0 r0 σ (ex2 false ((!inb ((w0)) 0 2))) ++ ([] : va_W)) := by rw [← kap]; exact kYD_A hr hrA
      refine kz_ifb_eq (tgt := 32) hx hb  dX3_feastOrder_27 (by decide) (fun c_4 => ?_) (fun c_4 => ?_)
      · have hX : ex2 (!inb z1 0 3 || !inb z2 0 3) (!inb w0 0 2) = ex2 false (!inb ((w0)) 0 2) := by first | rfl | simp only [c_1, c_3, Bool.true_or, Bool.or_true, Bool.false_or, Bool.or_false, Bool.not_true, Bool.not_false]
        have hZ : ex2 (!inb z1 0 3 || !inb z2 0 3) (!inb w0 0 2) = 0 := kf_eq hX c_4
        obtain ⟨hA9, hB9⟩ := ex2_z hZ
        simp only [Bool.or_eq_false_iff, Bool.not_eq_false', Bool.not_eq_true', inb, decide_eq_true_eq, decide_eq_false_iff_not, noThing_niff] at hA9
        simp only [Bool.or_eq_false_iff, Bool.not_eq_false', Bool.not_eq_true', inb, decide_eq_true_eq, decide_eq_false_iff_not, noThing_niff] at hB9
        obtain ⟨p1, hp1, rfl⟩ : ∃ p1 : Nat, p1 < 4 ∧ z1 = (p1 : Int) := ⟨z1.toNat, by omega, by omega⟩
        have o_p1 := kOKr hOK hp1
        have l_p1 := mlen_rng (leap (σ 0 p1)) (σ 1 p1)
        have n_p1 := dnum_rng (y := σ 5 p1) (m := σ 6 p1) (d := σ 7 p1) (by omega) (by omega) (by omega)
        obtain ⟨p2, hp2, rfl⟩ : ∃ p2 : Nat, p2 < 4 ∧ z2 = (p2 : Int) := ⟨z2.toNat, by omega, by omega⟩
        have o_p2 := kOKr hOK hp2
        have l_p2 := mlen_rng (leap (σ 0 p2)) (σ 1 p2)
        have n_p2 := dnum_rng (y := σ 5 p2) (m := σ 6 p2) (d := σ 7 p2) (by omega) (by omega) (by omega)
        have hP := kY0 hP (kf_e c_4)
        have hD := kD0 hD (kf_e c_4)
        refine lv_bipush (v := iZ 32) hx hb dX3_feastOrder_32 rfl ?_
        refine lv_aload_n hx hb dX3_feastOrder_34 rfl (lv_at hl 0 rfl) ?_
        refine va_get (D := (dC, dI)) (ci := 6) (v := .ref (r0 0 3)) (C := RX3) (T := TX3) (N := 6) hx hb hts (fun w h => List.mem_cons_of_mem _ (gF_2_in h)) hown hM.1 hP 0 rfl rfl 2 (by decide) (hts _ (List.mem_cons_of_mem _ mw1009)) (fun _ h9 => h9) rfl dX3_feastOrder_35 ?_
        refine lv_iload_n hx hb dX3_feastOrder_38 rfl (lv_at hl 1 rfl) ?_
        refine kz_aald (v := r0 2 p1) hx hb hM.1 hP 3 rfl (by omega) (by decide) rfl dX3_feastOrder_39 ?_
        refine lv_iconst (v := iZ 0) hx hb dX3_feastOrder_40 rfl ?_
        refine kz_iald (v := σ 3 p1) hx hb hM.1 hP (9 + p1) 0 (kY_F _ hp1) rfl (by omega) (by decide) rfl dX3_feastOrder_41 ?_
        refine kz_imul hx hb dX3_feastOrder_42 ?_
        refine lv_aload_n hx hb dX3_feastOrder_43 rfl (lv_at hl 0 rfl) ?_
        refine va_get (D := (dC, dI)) (ci := 6) (v := .ref (r0 0 3)) (C := RX3) (T := TX3) (N := 6) hx hb hts (fun w h => List.mem_cons_of_mem _ (gF_2_in h)) hown hM.1 hP 0 rfl rfl 2 (by decide) (hts _ (List.mem_cons_of_mem _ mw1009)) (fun _ h9 => h9) rfl dX3_feastOrder_44 ?_
        refine lv_iload_n hx hb dX3_feastOrder_47 rfl (lv_at hl 1 rfl) ?_
        refine kz_aald (v := r0 2 p1) hx hb hM.1 hP 3 rfl (by omega) (by decide) rfl dX3_feastOrder_48 ?_
        refine lv_iconst (v := iZ 1) hx hb dX3_feastOrder_49 rfl ?_
        refine kz_iald (v := σ 4 p1) hx hb hM.1 hP (9 + p1) 0 (kY_F _ hp1) rfl (by omega) (by decide) rfl dX3_feastOrder_50 ?_
        refine kz_iadd hx hb dX3_feastOrder_51 ?_
        refine kz_i2l hx hb (by first | omega | (unfold sgn; (try split) <;> omega)) dX3_feastOrder_52 ?_
        refine lv_bipush (v := iZ 32) hx hb dX3_feastOrder_53 rfl ?_
        refine lv_aload_n hx hb dX3_feastOrder_55 rfl (lv_at hl 0 rfl) ?_
        refine va_get (D := (dC, dI)) (ci := 6) (v := .ref (r0 0 3)) (C := RX3) (T := TX3) (N := 6) hx hb hts (fun w h => List.mem_cons_of_mem _ (gF_2_in h)) hown hM.1 hP 0 rfl rfl 2 (by decide) (hts _ (List.mem_cons_of_mem _ mw1009)) (fun _ h9 => h9) rfl dX3_feastOrder_56 ?_
        refine lv_iload_n hx hb dX3_feastOrder_59 rfl (lv_at hl 2 rfl) ?_
        refine kz_aald (v := r0 2 p2) hx hb hM.1 hP 3 rfl (by omega) (by decide) rfl dX3_feastOrder_60 ?_
        refine lv_iconst (v := iZ 0) hx hb dX3_feastOrder_61 rfl ?_
        refine kz_iald (v := σ 3 p2) hx hb hM.1 hP (9 + p2) 0 (kY_F _ hp2) rfl (by omega) (by decide) rfl dX3_feastOrder_62 ?_
        refine kz_imul hx hb dX3_feastOrder_63 ?_
        refine lv_aload_n hx hb dX3_feastOrder_64 rfl (lv_at hl 0 rfl) ?_
        refine va_get (D := (dC, dI)) (ci := 6) (v := .ref (r0 0 3)) (C := RX3) (T := TX3) (N := 6) hx hb hts (fun w h => List.mem_cons_of_mem _ (gF_2_in h)) hown hM.1 hP 0 rfl rfl 2 (by decide) (hts _ (List.mem_cons_of_mem _ mw1009)) (fun _ h9 => h9) rfl dX3_feastOrder_65 ?_
        refine lv_iload_n hx hb dX3_feastOrder_68 rfl (lv_at hl 2 rfl) ?_
        refine kz_aald (v := r0 2 p2) hx hb hM.1 hP 3 rfl (by omega) (by decide) rfl dX3_feastOrder_69 ?_
        refine lv_iconst (v := iZ 1) hx hb dX3_feastOrder_70 rfl ?_
        refine kz_iald (v := σ 4 p2) hx hb hM.1 hP (9 + p2) 0 (kY_F _ hp2) rfl (by omega) (by decide) rfl dX3_feastOrder_71 ?_
        refine kz_iadd hx hb dX3_feastOrder_72 ?_
        refine kz_i2l hx hb (by first | omega | (unfold sgn; (try split) <;> omega)) dX3_feastOrder_73 ?_
        refine lv_iload_n hx hb dX3_feastOrder_74 rfl (lv_at hl 3 rfl) ?_
        refine kc0 (fun _ q => q) (va_runS (As := [.long (lZ (((32 * (σ 3 p1)) + (σ 4 p1)))), .long (lZ (((32 * (σ 3 p2)) + (σ 4 p2)))), .int (iZ w0)]) (rest := []) ⟨hx, hb, hml, hown, hts⟩ (c_X3_order l _ ((((32 * (σ 3 p1)) + (σ 4 p1)))) ((((32 * (σ 3 p2)) + (σ 4 p2)))) (w0) (by first | omega | (unfold sgn; (try split) <;> omega)) (by first | omega | (unfold sgn; (try split) <;> omega)) (by first | omega | (unfold sgn; (try split) <;> omega))) (va_cwS 3 hts (kg_S mw1304 mw1305 mw47 rfl mw1306) rfl rfl rfl hdS_X3_order ⟨Nat.le_of_ble_eq_true rfl, Nat.le_of_ble_eq_true rfl⟩) ⟨fun a U g mk q => q, fun U hU hW => ⟨rfl, hU⟩⟩ rfl rfl hl.1 rfl (lv_room (Nat.le_of_ble_eq_true rfl)) dX3_feastOrder_75 ⟨Nat.le_of_ble_eq_true rfl, Nat.le_of_ble_eq_true rfl⟩) ?_
        refine W.widen (k := 0) (n := 0) (Nat.le_of_ble_eq_true rfl) (Nat.le_of_ble_eq_true rfl) ?_
        exact W.iret (v := iZ (ordT (((((32 * (σ 3 p1)) + (σ 4 p1))))) (((((32 * (σ 3 p2)) + (σ 4 p2))))) ((w0)))) hx hb hr9 (fun t ht hW => ⟨⟨congrArg (fun z : Int => Outcome.returned (some (Value.int (iZ z)))) (show (ordT (((((32 * (σ 3 p1)) + (σ 4 p1))))) (((((32 * (σ 3 p2)) + (σ 4 p2))))) ((w0))) = (if ex2 (!inb ((p1 : Nat) : Int) 0 3 || !inb ((p2 : Nat) : Int) 0 3) (!inb w0 0 2) = 0 then (ordT (32 * σ 3 p1 + σ 4 p1) (32 * σ 3 p2 + σ 4 p2) w0) else 0) from by rw [if_pos hZ]; done), gY_cast ⟨r0, hr, hrA, by rw [ht]; exact va_Pl hP⟩ (show (σ) = (σ) from rfl) (show (0) = ex2 (!inb ((p1 : Nat) : Int) 0 3 || !inb ((p2 : Nat) : Int) 0 3) (!inb w0 0 2) from hZ.symm)⟩, hS.F ht⟩) hS.2.2 dX3_feastOrder_78
      · have hX : ex2 (!inb z1 0 3 || !inb z2 0 3) (!inb w0 0 2) = ex2 false (!inb ((w0)) 0 2) := by first | rfl | simp only [c_1, c_3, Bool.true_or, Bool.or_true, Bool.false_or, Bool.or_false, Bool.not_true, Bool.not_false]
        have hN : ¬ ex2 (!inb z1 0 3 || !inb z2 0 3) (!inb w0 0 2) = 0 := kf_ne hX c_4
        refine lv_iconst (v := iZ 0) hx hb dX3_feastOrder_30 rfl ?_
        refine W.widen (k := 0) (n := 0) (Nat.le_of_ble_eq_true rfl) (Nat.le_of_ble_eq_true rfl) ?_
        exact W.iret (v := iZ 0) hx hb hr9 (fun t ht hW => ⟨⟨congrArg (fun z : Int => Outcome.returned (some (Value.int (iZ z)))) (show 0 = (if ex2 (!inb z1 0 3 || !inb z2 0 3) (!inb w0 0 2) = 0 then (ordT (32 * σ 3 (z1.toNat) + σ 4 (z1.toNat)) (32 * σ 3 (z2.toNat) + σ 4 (z2.toNat)) w0) else 0) from by rw [if_neg hN]), gY_cast ⟨r0, hr, hrA, by rw [ht]; exact va_Pl hP⟩ (show (σ) = (σ) from rfl) (show (ex2 false ((!inb ((w0)) 0 2))) = ex2 (!inb z1 0 3 || !inb z2 0 3) (!inb w0 0 2) from hX.symm)⟩, hS.F ht⟩) hS.2.2 dX3_feastOrder_31
    · refine lv_iconst (v := iZ 1) hx hb dX3_feastOrder_15 rfl ?_
      refine lv_goto (tgt := 20) hx hb dX3_feastOrder_16 (by decide) ?_
      refine lv_iload_n hx hb dX3_feastOrder_20 rfl (lv_at hl 3 rfl) ?_
      refine kc0 (fun _ q => q) (va_runS (As := [.int (iZ w0)]) (rest := [.int (iZ 1), .ref m0]) ⟨hx, hb, hml, hown, hts⟩ (c_X3_isNoOrder l _ (w0) (by first | omega | (unfold sgn; (try split) <;> omega))) (va_cwS 1 hts (kg_S mw1301 mw1302 mw47 rfl mw1303) rfl rfl rfl hdS_X3_isNoOrder ⟨Nat.le_of_ble_eq_true rfl, Nat.le_of_ble_eq_true rfl⟩) ⟨fun a U g mk q => q, fun U hU hW => ⟨rfl, hU⟩⟩ rfl rfl hl.1 rfl (lv_room (Nat.le_of_ble_eq_true rfl)) dX3_feastOrder_21 ⟨Nat.le_of_ble_eq_true rfl, Nat.le_of_ble_eq_true rfl⟩) ?_
      refine kc2 (va_runV (As := [.int (iZ (bZ true)), .int (iZ (bZ (!inb ((w0)) 0 2)))]) (rest := []) ⟨hx, hb, hml, hown, hts⟩ (c_X3_fails l dC dI dA k m0 (r0) (σ) (th) _ (va_Pl hP) hr hOK true (!inb ((w0)) 0 2) ) (cwV 2 hts (kg_V mw1037 mw1038 mw27 mw47 rfl mw1039) rfl rfl rfl hdV_X3_fails ⟨Nat.le_of_ble_eq_true rfl, Nat.le_of_ble_eq_true rfl⟩) ⟨fun a U g mk q => ⟨q.1, q.2.1, kM_call q.2.2⟩, va_recv hM.1 hP (ci := 6) (q0 := 0) rfl rfl, fun U hU hW => ⟨rfl, hU, kM_kept hM hS hAN hU hW⟩⟩ rfl rfl hl.1 rfl (lv_room (Nat.le_of_ble_eq_true rfl)) dX3_feastOrder_24 ⟨Nat.le_of_ble_eq_true rfl, Nat.le_of_ble_eq_true rfl⟩) hS (fun a _ h => kAy_tr hrA hS.1 a h) (fun a h => kAy_tr hrA hS.1 a h) (fun H locs hP9 hz9 hk9 hS => ?_)
      have hP : va_P (dC, dI) vwCl (kY dA m0 r0 σ (ex2 true ((!inb ((w0)) 0 2))) ++ ([] : va_W)) _ := hP9
      have hD : va_D (kAy m0 r0 s.heap.size) (kY dA m0 r0 σ (ex2 true ((!inb ((w0)) 0 2))) ++ ([] : va_W)) := by rw [← kap]; exact kYD_A hr hrA
      refine kz_ifb_eq (tgt := 32) hx hb  dX3_feastOrder_27 (by decide) (fun c_5 => absurd (kf_f c_5).1 (by decide)) (fun c_5 => ?_)
      have hX : ex2 (!inb z1 0 3 || !inb z2 0 3) (!inb w0 0 2) = ex2 true (!inb ((w0)) 0 2) := by first | rfl | simp only [c_1, c_3, Bool.true_or, Bool.or_true, Bool.false_or, Bool.or_false, Bool.not_true, Bool.not_false]
      have hN : ¬ ex2 (!inb z1 0 3 || !inb z2 0 3) (!inb w0 0 2) = 0 := kf_ne hX c_5
      refine lv_iconst (v := iZ 0) hx hb dX3_feastOrder_30 rfl ?_
      refine W.widen (k := 0) (n := 0) (Nat.le_of_ble_eq_true rfl) (Nat.le_of_ble_eq_true rfl) ?_
      exact W.iret (v := iZ 0) hx hb hr9 (fun t ht hW => ⟨⟨congrArg (fun z : Int => Outcome.returned (some (Value.int (iZ z)))) (show 0 = (if ex2 (!inb z1 0 3 || !inb z2 0 3) (!inb w0 0 2) = 0 then (ordT (32 * σ 3 (z1.toNat) + σ 4 (z1.toNat)) (32 * σ 3 (z2.toNat) + σ 4 (z2.toNat)) w0) else 0) from by rw [if_neg hN]), gY_cast ⟨r0, hr, hrA, by rw [ht]; exact va_Pl hP⟩ (show (σ) = (σ) from rfl) (show (ex2 true ((!inb ((w0)) 0 2))) = ex2 (!inb z1 0 3 || !inb z2 0 3) (!inb w0 0 2) from hX.symm)⟩, hS.F ht⟩) hS.2.2 dX3_feastOrder_31

abbrev ww_X3_isLeaf : List Cond := .code yX3_isLeaf cX3_isLeaf 4 (some .boolean) :: gT
set_option maxHeartbeats 4000000 in
set_option maxRecDepth 100000 in
theorem c_X3_isLeaf (l : Launch) (dC : Nat → ClassId) (dI : Nat → Nat → Nat) (dA : Nat → ClassId) (k : Nat → Nat) (m0 : Nat) (r0 : Nat → Nat → Nat) (σ : Nat → Nat → Int) (th : Int) (H0 : Heap) (hP : va_P (dC, dI) vwCl (kY dA m0 r0 σ th) H0) (hr : kRI m0 r0 k) (hOK : kOK σ) (z1 : Int) (w0 : Int) (z2 : Int) (rz1 : -2147483648 ≤ z1 ∧ z1 < 2147483648) (rw0 : -2147483648 ≤ w0 ∧ w0 < 2147483648) (rz2 : -2147483648 ≤ z2 ∧ z2 < 2147483648) : Met l yX3_isLeaf ww_X3_isLeaf ({ frames := 3, cells := 0, slots := 0, locals := 68 }) (va_Pc [.ref m0, .int (iZ z1), .int (iZ w0), .int (iZ z2)] (fun U => U.heap = H0 ∧ kM dC dI dA k U)) (kQ2 (some (.int (iZ (bZ (decide (ex2 (!inb z1 0 3 || !inb z2 0 3) (!inb w0 0 4) = 0) && (decide (w0 = 0 ∧ σ 0 (z1.toNat) = σ 0 (z2.toNat) ∧ σ 1 (z1.toNat) = σ 1 (z2.toNat)))))))) (gY dC dI dA k m0 r0 H0.size (σ) (ex2 (!inb z1 0 3 || !inb z2 0 3) (!inb w0 0 4))) (kAy m0 r0 H0.size)) 0 0 (kAy m0 r0 H0.size) := by
  refine Met.ofW (cc := cX3_isLeaf) (maxL := 4) (ret := (some .boolean)) (by decide) rfl ?_
  intro p e s m args below meth c s₁ B hml hv
  obtain ⟨rfl, hH, hM⟩ := hv
  subst hH
  have hr0 := hr
  have hAN : ∀ a, kAy m0 r0 s.heap.size a → k 0 ≤ a := fun a h => kAy_N hr0 hM.2.1.1 a h
  have hrA : ∀ i : Nat, i < 17 → kAy m0 r0 s.heap.size (kR m0 r0 i) := fun i hi => Or.inl ⟨i, hi, rfl⟩
  have hD : va_D (kAy m0 r0 s.heap.size) (kY dA m0 r0 σ (th) ++ ([] : va_W)) := by rw [← kap]; exact kYD_A hr hrA
  have hP : va_P (dC, dI) vwCl (kY dA m0 r0 σ (th) ++ ([] : va_W)) s.heap := hP
  have hS : va_S (kAy m0 r0 s.heap.size) s.heap s.heap [] := va_S.rf
  have hx := B.exec
  have hb := B.bytes
  have hr9 := B.returns
  have hts := atoms_spec (ws := ww_X3_isLeaf) B.pre
  have hown : s.vm.findClass RX3 = some m.cls := findClass_of_methodNamed B.named
  have hlocks := B.notSynchronized
  have hl := lv_entry ([.ref m0, .int (iZ z1), .int (iZ w0), .int (iZ z2)]) (n := 4) (Nat.le_of_ble_eq_true rfl)
  rw [lg_entry_eq]
  generalize (lg_sl ([.ref m0, .int (iZ z1), .int (iZ w0), .int (iZ z2)]) ++ List.replicate (4 - (lg_sl ([.ref m0, .int (iZ z1), .int (iZ w0), .int (iZ z2)])).length) Slot.unset).toArray = ls at hl ⊢
  have hl : lv_has ls 4 [(0, .ref m0), (1, .int (iZ z1)), (2, .int (iZ w0)), (3, .int (iZ z2))] := hl
  refine lv_aload_n hx hb dX3_isLeaf_0 rfl (lv_at hl 0 rfl) ?_
  refine lv_iload_n hx hb dX3_isLeaf_1 rfl (lv_at hl 1 rfl) ?_
  refine lv_iload_n hx hb dX3_isLeaf_2 rfl (lv_at hl 2 rfl) ?_
  refine lv_iload_n hx hb dX3_isLeaf_3 rfl (lv_at hl 3 rfl) ?_
  refine kc2 (va_runV (As := [.int (iZ z1), .int (iZ w0), .int (iZ z2)]) (rest := []) ⟨hx, hb, hml, hown, hts⟩ (c_X3_failsSame l dC dI dA k m0 (r0) (σ) (th) _ (va_Pl hP) hr hOK (z1) (w0) (z2) (by first | omega | (unfold sgn; (try split) <;> omega)) (by first | omega | (unfold sgn; (try split) <;> omega)) (by first | omega | (unfold sgn; (try split) <;> omega))) (cwV 3 hts (kg_V mw1311 mw1312 mw35 mw47 rfl mw1313) rfl rfl rfl hdV_X3_failsSame ⟨Nat.le_of_ble_eq_true rfl, Nat.le_of_ble_eq_true rfl⟩) ⟨fun a U g mk q => ⟨q.1, q.2.1, kM_call q.2.2⟩, va_recv hM.1 hP (ci := 6) (q0 := 0) rfl rfl, fun U hU hW => ⟨rfl, hU, kM_kept hM hS hAN hU hW⟩⟩ rfl rfl hl.1 rfl (lv_room (Nat.le_of_ble_eq_true rfl)) dX3_isLeaf_4 ⟨Nat.le_of_ble_eq_true rfl, Nat.le_of_ble_eq_true rfl⟩) hS (fun a _ h => kAy_tr hrA hS.1 a h) (fun a h => kAy_tr hrA hS.1 a h) (fun H locs hP9 hz9 hk9 hS => ?_)
  have hP : va_P (dC, dI) vwCl (kY dA m0 r0 σ (ex2 (!inb ((z1)) 0 3 || !inb ((z2)) 0 3) (!inb ((w0)) 0 4)) ++ ([] : va_W)) _ := hP9
  have hD : va_D (kAy m0 r0 s.heap.size) (kY dA m0 r0 σ (ex2 (!inb ((z1)) 0 3 || !inb ((z2)) 0 3) (!inb ((w0)) 0 4)) ++ ([] : va_W)) := by rw [← kap]; exact kYD_A hr hrA
  refine kz_ifb_ne (tgt := 36) hx hb  dX3_isLeaf_7 (by decide) (fun c_1 => ?_) (fun c_1 => ?_)
  · have hX : ex2 (!inb z1 0 3 || !inb z2 0 3) (!inb w0 0 4) = ex2 (!inb z1 0 3 || !inb z2 0 3) (!inb w0 0 4) := by first | rfl | simp only [Bool.true_or, Bool.or_true, Bool.false_or, Bool.or_false, Bool.not_true, Bool.not_false]
    have hN : ¬ ex2 (!inb z1 0 3 || !inb z2 0 3) (!inb w0 0 4) = 0 := kf_ne hX c_1
    refine lv_iconst (v := iZ 0) hx hb dX3_isLeaf_36 rfl ?_
    refine W.widen (k := 0) (n := 0) (Nat.le_of_ble_eq_true rfl) (Nat.le_of_ble_eq_true rfl) ?_
    exact W.zret (v := iZ 0) (ty := .boolean) hx hb hr9 rfl (fun t ht hW => ⟨⟨congrArg (fun z : Int => Outcome.returned (some (Value.int (iZ z)))) (show 0 = (bZ (decide (ex2 (!inb z1 0 3 || !inb z2 0 3) (!inb w0 0 4) = 0) && (decide (w0 = 0 ∧ σ 0 (z1.toNat) = σ 0 (z2.toNat) ∧ σ 1 (z1.toNat) = σ 1 (z2.toNat))))) from by rw [decide_eq_false hN]; rfl), gY_cast ⟨r0, hr, hrA, by rw [ht]; exact va_Pl hP⟩ (show (σ) = (σ) from rfl) (show (ex2 (!inb ((z1)) 0 3 || !inb ((z2)) 0 3) (!inb ((w0)) 0 4)) = ex2 (!inb z1 0 3 || !inb z2 0 3) (!inb w0 0 4) from hX.symm)⟩, hS.F ht⟩) hS.2.2 dX3_isLeaf_37
  · have hX : ex2 (!inb z1 0 3 || !inb z2 0 3) (!inb w0 0 4) = ex2 (!inb z1 0 3 || !inb z2 0 3) (!inb w0 0 4) := by first | rfl | simp only [Bool.true_or, Bool.or_true, Bool.false_or, Bool.or_false, Bool.not_true, Bool.not_false]
    have hZ : ex2 (!inb z1 0 3 || !inb z2 0 3) (!inb w0 0 4) = 0 := kf_eq hX c_1
    obtain ⟨hA9, hB9⟩ := ex2_z hZ
    simp only [Bool.or_eq_false_iff, Bool.not_eq_false', Bool.not_eq_true', inb, decide_eq_true_eq, decide_eq_false_iff_not, noThing_niff] at hA9
    simp only [Bool.or_eq_false_iff, Bool.not_eq_false', Bool.not_eq_true', inb, decide_eq_true_eq, decide_eq_false_iff_not, noThing_niff] at hB9
    obtain ⟨p1, hp1, rfl⟩ : ∃ p1 : Nat, p1 < 4 ∧ z1 = (p1 : Int) := ⟨z1.toNat, by omega, by omega⟩
    have o_p1 := kOKr hOK hp1
    have l_p1 := mlen_rng (leap (σ 0 p1)) (σ 1 p1)
    have n_p1 := dnum_rng (y := σ 5 p1) (m := σ 6 p1) (d := σ 7 p1) (by omega) (by omega) (by omega)
    obtain ⟨p2, hp2, rfl⟩ : ∃ p2 : Nat, p2 < 4 ∧ z2 = (p2 : Int) := ⟨z2.toNat, by omega, by omega⟩
    have o_p2 := kOKr hOK hp2
    have l_p2 := mlen_rng (leap (σ 0 p2)) (σ 1 p2)
    have n_p2 := dnum_rng (y := σ 5 p2) (m := σ 6 p2) (d := σ 7 p2) (by omega) (by omega) (by omega)
    have hP := kY0 hP (kf_e c_1)
    have hD := kD0 hD (kf_e c_1)
    refine lv_iload_n hx hb dX3_isLeaf_10 rfl (lv_at hl 2 rfl) ?_
    refine kz_if_ne (tgt := 36) hx hb (by first | omega | (unfold sgn; (try split) <;> omega)) dX3_isLeaf_11 (by decide) (fun c_2 => ?_) (fun c_2 => ?_)
    · refine lv_iconst (v := iZ 0) hx hb dX3_isLeaf_36 rfl ?_
      refine W.widen (k := 0) (n := 0) (Nat.le_of_ble_eq_true rfl) (Nat.le_of_ble_eq_true rfl) ?_
      exact W.zret (v := iZ 0) (ty := .boolean) hx hb hr9 rfl (fun t ht hW => ⟨⟨congrArg (fun z : Int => Outcome.returned (some (Value.int (iZ z)))) (show 0 = (bZ (decide (ex2 (!inb ((p1 : Nat) : Int) 0 3 || !inb ((p2 : Nat) : Int) 0 3) (!inb w0 0 4) = 0) && (decide (w0 = 0 ∧ σ 0 p1 = σ 0 p2 ∧ σ 1 p1 = σ 1 p2)))) from by rw [decide_eq_true hZ, Bool.true_and]; exact bZ_d0 (by omega)), gY_cast ⟨r0, hr, hrA, by rw [ht]; exact va_Pl hP⟩ (show (σ) = (σ) from rfl) (show (0) = ex2 (!inb ((p1 : Nat) : Int) 0 3 || !inb ((p2 : Nat) : Int) 0 3) (!inb w0 0 4) from hZ.symm)⟩, hS.F ht⟩) hS.2.2 dX3_isLeaf_37
    · refine lv_aload_n hx hb dX3_isLeaf_14 rfl (lv_at hl 0 rfl) ?_
      refine va_get (D := (dC, dI)) (ci := 6) (v := .ref (r0 0 1)) (C := RX3) (T := TX3) (N := 6) hx hb hts (fun w h => List.mem_cons_of_mem _ (gF_2_in h)) hown hM.1 hP 0 rfl rfl 0 (by decide) (hts _ (List.mem_cons_of_mem _ mw1007)) (fun _ h9 => h9) rfl dX3_isLeaf_15 ?_
      refine lv_iload_n hx hb dX3_isLeaf_18 rfl (lv_at hl 1 rfl) ?_
      refine kz_aald (v := r0 1 p1) hx hb hM.1 hP 1 rfl (by omega) (by decide) rfl dX3_isLeaf_19 ?_
      refine lv_aload_n hx hb dX3_isLeaf_20 rfl (lv_at hl 0 rfl) ?_
      refine va_get (D := (dC, dI)) (ci := 6) (v := .ref (r0 0 1)) (C := RX3) (T := TX3) (N := 6) hx hb hts (fun w h => List.mem_cons_of_mem _ (gF_2_in h)) hown hM.1 hP 0 rfl rfl 0 (by decide) (hts _ (List.mem_cons_of_mem _ mw1007)) (fun _ h9 => h9) rfl dX3_isLeaf_21 ?_
      refine lv_iload_n hx hb dX3_isLeaf_24 rfl (lv_at hl 3 rfl) ?_
      refine kz_aald (v := r0 1 p2) hx hb hM.1 hP 1 rfl (by omega) (by decide) rfl dX3_isLeaf_25 ?_
      refine kc0 (fun _ q => q) (va_runS (As := [.ref (r0 1 p1), .ref (r0 1 p2)]) (rest := []) ⟨hx, hb, hml, hown, hts⟩ (c_X3_areSame l dC dI dA k _ _ hP (5 + p1) (r0 1 p1) _ (σ 0 p1) (σ 1 p1) (5 + p2) (r0 1 p2) _ (σ 0 p2) (σ 1 p2) (kY_L _ hp1) rfl rfl (kY_L _ hp2) rfl rfl (by first | omega | (unfold sgn; (try split) <;> omega)) (by first | omega | (unfold sgn; (try split) <;> omega)) (by first | omega | (unfold sgn; (try split) <;> omega)) (by first | omega | (unfold sgn; (try split) <;> omega))) (va_cwS 2 hts (kg_S mw1141 mw1142 mw47 rfl mw1143) rfl rfl rfl hdS_X3_areSame ⟨Nat.le_of_ble_eq_true rfl, Nat.le_of_ble_eq_true rfl⟩) ⟨fun a U g mk q => ⟨q.1, q.2.1, kM_call q.2.2⟩, fun U hU hW => ⟨rfl, hU, kM_kept hM hS hAN hU hW⟩⟩ rfl rfl hl.1 rfl (lv_room (Nat.le_of_ble_eq_true rfl)) dX3_isLeaf_26 ⟨Nat.le_of_ble_eq_true rfl, Nat.le_of_ble_eq_true rfl⟩) ?_
      refine kz_ifb_eq (tgt := 36) hx hb  dX3_isLeaf_29 (by decide) (fun c_3 => ?_) (fun c_3 => ?_)
      · refine lv_iconst (v := iZ 0) hx hb dX3_isLeaf_36 rfl ?_
        refine W.widen (k := 0) (n := 0) (Nat.le_of_ble_eq_true rfl) (Nat.le_of_ble_eq_true rfl) ?_
        exact W.zret (v := iZ 0) (ty := .boolean) hx hb hr9 rfl (fun t ht hW => ⟨⟨congrArg (fun z : Int => Outcome.returned (some (Value.int (iZ z)))) (show 0 = (bZ (decide (ex2 (!inb ((p1 : Nat) : Int) 0 3 || !inb ((p2 : Nat) : Int) 0 3) (!inb w0 0 4) = 0) && (decide (w0 = 0 ∧ σ 0 p1 = σ 0 p2 ∧ σ 1 p1 = σ 1 p2)))) from by rw [decide_eq_true hZ, Bool.true_and]; (try simp only [inb, decide_eq_true_eq, decide_eq_false_iff_not] at c_3); exact bZ_d0 (by omega)), gY_cast ⟨r0, hr, hrA, by rw [ht]; exact va_Pl hP⟩ (show (σ) = (σ) from rfl) (show (0) = ex2 (!inb ((p1 : Nat) : Int) 0 3 || !inb ((p2 : Nat) : Int) 0 3) (!inb w0 0 4) from hZ.symm)⟩, hS.F ht⟩) hS.2.2 dX3_isLeaf_37
      · refine lv_iconst (v := iZ 1) hx hb dX3_isLeaf_32 rfl ?_
        refine lv_goto (tgt := 37) hx hb dX3_isLeaf_33 (by decide) ?_
        refine W.widen (k := 0) (n := 0) (Nat.le_of_ble_eq_true rfl) (Nat.le_of_ble_eq_true rfl) ?_
        exact W.zret (v := iZ 1) (ty := .boolean) hx hb hr9 rfl (fun t ht hW => ⟨⟨congrArg (fun z : Int => Outcome.returned (some (Value.int (iZ z)))) (show 1 = (bZ (decide (ex2 (!inb ((p1 : Nat) : Int) 0 3 || !inb ((p2 : Nat) : Int) 0 3) (!inb w0 0 4) = 0) && (decide (w0 = 0 ∧ σ 0 p1 = σ 0 p2 ∧ σ 1 p1 = σ 1 p2)))) from by rw [decide_eq_true hZ, Bool.true_and]; (try simp only [inb, decide_eq_true_eq, decide_eq_false_iff_not] at c_3); exact bZ_d1 (by omega)), gY_cast ⟨r0, hr, hrA, by rw [ht]; exact va_Pl hP⟩ (show (σ) = (σ) from rfl) (show (0) = ex2 (!inb ((p1 : Nat) : Int) 0 3 || !inb ((p2 : Nat) : Int) 0 3) (!inb w0 0 4) from hZ.symm)⟩, hS.F ht⟩) hS.2.2 dX3_isLeaf_37

abbrev ww_X3_isYear : List Cond := .code yX3_isYear cX3_isYear 4 (some .boolean) :: gT
set_option maxHeartbeats 4000000 in
set_option maxRecDepth 100000 in
theorem c_X3_isYear (l : Launch) (dC : Nat → ClassId) (dI : Nat → Nat → Nat) (dA : Nat → ClassId) (k : Nat → Nat) (m0 : Nat) (r0 : Nat → Nat → Nat) (σ : Nat → Nat → Int) (th : Int) (H0 : Heap) (hP : va_P (dC, dI) vwCl (kY dA m0 r0 σ th) H0) (hr : kRI m0 r0 k) (hOK : kOK σ) (z1 : Int) (w0 : Int) (z2 : Int) (rz1 : -2147483648 ≤ z1 ∧ z1 < 2147483648) (rw0 : -2147483648 ≤ w0 ∧ w0 < 2147483648) (rz2 : -2147483648 ≤ z2 ∧ z2 < 2147483648) : Met l yX3_isYear ww_X3_isYear ({ frames := 3, cells := 0, slots := 0, locals := 68 }) (va_Pc [.ref m0, .int (iZ z1), .int (iZ w0), .int (iZ z2)] (fun U => U.heap = H0 ∧ kM dC dI dA k U)) (kQ2 (some (.int (iZ (bZ (decide (ex2 (!inb z1 0 3 || !inb z2 0 3) (!inb w0 0 4) = 0) && (decide (w0 = 1 ∧ σ 2 (z1.toNat) = σ 2 (z2.toNat)))))))) (gY dC dI dA k m0 r0 H0.size (σ) (ex2 (!inb z1 0 3 || !inb z2 0 3) (!inb w0 0 4))) (kAy m0 r0 H0.size)) 0 0 (kAy m0 r0 H0.size) := by
  refine Met.ofW (cc := cX3_isYear) (maxL := 4) (ret := (some .boolean)) (by decide) rfl ?_
  intro p e s m args below meth c s₁ B hml hv
  obtain ⟨rfl, hH, hM⟩ := hv
  subst hH
  have hr0 := hr
  have hAN : ∀ a, kAy m0 r0 s.heap.size a → k 0 ≤ a := fun a h => kAy_N hr0 hM.2.1.1 a h
  have hrA : ∀ i : Nat, i < 17 → kAy m0 r0 s.heap.size (kR m0 r0 i) := fun i hi => Or.inl ⟨i, hi, rfl⟩
  have hD : va_D (kAy m0 r0 s.heap.size) (kY dA m0 r0 σ (th) ++ ([] : va_W)) := by rw [← kap]; exact kYD_A hr hrA
  have hP : va_P (dC, dI) vwCl (kY dA m0 r0 σ (th) ++ ([] : va_W)) s.heap := hP
  have hS : va_S (kAy m0 r0 s.heap.size) s.heap s.heap [] := va_S.rf
  have hx := B.exec
  have hb := B.bytes
  have hr9 := B.returns
  have hts := atoms_spec (ws := ww_X3_isYear) B.pre
  have hown : s.vm.findClass RX3 = some m.cls := findClass_of_methodNamed B.named
  have hlocks := B.notSynchronized
  have hl := lv_entry ([.ref m0, .int (iZ z1), .int (iZ w0), .int (iZ z2)]) (n := 4) (Nat.le_of_ble_eq_true rfl)
  rw [lg_entry_eq]
  generalize (lg_sl ([.ref m0, .int (iZ z1), .int (iZ w0), .int (iZ z2)]) ++ List.replicate (4 - (lg_sl ([.ref m0, .int (iZ z1), .int (iZ w0), .int (iZ z2)])).length) Slot.unset).toArray = ls at hl ⊢
  have hl : lv_has ls 4 [(0, .ref m0), (1, .int (iZ z1)), (2, .int (iZ w0)), (3, .int (iZ z2))] := hl
  refine lv_aload_n hx hb dX3_isYear_0 rfl (lv_at hl 0 rfl) ?_
  refine lv_iload_n hx hb dX3_isYear_1 rfl (lv_at hl 1 rfl) ?_
  refine lv_iload_n hx hb dX3_isYear_2 rfl (lv_at hl 2 rfl) ?_
  refine lv_iload_n hx hb dX3_isYear_3 rfl (lv_at hl 3 rfl) ?_
  refine kc2 (va_runV (As := [.int (iZ z1), .int (iZ w0), .int (iZ z2)]) (rest := []) ⟨hx, hb, hml, hown, hts⟩ (c_X3_failsSame l dC dI dA k m0 (r0) (σ) (th) _ (va_Pl hP) hr hOK (z1) (w0) (z2) (by first | omega | (unfold sgn; (try split) <;> omega)) (by first | omega | (unfold sgn; (try split) <;> omega)) (by first | omega | (unfold sgn; (try split) <;> omega))) (cwV 3 hts (kg_V mw1311 mw1312 mw35 mw47 rfl mw1313) rfl rfl rfl hdV_X3_failsSame ⟨Nat.le_of_ble_eq_true rfl, Nat.le_of_ble_eq_true rfl⟩) ⟨fun a U g mk q => ⟨q.1, q.2.1, kM_call q.2.2⟩, va_recv hM.1 hP (ci := 6) (q0 := 0) rfl rfl, fun U hU hW => ⟨rfl, hU, kM_kept hM hS hAN hU hW⟩⟩ rfl rfl hl.1 rfl (lv_room (Nat.le_of_ble_eq_true rfl)) dX3_isYear_4 ⟨Nat.le_of_ble_eq_true rfl, Nat.le_of_ble_eq_true rfl⟩) hS (fun a _ h => kAy_tr hrA hS.1 a h) (fun a h => kAy_tr hrA hS.1 a h) (fun H locs hP9 hz9 hk9 hS => ?_)
  have hP : va_P (dC, dI) vwCl (kY dA m0 r0 σ (ex2 (!inb ((z1)) 0 3 || !inb ((z2)) 0 3) (!inb ((w0)) 0 4)) ++ ([] : va_W)) _ := hP9
  have hD : va_D (kAy m0 r0 s.heap.size) (kY dA m0 r0 σ (ex2 (!inb ((z1)) 0 3 || !inb ((z2)) 0 3) (!inb ((w0)) 0 4)) ++ ([] : va_W)) := by rw [← kap]; exact kYD_A hr hrA
  refine kz_ifb_ne (tgt := 34) hx hb  dX3_isYear_7 (by decide) (fun c_1 => ?_) (fun c_1 => ?_)
  · have hX : ex2 (!inb z1 0 3 || !inb z2 0 3) (!inb w0 0 4) = ex2 (!inb z1 0 3 || !inb z2 0 3) (!inb w0 0 4) := by first | rfl | simp only [Bool.true_or, Bool.or_true, Bool.false_or, Bool.or_false, Bool.not_true, Bool.not_false]
    have hN : ¬ ex2 (!inb z1 0 3 || !inb z2 0 3) (!inb w0 0 4) = 0 := kf_ne hX c_1
    refine lv_iconst (v := iZ 0) hx hb dX3_isYear_34 rfl ?_
    refine W.widen (k := 0) (n := 0) (Nat.le_of_ble_eq_true rfl) (Nat.le_of_ble_eq_true rfl) ?_
    exact W.zret (v := iZ 0) (ty := .boolean) hx hb hr9 rfl (fun t ht hW => ⟨⟨congrArg (fun z : Int => Outcome.returned (some (Value.int (iZ z)))) (show 0 = (bZ (decide (ex2 (!inb z1 0 3 || !inb z2 0 3) (!inb w0 0 4) = 0) && (decide (w0 = 1 ∧ σ 2 (z1.toNat) = σ 2 (z2.toNat))))) from by rw [decide_eq_false hN]; rfl), gY_cast ⟨r0, hr, hrA, by rw [ht]; exact va_Pl hP⟩ (show (σ) = (σ) from rfl) (show (ex2 (!inb ((z1)) 0 3 || !inb ((z2)) 0 3) (!inb ((w0)) 0 4)) = ex2 (!inb z1 0 3 || !inb z2 0 3) (!inb w0 0 4) from hX.symm)⟩, hS.F ht⟩) hS.2.2 dX3_isYear_35
  · have hX : ex2 (!inb z1 0 3 || !inb z2 0 3) (!inb w0 0 4) = ex2 (!inb z1 0 3 || !inb z2 0 3) (!inb w0 0 4) := by first | rfl | simp only [Bool.true_or, Bool.or_true, Bool.false_or, Bool.or_false, Bool.not_true, Bool.not_false]
    have hZ : ex2 (!inb z1 0 3 || !inb z2 0 3) (!inb w0 0 4) = 0 := kf_eq hX c_1
    obtain ⟨hA9, hB9⟩ := ex2_z hZ
    simp only [Bool.or_eq_false_iff, Bool.not_eq_false', Bool.not_eq_true', inb, decide_eq_true_eq, decide_eq_false_iff_not, noThing_niff] at hA9
    simp only [Bool.or_eq_false_iff, Bool.not_eq_false', Bool.not_eq_true', inb, decide_eq_true_eq, decide_eq_false_iff_not, noThing_niff] at hB9
    obtain ⟨p1, hp1, rfl⟩ : ∃ p1 : Nat, p1 < 4 ∧ z1 = (p1 : Int) := ⟨z1.toNat, by omega, by omega⟩
    have o_p1 := kOKr hOK hp1
    have l_p1 := mlen_rng (leap (σ 0 p1)) (σ 1 p1)
    have n_p1 := dnum_rng (y := σ 5 p1) (m := σ 6 p1) (d := σ 7 p1) (by omega) (by omega) (by omega)
    obtain ⟨p2, hp2, rfl⟩ : ∃ p2 : Nat, p2 < 4 ∧ z2 = (p2 : Int) := ⟨z2.toNat, by omega, by omega⟩
    have o_p2 := kOKr hOK hp2
    have l_p2 := mlen_rng (leap (σ 0 p2)) (σ 1 p2)
    have n_p2 := dnum_rng (y := σ 5 p2) (m := σ 6 p2) (d := σ 7 p2) (by omega) (by omega) (by omega)
    have hP := kY0 hP (kf_e c_1)
    have hD := kD0 hD (kf_e c_1)
    refine lv_iload_n hx hb dX3_isYear_10 rfl (lv_at hl 2 rfl) ?_
    refine lv_iconst (v := iZ 1) hx hb dX3_isYear_11 rfl ?_
    refine kz_icmp_ne (tgt := 34) hx hb (by first | omega | (unfold sgn; (try split) <;> omega)) (by first | omega | (unfold sgn; (try split) <;> omega)) dX3_isYear_12 (by decide) (fun c_2 => ?_) (fun c_2 => ?_)
    · refine lv_iconst (v := iZ 0) hx hb dX3_isYear_34 rfl ?_
      refine W.widen (k := 0) (n := 0) (Nat.le_of_ble_eq_true rfl) (Nat.le_of_ble_eq_true rfl) ?_
      exact W.zret (v := iZ 0) (ty := .boolean) hx hb hr9 rfl (fun t ht hW => ⟨⟨congrArg (fun z : Int => Outcome.returned (some (Value.int (iZ z)))) (show 0 = (bZ (decide (ex2 (!inb ((p1 : Nat) : Int) 0 3 || !inb ((p2 : Nat) : Int) 0 3) (!inb w0 0 4) = 0) && (decide (w0 = 1 ∧ σ 2 p1 = σ 2 p2)))) from by rw [decide_eq_true hZ, Bool.true_and]; exact bZ_d0 (by omega)), gY_cast ⟨r0, hr, hrA, by rw [ht]; exact va_Pl hP⟩ (show (σ) = (σ) from rfl) (show (0) = ex2 (!inb ((p1 : Nat) : Int) 0 3 || !inb ((p2 : Nat) : Int) 0 3) (!inb w0 0 4) from hZ.symm)⟩, hS.F ht⟩) hS.2.2 dX3_isYear_35
    · refine lv_aload_n hx hb dX3_isYear_15 rfl (lv_at hl 0 rfl) ?_
      refine va_get (D := (dC, dI)) (ci := 6) (v := .ref (r0 0 2)) (C := RX3) (T := TX3) (N := 6) hx hb hts (fun w h => List.mem_cons_of_mem _ (gF_2_in h)) hown hM.1 hP 0 rfl rfl 1 (by decide) (hts _ (List.mem_cons_of_mem _ mw1008)) (fun _ h9 => h9) rfl dX3_isYear_16 ?_
      refine lv_iload_n hx hb dX3_isYear_19 rfl (lv_at hl 1 rfl) ?_
      refine kz_iald (v := σ 2 p1) hx hb hM.1 hP 2 0 rfl rfl (by omega) (by decide) rfl dX3_isYear_20 ?_
      refine lv_aload_n hx hb dX3_isYear_21 rfl (lv_at hl 0 rfl) ?_
      refine va_get (D := (dC, dI)) (ci := 6) (v := .ref (r0 0 2)) (C := RX3) (T := TX3) (N := 6) hx hb hts (fun w h => List.mem_cons_of_mem _ (gF_2_in h)) hown hM.1 hP 0 rfl rfl 1 (by decide) (hts _ (List.mem_cons_of_mem _ mw1008)) (fun _ h9 => h9) rfl dX3_isYear_22 ?_
      refine lv_iload_n hx hb dX3_isYear_25 rfl (lv_at hl 3 rfl) ?_
      refine kz_iald (v := σ 2 p2) hx hb hM.1 hP 2 0 rfl rfl (by omega) (by decide) rfl dX3_isYear_26 ?_
      refine kz_icmp_ne (tgt := 34) hx hb (by first | omega | (unfold sgn; (try split) <;> omega)) (by first | omega | (unfold sgn; (try split) <;> omega)) dX3_isYear_27 (by decide) (fun c_3 => ?_) (fun c_3 => ?_)
      · refine lv_iconst (v := iZ 0) hx hb dX3_isYear_34 rfl ?_
        refine W.widen (k := 0) (n := 0) (Nat.le_of_ble_eq_true rfl) (Nat.le_of_ble_eq_true rfl) ?_
        exact W.zret (v := iZ 0) (ty := .boolean) hx hb hr9 rfl (fun t ht hW => ⟨⟨congrArg (fun z : Int => Outcome.returned (some (Value.int (iZ z)))) (show 0 = (bZ (decide (ex2 (!inb ((p1 : Nat) : Int) 0 3 || !inb ((p2 : Nat) : Int) 0 3) (!inb w0 0 4) = 0) && (decide (w0 = 1 ∧ σ 2 p1 = σ 2 p2)))) from by rw [decide_eq_true hZ, Bool.true_and]; exact bZ_d0 (by omega)), gY_cast ⟨r0, hr, hrA, by rw [ht]; exact va_Pl hP⟩ (show (σ) = (σ) from rfl) (show (0) = ex2 (!inb ((p1 : Nat) : Int) 0 3 || !inb ((p2 : Nat) : Int) 0 3) (!inb w0 0 4) from hZ.symm)⟩, hS.F ht⟩) hS.2.2 dX3_isYear_35
      · refine lv_iconst (v := iZ 1) hx hb dX3_isYear_30 rfl ?_
        refine lv_goto (tgt := 35) hx hb dX3_isYear_31 (by decide) ?_
        refine W.widen (k := 0) (n := 0) (Nat.le_of_ble_eq_true rfl) (Nat.le_of_ble_eq_true rfl) ?_
        exact W.zret (v := iZ 1) (ty := .boolean) hx hb hr9 rfl (fun t ht hW => ⟨⟨congrArg (fun z : Int => Outcome.returned (some (Value.int (iZ z)))) (show 1 = (bZ (decide (ex2 (!inb ((p1 : Nat) : Int) 0 3 || !inb ((p2 : Nat) : Int) 0 3) (!inb w0 0 4) = 0) && (decide (w0 = 1 ∧ σ 2 p1 = σ 2 p2)))) from by rw [decide_eq_true hZ, Bool.true_and]; exact bZ_d1 (by omega)), gY_cast ⟨r0, hr, hrA, by rw [ht]; exact va_Pl hP⟩ (show (σ) = (σ) from rfl) (show (0) = ex2 (!inb ((p1 : Nat) : Int) 0 3 || !inb ((p2 : Nat) : Int) 0 3) (!inb w0 0 4) from hZ.symm)⟩, hS.F ht⟩) hS.2.2 dX3_isYear_35

abbrev ww_X3_isFeast : List Cond := .code yX3_isFeast cX3_isFeast 4 (some .boolean) :: gT
set_option maxHeartbeats 4000000 in
set_option maxRecDepth 100000 in
theorem c_X3_isFeast (l : Launch) (dC : Nat → ClassId) (dI : Nat → Nat → Nat) (dA : Nat → ClassId) (k : Nat → Nat) (m0 : Nat) (r0 : Nat → Nat → Nat) (σ : Nat → Nat → Int) (th : Int) (H0 : Heap) (hP : va_P (dC, dI) vwCl (kY dA m0 r0 σ th) H0) (hr : kRI m0 r0 k) (hOK : kOK σ) (z1 : Int) (w0 : Int) (z2 : Int) (rz1 : -2147483648 ≤ z1 ∧ z1 < 2147483648) (rw0 : -2147483648 ≤ w0 ∧ w0 < 2147483648) (rz2 : -2147483648 ≤ z2 ∧ z2 < 2147483648) : Met l yX3_isFeast ww_X3_isFeast ({ frames := 3, cells := 0, slots := 0, locals := 68 }) (va_Pc [.ref m0, .int (iZ z1), .int (iZ w0), .int (iZ z2)] (fun U => U.heap = H0 ∧ kM dC dI dA k U)) (kQ2 (some (.int (iZ (bZ (decide (ex2 (!inb z1 0 3 || !inb z2 0 3) (!inb w0 0 4) = 0) && (decide (w0 = 2 ∧ σ 3 (z1.toNat) = σ 3 (z2.toNat) ∧ σ 4 (z1.toNat) = σ 4 (z2.toNat)))))))) (gY dC dI dA k m0 r0 H0.size (σ) (ex2 (!inb z1 0 3 || !inb z2 0 3) (!inb w0 0 4))) (kAy m0 r0 H0.size)) 0 0 (kAy m0 r0 H0.size) := by
  refine Met.ofW (cc := cX3_isFeast) (maxL := 4) (ret := (some .boolean)) (by decide) rfl ?_
  intro p e s m args below meth c s₁ B hml hv
  obtain ⟨rfl, hH, hM⟩ := hv
  subst hH
  have hr0 := hr
  have hAN : ∀ a, kAy m0 r0 s.heap.size a → k 0 ≤ a := fun a h => kAy_N hr0 hM.2.1.1 a h
  have hrA : ∀ i : Nat, i < 17 → kAy m0 r0 s.heap.size (kR m0 r0 i) := fun i hi => Or.inl ⟨i, hi, rfl⟩
  have hD : va_D (kAy m0 r0 s.heap.size) (kY dA m0 r0 σ (th) ++ ([] : va_W)) := by rw [← kap]; exact kYD_A hr hrA
  have hP : va_P (dC, dI) vwCl (kY dA m0 r0 σ (th) ++ ([] : va_W)) s.heap := hP
  have hS : va_S (kAy m0 r0 s.heap.size) s.heap s.heap [] := va_S.rf
  have hx := B.exec
  have hb := B.bytes
  have hr9 := B.returns
  have hts := atoms_spec (ws := ww_X3_isFeast) B.pre
  have hown : s.vm.findClass RX3 = some m.cls := findClass_of_methodNamed B.named
  have hlocks := B.notSynchronized
  have hl := lv_entry ([.ref m0, .int (iZ z1), .int (iZ w0), .int (iZ z2)]) (n := 4) (Nat.le_of_ble_eq_true rfl)
  rw [lg_entry_eq]
  generalize (lg_sl ([.ref m0, .int (iZ z1), .int (iZ w0), .int (iZ z2)]) ++ List.replicate (4 - (lg_sl ([.ref m0, .int (iZ z1), .int (iZ w0), .int (iZ z2)])).length) Slot.unset).toArray = ls at hl ⊢
  have hl : lv_has ls 4 [(0, .ref m0), (1, .int (iZ z1)), (2, .int (iZ w0)), (3, .int (iZ z2))] := hl
  refine lv_aload_n hx hb dX3_isFeast_0 rfl (lv_at hl 0 rfl) ?_
  refine lv_iload_n hx hb dX3_isFeast_1 rfl (lv_at hl 1 rfl) ?_
  refine lv_iload_n hx hb dX3_isFeast_2 rfl (lv_at hl 2 rfl) ?_
  refine lv_iload_n hx hb dX3_isFeast_3 rfl (lv_at hl 3 rfl) ?_
  refine kc2 (va_runV (As := [.int (iZ z1), .int (iZ w0), .int (iZ z2)]) (rest := []) ⟨hx, hb, hml, hown, hts⟩ (c_X3_failsSame l dC dI dA k m0 (r0) (σ) (th) _ (va_Pl hP) hr hOK (z1) (w0) (z2) (by first | omega | (unfold sgn; (try split) <;> omega)) (by first | omega | (unfold sgn; (try split) <;> omega)) (by first | omega | (unfold sgn; (try split) <;> omega))) (cwV 3 hts (kg_V mw1311 mw1312 mw35 mw47 rfl mw1313) rfl rfl rfl hdV_X3_failsSame ⟨Nat.le_of_ble_eq_true rfl, Nat.le_of_ble_eq_true rfl⟩) ⟨fun a U g mk q => ⟨q.1, q.2.1, kM_call q.2.2⟩, va_recv hM.1 hP (ci := 6) (q0 := 0) rfl rfl, fun U hU hW => ⟨rfl, hU, kM_kept hM hS hAN hU hW⟩⟩ rfl rfl hl.1 rfl (lv_room (Nat.le_of_ble_eq_true rfl)) dX3_isFeast_4 ⟨Nat.le_of_ble_eq_true rfl, Nat.le_of_ble_eq_true rfl⟩) hS (fun a _ h => kAy_tr hrA hS.1 a h) (fun a h => kAy_tr hrA hS.1 a h) (fun H locs hP9 hz9 hk9 hS => ?_)
  have hP : va_P (dC, dI) vwCl (kY dA m0 r0 σ (ex2 (!inb ((z1)) 0 3 || !inb ((z2)) 0 3) (!inb ((w0)) 0 4)) ++ ([] : va_W)) _ := hP9
  have hD : va_D (kAy m0 r0 s.heap.size) (kY dA m0 r0 σ (ex2 (!inb ((z1)) 0 3 || !inb ((z2)) 0 3) (!inb ((w0)) 0 4)) ++ ([] : va_W)) := by rw [← kap]; exact kYD_A hr hrA
  refine kz_ifb_ne (tgt := 37) hx hb  dX3_isFeast_7 (by decide) (fun c_1 => ?_) (fun c_1 => ?_)
  · have hX : ex2 (!inb z1 0 3 || !inb z2 0 3) (!inb w0 0 4) = ex2 (!inb z1 0 3 || !inb z2 0 3) (!inb w0 0 4) := by first | rfl | simp only [Bool.true_or, Bool.or_true, Bool.false_or, Bool.or_false, Bool.not_true, Bool.not_false]
    have hN : ¬ ex2 (!inb z1 0 3 || !inb z2 0 3) (!inb w0 0 4) = 0 := kf_ne hX c_1
    refine lv_iconst (v := iZ 0) hx hb dX3_isFeast_37 rfl ?_
    refine W.widen (k := 0) (n := 0) (Nat.le_of_ble_eq_true rfl) (Nat.le_of_ble_eq_true rfl) ?_
    exact W.zret (v := iZ 0) (ty := .boolean) hx hb hr9 rfl (fun t ht hW => ⟨⟨congrArg (fun z : Int => Outcome.returned (some (Value.int (iZ z)))) (show 0 = (bZ (decide (ex2 (!inb z1 0 3 || !inb z2 0 3) (!inb w0 0 4) = 0) && (decide (w0 = 2 ∧ σ 3 (z1.toNat) = σ 3 (z2.toNat) ∧ σ 4 (z1.toNat) = σ 4 (z2.toNat))))) from by rw [decide_eq_false hN]; rfl), gY_cast ⟨r0, hr, hrA, by rw [ht]; exact va_Pl hP⟩ (show (σ) = (σ) from rfl) (show (ex2 (!inb ((z1)) 0 3 || !inb ((z2)) 0 3) (!inb ((w0)) 0 4)) = ex2 (!inb z1 0 3 || !inb z2 0 3) (!inb w0 0 4) from hX.symm)⟩, hS.F ht⟩) hS.2.2 dX3_isFeast_38
  · have hX : ex2 (!inb z1 0 3 || !inb z2 0 3) (!inb w0 0 4) = ex2 (!inb z1 0 3 || !inb z2 0 3) (!inb w0 0 4) := by first | rfl | simp only [Bool.true_or, Bool.or_true, Bool.false_or, Bool.or_false, Bool.not_true, Bool.not_false]
    have hZ : ex2 (!inb z1 0 3 || !inb z2 0 3) (!inb w0 0 4) = 0 := kf_eq hX c_1
    obtain ⟨hA9, hB9⟩ := ex2_z hZ
    simp only [Bool.or_eq_false_iff, Bool.not_eq_false', Bool.not_eq_true', inb, decide_eq_true_eq, decide_eq_false_iff_not, noThing_niff] at hA9
    simp only [Bool.or_eq_false_iff, Bool.not_eq_false', Bool.not_eq_true', inb, decide_eq_true_eq, decide_eq_false_iff_not, noThing_niff] at hB9
    obtain ⟨p1, hp1, rfl⟩ : ∃ p1 : Nat, p1 < 4 ∧ z1 = (p1 : Int) := ⟨z1.toNat, by omega, by omega⟩
    have o_p1 := kOKr hOK hp1
    have l_p1 := mlen_rng (leap (σ 0 p1)) (σ 1 p1)
    have n_p1 := dnum_rng (y := σ 5 p1) (m := σ 6 p1) (d := σ 7 p1) (by omega) (by omega) (by omega)
    obtain ⟨p2, hp2, rfl⟩ : ∃ p2 : Nat, p2 < 4 ∧ z2 = (p2 : Int) := ⟨z2.toNat, by omega, by omega⟩
    have o_p2 := kOKr hOK hp2
    have l_p2 := mlen_rng (leap (σ 0 p2)) (σ 1 p2)
    have n_p2 := dnum_rng (y := σ 5 p2) (m := σ 6 p2) (d := σ 7 p2) (by omega) (by omega) (by omega)
    have hP := kY0 hP (kf_e c_1)
    have hD := kD0 hD (kf_e c_1)
    refine lv_iload_n hx hb dX3_isFeast_10 rfl (lv_at hl 2 rfl) ?_
    refine lv_iconst (v := iZ 2) hx hb dX3_isFeast_11 rfl ?_
    refine kz_icmp_ne (tgt := 37) hx hb (by first | omega | (unfold sgn; (try split) <;> omega)) (by first | omega | (unfold sgn; (try split) <;> omega)) dX3_isFeast_12 (by decide) (fun c_2 => ?_) (fun c_2 => ?_)
    · refine lv_iconst (v := iZ 0) hx hb dX3_isFeast_37 rfl ?_
      refine W.widen (k := 0) (n := 0) (Nat.le_of_ble_eq_true rfl) (Nat.le_of_ble_eq_true rfl) ?_
      exact W.zret (v := iZ 0) (ty := .boolean) hx hb hr9 rfl (fun t ht hW => ⟨⟨congrArg (fun z : Int => Outcome.returned (some (Value.int (iZ z)))) (show 0 = (bZ (decide (ex2 (!inb ((p1 : Nat) : Int) 0 3 || !inb ((p2 : Nat) : Int) 0 3) (!inb w0 0 4) = 0) && (decide (w0 = 2 ∧ σ 3 p1 = σ 3 p2 ∧ σ 4 p1 = σ 4 p2)))) from by rw [decide_eq_true hZ, Bool.true_and]; exact bZ_d0 (by omega)), gY_cast ⟨r0, hr, hrA, by rw [ht]; exact va_Pl hP⟩ (show (σ) = (σ) from rfl) (show (0) = ex2 (!inb ((p1 : Nat) : Int) 0 3 || !inb ((p2 : Nat) : Int) 0 3) (!inb w0 0 4) from hZ.symm)⟩, hS.F ht⟩) hS.2.2 dX3_isFeast_38
    · refine lv_aload_n hx hb dX3_isFeast_15 rfl (lv_at hl 0 rfl) ?_
      refine va_get (D := (dC, dI)) (ci := 6) (v := .ref (r0 0 3)) (C := RX3) (T := TX3) (N := 6) hx hb hts (fun w h => List.mem_cons_of_mem _ (gF_2_in h)) hown hM.1 hP 0 rfl rfl 2 (by decide) (hts _ (List.mem_cons_of_mem _ mw1009)) (fun _ h9 => h9) rfl dX3_isFeast_16 ?_
      refine lv_iload_n hx hb dX3_isFeast_19 rfl (lv_at hl 1 rfl) ?_
      refine kz_aald (v := r0 2 p1) hx hb hM.1 hP 3 rfl (by omega) (by decide) rfl dX3_isFeast_20 ?_
      refine lv_aload_n hx hb dX3_isFeast_21 rfl (lv_at hl 0 rfl) ?_
      refine va_get (D := (dC, dI)) (ci := 6) (v := .ref (r0 0 3)) (C := RX3) (T := TX3) (N := 6) hx hb hts (fun w h => List.mem_cons_of_mem _ (gF_2_in h)) hown hM.1 hP 0 rfl rfl 2 (by decide) (hts _ (List.mem_cons_of_mem _ mw1009)) (fun _ h9 => h9) rfl dX3_isFeast_22 ?_
      refine lv_iload_n hx hb dX3_isFeast_25 rfl (lv_at hl 3 rfl) ?_
      refine kz_aald (v := r0 2 p2) hx hb hM.1 hP 3 rfl (by omega) (by decide) rfl dX3_isFeast_26 ?_
      refine kc0 (fun _ q => q) (va_runS (As := [.ref (r0 2 p1), .ref (r0 2 p2)]) (rest := []) ⟨hx, hb, hml, hown, hts⟩ (c_X3_areSame l dC dI dA k _ _ hP (9 + p1) (r0 2 p1) _ (σ 3 p1) (σ 4 p1) (9 + p2) (r0 2 p2) _ (σ 3 p2) (σ 4 p2) (kY_F _ hp1) rfl rfl (kY_F _ hp2) rfl rfl (by first | omega | (unfold sgn; (try split) <;> omega)) (by first | omega | (unfold sgn; (try split) <;> omega)) (by first | omega | (unfold sgn; (try split) <;> omega)) (by first | omega | (unfold sgn; (try split) <;> omega))) (va_cwS 2 hts (kg_S mw1141 mw1142 mw47 rfl mw1143) rfl rfl rfl hdS_X3_areSame ⟨Nat.le_of_ble_eq_true rfl, Nat.le_of_ble_eq_true rfl⟩) ⟨fun a U g mk q => ⟨q.1, q.2.1, kM_call q.2.2⟩, fun U hU hW => ⟨rfl, hU, kM_kept hM hS hAN hU hW⟩⟩ rfl rfl hl.1 rfl (lv_room (Nat.le_of_ble_eq_true rfl)) dX3_isFeast_27 ⟨Nat.le_of_ble_eq_true rfl, Nat.le_of_ble_eq_true rfl⟩) ?_
      refine kz_ifb_eq (tgt := 37) hx hb  dX3_isFeast_30 (by decide) (fun c_3 => ?_) (fun c_3 => ?_)
      · refine lv_iconst (v := iZ 0) hx hb dX3_isFeast_37 rfl ?_
        refine W.widen (k := 0) (n := 0) (Nat.le_of_ble_eq_true rfl) (Nat.le_of_ble_eq_true rfl) ?_
        exact W.zret (v := iZ 0) (ty := .boolean) hx hb hr9 rfl (fun t ht hW => ⟨⟨congrArg (fun z : Int => Outcome.returned (some (Value.int (iZ z)))) (show 0 = (bZ (decide (ex2 (!inb ((p1 : Nat) : Int) 0 3 || !inb ((p2 : Nat) : Int) 0 3) (!inb w0 0 4) = 0) && (decide (w0 = 2 ∧ σ 3 p1 = σ 3 p2 ∧ σ 4 p1 = σ 4 p2)))) from by rw [decide_eq_true hZ, Bool.true_and]; (try simp only [inb, decide_eq_true_eq, decide_eq_false_iff_not] at c_3); exact bZ_d0 (by omega)), gY_cast ⟨r0, hr, hrA, by rw [ht]; exact va_Pl hP⟩ (show (σ) = (σ) from rfl) (show (0) = ex2 (!inb ((p1 : Nat) : Int) 0 3 || !inb ((p2 : Nat) : Int) 0 3) (!inb w0 0 4) from hZ.symm)⟩, hS.F ht⟩) hS.2.2 dX3_isFeast_38
      · refine lv_iconst (v := iZ 1) hx hb dX3_isFeast_33 rfl ?_
        refine lv_goto (tgt := 38) hx hb dX3_isFeast_34 (by decide) ?_
        refine W.widen (k := 0) (n := 0) (Nat.le_of_ble_eq_true rfl) (Nat.le_of_ble_eq_true rfl) ?_
        exact W.zret (v := iZ 1) (ty := .boolean) hx hb hr9 rfl (fun t ht hW => ⟨⟨congrArg (fun z : Int => Outcome.returned (some (Value.int (iZ z)))) (show 1 = (bZ (decide (ex2 (!inb ((p1 : Nat) : Int) 0 3 || !inb ((p2 : Nat) : Int) 0 3) (!inb w0 0 4) = 0) && (decide (w0 = 2 ∧ σ 3 p1 = σ 3 p2 ∧ σ 4 p1 = σ 4 p2)))) from by rw [decide_eq_true hZ, Bool.true_and]; (try simp only [inb, decide_eq_true_eq, decide_eq_false_iff_not] at c_3); exact bZ_d1 (by omega)), gY_cast ⟨r0, hr, hrA, by rw [ht]; exact va_Pl hP⟩ (show (σ) = (σ) from rfl) (show (0) = ex2 (!inb ((p1 : Nat) : Int) 0 3 || !inb ((p2 : Nat) : Int) 0 3) (!inb w0 0 4) from hZ.symm)⟩, hS.F ht⟩) hS.2.2 dX3_isFeast_38

abbrev ww_X3_isInYear : List Cond := .code yX3_isInYear cX3_isInYear 3 (some .boolean) :: gT
set_option maxHeartbeats 4000000 in
set_option maxRecDepth 100000 in
theorem c_X3_isInYear (l : Launch) (dC : Nat → ClassId) (dI : Nat → Nat → Nat) (dA : Nat → ClassId) (k : Nat → Nat) (m0 : Nat) (r0 : Nat → Nat → Nat) (σ : Nat → Nat → Int) (th : Int) (H0 : Heap) (hP : va_P (dC, dI) vwCl (kY dA m0 r0 σ th) H0) (hr : kRI m0 r0 k) (hOK : kOK σ) (z1 : Int) (yy : Int) (rz1 : -2147483648 ≤ z1 ∧ z1 < 2147483648) (ryy : -2147483648 ≤ yy ∧ yy < 2147483648) : Met l yX3_isInYear ww_X3_isInYear ({ frames := 4, cells := 0, slots := 0, locals := 87 }) (va_Pc [.ref m0, .int (iZ z1), .int (iZ yy)] (fun U => U.heap = H0 ∧ kM dC dI dA k U)) (kQ2 (some (.int (iZ (bZ (decide (ex2 (!inb z1 0 3) (!inb yy (-999999999) 999999999) = 0) && (inYr σ (z1.toNat) yy)))))) (gY dC dI dA k m0 r0 H0.size (σ) (ex2 (!inb z1 0 3) (!inb yy (-999999999) 999999999))) (kAy m0 r0 H0.size)) 0 0 (kAy m0 r0 H0.size) := by
  refine Met.ofW (cc := cX3_isInYear) (maxL := 3) (ret := (some .boolean)) (by decide) rfl ?_
  intro p e s m args below meth c s₁ B hml hv
  obtain ⟨rfl, hH, hM⟩ := hv
  subst hH
  have hr0 := hr
  have hAN : ∀ a, kAy m0 r0 s.heap.size a → k 0 ≤ a := fun a h => kAy_N hr0 hM.2.1.1 a h
  have hrA : ∀ i : Nat, i < 17 → kAy m0 r0 s.heap.size (kR m0 r0 i) := fun i hi => Or.inl ⟨i, hi, rfl⟩
  have hD : va_D (kAy m0 r0 s.heap.size) (kY dA m0 r0 σ (th) ++ ([] : va_W)) := by rw [← kap]; exact kYD_A hr hrA
  have hP : va_P (dC, dI) vwCl (kY dA m0 r0 σ (th) ++ ([] : va_W)) s.heap := hP
  have hS : va_S (kAy m0 r0 s.heap.size) s.heap s.heap [] := va_S.rf
  have hx := B.exec
  have hb := B.bytes
  have hr9 := B.returns
  have hts := atoms_spec (ws := ww_X3_isInYear) B.pre
  have hown : s.vm.findClass RX3 = some m.cls := findClass_of_methodNamed B.named
  have hlocks := B.notSynchronized
  have hl := lv_entry ([.ref m0, .int (iZ z1), .int (iZ yy)]) (n := 3) (Nat.le_of_ble_eq_true rfl)
  rw [lg_entry_eq]
  generalize (lg_sl ([.ref m0, .int (iZ z1), .int (iZ yy)]) ++ List.replicate (3 - (lg_sl ([.ref m0, .int (iZ z1), .int (iZ yy)])).length) Slot.unset).toArray = ls at hl ⊢
  have hl : lv_has ls 3 [(0, .ref m0), (1, .int (iZ z1)), (2, .int (iZ yy))] := hl
  refine lv_aload_n hx hb dX3_isInYear_0 rfl (lv_at hl 0 rfl) ?_
  refine lv_iload_n hx hb dX3_isInYear_1 rfl (lv_at hl 1 rfl) ?_
  refine kc0 (fun _ q => q) (va_runS (As := [.int (iZ z1)]) (rest := [.ref m0]) ⟨hx, hb, hml, hown, hts⟩ (c_X3_isNo l _ (z1) (by first | omega | (unfold sgn; (try split) <;> omega))) (va_cwS 1 hts (kg_S mw1021 mw1022 mw47 rfl mw1023) rfl rfl rfl hdS_X3_isNo ⟨Nat.le_of_ble_eq_true rfl, Nat.le_of_ble_eq_true rfl⟩) ⟨fun a U g mk q => q, fun U hU hW => ⟨rfl, hU⟩⟩ rfl rfl hl.1 rfl (lv_room (Nat.le_of_ble_eq_true rfl)) dX3_isInYear_2 ⟨Nat.le_of_ble_eq_true rfl, Nat.le_of_ble_eq_true rfl⟩) ?_
  refine lv_iload_n hx hb dX3_isInYear_5 rfl (lv_at hl 2 rfl) ?_
  refine kz_i2l hx hb (by first | omega | (unfold sgn; (try split) <;> omega)) dX3_isInYear_6 ?_
  refine kc0 (fun _ q => q) (va_runS (As := [.long (lZ (yy))]) (rest := [.int (iZ (bZ (!inb ((z1)) 0 3))), .ref m0]) ⟨hx, hb, hml, hown, hts⟩ (c_X3_isNoYear l _ (yy) (by first | omega | (unfold sgn; (try split) <;> omega))) (va_cwS 1 hts (kg_S mw1028 mw1029 mw47 rfl mw1030) rfl rfl rfl hdS_X3_isNoYear ⟨Nat.le_of_ble_eq_true rfl, Nat.le_of_ble_eq_true rfl⟩) ⟨fun a U g mk q => q, fun U hU hW => ⟨rfl, hU⟩⟩ rfl rfl hl.1 rfl (lv_room (Nat.le_of_ble_eq_true rfl)) dX3_isInYear_7 ⟨Nat.le_of_ble_eq_true rfl, Nat.le_of_ble_eq_true rfl⟩) ?_
  refine kc2 (va_runV (As := [.int (iZ (bZ (!inb ((z1)) 0 3))), .int (iZ (bZ (!inb ((yy)) (-999999999) 999999999)))]) (rest := []) ⟨hx, hb, hml, hown, hts⟩ (c_X3_fails l dC dI dA k m0 (r0) (σ) (th) _ (va_Pl hP) hr hOK (!inb ((z1)) 0 3) (!inb ((yy)) (-999999999) 999999999) ) (cwV 2 hts (kg_V mw1037 mw1038 mw27 mw47 rfl mw1039) rfl rfl rfl hdV_X3_fails ⟨Nat.le_of_ble_eq_true rfl, Nat.le_of_ble_eq_true rfl⟩) ⟨fun a U g mk q => ⟨q.1, q.2.1, kM_call q.2.2⟩, va_recv hM.1 hP (ci := 6) (q0 := 0) rfl rfl, fun U hU hW => ⟨rfl, hU, kM_kept hM hS hAN hU hW⟩⟩ rfl rfl hl.1 rfl (lv_room (Nat.le_of_ble_eq_true rfl)) dX3_isInYear_10 ⟨Nat.le_of_ble_eq_true rfl, Nat.le_of_ble_eq_true rfl⟩) hS (fun a _ h => kAy_tr hrA hS.1 a h) (fun a h => kAy_tr hrA hS.1 a h) (fun H locs hP9 hz9 hk9 hS => ?_)
  have hP : va_P (dC, dI) vwCl (kY dA m0 r0 σ (ex2 ((!inb ((z1)) 0 3)) ((!inb ((yy)) (-999999999) 999999999))) ++ ([] : va_W)) _ := hP9
  have hD : va_D (kAy m0 r0 s.heap.size) (kY dA m0 r0 σ (ex2 ((!inb ((z1)) 0 3)) ((!inb ((yy)) (-999999999) 999999999))) ++ ([] : va_W)) := by rw [← kap]; exact kYD_A hr hrA
  refine kz_ifb_ne (tgt := 34) hx hb  dX3_isInYear_13 (by decide) (fun c_1 => ?_) (fun c_1 => ?_)
  · have hX : ex2 (!inb z1 0 3) (!inb yy (-999999999) 999999999) = ex2 (!inb ((z1)) 0 3) (!inb ((yy)) (-999999999) 999999999) := by first | rfl | simp only [Bool.true_or, Bool.or_true, Bool.false_or, Bool.or_false, Bool.not_true, Bool.not_false]
    have hN : ¬ ex2 (!inb z1 0 3) (!inb yy (-999999999) 999999999) = 0 := kf_ne hX c_1
    refine lv_iconst (v := iZ 0) hx hb dX3_isInYear_34 rfl ?_
    refine W.widen (k := 0) (n := 0) (Nat.le_of_ble_eq_true rfl) (Nat.le_of_ble_eq_true rfl) ?_
    exact W.zret (v := iZ 0) (ty := .boolean) hx hb hr9 rfl (fun t ht hW => ⟨⟨congrArg (fun z : Int => Outcome.returned (some (Value.int (iZ z)))) (show 0 = (bZ (decide (ex2 (!inb z1 0 3) (!inb yy (-999999999) 999999999) = 0) && (inYr σ (z1.toNat) yy))) from by rw [decide_eq_false hN]; rfl), gY_cast ⟨r0, hr, hrA, by rw [ht]; exact va_Pl hP⟩ (show (σ) = (σ) from rfl) (show (ex2 ((!inb ((z1)) 0 3)) ((!inb ((yy)) (-999999999) 999999999))) = ex2 (!inb z1 0 3) (!inb yy (-999999999) 999999999) from hX.symm)⟩, hS.F ht⟩) hS.2.2 dX3_isInYear_35
  · have hX : ex2 (!inb z1 0 3) (!inb yy (-999999999) 999999999) = ex2 (!inb ((z1)) 0 3) (!inb ((yy)) (-999999999) 999999999) := by first | rfl | simp only [Bool.true_or, Bool.or_true, Bool.false_or, Bool.or_false, Bool.not_true, Bool.not_false]
    have hZ : ex2 (!inb z1 0 3) (!inb yy (-999999999) 999999999) = 0 := kf_eq hX c_1
    obtain ⟨hA9, hB9⟩ := ex2_z hZ
    simp only [Bool.or_eq_false_iff, Bool.not_eq_false', Bool.not_eq_true', inb, decide_eq_true_eq, decide_eq_false_iff_not, noThing_niff] at hA9
    simp only [Bool.or_eq_false_iff, Bool.not_eq_false', Bool.not_eq_true', inb, decide_eq_true_eq, decide_eq_false_iff_not, noThing_niff] at hB9
    obtain ⟨p1, hp1, rfl⟩ : ∃ p1 : Nat, p1 < 4 ∧ z1 = (p1 : Int) := ⟨z1.toNat, by omega, by omega⟩
    have o_p1 := kOKr hOK hp1
    have l_p1 := mlen_rng (leap (σ 0 p1)) (σ 1 p1)
    have n_p1 := dnum_rng (y := σ 5 p1) (m := σ 6 p1) (d := σ 7 p1) (by omega) (by omega) (by omega)
    have hP := kY0 hP (kf_e c_1)
    have hD := kD0 hD (kf_e c_1)
    refine lv_aload_n hx hb dX3_isInYear_16 rfl (lv_at hl 0 rfl) ?_
    refine va_get (D := (dC, dI)) (ci := 6) (v := .ref (r0 0 3)) (C := RX3) (T := TX3) (N := 6) hx hb hts (fun w h => List.mem_cons_of_mem _ (gF_2_in h)) hown hM.1 hP 0 rfl rfl 2 (by decide) (hts _ (List.mem_cons_of_mem _ mw1009)) (fun _ h9 => h9) rfl dX3_isInYear_17 ?_
    refine lv_iload_n hx hb dX3_isInYear_20 rfl (lv_at hl 1 rfl) ?_
    refine kz_aald (v := r0 2 p1) hx hb hM.1 hP 3 rfl (by omega) (by decide) rfl dX3_isInYear_21 ?_
    refine lv_iload_n hx hb dX3_isInYear_22 rfl (lv_at hl 2 rfl) ?_
    refine kz_i2l hx hb (by first | omega | (unfold sgn; (try split) <;> omega)) dX3_isInYear_23 ?_
    refine kc0 (fun _ q => q) (va_runS (As := [.ref (r0 2 p1), .long (lZ (yy))]) (rest := []) ⟨hx, hb, hml, hown, hts⟩ (c_X3_isInNow l dC dI dA k _ _ hP (9 + p1) (r0 2 p1) _ (σ 3 p1) (σ 4 p1) (yy) (kY_F _ hp1) rfl rfl (by first | omega | (unfold sgn; (try split) <;> omega)) (by first | omega | (unfold sgn; (try split) <;> omega)) (by first | omega | (unfold sgn; (try split) <;> omega))) (va_cwS 2 hts (kg_S mw1243 mw1244 mw47 rfl mw1245) rfl rfl rfl hdS_X3_isInNow ⟨Nat.le_of_ble_eq_true rfl, Nat.le_of_ble_eq_true rfl⟩) ⟨fun a U g mk q => ⟨q.1, q.2.1, kM_call q.2.2⟩, fun U hU hW => ⟨rfl, hU, kM_kept hM hS hAN hU hW⟩⟩ rfl rfl hl.1 rfl (lv_room (Nat.le_of_ble_eq_true rfl)) dX3_isInYear_24 ⟨Nat.le_of_ble_eq_true rfl, Nat.le_of_ble_eq_true rfl⟩) ?_
    refine kz_ifb_eq (tgt := 34) hx hb  dX3_isInYear_27 (by decide) (fun c_2 => ?_) (fun c_2 => ?_)
    · refine lv_iconst (v := iZ 0) hx hb dX3_isInYear_34 rfl ?_
      refine W.widen (k := 0) (n := 0) (Nat.le_of_ble_eq_true rfl) (Nat.le_of_ble_eq_true rfl) ?_
      exact W.zret (v := iZ 0) (ty := .boolean) hx hb hr9 rfl (fun t ht hW => ⟨⟨congrArg (fun z : Int => Outcome.returned (some (Value.int (iZ z)))) (show 0 = (bZ (decide (ex2 (!inb ((p1 : Nat) : Int) 0 3) (!inb yy (-999999999) 999999999) = 0) && (inYr σ p1 yy))) from by rw [decide_eq_true hZ, Bool.true_and]; simp only [← inYr_eq hOK hp1, c_2]; first | done | rfl), gY_cast ⟨r0, hr, hrA, by rw [ht]; exact va_Pl hP⟩ (show (σ) = (σ) from rfl) (show (0) = ex2 (!inb ((p1 : Nat) : Int) 0 3) (!inb yy (-999999999) 999999999) from hZ.symm)⟩, hS.F ht⟩) hS.2.2 dX3_isInYear_35
    · refine lv_iconst (v := iZ 1) hx hb dX3_isInYear_30 rfl ?_
      refine lv_goto (tgt := 35) hx hb dX3_isInYear_31 (by decide) ?_
      refine W.widen (k := 0) (n := 0) (Nat.le_of_ble_eq_true rfl) (Nat.le_of_ble_eq_true rfl) ?_
      exact W.zret (v := iZ 1) (ty := .boolean) hx hb hr9 rfl (fun t ht hW => ⟨⟨congrArg (fun z : Int => Outcome.returned (some (Value.int (iZ z)))) (show 1 = (bZ (decide (ex2 (!inb ((p1 : Nat) : Int) 0 3) (!inb yy (-999999999) 999999999) = 0) && (inYr σ p1 yy))) from by rw [decide_eq_true hZ, Bool.true_and]; simp only [← inYr_eq hOK hp1, c_2]; first | done | rfl), gY_cast ⟨r0, hr, hrA, by rw [ht]; exact va_Pl hP⟩ (show (σ) = (σ) from rfl) (show (0) = ex2 (!inb ((p1 : Nat) : Int) 0 3) (!inb yy (-999999999) 999999999) from hZ.symm)⟩, hS.F ht⟩) hS.2.2 dX3_isInYear_35

abbrev ww_X3_hasFeast : List Cond := .code yX3_hasFeast cX3_hasFeast 4 (some .boolean) :: gT
set_option maxHeartbeats 4000000 in
set_option maxRecDepth 100000 in
theorem c_X3_hasFeast (l : Launch) (dC : Nat → ClassId) (dI : Nat → Nat → Nat) (dA : Nat → ClassId) (k : Nat → Nat) (m0 : Nat) (r0 : Nat → Nat → Nat) (σ : Nat → Nat → Int) (th : Int) (H0 : Heap) (hP : va_P (dC, dI) vwCl (kY dA m0 r0 σ th) H0) (hr : kRI m0 r0 k) (hOK : kOK σ) (z1 : Int) (z2 : Int) (bb : Bool) (rz1 : -2147483648 ≤ z1 ∧ z1 < 2147483648) (rz2 : -2147483648 ≤ z2 ∧ z2 < 2147483648) : Met l yX3_hasFeast ww_X3_hasFeast ({ frames := 4, cells := 0, slots := 0, locals := 87 }) (va_Pc [.ref m0, .int (iZ z1), .int (iZ z2), .int (iZ (bZ (bb)))] (fun U => U.heap = H0 ∧ kM dC dI dA k U)) (kQ2 (some (.int (iZ (bZ (decide (ex2 (!inb z1 0 3 || !inb z2 0 3) (false) = 0) && ((!bb && inYr σ (z2.toNat) (σ 2 (z1.toNat))))))))) (gY dC dI dA k m0 r0 H0.size (σ) (ex2 (!inb z1 0 3 || !inb z2 0 3) (false))) (kAy m0 r0 H0.size)) 0 0 (kAy m0 r0 H0.size) := by
  refine Met.ofW (cc := cX3_hasFeast) (maxL := 4) (ret := (some .boolean)) (by decide) rfl ?_
  intro p e s m args below meth c s₁ B hml hv
  obtain ⟨rfl, hH, hM⟩ := hv
  subst hH
  have hr0 := hr
  have hAN : ∀ a, kAy m0 r0 s.heap.size a → k 0 ≤ a := fun a h => kAy_N hr0 hM.2.1.1 a h
  have hrA : ∀ i : Nat, i < 17 → kAy m0 r0 s.heap.size (kR m0 r0 i) := fun i hi => Or.inl ⟨i, hi, rfl⟩
  have hD : va_D (kAy m0 r0 s.heap.size) (kY dA m0 r0 σ (th) ++ ([] : va_W)) := by rw [← kap]; exact kYD_A hr hrA
  have hP : va_P (dC, dI) vwCl (kY dA m0 r0 σ (th) ++ ([] : va_W)) s.heap := hP
  have hS : va_S (kAy m0 r0 s.heap.size) s.heap s.heap [] := va_S.rf
  have hx := B.exec
  have hb := B.bytes
  have hr9 := B.returns
  have hts := atoms_spec (ws := ww_X3_hasFeast) B.pre
  have hown : s.vm.findClass RX3 = some m.cls := findClass_of_methodNamed B.named
  have hlocks := B.notSynchronized
  have hl := lv_entry ([.ref m0, .int (iZ z1), .int (iZ z2), .int (iZ (bZ (bb)))]) (n := 4) (Nat.le_of_ble_eq_true rfl)
  rw [lg_entry_eq]
  generalize (lg_sl ([.ref m0, .int (iZ z1), .int (iZ z2), .int (iZ (bZ (bb)))]) ++ List.replicate (4 - (lg_sl ([.ref m0, .int (iZ z1), .int (iZ z2), .int (iZ (bZ (bb)))])).length) Slot.unset).toArray = ls at hl ⊢
  have hl : lv_has ls 4 [(0, .ref m0), (1, .int (iZ z1)), (2, .int (iZ z2)), (3, .int (iZ (bZ (bb))))] := hl
  refine lv_aload_n hx hb dX3_hasFeast_0 rfl (lv_at hl 0 rfl) ?_
  refine lv_iload_n hx hb dX3_hasFeast_1 rfl (lv_at hl 1 rfl) ?_
  refine kc0 (fun _ q => q) (va_runS (As := [.int (iZ z1)]) (rest := [.ref m0]) ⟨hx, hb, hml, hown, hts⟩ (c_X3_isNo l _ (z1) (by first | omega | (unfold sgn; (try split) <;> omega))) (va_cwS 1 hts (kg_S mw1021 mw1022 mw47 rfl mw1023) rfl rfl rfl hdS_X3_isNo ⟨Nat.le_of_ble_eq_true rfl, Nat.le_of_ble_eq_true rfl⟩) ⟨fun a U g mk q => q, fun U hU hW => ⟨rfl, hU⟩⟩ rfl rfl hl.1 rfl (lv_room (Nat.le_of_ble_eq_true rfl)) dX3_hasFeast_2 ⟨Nat.le_of_ble_eq_true rfl, Nat.le_of_ble_eq_true rfl⟩) ?_
  refine kz_ifb_ne (tgt := 15) hx hb  dX3_hasFeast_5 (by decide) (fun c_1 => ?_) (fun c_1 => ?_)
  · refine lv_iconst (v := iZ 1) hx hb dX3_hasFeast_15 rfl ?_
    refine lv_goto (tgt := 20) hx hb dX3_hasFeast_16 (by decide) ?_
    refine lv_iconst (v := iZ 0) hx hb dX3_hasFeast_20 rfl ?_
    refine kc2 (va_runV (As := [.int (iZ (bZ true)), .int (iZ (bZ false))]) (rest := []) ⟨hx, hb, hml, hown, hts⟩ (c_X3_fails l dC dI dA k m0 (r0) (σ) (th) _ (va_Pl hP) hr hOK true false ) (cwV 2 hts (kg_V mw1037 mw1038 mw27 mw47 rfl mw1039) rfl rfl rfl hdV_X3_fails ⟨Nat.le_of_ble_eq_true rfl, Nat.le_of_ble_eq_true rfl⟩) ⟨fun a U g mk q => ⟨q.1, q.2.1, kM_call q.2.2⟩, va_recv hM.1 hP (ci := 6) (q0 := 0) rfl rfl, fun U hU hW => ⟨rfl, hU, kM_kept hM hS hAN hU hW⟩⟩ rfl rfl hl.1 rfl (lv_room (Nat.le_of_ble_eq_true rfl)) dX3_hasFeast_21 ⟨Nat.le_of_ble_eq_true rfl, Nat.le_of_ble_eq_true rfl⟩) hS (fun a _ h => kAy_tr hrA hS.1 a h) (fun a h => kAy_tr hrA hS.1 a h) (fun H locs hP9 hz9 hk9 hS => ?_)
    have hP : va_P (dC, dI) vwCl (kY dA m0 r0 σ (ex2 true false) ++ ([] : va_W)) _ := hP9
    have hD : va_D (kAy m0 r0 s.heap.size) (kY dA m0 r0 σ (ex2 true false) ++ ([] : va_W)) := by rw [← kap]; exact kYD_A hr hrA
    refine kz_ifb_ne (tgt := 54) hx hb  dX3_hasFeast_24 (by decide) (fun c_2 => ?_) (fun c_2 => absurd (kf_f c_2).1 (by decide))
    have hX : ex2 (!inb z1 0 3 || !inb z2 0 3) (false) = ex2 true false := by first | rfl | simp only [c_1, Bool.true_or, Bool.or_true, Bool.false_or, Bool.or_false, Bool.not_true, Bool.not_false]
    have hN : ¬ ex2 (!inb z1 0 3 || !inb z2 0 3) (false) = 0 := kf_ne hX c_2
    refine lv_iconst (v := iZ 0) hx hb dX3_hasFeast_54 rfl ?_
    refine W.widen (k := 0) (n := 0) (Nat.le_of_ble_eq_true rfl) (Nat.le_of_ble_eq_true rfl) ?_
    exact W.zret (v := iZ 0) (ty := .boolean) hx hb hr9 rfl (fun t ht hW => ⟨⟨congrArg (fun z : Int => Outcome.returned (some (Value.int (iZ z)))) (show 0 = (bZ (decide (ex2 (!inb z1 0 3 || !inb z2 0 3) (false) = 0) && ((!bb && inYr σ (z2.toNat) (σ 2 (z1.toNat)))))) from by rw [decide_eq_false hN]; rfl), gY_cast ⟨r0, hr, hrA, by rw [ht]; exact va_Pl hP⟩ (show (σ) = (σ) from rfl) (show (ex2 true false) = ex2 (!inb z1 0 3 || !inb z2 0 3) (false) from hX.symm)⟩, hS.F ht⟩) hS.2.2 dX3_hasFeast_55
  · refine lv_iload_n hx hb dX3_hasFeast_8 rfl (lv_at hl 2 rfl) ?_
    refine kc0 (fun _ q => q) (va_runS (As := [.int (iZ z2)]) (rest := [.ref m0]) ⟨hx, hb, hml, hown, hts⟩ (c_X3_isNo l _ (z2) (by first | omega | (unfold sgn; (try split) <;> omega))) (va_cwS 1 hts (kg_S mw1021 mw1022 mw47 rfl mw1023) rfl rfl rfl hdS_X3_isNo ⟨Nat.le_of_ble_eq_true rfl, Nat.le_of_ble_eq_true rfl⟩) ⟨fun a U g mk q => q, fun U hU hW => ⟨rfl, hU⟩⟩ rfl rfl hl.1 rfl (lv_room (Nat.le_of_ble_eq_true rfl)) dX3_hasFeast_9 ⟨Nat.le_of_ble_eq_true rfl, Nat.le_of_ble_eq_true rfl⟩) ?_
    refine kz_ifb_eq (tgt := 19) hx hb  dX3_hasFeast_12 (by decide) (fun c_3 => ?_) (fun c_3 => ?_)
    · refine lv_iconst (v := iZ 0) hx hb dX3_hasFeast_19 rfl ?_
      refine lv_iconst (v := iZ 0) hx hb dX3_hasFeast_20 rfl ?_
      refine kc2 (va_runV (As := [.int (iZ (bZ false)), .int (iZ (bZ false))]) (rest := []) ⟨hx, hb, hml, hown, hts⟩ (c_X3_fails l dC dI dA k m0 (r0) (σ) (th) _ (va_Pl hP) hr hOK false false ) (cwV 2 hts (kg_V mw1037 mw1038 mw27 mw47 rfl mw1039) rfl rfl rfl hdV_X3_fails ⟨Nat.le_of_ble_eq_true rfl, Nat.le_of_ble_eq_true rfl⟩) ⟨fun a U g mk q => ⟨q.1, q.2.1, kM_call q.2.2⟩, va_recv hM.1 hP (ci := 6) (q0 := 0) rfl rfl, fun U hU hW => ⟨rfl, hU, kM_kept hM hS hAN hU hW⟩⟩ rfl rfl hl.1 rfl (lv_room (Nat.le_of_ble_eq_true rfl)) dX3_hasFeast_21 ⟨Nat.le_of_ble_eq_true rfl, Nat.le_of_ble_eq_true rfl⟩) hS (fun a _ h => kAy_tr hrA hS.1 a h) (fun a h => kAy_tr hrA hS.1 a h) (fun H locs hP9 hz9 hk9 hS => ?_)
      have hP : va_P (dC, dI) vwCl (kY dA m0 r0 σ (ex2 false false) ++ ([] : va_W)) _ := hP9
      have hD : va_D (kAy m0 r0 s.heap.size) (kY dA m0 r0 σ (ex2 false false) ++ ([] : va_W)) := by rw [← kap]; exact kYD_A hr hrA
      refine kz_ifb_ne (tgt := 54) hx hb  dX3_hasFeast_24 (by decide) (fun c_4 => absurd (show ex2 false false = 0 from rfl) (kf_t c_4)) (fun c_4 => ?_)
      have hX : ex2 (!inb z1 0 3 || !inb z2 0 3) (false) = ex2 false false := by first | rfl | simp only [c_1, c_3, Bool.true_or, Bool.or_true, Bool.false_or, Bool.or_false, Bool.not_true, Bool.not_false]
      have hZ : ex2 (!inb z1 0 3 || !inb z2 0 3) (false) = 0 := kf_eq hX c_4
      obtain ⟨hA9, hB9⟩ := ex2_z hZ
      simp only [Bool.or_eq_false_iff, Bool.not_eq_false', Bool.not_eq_true', inb, decide_eq_true_eq, decide_eq_false_iff_not, noThing_niff] at hA9
      obtain ⟨p1, hp1, rfl⟩ : ∃ p1 : Nat, p1 < 4 ∧ z1 = (p1 : Int) := ⟨z1.toNat, by omega, by omega⟩
      have o_p1 := kOKr hOK hp1
      have l_p1 := mlen_rng (leap (σ 0 p1)) (σ 1 p1)
      have n_p1 := dnum_rng (y := σ 5 p1) (m := σ 6 p1) (d := σ 7 p1) (by omega) (by omega) (by omega)
      obtain ⟨p2, hp2, rfl⟩ : ∃ p2 : Nat, p2 < 4 ∧ z2 = (p2 : Int) := ⟨z2.toNat, by omega, by omega⟩
      have o_p2 := kOKr hOK hp2
      have l_p2 := mlen_rng (leap (σ 0 p2)) (σ 1 p2)
      have n_p2 := dnum_rng (y := σ 5 p2) (m := σ 6 p2) (d := σ 7 p2) (by omega) (by omega) (by omega)
      have hP := kY0 hP (kf_e c_4)
      have hD := kD0 hD (kf_e c_4)
      refine lv_iload_n hx hb dX3_hasFeast_27 rfl (lv_at hl 3 rfl) ?_
      refine kz_ifb_ne (tgt := 54) hx hb  dX3_hasFeast_28 (by decide) (fun c_5 => ?_) (fun c_5 => ?_)
      · refine lv_iconst (v := iZ 0) hx hb dX3_hasFeast_54 rfl ?_
        refine W.widen (k := 0) (n := 0) (Nat.le_of_ble_eq_true rfl) (Nat.le_of_ble_eq_true rfl) ?_
        exact W.zret (v := iZ 0) (ty := .boolean) hx hb hr9 rfl (fun t ht hW => ⟨⟨congrArg (fun z : Int => Outcome.returned (some (Value.int (iZ z)))) (show 0 = (bZ (decide (ex2 (!inb ((p1 : Nat) : Int) 0 3 || !inb ((p2 : Nat) : Int) 0 3) (false) = 0) && ((!bb && inYr σ p2 (σ 2 p1))))) from by rw [decide_eq_true hZ, Bool.true_and]; simp only [← inYr_eq hOK hp2, c_1, c_3, c_5]; first | done | rfl), gY_cast ⟨r0, hr, hrA, by rw [ht]; exact va_Pl hP⟩ (show (σ) = (σ) from rfl) (show (0) = ex2 (!inb ((p1 : Nat) : Int) 0 3 || !inb ((p2 : Nat) : Int) 0 3) (false) from hZ.symm)⟩, hS.F ht⟩) hS.2.2 dX3_hasFeast_55
      · refine lv_aload_n hx hb dX3_hasFeast_31 rfl (lv_at hl 0 rfl) ?_
        refine va_get (D := (dC, dI)) (ci := 6) (v := .ref (r0 0 3)) (C := RX3) (T := TX3) (N := 6) hx hb hts (fun w h => List.mem_cons_of_mem _ (gF_2_in h)) hown hM.1 hP 0 rfl rfl 2 (by decide) (hts _ (List.mem_cons_of_mem _ mw1009)) (fun _ h9 => h9) rfl dX3_hasFeast_32 ?_
        refine lv_iload_n hx hb dX3_hasFeast_35 rfl (lv_at hl 2 rfl) ?_
        refine kz_aald (v := r0 2 p2) hx hb hM.1 hP 3 rfl (by omega) (by decide) rfl dX3_hasFeast_36 ?_
        refine lv_aload_n hx hb dX3_hasFeast_37 rfl (lv_at hl 0 rfl) ?_
        refine va_get (D := (dC, dI)) (ci := 6) (v := .ref (r0 0 2)) (C := RX3) (T := TX3) (N := 6) hx hb hts (fun w h => List.mem_cons_of_mem _ (gF_2_in h)) hown hM.1 hP 0 rfl rfl 1 (by decide) (hts _ (List.mem_cons_of_mem _ mw1008)) (fun _ h9 => h9) rfl dX3_hasFeast_38 ?_
        refine lv_iload_n hx hb dX3_hasFeast_41 rfl (lv_at hl 1 rfl) ?_
        refine kz_iald (v := σ 2 p1) hx hb hM.1 hP 2 0 rfl rfl (by omega) (by decide) rfl dX3_hasFeast_42 ?_
        refine kz_i2l hx hb (by first | omega | (unfold sgn; (try split) <;> omega)) dX3_hasFeast_43 ?_
        refine kc0 (fun _ q => q) (va_runS (As := [.ref (r0 2 p2), .long (lZ ((σ 2 p1)))]) (rest := []) ⟨hx, hb, hml, hown, hts⟩ (c_X3_isInNow l dC dI dA k _ _ hP (9 + p2) (r0 2 p2) _ (σ 3 p2) (σ 4 p2) (((σ 2 p1))) (kY_F _ hp2) rfl rfl (by first | omega | (unfold sgn; (try split) <;> omega)) (by first | omega | (unfold sgn; (try split) <;> omega)) (by first | omega | (unfold sgn; (try split) <;> omega))) (va_cwS 2 hts (kg_S mw1243 mw1244 mw47 rfl mw1245) rfl rfl rfl hdS_X3_isInNow ⟨Nat.le_of_ble_eq_true rfl, Nat.le_of_ble_eq_true rfl⟩) ⟨fun a U g mk q => ⟨q.1, q.2.1, kM_call q.2.2⟩, fun U hU hW => ⟨rfl, hU, kM_kept hM hS hAN hU hW⟩⟩ rfl rfl hl.1 rfl (lv_room (Nat.le_of_ble_eq_true rfl)) dX3_hasFeast_44 ⟨Nat.le_of_ble_eq_true rfl, Nat.le_of_ble_eq_true rfl⟩) ?_
        refine kz_ifb_eq (tgt := 54) hx hb  dX3_hasFeast_47 (by decide) (fun c_6 => ?_) (fun c_6 => ?_)
        · refine lv_iconst (v := iZ 0) hx hb dX3_hasFeast_54 rfl ?_
          refine W.widen (k := 0) (n := 0) (Nat.le_of_ble_eq_true rfl) (Nat.le_of_ble_eq_true rfl) ?_
          exact W.zret (v := iZ 0) (ty := .boolean) hx hb hr9 rfl (fun t ht hW => ⟨⟨congrArg (fun z : Int => Outcome.returned (some (Value.int (iZ z)))) (show 0 = (bZ (decide (ex2 (!inb ((p1 : Nat) : Int) 0 3 || !inb ((p2 : Nat) : Int) 0 3) (false) = 0) && ((!bb && inYr σ p2 (σ 2 p1))))) from by rw [decide_eq_true hZ, Bool.true_and]; simp only [← inYr_eq hOK hp2, c_1, c_3, c_5, c_6]; first | done | rfl), gY_cast ⟨r0, hr, hrA, by rw [ht]; exact va_Pl hP⟩ (show (σ) = (σ) from rfl) (show (0) = ex2 (!inb ((p1 : Nat) : Int) 0 3 || !inb ((p2 : Nat) : Int) 0 3) (false) from hZ.symm)⟩, hS.F ht⟩) hS.2.2 dX3_hasFeast_55
        · refine lv_iconst (v := iZ 1) hx hb dX3_hasFeast_50 rfl ?_
          refine lv_goto (tgt := 55) hx hb dX3_hasFeast_51 (by decide) ?_
          refine W.widen (k := 0) (n := 0) (Nat.le_of_ble_eq_true rfl) (Nat.le_of_ble_eq_true rfl) ?_
          exact W.zret (v := iZ 1) (ty := .boolean) hx hb hr9 rfl (fun t ht hW => ⟨⟨congrArg (fun z : Int => Outcome.returned (some (Value.int (iZ z)))) (show 1 = (bZ (decide (ex2 (!inb ((p1 : Nat) : Int) 0 3 || !inb ((p2 : Nat) : Int) 0 3) (false) = 0) && ((!bb && inYr σ p2 (σ 2 p1))))) from by rw [decide_eq_true hZ, Bool.true_and]; simp only [← inYr_eq hOK hp2, c_1, c_3, c_5, c_6]; first | done | rfl), gY_cast ⟨r0, hr, hrA, by rw [ht]; exact va_Pl hP⟩ (show (σ) = (σ) from rfl) (show (0) = ex2 (!inb ((p1 : Nat) : Int) 0 3 || !inb ((p2 : Nat) : Int) 0 3) (false) from hZ.symm)⟩, hS.F ht⟩) hS.2.2 dX3_hasFeast_55
    · refine lv_iconst (v := iZ 1) hx hb dX3_hasFeast_15 rfl ?_
      refine lv_goto (tgt := 20) hx hb dX3_hasFeast_16 (by decide) ?_
      refine lv_iconst (v := iZ 0) hx hb dX3_hasFeast_20 rfl ?_
      refine kc2 (va_runV (As := [.int (iZ (bZ true)), .int (iZ (bZ false))]) (rest := []) ⟨hx, hb, hml, hown, hts⟩ (c_X3_fails l dC dI dA k m0 (r0) (σ) (th) _ (va_Pl hP) hr hOK true false ) (cwV 2 hts (kg_V mw1037 mw1038 mw27 mw47 rfl mw1039) rfl rfl rfl hdV_X3_fails ⟨Nat.le_of_ble_eq_true rfl, Nat.le_of_ble_eq_true rfl⟩) ⟨fun a U g mk q => ⟨q.1, q.2.1, kM_call q.2.2⟩, va_recv hM.1 hP (ci := 6) (q0 := 0) rfl rfl, fun U hU hW => ⟨rfl, hU, kM_kept hM hS hAN hU hW⟩⟩ rfl rfl hl.1 rfl (lv_room (Nat.le_of_ble_eq_true rfl)) dX3_hasFeast_21 ⟨Nat.le_of_ble_eq_true rfl, Nat.le_of_ble_eq_true rfl⟩) hS (fun a _ h => kAy_tr hrA hS.1 a h) (fun a h => kAy_tr hrA hS.1 a h) (fun H locs hP9 hz9 hk9 hS => ?_)
      have hP : va_P (dC, dI) vwCl (kY dA m0 r0 σ (ex2 true false) ++ ([] : va_W)) _ := hP9
      have hD : va_D (kAy m0 r0 s.heap.size) (kY dA m0 r0 σ (ex2 true false) ++ ([] : va_W)) := by rw [← kap]; exact kYD_A hr hrA
      refine kz_ifb_ne (tgt := 54) hx hb  dX3_hasFeast_24 (by decide) (fun c_7 => ?_) (fun c_7 => absurd (kf_f c_7).1 (by decide))
      have hX : ex2 (!inb z1 0 3 || !inb z2 0 3) (false) = ex2 true false := by first | rfl | simp only [c_1, c_3, Bool.true_or, Bool.or_true, Bool.false_or, Bool.or_false, Bool.not_true, Bool.not_false]
      have hN : ¬ ex2 (!inb z1 0 3 || !inb z2 0 3) (false) = 0 := kf_ne hX c_7
      refine lv_iconst (v := iZ 0) hx hb dX3_hasFeast_54 rfl ?_
      refine W.widen (k := 0) (n := 0) (Nat.le_of_ble_eq_true rfl) (Nat.le_of_ble_eq_true rfl) ?_
      exact W.zret (v := iZ 0) (ty := .boolean) hx hb hr9 rfl (fun t ht hW => ⟨⟨congrArg (fun z : Int => Outcome.returned (some (Value.int (iZ z)))) (show 0 = (bZ (decide (ex2 (!inb z1 0 3 || !inb z2 0 3) (false) = 0) && ((!bb && inYr σ (z2.toNat) (σ 2 (z1.toNat)))))) from by rw [decide_eq_false hN]; rfl), gY_cast ⟨r0, hr, hrA, by rw [ht]; exact va_Pl hP⟩ (show (σ) = (σ) from rfl) (show (ex2 true false) = ex2 (!inb z1 0 3 || !inb z2 0 3) (false) from hX.symm)⟩, hS.F ht⟩) hS.2.2 dX3_hasFeast_55

abbrev ww_X3_dayOrder : List Cond := .code yX3_dayOrder cX3_dayOrder 4 (some .int) :: gT
set_option maxHeartbeats 4000000 in
set_option maxRecDepth 100000 in
theorem c_X3_dayOrder (l : Launch) (dC : Nat → ClassId) (dI : Nat → Nat → Nat) (dA : Nat → ClassId) (k : Nat → Nat) (m0 : Nat) (r0 : Nat → Nat → Nat) (σ : Nat → Nat → Int) (th : Int) (H0 : Heap) (hP : va_P (dC, dI) vwCl (kY dA m0 r0 σ th) H0) (hr : kRI m0 r0 k) (hOK : kOK σ) (z1 : Int) (z2 : Int) (w0 : Int) (rz1 : -2147483648 ≤ z1 ∧ z1 < 2147483648) (rz2 : -2147483648 ≤ z2 ∧ z2 < 2147483648) (rw0 : -2147483648 ≤ w0 ∧ w0 < 2147483648) : Met l yX3_dayOrder ww_X3_dayOrder ({ frames := 5, cells := 0, slots := 0, locals := 113 }) (va_Pc [.ref m0, .int (iZ z1), .int (iZ z2), .int (iZ w0)] (fun U => U.heap = H0 ∧ kM dC dI dA k U)) (kQ2 (some (.int (iZ (if ex2 (!inb z1 0 3 || !inb z2 0 3) (!inb w0 0 2) = 0 then (ordT (dnum (σ 5 (z1.toNat)) (σ 6 (z1.toNat)) (σ 7 (z1.toNat))) (dnum (σ 5 (z2.toNat)) (σ 6 (z2.toNat)) (σ 7 (z2.toNat))) w0) else 0)))) (gY dC dI dA k m0 r0 H0.size (σ) (ex2 (!inb z1 0 3 || !inb z2 0 3) (!inb w0 0 2))) (kAy m0 r0 H0.size)) 0 0 (kAy m0 r0 H0.size) := by
  refine Met.ofW (cc := cX3_dayOrder) (maxL := 4) (ret := (some .int)) (by decide) rfl ?_
  intro p e s m args below meth c s₁ B hml hv
  obtain ⟨rfl, hH, hM⟩ := hv
  subst hH
  have hr0 := hr
  have hAN : ∀ a, kAy m0 r0 s.heap.size a → k 0 ≤ a := fun a h => kAy_N hr0 hM.2.1.1 a h
  have hrA : ∀ i : Nat, i < 17 → kAy m0 r0 s.heap.size (kR m0 r0 i) := fun i hi => Or.inl ⟨i, hi, rfl⟩
  have hD : va_D (kAy m0 r0 s.heap.size) (kY dA m0 r0 σ (th) ++ ([] : va_W)) := by rw [← kap]; exact kYD_A hr hrA
  have hP : va_P (dC, dI) vwCl (kY dA m0 r0 σ (th) ++ ([] : va_W)) s.heap := hP
  have hS : va_S (kAy m0 r0 s.heap.size) s.heap s.heap [] := va_S.rf
  have hx := B.exec
  have hb := B.bytes
  have hr9 := B.returns
  have hts := atoms_spec (ws := ww_X3_dayOrder) B.pre
  have hown : s.vm.findClass RX3 = some m.cls := findClass_of_methodNamed B.named
  have hlocks := B.notSynchronized
  have hl := lv_entry ([.ref m0, .int (iZ z1), .int (iZ z2), .int (iZ w0)]) (n := 4) (Nat.le_of_ble_eq_true rfl)
  rw [lg_entry_eq]
  generalize (lg_sl ([.ref m0, .int (iZ z1), .int (iZ z2), .int (iZ w0)]) ++ List.replicate (4 - (lg_sl ([.ref m0, .int (iZ z1), .int (iZ z2), .int (iZ w0)])).length) Slot.unset).toArray = ls at hl ⊢
  have hl : lv_has ls 4 [(0, .ref m0), (1, .int (iZ z1)), (2, .int (iZ z2)), (3, .int (iZ w0))] := hl
  refine lv_aload_n hx hb dX3_dayOrder_0 rfl (lv_at hl 0 rfl) ?_
  refine lv_iload_n hx hb dX3_dayOrder_1 rfl (lv_at hl 1 rfl) ?_
  refine kc0 (fun _ q => q) (va_runS (As := [.int (iZ z1)]) (rest := [.ref m0]) ⟨hx, hb, hml, hown, hts⟩ (c_X3_isNo l _ (z1) (by first | omega | (unfold sgn; (try split) <;> omega))) (va_cwS 1 hts (kg_S mw1021 mw1022 mw47 rfl mw1023) rfl rfl rfl hdS_X3_isNo ⟨Nat.le_of_ble_eq_true rfl, Nat.le_of_ble_eq_true rfl⟩) ⟨fun a U g mk q => q, fun U hU hW => ⟨rfl, hU⟩⟩ rfl rfl hl.1 rfl (lv_room (Nat.le_of_ble_eq_true rfl)) dX3_dayOrder_2 ⟨Nat.le_of_ble_eq_true rfl, Nat.le_of_ble_eq_true rfl⟩) ?_
  refine kz_ifb_ne (tgt := 15) hx hb  dX3_dayOrder_5 (by decide) (fun c_1 => ?_) (fun c_1 => ?_)
  · refine lv_iconst (v := iZ 1) hx hb dX3_dayOrder_15 rfl ?_
    refine lv_goto (tgt := 20) hx hb dX3_dayOrder_16 (by decide) ?_
    refine lv_iload_n hx hb dX3_dayOrder_20 rfl (lv_at hl 3 rfl) ?_
    refine kc0 (fun _ q => q) (va_runS (As := [.int (iZ w0)]) (rest := [.int (iZ 1), .ref m0]) ⟨hx, hb, hml, hown, hts⟩ (c_X3_isNoOrder l _ (w0) (by first | omega | (unfold sgn; (try split) <;> omega))) (va_cwS 1 hts (kg_S mw1301 mw1302 mw47 rfl mw1303) rfl rfl rfl hdS_X3_isNoOrder ⟨Nat.le_of_ble_eq_true rfl, Nat.le_of_ble_eq_true rfl⟩) ⟨fun a U g mk q => q, fun U hU hW => ⟨rfl, hU⟩⟩ rfl rfl hl.1 rfl (lv_room (Nat.le_of_ble_eq_true rfl)) dX3_dayOrder_21 ⟨Nat.le_of_ble_eq_true rfl, Nat.le_of_ble_eq_true rfl⟩) ?_
    refine kc2 (va_runV (As := [.int (iZ (bZ true)), .int (iZ (bZ (!inb ((w0)) 0 2)))]) (rest := []) ⟨hx, hb, hml, hown, hts⟩ (c_X3_fails l dC dI dA k m0 (r0) (σ) (th) _ (va_Pl hP) hr hOK true (!inb ((w0)) 0 2) ) (cwV 2 hts (kg_V mw1037 mw1038 mw27 mw47 rfl mw1039) rfl rfl rfl hdV_X3_fails ⟨Nat.le_of_ble_eq_true rfl, Nat.le_of_ble_eq_true rfl⟩) ⟨fun a U g mk q => ⟨q.1, q.2.1, kM_call q.2.2⟩, va_recv hM.1 hP (ci := 6) (q0 := 0) rfl rfl, fun U hU hW => ⟨rfl, hU, kM_kept hM hS hAN hU hW⟩⟩ rfl rfl hl.1 rfl (lv_room (Nat.le_of_ble_eq_true rfl)) dX3_dayOrder_24 ⟨Nat.le_of_ble_eq_true rfl, Nat.le_of_ble_eq_true rfl⟩) hS (fun a _ h => kAy_tr hrA hS.1 a h) (fun a h => kAy_tr hrA hS.1 a h) (fun H locs hP9 hz9 hk9 hS => ?_)
    have hP : va_P (dC, dI) vwCl (kY dA m0 r0 σ (ex2 true ((!inb ((w0)) 0 2))) ++ ([] : va_W)) _ := hP9
    have hD : va_D (kAy m0 r0 s.heap.size) (kY dA m0 r0 σ (ex2 true ((!inb ((w0)) 0 2))) ++ ([] : va_W)) := by rw [← kap]; exact kYD_A hr hrA
    refine kz_ifb_eq (tgt := 34) hx hb  dX3_dayOrder_27 (by decide) (fun c_2 => absurd (kf_f c_2).1 (by decide)) (fun c_2 => ?_)
    have hX : ex2 (!inb z1 0 3 || !inb z2 0 3) (!inb w0 0 2) = ex2 true (!inb ((w0)) 0 2) := by first | rfl | simp only [c_1, Bool.true_or, Bool.or_true, Bool.false_or, Bool.or_false, Bool.not_true, Bool.not_false]
    have hN : ¬ ex2 (!inb z1 0 3 || !inb z2 0 3) (!inb w0 0 2) = 0 := kf_ne hX c_2
    refine lv_iconst (v := iZ 0) hx hb dX3_dayOrder_30 rfl ?_
    refine lv_goto (tgt := 56) hx hb dX3_dayOrder_31 (by decide) ?_
    refine W.widen (k := 0) (n := 0) (Nat.le_of_ble_eq_true rfl) (Nat.le_of_ble_eq_true rfl) ?_
    exact W.iret (v := iZ 0) hx hb hr9 (fun t ht hW => ⟨⟨congrArg (fun z : Int => Outcome.returned (some (Value.int (iZ z)))) (show 0 = (if ex2 (!inb z1 0 3 || !inb z2 0 3) (!inb w0 0 2) = 0 then (ordT (dnum (σ 5 (z1.toNat)) (σ 6 (z1.toNat)) (σ 7 (z1.toNat))) (dnum (σ 5 (z2.toNat)) (σ 6 (z2.toNat)) (σ 7 (z2.toNat))) w0) else 0) from by rw [if_neg hN]), gY_cast ⟨r0, hr, hrA, by rw [ht]; exact va_Pl hP⟩ (show (σ) = (σ) from rfl) (show (ex2 true ((!inb ((w0)) 0 2))) = ex2 (!inb z1 0 3 || !inb z2 0 3) (!inb w0 0 2) from hX.symm)⟩, hS.F ht⟩) hS.2.2 dX3_dayOrder_56
  · refine lv_iload_n hx hb dX3_dayOrder_8 rfl (lv_at hl 2 rfl) ?_
    refine kc0 (fun _ q => q) (va_runS (As := [.int (iZ z2)]) (rest := [.ref m0]) ⟨hx, hb, hml, hown, hts⟩ (c_X3_isNo l _ (z2) (by first | omega | (unfold sgn; (try split) <;> omega))) (va_cwS 1 hts (kg_S mw1021 mw1022 mw47 rfl mw1023) rfl rfl rfl hdS_X3_isNo ⟨Nat.le_of_ble_eq_true rfl, Nat.le_of_ble_eq_true rfl⟩) ⟨fun a U g mk q => q, fun U hU hW => ⟨rfl, hU⟩⟩ rfl rfl hl.1 rfl (lv_room (Nat.le_of_ble_eq_true rfl)) dX3_dayOrder_9 ⟨Nat.le_of_ble_eq_true rfl, Nat.le_of_ble_eq_true rfl⟩) ?_
    refine kz_ifb_eq (tgt := 19) hx hb  dX3_dayOrder_12 (by decide) (fun c_3 => ?_) (fun c_3 => ?_)
    · refine lv_iconst (v := iZ 0) hx hb dX3_dayOrder_19 rfl ?_
      refine lv_iload_n hx hb dX3_dayOrder_20 rfl (lv_at hl 3 rfl) ?_
      refine kc0 (fun _ q => q) (va_runS (As := [.int (iZ w0)]) (rest := [.int (iZ 0), .ref m0]) ⟨hx, hb, hml, hown, hts⟩ (c_X3_isNoOrder l _ (w0) (by first | omega | (unfold sgn; (try split) <;> omega))) (va_cwS 1 hts (kg_S mw1301 mw1302 mw47 rfl mw1303) rfl rfl rfl hdS_X3_isNoOrder ⟨Nat.le_of_ble_eq_true rfl, Nat.le_of_ble_eq_true rfl⟩) ⟨fun a U g mk q => q, fun U hU hW => ⟨rfl, hU⟩⟩ rfl rfl hl.1 rfl (lv_room (Nat.le_of_ble_eq_true rfl)) dX3_dayOrder_21 ⟨Nat.le_of_ble_eq_true rfl, Nat.le_of_ble_eq_true rfl⟩) ?_
      refine kc2 (va_runV (As := [.int (iZ (bZ false)), .int (iZ (bZ (!inb ((w0)) 0 2)))]) (rest := []) ⟨hx, hb, hml, hown, hts⟩ (c_X3_fails l dC dI dA k m0 (r0) (σ) (th) _ (va_Pl hP) hr hOK false (!inb ((w0)) 0 2) ) (cwV 2 hts (kg_V mw1037 mw1038 mw27 mw47 rfl mw1039) rfl rfl rfl hdV_X3_fails ⟨Nat.le_of_ble_eq_true rfl, Nat.le_of_ble_eq_true rfl⟩) ⟨fun a U g mk q => ⟨q.1, q.2.1, kM_call q.2.2⟩, va_recv hM.1 hP (ci := 6) (q0 := 0) rfl rfl, fun U hU hW => ⟨rfl, hU, kM_kept hM hS hAN hU hW⟩⟩ rfl rfl hl.1 rfl (lv_room (Nat.le_of_ble_eq_true rfl)) dX3_dayOrder_24 ⟨Nat.le_of_ble_eq_true rfl, Nat.le_of_ble_eq_true rfl⟩) hS (fun a _ h => kAy_tr hrA hS.1 a h) (fun a h => kAy_tr hrA hS.1 a h) (fun H locs hP9 hz9 hk9 hS => ?_)
      have hP : va_P (dC, dI) vwCl (kY dA m0 r0 σ (ex2 false ((!inb ((w0)) 0 2))) ++ ([] : va_W)) _ := hP9
      have hD : va_D (kAy m0 r0 s.heap.size) (kY dA m0 r0 σ (ex2 false ((!inb ((w0)) 0 2))) ++ ([] : va_W)) := by rw [← kap]; exact kYD_A hr hrA
      refine kz_ifb_eq (tgt := 34) hx hb  dX3_dayOrder_27 (by decide) (fun c_4 => ?_) (fun c_4 => ?_)
      · have hX : ex2 (!inb z1 0 3 || !inb z2 0 3) (!inb w0 0 2) = ex2 false (!inb ((w0)) 0 2) := by first | rfl | simp only [c_1, c_3, Bool.true_or, Bool.or_true, Bool.false_or, Bool.or_false, Bool.not_true, Bool.not_false]
        have hZ : ex2 (!inb z1 0 3 || !inb z2 0 3) (!inb w0 0 2) = 0 := kf_eq hX c_4
        obtain ⟨hA9, hB9⟩ := ex2_z hZ
        simp only [Bool.or_eq_false_iff, Bool.not_eq_false', Bool.not_eq_true', inb, decide_eq_true_eq, decide_eq_false_iff_not, noThing_niff] at hA9
        simp only [Bool.or_eq_false_iff, Bool.not_eq_false', Bool.not_eq_true', inb, decide_eq_true_eq, decide_eq_false_iff_not, noThing_niff] at hB9
        obtain ⟨p1, hp1, rfl⟩ : ∃ p1 : Nat, p1 < 4 ∧ z1 = (p1 : Int) := ⟨z1.toNat, by omega, by omega⟩
        have o_p1 := kOKr hOK hp1
        have l_p1 := mlen_rng (leap (σ 0 p1)) (σ 1 p1)
        have n_p1 := dnum_rng (y := σ 5 p1) (m := σ 6 p1) (d := σ 7 p1) (by omega) (by omega) (by omega)
        obtain ⟨p2, hp2, rfl⟩ : ∃ p2 : Nat, p2 < 4 ∧ z2 = (p2 : Int) := ⟨z2.toNat, by omega, by omega⟩
        have o_p2 := kOKr hOK hp2
        have l_p2 := mlen_rng (leap (σ 0 p2)) (σ 1 p2)
        have n_p2 := dnum_rng (y := σ 5 p2) (m := σ 6 p2) (d := σ 7 p2) (by omega) (by omega) (by omega)
        have hP := kY0 hP (kf_e c_4)
        have hD := kD0 hD (kf_e c_4)
        refine lv_aload_n hx hb dX3_dayOrder_34 rfl (lv_at hl 0 rfl) ?_
        refine va_get (D := (dC, dI)) (ci := 6) (v := .ref (r0 0 4)) (C := RX3) (T := TX3) (N := 6) hx hb hts (fun w h => List.mem_cons_of_mem _ (gF_2_in h)) hown hM.1 hP 0 rfl rfl 3 (by decide) (hts _ (List.mem_cons_of_mem _ mw1010)) (fun _ h9 => h9) rfl dX3_dayOrder_35 ?_
        refine lv_iload_n hx hb dX3_dayOrder_38 rfl (lv_at hl 1 rfl) ?_
        refine kz_aald (v := r0 3 p1) hx hb hM.1 hP 4 rfl (by omega) (by decide) rfl dX3_dayOrder_39 ?_
        refine kc0 (fun _ q => q) (va_runS (As := [.ref (r0 3 p1)]) (rest := []) ⟨hx, hb, hml, hown, hts⟩ (c_X3_numberOf l dC dI dA k _ _ hP (13 + p1) (r0 3 p1) _ (σ 5 p1) (σ 6 p1) (σ 7 p1) (kY_D _ hp1) rfl rfl rfl (by first | omega | (unfold sgn; (try split) <;> omega)) (by first | omega | (unfold sgn; (try split) <;> omega)) (by first | omega | (unfold sgn; (try split) <;> omega))) (va_cwS 1 hts (kg_S mw1217 mw1218 mw47 rfl mw1219) rfl rfl rfl hdS_X3_numberOf ⟨Nat.le_of_ble_eq_true rfl, Nat.le_of_ble_eq_true rfl⟩) ⟨fun a U g mk q => ⟨q.1, q.2.1, kM_call q.2.2⟩, fun U hU hW => ⟨rfl, hU, kM_kept hM hS hAN hU hW⟩⟩ rfl rfl hl.1 rfl (lv_room (Nat.le_of_ble_eq_true rfl)) dX3_dayOrder_40 ⟨Nat.le_of_ble_eq_true rfl, Nat.le_of_ble_eq_true rfl⟩) ?_
        refine lv_aload_n hx hb dX3_dayOrder_43 rfl (lv_at hl 0 rfl) ?_
        refine va_get (D := (dC, dI)) (ci := 6) (v := .ref (r0 0 4)) (C := RX3) (T := TX3) (N := 6) hx hb hts (fun w h => List.mem_cons_of_mem _ (gF_2_in h)) hown hM.1 hP 0 rfl rfl 3 (by decide) (hts _ (List.mem_cons_of_mem _ mw1010)) (fun _ h9 => h9) rfl dX3_dayOrder_44 ?_
        refine lv_iload_n hx hb dX3_dayOrder_47 rfl (lv_at hl 2 rfl) ?_
        refine kz_aald (v := r0 3 p2) hx hb hM.1 hP 4 rfl (by omega) (by decide) rfl dX3_dayOrder_48 ?_
        refine kc0 (fun _ q => q) (va_runS (As := [.ref (r0 3 p2)]) (rest := [.long (lZ (dnum ((σ 5 p1)) ((σ 6 p1)) ((σ 7 p1))))]) ⟨hx, hb, hml, hown, hts⟩ (c_X3_numberOf l dC dI dA k _ _ hP (13 + p2) (r0 3 p2) _ (σ 5 p2) (σ 6 p2) (σ 7 p2) (kY_D _ hp2) rfl rfl rfl (by first | omega | (unfold sgn; (try split) <;> omega)) (by first | omega | (unfold sgn; (try split) <;> omega)) (by first | omega | (unfold sgn; (try split) <;> omega))) (va_cwS 1 hts (kg_S mw1217 mw1218 mw47 rfl mw1219) rfl rfl rfl hdS_X3_numberOf ⟨Nat.le_of_ble_eq_true rfl, Nat.le_of_ble_eq_true rfl⟩) ⟨fun a U g mk q => ⟨q.1, q.2.1, kM_call q.2.2⟩, fun U hU hW => ⟨rfl, hU, kM_kept hM hS hAN hU hW⟩⟩ rfl rfl hl.1 rfl (lv_room (Nat.le_of_ble_eq_true rfl)) dX3_dayOrder_49 ⟨Nat.le_of_ble_eq_true rfl, Nat.le_of_ble_eq_true rfl⟩) ?_
        refine lv_iload_n hx hb dX3_dayOrder_52 rfl (lv_at hl 3 rfl) ?_
        refine kc0 (fun _ q => q) (va_runS (As := [.long (lZ (dnum ((σ 5 p1)) ((σ 6 p1)) ((σ 7 p1)))), .long (lZ (dnum ((σ 5 p2)) ((σ 6 p2)) ((σ 7 p2)))), .int (iZ w0)]) (rest := []) ⟨hx, hb, hml, hown, hts⟩ (c_X3_order l _ ((dnum ((σ 5 p1)) ((σ 6 p1)) ((σ 7 p1)))) ((dnum ((σ 5 p2)) ((σ 6 p2)) ((σ 7 p2)))) (w0) (by first | omega | (unfold sgn; (try split) <;> omega)) (by first | omega | (unfold sgn; (try split) <;> omega)) (by first | omega | (unfold sgn; (try split) <;> omega))) (va_cwS 3 hts (kg_S mw1304 mw1305 mw47 rfl mw1306) rfl rfl rfl hdS_X3_order ⟨Nat.le_of_ble_eq_true rfl, Nat.le_of_ble_eq_true rfl⟩) ⟨fun a U g mk q => q, fun U hU hW => ⟨rfl, hU⟩⟩ rfl rfl hl.1 rfl (lv_room (Nat.le_of_ble_eq_true rfl)) dX3_dayOrder_53 ⟨Nat.le_of_ble_eq_true rfl, Nat.le_of_ble_eq_true rfl⟩) ?_
        refine W.widen (k := 0) (n := 0) (Nat.le_of_ble_eq_true rfl) (Nat.le_of_ble_eq_true rfl) ?_
        exact W.iret (v := iZ (ordT (((dnum ((σ 5 p1)) ((σ 6 p1)) ((σ 7 p1))))) (((dnum ((σ 5 p2)) ((σ 6 p2)) ((σ 7 p2))))) ((w0)))) hx hb hr9 (fun t ht hW => ⟨⟨congrArg (fun z : Int => Outcome.returned (some (Value.int (iZ z)))) (show (ordT (((dnum ((σ 5 p1)) ((σ 6 p1)) ((σ 7 p1))))) (((dnum ((σ 5 p2)) ((σ 6 p2)) ((σ 7 p2))))) ((w0))) = (if ex2 (!inb ((p1 : Nat) : Int) 0 3 || !inb ((p2 : Nat) : Int) 0 3) (!inb w0 0 2) = 0 then (ordT (dnum (σ 5 p1) (σ 6 p1) (σ 7 p1)) (dnum (σ 5 p2) (σ 6 p2) (σ 7 p2)) w0) else 0) from by rw [if_pos hZ]; done), gY_cast ⟨r0, hr, hrA, by rw [ht]; exact va_Pl hP⟩ (show (σ) = (σ) from rfl) (show (0) = ex2 (!inb ((p1 : Nat) : Int) 0 3 || !inb ((p2 : Nat) : Int) 0 3) (!inb w0 0 2) from hZ.symm)⟩, hS.F ht⟩) hS.2.2 dX3_dayOrder_56
      · have hX : ex2 (!inb z1 0 3 || !inb z2 0 3) (!inb w0 0 2) = ex2 false (!inb ((w0)) 0 2) := by first | rfl | simp only [c_1, c_3, Bool.true_or, Bool.or_true, Bool.false_or, Bool.or_false, Bool.not_true, Bool.not_false]
        have hN : ¬ ex2 (!inb z1 0 3 || !inb z2 0 3) (!inb w0 0 2) = 0 := kf_ne hX c_4
        refine lv_iconst (v := iZ 0) hx hb dX3_dayOrder_30 rfl ?_
        refine lv_goto (tgt := 56) hx hb dX3_dayOrder_31 (by decide) ?_
        refine W.widen (k := 0) (n := 0) (Nat.le_of_ble_eq_true rfl) (Nat.le_of_ble_eq_true rfl) ?_
        exact W.iret (v := iZ 0) hx hb hr9 (fun t ht hW => ⟨⟨congrArg (fun z : Int => Outcome.returned (some (Value.int (iZ z)))) (show 0 = (if ex2 (!inb z1 0 3 || !inb z2 0 3) (!inb w0 0 2) = 0 then (ordT (dnum (σ 5 (z1.toNat)) (σ 6 (z1.toNat)) (σ 7 (z1.toNat))) (dnum (σ 5 (z2.toNat)) (σ 6 (z2.toNat)) (σ 7 (z2.toNat))) w0) else 0) from by rw [if_neg hN]), gY_cast ⟨r0, hr, hrA, by rw [ht]; exact va_Pl hP⟩ (show (σ) = (σ) from rfl) (show (ex2 false ((!inb ((w0)) 0 2))) = ex2 (!inb z1 0 3 || !inb z2 0 3) (!inb w0 0 2) from hX.symm)⟩, hS.F ht⟩) hS.2.2 dX3_dayOrder_56
    · refine lv_iconst (v := iZ 1) hx hb dX3_dayOrder_15 rfl ?_
      refine lv_goto (tgt := 20) hx hb dX3_dayOrder_16 (by decide) ?_
      refine lv_iload_n hx hb dX3_dayOrder_20 rfl (lv_at hl 3 rfl) ?_
      refine kc0 (fun _ q => q) (va_runS (As := [.int (iZ w0)]) (rest := [.int (iZ 1), .ref m0]) ⟨hx, hb, hml, hown, hts⟩ (c_X3_isNoOrder l _ (w0) (by first | omega | (unfold sgn; (try split) <;> omega))) (va_cwS 1 hts (kg_S mw1301 mw1302 mw47 rfl mw1303) rfl rfl rfl hdS_X3_isNoOrder ⟨Nat.le_of_ble_eq_true rfl, Nat.le_of_ble_eq_true rfl⟩) ⟨fun a U g mk q => q, fun U hU hW => ⟨rfl, hU⟩⟩ rfl rfl hl.1 rfl (lv_room (Nat.le_of_ble_eq_true rfl)) dX3_dayOrder_21 ⟨Nat.le_of_ble_eq_true rfl, Nat.le_of_ble_eq_true rfl⟩) ?_
      refine kc2 (va_runV (As := [.int (iZ (bZ true)), .int (iZ (bZ (!inb ((w0)) 0 2)))]) (rest := []) ⟨hx, hb, hml, hown, hts⟩ (c_X3_fails l dC dI dA k m0 (r0) (σ) (th) _ (va_Pl hP) hr hOK true (!inb ((w0)) 0 2) ) (cwV 2 hts (kg_V mw1037 mw1038 mw27 mw47 rfl mw1039) rfl rfl rfl hdV_X3_fails ⟨Nat.le_of_ble_eq_true rfl, Nat.le_of_ble_eq_true rfl⟩) ⟨fun a U g mk q => ⟨q.1, q.2.1, kM_call q.2.2⟩, va_recv hM.1 hP (ci := 6) (q0 := 0) rfl rfl, fun U hU hW => ⟨rfl, hU, kM_kept hM hS hAN hU hW⟩⟩ rfl rfl hl.1 rfl (lv_room (Nat.le_of_ble_eq_true rfl)) dX3_dayOrder_24 ⟨Nat.le_of_ble_eq_true rfl, Nat.le_of_ble_eq_true rfl⟩) hS (fun a _ h => kAy_tr hrA hS.1 a h) (fun a h => kAy_tr hrA hS.1 a h) (fun H locs hP9 hz9 hk9 hS => ?_)
      have hP : va_P (dC, dI) vwCl (kY dA m0 r0 σ (ex2 true ((!inb ((w0)) 0 2))) ++ ([] : va_W)) _ := hP9
      have hD : va_D (kAy m0 r0 s.heap.size) (kY dA m0 r0 σ (ex2 true ((!inb ((w0)) 0 2))) ++ ([] : va_W)) := by rw [← kap]; exact kYD_A hr hrA
      refine kz_ifb_eq (tgt := 34) hx hb  dX3_dayOrder_27 (by decide) (fun c_5 => absurd (kf_f c_5).1 (by decide)) (fun c_5 => ?_)
      have hX : ex2 (!inb z1 0 3 || !inb z2 0 3) (!inb w0 0 2) = ex2 true (!inb ((w0)) 0 2) := by first | rfl | simp only [c_1, c_3, Bool.true_or, Bool.or_true, Bool.false_or, Bool.or_false, Bool.not_true, Bool.not_false]
      have hN : ¬ ex2 (!inb z1 0 3 || !inb z2 0 3) (!inb w0 0 2) = 0 := kf_ne hX c_5
      refine lv_iconst (v := iZ 0) hx hb dX3_dayOrder_30 rfl ?_
      refine lv_goto (tgt := 56) hx hb dX3_dayOrder_31 (by decide) ?_
      refine W.widen (k := 0) (n := 0) (Nat.le_of_ble_eq_true rfl) (Nat.le_of_ble_eq_true rfl) ?_
      exact W.iret (v := iZ 0) hx hb hr9 (fun t ht hW => ⟨⟨congrArg (fun z : Int => Outcome.returned (some (Value.int (iZ z)))) (show 0 = (if ex2 (!inb z1 0 3 || !inb z2 0 3) (!inb w0 0 2) = 0 then (ordT (dnum (σ 5 (z1.toNat)) (σ 6 (z1.toNat)) (σ 7 (z1.toNat))) (dnum (σ 5 (z2.toNat)) (σ 6 (z2.toNat)) (σ 7 (z2.toNat))) w0) else 0) from by rw [if_neg hN]), gY_cast ⟨r0, hr, hrA, by rw [ht]; exact va_Pl hP⟩ (show (σ) = (σ) from rfl) (show (ex2 true ((!inb ((w0)) 0 2))) = ex2 (!inb z1 0 3 || !inb z2 0 3) (!inb w0 0 2) from hX.symm)⟩, hS.F ht⟩) hS.2.2 dX3_dayOrder_56

