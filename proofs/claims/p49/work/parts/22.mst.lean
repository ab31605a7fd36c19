theorem tq_exact {x y : Int} (hy : 0 < y) : tq (x - x % y) y = x / y := by
  have h1 := Int.mul_ediv_add_emod x y
  have h2 : x - x % y = y * (x / y) := by omega
  rw [h2]
  have h4 := (tq_floor (x := y * (x / y)) hy)
  by_cases h3 : 0 ≤ y * (x / y)
  · rw [← h4.1 h3, Int.mul_ediv_cancel_left _ (by omega)]
  · obtain ⟨h5, h6⟩ := h4.2 (by omega)
    have h7 : y * (x / y) % y = 0 := Int.mul_emod_right _ _
    by_cases h8 : tq (y * (x / y)) y * y = y * (x / y)
    · rw [← (h5 h8).1, Int.mul_ediv_cancel_left _ (by omega)]
    · have h9 := (h6 h8).2
      have h10 := (tq_mul (x := y * (x / y)) hy).2 (by omega)
      omega
abbrev ww_X3_isIn : List Cond := .code yX3_isIn cX3_isIn 6 (some .boolean) :: gT
set_option maxHeartbeats 4000000 in
set_option maxRecDepth 100000 in
/-- X3_isIn -/
theorem c_X3_isIn (l : Launch) (H0 : Heap) (v0 : Int) (a0 : Int) (b0 : Int) (h0 : -9223372036854775808 ≤ v0 ∧ v0 < 9223372036854775808) (h1 : -9223372036854775808 ≤ a0 ∧ a0 < 9223372036854775808) (h2 : -9223372036854775808 ≤ b0 ∧ b0 < 9223372036854775808) : Met l yX3_isIn ww_X3_isIn ({ frames := 0, cells := 0, slots := 0, locals := 0 }) (va_Pc [.long (lZ (v0)), .long (lZ (a0)), .long (lZ (b0))] (fun U => U.heap = H0)) (kQ0 (some (.int (iZ (bZ (inb v0 a0 b0))))) H0) 0 0 kN := by
  refine Met.ofW (cc := cX3_isIn) (maxL := 6) (ret := (some .boolean)) (by decide) rfl ?_
  intro p e s m args below meth c s₁ B hml hv
  obtain ⟨rfl, hH⟩ := hv
  subst hH
  have hx := B.exec
  have hb := B.bytes
  have hr := B.returns
  have hts := atoms_spec (ws := ww_X3_isIn) B.pre
  have hown : s.vm.findClass RX3 = some m.cls := findClass_of_methodNamed B.named
  have hlocks := B.notSynchronized
  have hl := lv_entry ([.long (lZ (v0)), .long (lZ (a0)), .long (lZ (b0))]) (n := 6) (Nat.le_of_ble_eq_true rfl)
  rw [lg_entry_eq]
  generalize (lg_sl ([.long (lZ (v0)), .long (lZ (a0)), .long (lZ (b0))]) ++ List.replicate (6 - (lg_sl ([.long (lZ (v0)), .long (lZ (a0)), .long (lZ (b0))])).length) Slot.unset).toArray = ls at hl ⊢
  have hl : lv_has ls 6 [(0, .long (lZ (v0))), (2, .long (lZ (a0))), (4, .long (lZ (b0)))] := hl
  refine lv_lload_n hx hb dX3_isIn_0 rfl (lv_at hl 0 rfl) ?_
  refine lv_lload_n hx hb dX3_isIn_1 rfl (lv_at hl 1 rfl) ?_
  refine kz_lcmp_lt (tgt := 17) hx hb (by omega) (by omega) dX3_isIn_2 dX3_isIn_3 (by decide) (fun c_1 => ?_) (fun c_1 => ?_)
  · refine lv_iconst (v := iZ 0) hx hb dX3_isIn_17 rfl ?_
    exact W.zret (v := iZ 0) (ty := .boolean) hx hb hr rfl (fun t ht hW => ⟨congrArg (fun z : Int => Outcome.returned (some (Value.int (iZ z)))) (show 0 = (bZ (inb v0 a0 b0)) from by unfold inb; exact bZ_d0 (by omega)), ht⟩) (fun q h => by cases h) dX3_isIn_18
  · refine lv_lload_n hx hb dX3_isIn_6 rfl (lv_at hl 0 rfl) ?_
    refine lv_lload hx hb dX3_isIn_7 (lv_at hl 2 rfl) ?_
    refine kz_lcmp_gt (tgt := 17) hx hb (by omega) (by omega) dX3_isIn_9 dX3_isIn_10 (by decide) (fun c_2 => ?_) (fun c_2 => ?_)
    · refine lv_iconst (v := iZ 0) hx hb dX3_isIn_17 rfl ?_
      exact W.zret (v := iZ 0) (ty := .boolean) hx hb hr rfl (fun t ht hW => ⟨congrArg (fun z : Int => Outcome.returned (some (Value.int (iZ z)))) (show 0 = (bZ (inb v0 a0 b0)) from by unfold inb; exact bZ_d0 (by omega)), ht⟩) (fun q h => by cases h) dX3_isIn_18
    · refine lv_iconst (v := iZ 1) hx hb dX3_isIn_13 rfl ?_
      refine lv_goto (tgt := 18) hx hb dX3_isIn_14 (by decide) ?_
      exact W.zret (v := iZ 1) (ty := .boolean) hx hb hr rfl (fun t ht hW => ⟨congrArg (fun z : Int => Outcome.returned (some (Value.int (iZ z)))) (show 1 = (bZ (inb v0 a0 b0)) from by unfold inb; exact bZ_d1 (by omega)), ht⟩) (fun q h => by cases h) dX3_isIn_18

abbrev ww_X3_bit : List Cond := .code yX3_bit cX3_bit 1 (some .int) :: gT
set_option maxHeartbeats 4000000 in
set_option maxRecDepth 100000 in
/-- X3_bit -/
theorem c_X3_bit (l : Launch) (H0 : Heap) (bb : Bool)  : Met l yX3_bit ww_X3_bit ({ frames := 0, cells := 0, slots := 0, locals := 0 }) (va_Pc [.int (iZ (bZ (bb)))] (fun U => U.heap = H0)) (kQ0 (some (.int (iZ (bZ bb)))) H0) 0 0 kN := by
  refine Met.ofW (cc := cX3_bit) (maxL := 1) (ret := (some .int)) (by decide) rfl ?_
  intro p e s m args below meth c s₁ B hml hv
  obtain ⟨rfl, hH⟩ := hv
  subst hH
  have hx := B.exec
  have hb := B.bytes
  have hr := B.returns
  have hts := atoms_spec (ws := ww_X3_bit) B.pre
  have hown : s.vm.findClass RX3 = some m.cls := findClass_of_methodNamed B.named
  have hlocks := B.notSynchronized
  have hl := lv_entry ([.int (iZ (bZ (bb)))]) (n := 1) (Nat.le_of_ble_eq_true rfl)
  rw [lg_entry_eq]
  generalize (lg_sl ([.int (iZ (bZ (bb)))]) ++ List.replicate (1 - (lg_sl ([.int (iZ (bZ (bb)))])).length) Slot.unset).toArray = ls at hl ⊢
  have hl : lv_has ls 1 [(0, .int (iZ (bZ (bb))))] := hl
  refine lv_iload_n hx hb dX3_bit_0 rfl (lv_at hl 0 rfl) ?_
  refine kz_ifb_eq (tgt := 8) hx hb  dX3_bit_1 (by decide) (fun c_1 => ?_) (fun c_1 => ?_)
  · refine lv_iconst (v := iZ 0) hx hb dX3_bit_8 rfl ?_
    exact W.iret (v := iZ 0) hx hb hr (fun t ht hW => ⟨congrArg (fun z : Int => Outcome.returned (some (Value.int (iZ z)))) (show 0 = (bZ bb) from by simp [*, bZ]), ht⟩) (fun q h => by cases h) dX3_bit_9
  · refine lv_iconst (v := iZ 1) hx hb dX3_bit_4 rfl ?_
    refine lv_goto (tgt := 9) hx hb dX3_bit_5 (by decide) ?_
    exact W.iret (v := iZ 1) hx hb hr (fun t ht hW => ⟨congrArg (fun z : Int => Outcome.returned (some (Value.int (iZ z)))) (show 1 = (bZ bb) from by simp [*, bZ]), ht⟩) (fun q h => by cases h) dX3_bit_9

abbrev ww_X3_isNo : List Cond := .code yX3_isNo cX3_isNo 1 (some .boolean) :: gT
set_option maxHeartbeats 4000000 in
set_option maxRecDepth 100000 in
/-- X3_isNo -/
theorem c_X3_isNo (l : Launch) (H0 : Heap) (pl : Int) (h0 : -2147483648 ≤ pl ∧ pl < 2147483648) : Met l yX3_isNo ww_X3_isNo ({ frames := 1, cells := 0, slots := 0, locals := 25 }) (va_Pc [.int (iZ pl)] (fun U => U.heap = H0)) (kQ0 (some (.int (iZ (bZ (!inb pl 0 3))))) H0) 0 0 kN := by
  refine Met.ofW (cc := cX3_isNo) (maxL := 1) (ret := (some .boolean)) (by decide) rfl ?_
  intro p e s m args below meth c s₁ B hml hv
  obtain ⟨rfl, hH⟩ := hv
  subst hH
  have hx := B.exec
  have hb := B.bytes
  have hr := B.returns
  have hts := atoms_spec (ws := ww_X3_isNo) B.pre
  have hown : s.vm.findClass RX3 = some m.cls := findClass_of_methodNamed B.named
  have hlocks := B.notSynchronized
  have hl := lv_entry ([.int (iZ pl)]) (n := 1) (Nat.le_of_ble_eq_true rfl)
  rw [lg_entry_eq]
  generalize (lg_sl ([.int (iZ pl)]) ++ List.replicate (1 - (lg_sl ([.int (iZ pl)])).length) Slot.unset).toArray = ls at hl ⊢
  have hl : lv_has ls 1 [(0, .int (iZ pl))] := hl
  refine lv_iload_n hx hb dX3_isNo_0 rfl (lv_at hl 0 rfl) ?_
  refine kz_i2l hx hb (by omega) dX3_isNo_1 ?_
  refine lv_lconst (v := lZ 0) hx hb dX3_isNo_2 rfl ?_
  refine lv_ldc2 (v := lZ 3) hx hb hown (hts _ (List.mem_cons_of_mem _ mw1024)) dX3_isNo_3 ?_
  refine kc0 (fun _ q => q) (va_runS (As := [.long (lZ (pl)), .long (lZ (0)), .long (lZ (3))]) (rest := []) ⟨hx, hb, hml, hown, hts⟩ (c_X3_isIn l _ (pl) (0) (3) (by omega) (by omega) (by omega)) (va_cwS 3 hts (kg_S mw1025 mw1026 mw47 rfl mw1027) rfl rfl rfl hdS_X3_isIn ⟨Nat.le_of_ble_eq_true rfl, Nat.le_of_ble_eq_true rfl⟩) ⟨fun a U g mk q => q, fun U hU hW => ⟨rfl, hU⟩⟩ rfl rfl hl.1 rfl (lv_room (Nat.le_of_ble_eq_true rfl)) dX3_isNo_6 ⟨Nat.le_of_ble_eq_true rfl, Nat.le_of_ble_eq_true rfl⟩) ?_
  refine kz_ifb_ne (tgt := 16) hx hb  dX3_isNo_9 (by decide) (fun c_1 => ?_) (fun c_1 => ?_)
  · refine lv_iconst (v := iZ 0) hx hb dX3_isNo_16 rfl ?_
    exact W.zret (v := iZ 0) (ty := .boolean) hx hb hr rfl (fun t ht hW => ⟨congrArg (fun z : Int => Outcome.returned (some (Value.int (iZ z)))) (show 0 = (bZ (!inb pl 0 3)) from by simp [*, bZ]), ht⟩) (fun q h => by cases h) dX3_isNo_17
  · refine lv_iconst (v := iZ 1) hx hb dX3_isNo_12 rfl ?_
    refine lv_goto (tgt := 17) hx hb dX3_isNo_13 (by decide) ?_
    exact W.zret (v := iZ 1) (ty := .boolean) hx hb hr rfl (fun t ht hW => ⟨congrArg (fun z : Int => Outcome.returned (some (Value.int (iZ z)))) (show 1 = (bZ (!inb pl 0 3)) from by simp [*, bZ]), ht⟩) (fun q h => by cases h) dX3_isNo_17

abbrev ww_X3_isNoYear : List Cond := .code yX3_isNoYear cX3_isNoYear 2 (some .boolean) :: gT
set_option maxHeartbeats 4000000 in
set_option maxRecDepth 100000 in
/-- X3_isNoYear -/
theorem c_X3_isNoYear (l : Launch) (H0 : Heap) (nn : Int) (h0 : -9223372036854775808 ≤ nn ∧ nn < 9223372036854775808) : Met l yX3_isNoYear ww_X3_isNoYear ({ frames := 1, cells := 0, slots := 0, locals := 25 }) (va_Pc [.long (lZ (nn))] (fun U => U.heap = H0)) (kQ0 (some (.int (iZ (bZ (!inb nn (-999999999) 999999999))))) H0) 0 0 kN := by
  refine Met.ofW (cc := cX3_isNoYear) (maxL := 2) (ret := (some .boolean)) (by decide) rfl ?_
  intro p e s m args below meth c s₁ B hml hv
  obtain ⟨rfl, hH⟩ := hv
  subst hH
  have hx := B.exec
  have hb := B.bytes
  have hr := B.returns
  have hts := atoms_spec (ws := ww_X3_isNoYear) B.pre
  have hown : s.vm.findClass RX3 = some m.cls := findClass_of_methodNamed B.named
  have hlocks := B.notSynchronized
  have hl := lv_entry ([.long (lZ (nn))]) (n := 2) (Nat.le_of_ble_eq_true rfl)
  rw [lg_entry_eq]
  generalize (lg_sl ([.long (lZ (nn))]) ++ List.replicate (2 - (lg_sl ([.long (lZ (nn))])).length) Slot.unset).toArray = ls at hl ⊢
  have hl : lv_has ls 2 [(0, .long (lZ (nn)))] := hl
  refine lv_lload_n hx hb dX3_isNoYear_0 rfl (lv_at hl 0 rfl) ?_
  refine lv_ldc2 (v := lZ (-999999999)) hx hb hown (hts _ (List.mem_cons_of_mem _ mw1031)) dX3_isNoYear_1 ?_
  refine lv_ldc2 (v := lZ 999999999) hx hb hown (hts _ (List.mem_cons_of_mem _ mw1032)) dX3_isNoYear_4 ?_
  refine kc0 (fun _ q => q) (va_runS (As := [.long (lZ (nn)), .long (lZ ((-999999999))), .long (lZ (999999999))]) (rest := []) ⟨hx, hb, hml, hown, hts⟩ (c_X3_isIn l _ (nn) (((-999999999))) (999999999) (by omega) (by omega) (by omega)) (va_cwS 3 hts (kg_S mw1025 mw1026 mw47 rfl mw1027) rfl rfl rfl hdS_X3_isIn ⟨Nat.le_of_ble_eq_true rfl, Nat.le_of_ble_eq_true rfl⟩) ⟨fun a U g mk q => q, fun U hU hW => ⟨rfl, hU⟩⟩ rfl rfl hl.1 rfl (lv_room (Nat.le_of_ble_eq_true rfl)) dX3_isNoYear_7 ⟨Nat.le_of_ble_eq_true rfl, Nat.le_of_ble_eq_true rfl⟩) ?_
  refine kz_ifb_ne (tgt := 17) hx hb  dX3_isNoYear_10 (by decide) (fun c_1 => ?_) (fun c_1 => ?_)
  · refine lv_iconst (v := iZ 0) hx hb dX3_isNoYear_17 rfl ?_
    exact W.zret (v := iZ 0) (ty := .boolean) hx hb hr rfl (fun t ht hW => ⟨congrArg (fun z : Int => Outcome.returned (some (Value.int (iZ z)))) (show 0 = (bZ (!inb nn (-999999999) 999999999)) from by simp [*, bZ]), ht⟩) (fun q h => by cases h) dX3_isNoYear_18
  · refine lv_iconst (v := iZ 1) hx hb dX3_isNoYear_13 rfl ?_
    refine lv_goto (tgt := 18) hx hb dX3_isNoYear_14 (by decide) ?_
    exact W.zret (v := iZ 1) (ty := .boolean) hx hb hr rfl (fun t ht hW => ⟨congrArg (fun z : Int => Outcome.returned (some (Value.int (iZ z)))) (show 1 = (bZ (!inb nn (-999999999) 999999999)) from by simp [*, bZ]), ht⟩) (fun q h => by cases h) dX3_isNoYear_18

abbrev ww_X3_isNoMonth : List Cond := .code yX3_isNoMonth cX3_isNoMonth 1 (some .boolean) :: gT
set_option maxHeartbeats 4000000 in
set_option maxRecDepth 100000 in
/-- X3_isNoMonth -/
theorem c_X3_isNoMonth (l : Launch) (H0 : Heap) (mo : Int) (h0 : -2147483648 ≤ mo ∧ mo < 2147483648) : Met l yX3_isNoMonth ww_X3_isNoMonth ({ frames := 1, cells := 0, slots := 0, locals := 25 }) (va_Pc [.int (iZ mo)] (fun U => U.heap = H0)) (kQ0 (some (.int (iZ (bZ (!inb mo 1 12))))) H0) 0 0 kN := by
  refine Met.ofW (cc := cX3_isNoMonth) (maxL := 1) (ret := (some .boolean)) (by decide) rfl ?_
  intro p e s m args below meth c s₁ B hml hv
  obtain ⟨rfl, hH⟩ := hv
  subst hH
  have hx := B.exec
  have hb := B.bytes
  have hr := B.returns
  have hts := atoms_spec (ws := ww_X3_isNoMonth) B.pre
  have hown : s.vm.findClass RX3 = some m.cls := findClass_of_methodNamed B.named
  have hlocks := B.notSynchronized
  have hl := lv_entry ([.int (iZ mo)]) (n := 1) (Nat.le_of_ble_eq_true rfl)
  rw [lg_entry_eq]
  generalize (lg_sl ([.int (iZ mo)]) ++ List.replicate (1 - (lg_sl ([.int (iZ mo)])).length) Slot.unset).toArray = ls at hl ⊢
  have hl : lv_has ls 1 [(0, .int (iZ mo))] := hl
  refine lv_iload_n hx hb dX3_isNoMonth_0 rfl (lv_at hl 0 rfl) ?_
  refine kz_i2l hx hb (by omega) dX3_isNoMonth_1 ?_
  refine lv_lconst (v := lZ 1) hx hb dX3_isNoMonth_2 rfl ?_
  refine lv_ldc2 (v := lZ 12) hx hb hown (hts _ (List.mem_cons_of_mem _ mw1036)) dX3_isNoMonth_3 ?_
  refine kc0 (fun _ q => q) (va_runS (As := [.long (lZ (mo)), .long (lZ (1)), .long (lZ (12))]) (rest := []) ⟨hx, hb, hml, hown, hts⟩ (c_X3_isIn l _ (mo) (1) (12) (by omega) (by omega) (by omega)) (va_cwS 3 hts (kg_S mw1025 mw1026 mw47 rfl mw1027) rfl rfl rfl hdS_X3_isIn ⟨Nat.le_of_ble_eq_true rfl, Nat.le_of_ble_eq_true rfl⟩) ⟨fun a U g mk q => q, fun U hU hW => ⟨rfl, hU⟩⟩ rfl rfl hl.1 rfl (lv_room (Nat.le_of_ble_eq_true rfl)) dX3_isNoMonth_6 ⟨Nat.le_of_ble_eq_true rfl, Nat.le_of_ble_eq_true rfl⟩) ?_
  refine kz_ifb_ne (tgt := 16) hx hb  dX3_isNoMonth_9 (by decide) (fun c_1 => ?_) (fun c_1 => ?_)
  · refine lv_iconst (v := iZ 0) hx hb dX3_isNoMonth_16 rfl ?_
    exact W.zret (v := iZ 0) (ty := .boolean) hx hb hr rfl (fun t ht hW => ⟨congrArg (fun z : Int => Outcome.returned (some (Value.int (iZ z)))) (show 0 = (bZ (!inb mo 1 12)) from by simp [*, bZ]), ht⟩) (fun q h => by cases h) dX3_isNoMonth_17
  · refine lv_iconst (v := iZ 1) hx hb dX3_isNoMonth_12 rfl ?_
    refine lv_goto (tgt := 17) hx hb dX3_isNoMonth_13 (by decide) ?_
    exact W.zret (v := iZ 1) (ty := .boolean) hx hb hr rfl (fun t ht hW => ⟨congrArg (fun z : Int => Outcome.returned (some (Value.int (iZ z)))) (show 1 = (bZ (!inb mo 1 12)) from by simp [*, bZ]), ht⟩) (fun q h => by cases h) dX3_isNoMonth_17

abbrev ww_X3_isNoOrder : List Cond := .code yX3_isNoOrder cX3_isNoOrder 1 (some .boolean) :: gT
set_option maxHeartbeats 4000000 in
set_option maxRecDepth 100000 in
/-- X3_isNoOrder -/
theorem c_X3_isNoOrder (l : Launch) (H0 : Heap) (w0 : Int) (h0 : -2147483648 ≤ w0 ∧ w0 < 2147483648) : Met l yX3_isNoOrder ww_X3_isNoOrder ({ frames := 1, cells := 0, slots := 0, locals := 25 }) (va_Pc [.int (iZ w0)] (fun U => U.heap = H0)) (kQ0 (some (.int (iZ (bZ (!inb w0 0 2))))) H0) 0 0 kN := by
  refine Met.ofW (cc := cX3_isNoOrder) (maxL := 1) (ret := (some .boolean)) (by decide) rfl ?_
  intro p e s m args below meth c s₁ B hml hv
  obtain ⟨rfl, hH⟩ := hv
  subst hH
  have hx := B.exec
  have hb := B.bytes
  have hr := B.returns
  have hts := atoms_spec (ws := ww_X3_isNoOrder) B.pre
  have hown : s.vm.findClass RX3 = some m.cls := findClass_of_methodNamed B.named
  have hlocks := B.notSynchronized
  have hl := lv_entry ([.int (iZ w0)]) (n := 1) (Nat.le_of_ble_eq_true rfl)
  rw [lg_entry_eq]
  generalize (lg_sl ([.int (iZ w0)]) ++ List.replicate (1 - (lg_sl ([.int (iZ w0)])).length) Slot.unset).toArray = ls at hl ⊢
  have hl : lv_has ls 1 [(0, .int (iZ w0))] := hl
  refine lv_iload_n hx hb dX3_isNoOrder_0 rfl (lv_at hl 0 rfl) ?_
  refine kz_i2l hx hb (by omega) dX3_isNoOrder_1 ?_
  refine lv_lconst (v := lZ 0) hx hb dX3_isNoOrder_2 rfl ?_
  refine lv_ldc2 (v := lZ 2) hx hb hown (hts _ (List.mem_cons_of_mem _ mw1166)) dX3_isNoOrder_3 ?_
  refine kc0 (fun _ q => q) (va_runS (As := [.long (lZ (w0)), .long (lZ (0)), .long (lZ (2))]) (rest := []) ⟨hx, hb, hml, hown, hts⟩ (c_X3_isIn l _ (w0) (0) (2) (by omega) (by omega) (by omega)) (va_cwS 3 hts (kg_S mw1025 mw1026 mw47 rfl mw1027) rfl rfl rfl hdS_X3_isIn ⟨Nat.le_of_ble_eq_true rfl, Nat.le_of_ble_eq_true rfl⟩) ⟨fun a U g mk q => q, fun U hU hW => ⟨rfl, hU⟩⟩ rfl rfl hl.1 rfl (lv_room (Nat.le_of_ble_eq_true rfl)) dX3_isNoOrder_6 ⟨Nat.le_of_ble_eq_true rfl, Nat.le_of_ble_eq_true rfl⟩) ?_
  refine kz_ifb_ne (tgt := 16) hx hb  dX3_isNoOrder_9 (by decide) (fun c_1 => ?_) (fun c_1 => ?_)
  · refine lv_iconst (v := iZ 0) hx hb dX3_isNoOrder_16 rfl ?_
    exact W.zret (v := iZ 0) (ty := .boolean) hx hb hr rfl (fun t ht hW => ⟨congrArg (fun z : Int => Outcome.returned (some (Value.int (iZ z)))) (show 0 = (bZ (!inb w0 0 2)) from by simp [*, bZ]), ht⟩) (fun q h => by cases h) dX3_isNoOrder_17
  · refine lv_iconst (v := iZ 1) hx hb dX3_isNoOrder_12 rfl ?_
    refine lv_goto (tgt := 17) hx hb dX3_isNoOrder_13 (by decide) ?_
    exact W.zret (v := iZ 1) (ty := .boolean) hx hb hr rfl (fun t ht hW => ⟨congrArg (fun z : Int => Outcome.returned (some (Value.int (iZ z)))) (show 1 = (bZ (!inb w0 0 2)) from by simp [*, bZ]), ht⟩) (fun q h => by cases h) dX3_isNoOrder_17

abbrev ww_X3_isMultiple : List Cond := .code yX3_isMultiple cX3_isMultiple 3 (some .boolean) :: gT
set_option maxHeartbeats 4000000 in
set_option maxRecDepth 100000 in
/-- X3_isMultiple -/
theorem c_X3_isMultiple (l : Launch) (H0 : Heap) (x0 : Int) (k0 : Int) (h0 : -9223372036854775808 ≤ x0 ∧ x0 < 9223372036854775808) (h1 : 0 < k0 ∧ k0 < 1000000) : Met l yX3_isMultiple ww_X3_isMultiple ({ frames := 0, cells := 0, slots := 0, locals := 0 }) (va_Pc [.long (lZ (x0)), .int (iZ k0)] (fun U => U.heap = H0)) (kQ0 (some (.int (iZ (bZ (decide (x0 % k0 = 0)))))) H0) 0 0 kN := by
  refine Met.ofW (cc := cX3_isMultiple) (maxL := 3) (ret := (some .boolean)) (by decide) rfl ?_
  intro p e s m args below meth c s₁ B hml hv
  obtain ⟨rfl, hH⟩ := hv
  subst hH
  have hx := B.exec
  have hb := B.bytes
  have hr := B.returns
  have hts := atoms_spec (ws := ww_X3_isMultiple) B.pre
  have hown : s.vm.findClass RX3 = some m.cls := findClass_of_methodNamed B.named
  have hlocks := B.notSynchronized
  have hl := lv_entry ([.long (lZ (x0)), .int (iZ k0)]) (n := 3) (Nat.le_of_ble_eq_true rfl)
  rw [lg_entry_eq]
  generalize (lg_sl ([.long (lZ (x0)), .int (iZ k0)]) ++ List.replicate (3 - (lg_sl ([.long (lZ (x0)), .int (iZ k0)])).length) Slot.unset).toArray = ls at hl ⊢
  have hl : lv_has ls 3 [(0, .long (lZ (x0))), (2, .int (iZ k0))] := hl
  refine lv_lload_n hx hb dX3_isMultiple_0 rfl (lv_at hl 0 rfl) ?_
  refine lv_lload_n hx hb dX3_isMultiple_1 rfl (lv_at hl 0 rfl) ?_
  refine lv_iload_n hx hb dX3_isMultiple_2 rfl (lv_at hl 1 rfl) ?_
  refine kz_i2l hx hb (by first | omega | (have q := tq_mul (x := x0) (y := k0) (by omega); omega)) dX3_isMultiple_3 ?_
  refine kz_ldiv hx hb (by first | omega | (have q := tq_mul (x := x0) (y := k0) (by omega); omega)) (by omega) dX3_isMultiple_4 ?_
  refine lv_iload_n hx hb dX3_isMultiple_5 rfl (lv_at hl 1 rfl) ?_
  refine kz_i2l hx hb (by first | omega | (have q := tq_mul (x := x0) (y := k0) (by omega); omega)) dX3_isMultiple_6 ?_
  refine kz_lmul hx hb dX3_isMultiple_7 ?_
  refine kz_lsub hx hb dX3_isMultiple_8 ?_
  refine lv_lconst (v := lZ 0) hx hb dX3_isMultiple_9 rfl ?_
  refine kz_lcmp_ne (tgt := 18) hx hb (by first | omega | (have q := tq_mul (x := x0) (y := k0) (by omega); omega)) (by first | omega | (have q := tq_mul (x := x0) (y := k0) (by omega); omega)) dX3_isMultiple_10 dX3_isMultiple_11 (by decide) (fun c_1 => ?_) (fun c_1 => ?_)
  · refine lv_iconst (v := iZ 0) hx hb dX3_isMultiple_18 rfl ?_
    exact W.zret (v := iZ 0) (ty := .boolean) hx hb hr rfl (fun t ht hW => ⟨congrArg (fun z : Int => Outcome.returned (some (Value.int (iZ z)))) (show 0 = (bZ (decide (x0 % k0 = 0))) from by have q := tq_mul (x := x0) (y := k0) (by omega); have q2 := tq_floor (x := x0) (y := k0) (by omega); have q3 := Int.emod_nonneg x0 (show k0 ≠ 0 by omega); exact bZ_d0 (by omega)), ht⟩) (fun q h => by cases h) dX3_isMultiple_19
  · refine lv_iconst (v := iZ 1) hx hb dX3_isMultiple_14 rfl ?_
    refine lv_goto (tgt := 19) hx hb dX3_isMultiple_15 (by decide) ?_
    exact W.zret (v := iZ 1) (ty := .boolean) hx hb hr rfl (fun t ht hW => ⟨congrArg (fun z : Int => Outcome.returned (some (Value.int (iZ z)))) (show 1 = (bZ (decide (x0 % k0 = 0))) from by have q := tq_mul (x := x0) (y := k0) (by omega); have q2 := tq_floor (x := x0) (y := k0) (by omega); have q3 := Int.emod_nonneg x0 (show k0 ≠ 0 by omega); exact bZ_d1 (by omega)), ht⟩) (fun q h => by cases h) dX3_isMultiple_19

abbrev ww_X3_isLeapYear : List Cond := .code yX3_isLeapYear cX3_isLeapYear 2 (some .boolean) :: gT
set_option maxHeartbeats 4000000 in
set_option maxRecDepth 100000 in
/-- X3_isLeapYear -/
theorem c_X3_isLeapYear (l : Launch) (H0 : Heap) (yy : Int) (h0 : -9223372036854775808 ≤ yy ∧ yy < 9223372036854775808) : Met l yX3_isLeapYear ww_X3_isLeapYear ({ frames := 1, cells := 0, slots := 0, locals := 22 }) (va_Pc [.long (lZ (yy))] (fun U => U.heap = H0)) (kQ0 (some (.int (iZ (bZ (leap yy))))) H0) 0 0 kN := by
  refine Met.ofW (cc := cX3_isLeapYear) (maxL := 2) (ret := (some .boolean)) (by decide) rfl ?_
  intro p e s m args below meth c s₁ B hml hv
  obtain ⟨rfl, hH⟩ := hv
  subst hH
  have hx := B.exec
  have hb := B.bytes
  have hr := B.returns
  have hts := atoms_spec (ws := ww_X3_isLeapYear) B.pre
  have hown : s.vm.findClass RX3 = some m.cls := findClass_of_methodNamed B.named
  have hlocks := B.notSynchronized
  have hl := lv_entry ([.long (lZ (yy))]) (n := 2) (Nat.le_of_ble_eq_true rfl)
  rw [lg_entry_eq]
  generalize (lg_sl ([.long (lZ (yy))]) ++ List.replicate (2 - (lg_sl ([.long (lZ (yy))])).length) Slot.unset).toArray = ls at hl ⊢
  have hl : lv_has ls 2 [(0, .long (lZ (yy)))] := hl
  refine lv_lload_n hx hb dX3_isLeapYear_0 rfl (lv_at hl 0 rfl) ?_
  refine lv_sipush (v := iZ 400) hx hb dX3_isLeapYear_1 rfl ?_
  refine kc0 (fun _ q => q) (va_runS (As := [.long (lZ (yy)), .int (iZ 400)]) (rest := []) ⟨hx, hb, hml, hown, hts⟩ (c_X3_isMultiple l _ (yy) (400) (by omega) (by omega)) (va_cwS 2 hts (kg_S mw1052 mw1053 mw47 rfl mw1054) rfl rfl rfl hdS_X3_isMultiple ⟨Nat.le_of_ble_eq_true rfl, Nat.le_of_ble_eq_true rfl⟩) ⟨fun a U g mk q => q, fun U hU hW => ⟨rfl, hU⟩⟩ rfl rfl hl.1 rfl (lv_room (Nat.le_of_ble_eq_true rfl)) dX3_isLeapYear_4 ⟨Nat.le_of_ble_eq_true rfl, Nat.le_of_ble_eq_true rfl⟩) ?_
  refine kz_ifb_ne (tgt := 27) hx hb  dX3_isLeapYear_7 (by decide) (fun c_1 => ?_) (fun c_1 => ?_)
  · refine lv_iconst (v := iZ 1) hx hb dX3_isLeapYear_27 rfl ?_
    refine lv_goto (tgt := 32) hx hb dX3_isLeapYear_28 (by decide) ?_
    exact W.zret (v := iZ 1) (ty := .boolean) hx hb hr rfl (fun t ht hW => ⟨congrArg (fun z : Int => Outcome.returned (some (Value.int (iZ z)))) (show 1 = (bZ (leap yy)) from by unfold leap; simp only [decide_eq_true_eq, decide_eq_false_iff_not] at *; first | exact bZ_d1 (by omega) | exact bZ_d0 (by omega)), ht⟩) (fun q h => by cases h) dX3_isLeapYear_32
  · refine lv_lload_n hx hb dX3_isLeapYear_10 rfl (lv_at hl 0 rfl) ?_
    refine lv_iconst (v := iZ 4) hx hb dX3_isLeapYear_11 rfl ?_
    refine kc0 (fun _ q => q) (va_runS (As := [.long (lZ (yy)), .int (iZ 4)]) (rest := []) ⟨hx, hb, hml, hown, hts⟩ (c_X3_isMultiple l _ (yy) (4) (by omega) (by omega)) (va_cwS 2 hts (kg_S mw1052 mw1053 mw47 rfl mw1054) rfl rfl rfl hdS_X3_isMultiple ⟨Nat.le_of_ble_eq_true rfl, Nat.le_of_ble_eq_true rfl⟩) ⟨fun a U g mk q => q, fun U hU hW => ⟨rfl, hU⟩⟩ rfl rfl hl.1 rfl (lv_room (Nat.le_of_ble_eq_true rfl)) dX3_isLeapYear_12 ⟨Nat.le_of_ble_eq_true rfl, Nat.le_of_ble_eq_true rfl⟩) ?_
    refine kz_ifb_eq (tgt := 31) hx hb  dX3_isLeapYear_15 (by decide) (fun c_2 => ?_) (fun c_2 => ?_)
    · refine lv_iconst (v := iZ 0) hx hb dX3_isLeapYear_31 rfl ?_
      exact W.zret (v := iZ 0) (ty := .boolean) hx hb hr rfl (fun t ht hW => ⟨congrArg (fun z : Int => Outcome.returned (some (Value.int (iZ z)))) (show 0 = (bZ (leap yy)) from by unfold leap; simp only [decide_eq_true_eq, decide_eq_false_iff_not] at *; first | exact bZ_d1 (by omega) | exact bZ_d0 (by omega)), ht⟩) (fun q h => by cases h) dX3_isLeapYear_32
    · refine lv_lload_n hx hb dX3_isLeapYear_18 rfl (lv_at hl 0 rfl) ?_
      refine lv_bipush (v := iZ 100) hx hb dX3_isLeapYear_19 rfl ?_
      refine kc0 (fun _ q => q) (va_runS (As := [.long (lZ (yy)), .int (iZ 100)]) (rest := []) ⟨hx, hb, hml, hown, hts⟩ (c_X3_isMultiple l _ (yy) (100) (by omega) (by omega)) (va_cwS 2 hts (kg_S mw1052 mw1053 mw47 rfl mw1054) rfl rfl rfl hdS_X3_isMultiple ⟨Nat.le_of_ble_eq_true rfl, Nat.le_of_ble_eq_true rfl⟩) ⟨fun a U g mk q => q, fun U hU hW => ⟨rfl, hU⟩⟩ rfl rfl hl.1 rfl (lv_room (Nat.le_of_ble_eq_true rfl)) dX3_isLeapYear_21 ⟨Nat.le_of_ble_eq_true rfl, Nat.le_of_ble_eq_true rfl⟩) ?_
      refine kz_ifb_ne (tgt := 31) hx hb  dX3_isLeapYear_24 (by decide) (fun c_3 => ?_) (fun c_3 => ?_)
      · refine lv_iconst (v := iZ 0) hx hb dX3_isLeapYear_31 rfl ?_
        exact W.zret (v := iZ 0) (ty := .boolean) hx hb hr rfl (fun t ht hW => ⟨congrArg (fun z : Int => Outcome.returned (some (Value.int (iZ z)))) (show 0 = (bZ (leap yy)) from by unfold leap; simp only [decide_eq_true_eq, decide_eq_false_iff_not] at *; first | exact bZ_d1 (by omega) | exact bZ_d0 (by omega)), ht⟩) (fun q h => by cases h) dX3_isLeapYear_32
      · refine lv_iconst (v := iZ 1) hx hb dX3_isLeapYear_27 rfl ?_
        refine lv_goto (tgt := 32) hx hb dX3_isLeapYear_28 (by decide) ?_
        exact W.zret (v := iZ 1) (ty := .boolean) hx hb hr rfl (fun t ht hW => ⟨congrArg (fun z : Int => Outcome.returned (some (Value.int (iZ z)))) (show 1 = (bZ (leap yy)) from by unfold leap; simp only [decide_eq_true_eq, decide_eq_false_iff_not] at *; first | exact bZ_d1 (by omega) | exact bZ_d0 (by omega)), ht⟩) (fun q h => by cases h) dX3_isLeapYear_32

abbrev ww_X3_daysOf : List Cond := .code yX3_daysOf cX3_daysOf 2 (some .int) :: gT
set_option maxHeartbeats 4000000 in
set_option maxRecDepth 100000 in
/-- X3_daysOf -/
theorem c_X3_daysOf (l : Launch) (H0 : Heap) (yy : Int) (h0 : -9223372036854775808 ≤ yy ∧ yy < 9223372036854775808) : Met l yX3_daysOf ww_X3_daysOf ({ frames := 2, cells := 0, slots := 0, locals := 43 }) (va_Pc [.long (lZ (yy))] (fun U => U.heap = H0)) (kQ0 (some (.int (iZ (ylen yy)))) H0) 0 0 kN := by
  refine Met.ofW (cc := cX3_daysOf) (maxL := 2) (ret := (some .int)) (by decide) rfl ?_
  intro p e s m args below meth c s₁ B hml hv
  obtain ⟨rfl, hH⟩ := hv
  subst hH
  have hx := B.exec
  have hb := B.bytes
  have hr := B.returns
  have hts := atoms_spec (ws := ww_X3_daysOf) B.pre
  have hown : s.vm.findClass RX3 = some m.cls := findClass_of_methodNamed B.named
  have hlocks := B.notSynchronized
  have hl := lv_entry ([.long (lZ (yy))]) (n := 2) (Nat.le_of_ble_eq_true rfl)
  rw [lg_entry_eq]
  generalize (lg_sl ([.long (lZ (yy))]) ++ List.replicate (2 - (lg_sl ([.long (lZ (yy))])).length) Slot.unset).toArray = ls at hl ⊢
  have hl : lv_has ls 2 [(0, .long (lZ (yy)))] := hl
  refine lv_lload_n hx hb dX3_daysOf_0 rfl (lv_at hl 0 rfl) ?_
  refine kc0 (fun _ q => q) (va_runS (As := [.long (lZ (yy))]) (rest := []) ⟨hx, hb, hml, hown, hts⟩ (c_X3_isLeapYear l _ (yy) (by omega)) (va_cwS 1 hts (kg_S mw1049 mw1050 mw47 rfl mw1051) rfl rfl rfl hdS_X3_isLeapYear ⟨Nat.le_of_ble_eq_true rfl, Nat.le_of_ble_eq_true rfl⟩) ⟨fun a U g mk q => q, fun U hU hW => ⟨rfl, hU⟩⟩ rfl rfl hl.1 rfl (lv_room (Nat.le_of_ble_eq_true rfl)) dX3_daysOf_1 ⟨Nat.le_of_ble_eq_true rfl, Nat.le_of_ble_eq_true rfl⟩) ?_
  refine kz_ifb_eq (tgt := 13) hx hb  dX3_daysOf_4 (by decide) (fun c_1 => ?_) (fun c_1 => ?_)
  · refine lv_sipush (v := iZ 365) hx hb dX3_daysOf_13 rfl ?_
    exact W.iret (v := iZ 365) hx hb hr (fun t ht hW => ⟨congrArg (fun z : Int => Outcome.returned (some (Value.int (iZ z)))) (show 365 = (ylen yy) from by unfold ylen; simp [*]), ht⟩) (fun q h => by cases h) dX3_daysOf_16
  · refine lv_sipush (v := iZ 366) hx hb dX3_daysOf_7 rfl ?_
    refine lv_goto (tgt := 16) hx hb dX3_daysOf_10 (by decide) ?_
    exact W.iret (v := iZ 366) hx hb hr (fun t ht hW => ⟨congrArg (fun z : Int => Outcome.returned (some (Value.int (iZ z)))) (show 366 = (ylen yy) from by unfold ylen; simp [*]), ht⟩) (fun q h => by cases h) dX3_daysOf_16

abbrev ww_X3_rest : List Cond := .code yX3_rest cX3_rest 5 (some .int) :: gT
set_option maxHeartbeats 4000000 in
set_option maxRecDepth 100000 in
/-- X3_rest -/
theorem c_X3_rest (l : Launch) (H0 : Heap) (x0 : Int) (k0 : Int) (h0 : -9000000000000000000 ≤ x0 ∧ x0 ≤ 9000000000000000000) (h1 : 0 < k0 ∧ k0 < 1000000) : Met l yX3_rest ww_X3_rest ({ frames := 0, cells := 0, slots := 0, locals := 0 }) (va_Pc [.long (lZ (x0)), .int (iZ k0)] (fun U => U.heap = H0)) (kQ0 (some (.int (iZ (x0 % k0)))) H0) 0 0 kN := by
  refine Met.ofW (cc := cX3_rest) (maxL := 5) (ret := (some .int)) (by decide) rfl ?_
  intro p e s m args below meth c s₁ B hml hv
  obtain ⟨rfl, hH⟩ := hv
  subst hH
  have hx := B.exec
  have hb := B.bytes
  have hr := B.returns
  have hts := atoms_spec (ws := ww_X3_rest) B.pre
  have hown : s.vm.findClass RX3 = some m.cls := findClass_of_methodNamed B.named
  have hlocks := B.notSynchronized
  have hl := lv_entry ([.long (lZ (x0)), .int (iZ k0)]) (n := 5) (Nat.le_of_ble_eq_true rfl)
  rw [lg_entry_eq]
  generalize (lg_sl ([.long (lZ (x0)), .int (iZ k0)]) ++ List.replicate (5 - (lg_sl ([.long (lZ (x0)), .int (iZ k0)])).length) Slot.unset).toArray = ls at hl ⊢
  have hl : lv_has ls 5 [(0, .long (lZ (x0))), (2, .int (iZ k0))] := hl
  refine lv_lload_n hx hb dX3_rest_0 rfl (lv_at hl 0 rfl) ?_
  refine lv_lload_n hx hb dX3_rest_1 rfl (lv_at hl 0 rfl) ?_
  refine lv_iload_n hx hb dX3_rest_2 rfl (lv_at hl 1 rfl) ?_
  refine kz_i2l hx hb (by first | omega | (have q := tq_mul (x := x0) (y := k0) (by omega); omega)) dX3_rest_3 ?_
  refine kz_ldiv hx hb (by first | omega | (have q := tq_mul (x := x0) (y := k0) (by omega); omega)) (by omega) dX3_rest_4 ?_
  refine lv_iload_n hx hb dX3_rest_5 rfl (lv_at hl 1 rfl) ?_
  refine kz_i2l hx hb (by first | omega | (have q := tq_mul (x := x0) (y := k0) (by omega); omega)) dX3_rest_6 ?_
  refine kz_lmul hx hb dX3_rest_7 ?_
  refine kz_lsub hx hb dX3_rest_8 ?_
  refine lv_lstore_n (lv' := [(3, .long (lZ (x0 - ((tq x0 k0) * k0)))), (0, .long (lZ (x0))), (2, .int (iZ k0))]) hx hb dX3_rest_9 rfl hl (by decide) rfl (fun ls hl => ?_)
  refine lv_lload_n hx hb dX3_rest_10 rfl (lv_at hl 0 rfl) ?_
  refine lv_lconst (v := lZ 0) hx hb dX3_rest_11 rfl ?_
  refine kz_lcmp_ge (tgt := 23) hx hb (by first | omega | (have q := tq_mul (x := x0) (y := k0) (by omega); omega)) (by first | omega | (have q := tq_mul (x := x0) (y := k0) (by omega); omega)) dX3_rest_12 dX3_rest_13 (by decide) (fun c_1 => ?_) (fun c_1 => ?_)
  · refine lv_lload_n hx hb dX3_rest_23 rfl (lv_at hl 0 rfl) ?_
    refine kz_l2i hx hb dX3_rest_24 ?_
    exact W.iret (v := iZ (x0 - ((tq x0 k0) * k0))) hx hb hr (fun t ht hW => ⟨congrArg (fun z : Int => Outcome.returned (some (Value.int (iZ z)))) (show (x0 - ((tq x0 k0) * k0)) = (x0 % k0) from by have q := tq_mul (x := x0) (y := k0) (by omega); have q2 := tq_floor (x := x0) (y := k0) (by omega); omega), ht⟩) (fun q h => by cases h) dX3_rest_25
  · refine lv_lload_n hx hb dX3_rest_16 rfl (lv_at hl 0 rfl) ?_
    refine lv_iload_n hx hb dX3_rest_17 rfl (lv_at hl 2 rfl) ?_
    refine kz_i2l hx hb (by first | omega | (have q := tq_mul (x := x0) (y := k0) (by omega); omega)) dX3_rest_18 ?_
    refine kz_ladd hx hb dX3_rest_19 ?_
    refine lv_goto (tgt := 24) hx hb dX3_rest_20 (by decide) ?_
    refine kz_l2i hx hb dX3_rest_24 ?_
    exact W.iret (v := iZ ((x0 - ((tq x0 k0) * k0)) + k0)) hx hb hr (fun t ht hW => ⟨congrArg (fun z : Int => Outcome.returned (some (Value.int (iZ z)))) (show ((x0 - ((tq x0 k0) * k0)) + k0) = (x0 % k0) from by have q := tq_mul (x := x0) (y := k0) (by omega); have q2 := tq_floor (x := x0) (y := k0) (by omega); omega), ht⟩) (fun q h => by cases h) dX3_rest_25

abbrev ww_X3_floor : List Cond := .code yX3_floor cX3_floor 3 (some .long) :: gT
set_option maxHeartbeats 4000000 in
set_option maxRecDepth 100000 in
/-- X3_floor -/
theorem c_X3_floor (l : Launch) (H0 : Heap) (x0 : Int) (k0 : Int) (h0 : -9000000000000000000 ≤ x0 ∧ x0 ≤ 9000000000000000000) (h1 : 0 < k0 ∧ k0 < 1000000) : Met l yX3_floor ww_X3_floor ({ frames := 1, cells := 0, slots := 0, locals := 24 }) (va_Pc [.long (lZ (x0)), .int (iZ k0)] (fun U => U.heap = H0)) (kQ0 (some (.long (lZ (x0 / k0)))) H0) 0 0 kN := by
  refine Met.ofW (cc := cX3_floor) (maxL := 3) (ret := (some .long)) (by decide) rfl ?_
  intro p e s m args below meth c s₁ B hml hv
  obtain ⟨rfl, hH⟩ := hv
  subst hH
  have hx := B.exec
  have hb := B.bytes
  have hr := B.returns
  have hts := atoms_spec (ws := ww_X3_floor) B.pre
  have hown : s.vm.findClass RX3 = some m.cls := findClass_of_methodNamed B.named
  have hlocks := B.notSynchronized
  have hl := lv_entry ([.long (lZ (x0)), .int (iZ k0)]) (n := 3) (Nat.le_of_ble_eq_true rfl)
  rw [lg_entry_eq]
  generalize (lg_sl ([.long (lZ (x0)), .int (iZ k0)]) ++ List.replicate (3 - (lg_sl ([.long (lZ (x0)), .int (iZ k0)])).length) Slot.unset).toArray = ls at hl ⊢
  have hl : lv_has ls 3 [(0, .long (lZ (x0))), (2, .int (iZ k0))] := hl
  refine lv_lload_n hx hb dX3_floor_0 rfl (lv_at hl 0 rfl) ?_
  refine lv_lload_n hx hb dX3_floor_1 rfl (lv_at hl 0 rfl) ?_
  refine lv_iload_n hx hb dX3_floor_2 rfl (lv_at hl 1 rfl) ?_
  refine kc0 (fun _ q => q) (va_runS (As := [.long (lZ (x0)), .int (iZ k0)]) (rest := [.long (lZ (x0))]) ⟨hx, hb, hml, hown, hts⟩ (c_X3_rest l _ (x0) (k0) (by omega) (by omega)) (va_cwS 2 hts (kg_S mw1063 mw1064 mw47 rfl mw1065) rfl rfl rfl hdS_X3_rest ⟨Nat.le_of_ble_eq_true rfl, Nat.le_of_ble_eq_true rfl⟩) ⟨fun a U g mk q => q, fun U hU hW => ⟨rfl, hU⟩⟩ rfl rfl hl.1 rfl (lv_room (Nat.le_of_ble_eq_true rfl)) dX3_floor_3 ⟨Nat.le_of_ble_eq_true rfl, Nat.le_of_ble_eq_true rfl⟩) ?_
  refine kz_i2l hx hb (by have q5 := Int.emod_nonneg x0 (show k0 ≠ 0 by omega); have q6 := Int.emod_lt_of_pos x0 (show 0 < k0 by omega); omega) dX3_floor_6 ?_
  refine kz_lsub hx hb dX3_floor_7 ?_
  refine lv_iload_n hx hb dX3_floor_8 rfl (lv_at hl 1 rfl) ?_
  refine kz_i2l hx hb (by have q5 := Int.emod_nonneg x0 (show k0 ≠ 0 by omega); have q6 := Int.emod_lt_of_pos x0 (show 0 < k0 by omega); omega) dX3_floor_9 ?_
  refine kz_ldiv hx hb (by have q5 := Int.emod_nonneg x0 (show k0 ≠ 0 by omega); have q6 := Int.emod_lt_of_pos x0 (show 0 < k0 by omega); omega) (by omega) dX3_floor_10 ?_
  exact W.lret (v := lZ (tq (x0 - ((((x0)) % ((k0))))) k0)) hx hb hr (fun t ht hW => ⟨congrArg (fun z : Int => Outcome.returned (some (Value.long (lZ z)))) (show (tq (x0 - ((((x0)) % ((k0))))) k0) = (x0 / k0) from by exact tq_exact (by omega)), ht⟩) (fun q h => by cases h) dX3_floor_11

abbrev ww_X3_round : List Cond := .code yX3_round cX3_round 1 (some .int) :: gT
set_option maxHeartbeats 4000000 in
set_option maxRecDepth 100000 in
/-- X3_round -/
theorem c_X3_round (l : Launch) (H0 : Heap) (mm : Int) (h0 : -2147483648 ≤ mm ∧ mm < 2147483648) : Met l yX3_round ww_X3_round ({ frames := 1, cells := 0, slots := 0, locals := 24 }) (va_Pc [.int (iZ mm)] (fun U => U.heap = H0)) (kQ0 (some (.int (iZ (1 + mm % 12)))) H0) 0 0 kN := by
  refine Met.ofW (cc := cX3_round) (maxL := 1) (ret := (some .int)) (by decide) rfl ?_
  intro p e s m args below meth c s₁ B hml hv
  obtain ⟨rfl, hH⟩ := hv
  subst hH
  have hx := B.exec
  have hb := B.bytes
  have hr := B.returns
  have hts := atoms_spec (ws := ww_X3_round) B.pre
  have hown : s.vm.findClass RX3 = some m.cls := findClass_of_methodNamed B.named
  have hlocks := B.notSynchronized
  have hl := lv_entry ([.int (iZ mm)]) (n := 1) (Nat.le_of_ble_eq_true rfl)
  rw [lg_entry_eq]
  generalize (lg_sl ([.int (iZ mm)]) ++ List.replicate (1 - (lg_sl ([.int (iZ mm)])).length) Slot.unset).toArray = ls at hl ⊢
  have hl : lv_has ls 1 [(0, .int (iZ mm))] := hl
  refine lv_iconst (v := iZ 1) hx hb dX3_round_0 rfl ?_
  refine lv_iload_n hx hb dX3_round_1 rfl (lv_at hl 0 rfl) ?_
  refine kz_i2l hx hb (by omega) dX3_round_2 ?_
  refine lv_bipush (v := iZ 12) hx hb dX3_round_3 rfl ?_
  refine kc0 (fun _ q => q) (va_runS (As := [.long (lZ (mm)), .int (iZ 12)]) (rest := [.int (iZ 1)]) ⟨hx, hb, hml, hown, hts⟩ (c_X3_rest l _ (mm) (12) (by omega) (by omega)) (va_cwS 2 hts (kg_S mw1063 mw1064 mw47 rfl mw1065) rfl rfl rfl hdS_X3_rest ⟨Nat.le_of_ble_eq_true rfl, Nat.le_of_ble_eq_true rfl⟩) ⟨fun a U g mk q => q, fun U hU hW => ⟨rfl, hU⟩⟩ rfl rfl hl.1 rfl (lv_room (Nat.le_of_ble_eq_true rfl)) dX3_round_5 ⟨Nat.le_of_ble_eq_true rfl, Nat.le_of_ble_eq_true rfl⟩) ?_
  refine kz_iadd hx hb dX3_round_8 ?_
  exact W.iret (v := iZ (1 + (((mm)) % ((12))))) hx hb hr (fun t ht hW => ⟨congrArg (fun z : Int => Outcome.returned (some (Value.int (iZ z)))) (show (1 + (((mm)) % ((12)))) = (1 + mm % 12) from by rfl), ht⟩) (fun q h => by cases h) dX3_round_9

abbrev ww_X3_side : List Cond := .code yX3_side cX3_side 1 (some .int) :: gT
set_option maxHeartbeats 4000000 in
set_option maxRecDepth 100000 in
/-- X3_side -/
theorem c_X3_side (l : Launch) (H0 : Heap) (yy : Int) (h0 : -2147483648 ≤ yy ∧ yy < 2147483648) : Met l yX3_side ww_X3_side ({ frames := 1, cells := 0, slots := 0, locals := 20 }) (va_Pc [.int (iZ yy)] (fun U => U.heap = H0)) (kQ0 (some (.int (iZ (side yy)))) H0) 0 0 kN := by
  refine Met.ofW (cc := cX3_side) (maxL := 1) (ret := (some .int)) (by decide) rfl ?_
  intro p e s m args below meth c s₁ B hml hv
  obtain ⟨rfl, hH⟩ := hv
  subst hH
  have hx := B.exec
  have hb := B.bytes
  have hr := B.returns
  have hts := atoms_spec (ws := ww_X3_side) B.pre
  have hown : s.vm.findClass RX3 = some m.cls := findClass_of_methodNamed B.named
  have hlocks := B.notSynchronized
  have hl := lv_entry ([.int (iZ yy)]) (n := 1) (Nat.le_of_ble_eq_true rfl)
  rw [lg_entry_eq]
  generalize (lg_sl ([.int (iZ yy)]) ++ List.replicate (1 - (lg_sl ([.int (iZ yy)])).length) Slot.unset).toArray = ls at hl ⊢
  have hl : lv_has ls 1 [(0, .int (iZ yy))] := hl
  refine lv_iload_n hx hb dX3_side_0 rfl (lv_at hl 0 rfl) ?_
  refine kz_if_le (tgt := 8) hx hb (by omega) dX3_side_1 (by decide) (fun c_1 => ?_) (fun c_1 => ?_)
  · refine lv_iconst (v := iZ 0) hx hb dX3_side_8 rfl ?_
    refine kc0 (fun _ q => q) (va_runS (As := [.int (iZ (bZ false))]) (rest := []) ⟨hx, hb, hml, hown, hts⟩ (c_X3_bit l _ false) (va_cwS 1 hts (kg_S mw1116 mw1117 mw47 rfl mw1118) rfl rfl rfl hdS_X3_bit ⟨Nat.le_of_ble_eq_true rfl, Nat.le_of_ble_eq_true rfl⟩) ⟨fun a U g mk q => q, fun U hU hW => ⟨rfl, hU⟩⟩ rfl rfl hl.1 rfl (lv_room (Nat.le_of_ble_eq_true rfl)) dX3_side_9 ⟨Nat.le_of_ble_eq_true rfl, Nat.le_of_ble_eq_true rfl⟩) ?_
    exact W.iret (v := iZ 0) hx hb hr (fun t ht hW => ⟨congrArg (fun z : Int => Outcome.returned (some (Value.int (iZ z)))) (show 0 = (side yy) from by unfold side; (try unfold bZ); simp [*]), ht⟩) (fun q h => by cases h) dX3_side_12
  · refine lv_iconst (v := iZ 1) hx hb dX3_side_4 rfl ?_
    refine lv_goto (tgt := 9) hx hb dX3_side_5 (by decide) ?_
    refine kc0 (fun _ q => q) (va_runS (As := [.int (iZ (bZ true))]) (rest := []) ⟨hx, hb, hml, hown, hts⟩ (c_X3_bit l _ true) (va_cwS 1 hts (kg_S mw1116 mw1117 mw47 rfl mw1118) rfl rfl rfl hdS_X3_bit ⟨Nat.le_of_ble_eq_true rfl, Nat.le_of_ble_eq_true rfl⟩) ⟨fun a U g mk q => q, fun U hU hW => ⟨rfl, hU⟩⟩ rfl rfl hl.1 rfl (lv_room (Nat.le_of_ble_eq_true rfl)) dX3_side_9 ⟨Nat.le_of_ble_eq_true rfl, Nat.le_of_ble_eq_true rfl⟩) ?_
    exact W.iret (v := iZ 1) hx hb hr (fun t ht hW => ⟨congrArg (fun z : Int => Outcome.returned (some (Value.int (iZ z)))) (show 1 = (side yy) from by unfold side; (try unfold bZ); simp [*]), ht⟩) (fun q h => by cases h) dX3_side_12

abbrev ww_X3_rank : List Cond := .code yX3_rank cX3_rank 1 (some .int) :: gT
set_option maxHeartbeats 4000000 in
set_option maxRecDepth 100000 in
/-- X3_rank -/
theorem c_X3_rank (l : Launch) (H0 : Heap) (yy : Int) (h0 : -1000000000 ≤ yy ∧ yy ≤ 1000000000) : Met l yX3_rank ww_X3_rank ({ frames := 0, cells := 0, slots := 0, locals := 0 }) (va_Pc [.int (iZ yy)] (fun U => U.heap = H0)) (kQ0 (some (.int (iZ (rank yy)))) H0) 0 0 kN := by
  refine Met.ofW (cc := cX3_rank) (maxL := 1) (ret := (some .int)) (by decide) rfl ?_
  intro p e s m args below meth c s₁ B hml hv
  obtain ⟨rfl, hH⟩ := hv
  subst hH
  have hx := B.exec
  have hb := B.bytes
  have hr := B.returns
  have hts := atoms_spec (ws := ww_X3_rank) B.pre
  have hown : s.vm.findClass RX3 = some m.cls := findClass_of_methodNamed B.named
  have hlocks := B.notSynchronized
  have hl := lv_entry ([.int (iZ yy)]) (n := 1) (Nat.le_of_ble_eq_true rfl)
  rw [lg_entry_eq]
  generalize (lg_sl ([.int (iZ yy)]) ++ List.replicate (1 - (lg_sl ([.int (iZ yy)])).length) Slot.unset).toArray = ls at hl ⊢
  have hl : lv_has ls 1 [(0, .int (iZ yy))] := hl
  refine lv_iload_n hx hb dX3_rank_0 rfl (lv_at hl 0 rfl) ?_
  refine kz_if_le (tgt := 8) hx hb (by omega) dX3_rank_1 (by decide) (fun c_1 => ?_) (fun c_1 => ?_)
  · refine lv_iconst (v := iZ 1) hx hb dX3_rank_8 rfl ?_
    refine lv_iload_n hx hb dX3_rank_9 rfl (lv_at hl 0 rfl) ?_
    refine kz_isub hx hb dX3_rank_10 ?_
    exact W.iret (v := iZ (1 - yy)) hx hb hr (fun t ht hW => ⟨congrArg (fun z : Int => Outcome.returned (some (Value.int (iZ z)))) (show (1 - yy) = (rank yy) from by unfold rank; split <;> omega), ht⟩) (fun q h => by cases h) dX3_rank_11
  · refine lv_iload_n hx hb dX3_rank_4 rfl (lv_at hl 0 rfl) ?_
    refine lv_goto (tgt := 11) hx hb dX3_rank_5 (by decide) ?_
    exact W.iret (v := iZ yy) hx hb hr (fun t ht hW => ⟨congrArg (fun z : Int => Outcome.returned (some (Value.int (iZ z)))) (show yy = (rank yy) from by unfold rank; split <;> omega), ht⟩) (fun q h => by cases h) dX3_rank_11

abbrev ww_X3_ranked : List Cond := .code yX3_ranked cX3_ranked 2 (some .long) :: gT
set_option maxHeartbeats 4000000 in
set_option maxRecDepth 100000 in
/-- X3_ranked -/
theorem c_X3_ranked (l : Launch) (H0 : Heap) (r0 : Int) (sd : Int) (h0 : -2147483648 ≤ r0 ∧ r0 < 2147483648) (h1 : -2147483648 ≤ sd ∧ sd < 2147483648) : Met l yX3_ranked ww_X3_ranked ({ frames := 0, cells := 0, slots := 0, locals := 0 }) (va_Pc [.int (iZ r0), .int (iZ sd)] (fun U => U.heap = H0)) (kQ0 (some (.long (lZ (ranked r0 sd)))) H0) 0 0 kN := by
  refine Met.ofW (cc := cX3_ranked) (maxL := 2) (ret := (some .long)) (by decide) rfl ?_
  intro p e s m args below meth c s₁ B hml hv
  obtain ⟨rfl, hH⟩ := hv
  subst hH
  have hx := B.exec
  have hb := B.bytes
  have hr := B.returns
  have hts := atoms_spec (ws := ww_X3_ranked) B.pre
  have hown : s.vm.findClass RX3 = some m.cls := findClass_of_methodNamed B.named
  have hlocks := B.notSynchronized
  have hl := lv_entry ([.int (iZ r0), .int (iZ sd)]) (n := 2) (Nat.le_of_ble_eq_true rfl)
  rw [lg_entry_eq]
  generalize (lg_sl ([.int (iZ r0), .int (iZ sd)]) ++ List.replicate (2 - (lg_sl ([.int (iZ r0), .int (iZ sd)])).length) Slot.unset).toArray = ls at hl ⊢
  have hl : lv_has ls 2 [(0, .int (iZ r0)), (1, .int (iZ sd))] := hl
  refine lv_iload_n hx hb dX3_ranked_0 rfl (lv_at hl 1 rfl) ?_
  refine lv_iconst (v := iZ 1) hx hb dX3_ranked_1 rfl ?_
  refine kz_icmp_ne (tgt := 10) hx hb (by omega) (by omega) dX3_ranked_2 (by decide) (fun c_1 => ?_) (fun c_1 => ?_)
  · refine lv_lconst (v := lZ 1) hx hb dX3_ranked_10 rfl ?_
    refine lv_iload_n hx hb dX3_ranked_11 rfl (lv_at hl 0 rfl) ?_
    refine kz_i2l hx hb (by omega) dX3_ranked_12 ?_
    refine kz_lsub hx hb dX3_ranked_13 ?_
    exact W.lret (v := lZ (1 - r0)) hx hb hr (fun t ht hW => ⟨congrArg (fun z : Int => Outcome.returned (some (Value.long (lZ z)))) (show (1 - r0) = (ranked r0 sd) from by unfold ranked; split <;> omega), ht⟩) (fun q h => by cases h) dX3_ranked_14
  · refine lv_iload_n hx hb dX3_ranked_5 rfl (lv_at hl 0 rfl) ?_
    refine kz_i2l hx hb (by omega) dX3_ranked_6 ?_
    refine lv_goto (tgt := 14) hx hb dX3_ranked_7 (by decide) ?_
    exact W.lret (v := lZ r0) hx hb hr (fun t ht hW => ⟨congrArg (fun z : Int => Outcome.returned (some (Value.long (lZ z)))) (show r0 = (ranked r0 sd) from by unfold ranked; split <;> omega), ht⟩) (fun q h => by cases h) dX3_ranked_14

abbrev ww_X3_signed : List Cond := .code yX3_signed cX3_signed 3 (some .long) :: gT
set_option maxHeartbeats 4000000 in
set_option maxRecDepth 100000 in
/-- X3_signed -/
theorem c_X3_signed (l : Launch) (H0 : Heap) (v0 : Int) (bb : Bool)  : Met l yX3_signed ww_X3_signed ({ frames := 0, cells := 0, slots := 0, locals := 0 }) (va_Pc [.long (lZ (v0)), .int (iZ (bZ (bb)))] (fun U => U.heap = H0)) (kQ0 (some (.long (lZ (sgn v0 bb)))) H0) 0 0 kN := by
  refine Met.ofW (cc := cX3_signed) (maxL := 3) (ret := (some .long)) (by decide) rfl ?_
  intro p e s m args below meth c s₁ B hml hv
  obtain ⟨rfl, hH⟩ := hv
  subst hH
  have hx := B.exec
  have hb := B.bytes
  have hr := B.returns
  have hts := atoms_spec (ws := ww_X3_signed) B.pre
  have hown : s.vm.findClass RX3 = some m.cls := findClass_of_methodNamed B.named
  have hlocks := B.notSynchronized
  have hl := lv_entry ([.long (lZ (v0)), .int (iZ (bZ (bb)))]) (n := 3) (Nat.le_of_ble_eq_true rfl)
  rw [lg_entry_eq]
  generalize (lg_sl ([.long (lZ (v0)), .int (iZ (bZ (bb)))]) ++ List.replicate (3 - (lg_sl ([.long (lZ (v0)), .int (iZ (bZ (bb)))])).length) Slot.unset).toArray = ls at hl ⊢
  have hl : lv_has ls 3 [(0, .long (lZ (v0))), (2, .int (iZ (bZ (bb))))] := hl
  refine lv_iload_n hx hb dX3_signed_0 rfl (lv_at hl 1 rfl) ?_
  refine kz_ifb_eq (tgt := 9) hx hb  dX3_signed_1 (by decide) (fun c_1 => ?_) (fun c_1 => ?_)
  · refine lv_lload_n hx hb dX3_signed_9 rfl (lv_at hl 0 rfl) ?_
    exact W.lret (v := lZ v0) hx hb hr (fun t ht hW => ⟨congrArg (fun z : Int => Outcome.returned (some (Value.long (lZ z)))) (show v0 = (sgn v0 bb) from by unfold sgn; simp [*]), ht⟩) (fun q h => by cases h) dX3_signed_10
  · refine lv_lload_n hx hb dX3_signed_4 rfl (lv_at hl 0 rfl) ?_
    refine kz_lneg hx hb dX3_signed_5 ?_
    refine lv_goto (tgt := 10) hx hb dX3_signed_6 (by decide) ?_
    exact W.lret (v := lZ (-v0)) hx hb hr (fun t ht hW => ⟨congrArg (fun z : Int => Outcome.returned (some (Value.long (lZ z)))) (show (-v0) = (sgn v0 bb) from by unfold sgn; simp [*]), ht⟩) (fun q h => by cases h) dX3_signed_10

abbrev ww_X3_isNoThing : List Cond := .code yX3_isNoThing cX3_isNoThing 2 (some .boolean) :: gT
set_option maxHeartbeats 4000000 in
set_option maxRecDepth 100000 in
/-- X3_isNoThing -/
theorem c_X3_isNoThing (l : Launch) (H0 : Heap) (w0 : Int) (v0 : Int) (h0 : -2147483648 ≤ w0 ∧ w0 < 2147483648) (h1 : -2147483648 ≤ v0 ∧ v0 < 2147483648) : Met l yX3_isNoThing ww_X3_isNoThing ({ frames := 2, cells := 0, slots := 0, locals := 46 }) (va_Pc [.int (iZ w0), .int (iZ v0)] (fun U => U.heap = H0)) (kQ0 (some (.int (iZ (bZ (noThing w0 v0))))) H0) 0 0 kN := by
  refine Met.ofW (cc := cX3_isNoThing) (maxL := 2) (ret := (some .boolean)) (by decide) rfl ?_
  intro p e s m args below meth c s₁ B hml hv
  obtain ⟨rfl, hH⟩ := hv
  subst hH
  have hx := B.exec
  have hb := B.bytes
  have hr := B.returns
  have hts := atoms_spec (ws := ww_X3_isNoThing) B.pre
  have hown : s.vm.findClass RX3 = some m.cls := findClass_of_methodNamed B.named
  have hlocks := B.notSynchronized
  have hl := lv_entry ([.int (iZ w0), .int (iZ v0)]) (n := 2) (Nat.le_of_ble_eq_true rfl)
  rw [lg_entry_eq]
  generalize (lg_sl ([.int (iZ w0), .int (iZ v0)]) ++ List.replicate (2 - (lg_sl ([.int (iZ w0), .int (iZ v0)])).length) Slot.unset).toArray = ls at hl ⊢
  have hl : lv_has ls 2 [(0, .int (iZ w0)), (1, .int (iZ v0))] := hl
  refine lv_iload_n hx hb dX3_isNoThing_0 rfl (lv_at hl 0 rfl) ?_
  refine kz_if_ne (tgt := 11) hx hb (by omega) dX3_isNoThing_1 (by decide) (fun c_1 => ?_) (fun c_1 => ?_)
  · refine lv_iload_n hx hb dX3_isNoThing_11 rfl (lv_at hl 0 rfl) ?_
    refine lv_iconst (v := iZ 1) hx hb dX3_isNoThing_12 rfl ?_
    refine kz_icmp_ne (tgt := 24) hx hb (by omega) (by omega) dX3_isNoThing_13 (by decide) (fun c_2 => ?_) (fun c_2 => ?_)
    · refine lv_iload_n hx hb dX3_isNoThing_24 rfl (lv_at hl 0 rfl) ?_
      refine lv_iconst (v := iZ 2) hx hb dX3_isNoThing_25 rfl ?_
      refine kz_icmp_ne (tgt := 49) hx hb (by omega) (by omega) dX3_isNoThing_26 (by decide) (fun c_3 => ?_) (fun c_3 => ?_)
      · refine lv_iload_n hx hb dX3_isNoThing_49 rfl (lv_at hl 0 rfl) ?_
        refine lv_iconst (v := iZ 3) hx hb dX3_isNoThing_50 rfl ?_
        refine kz_icmp_ne (tgt := 68) hx hb (by omega) (by omega) dX3_isNoThing_51 (by decide) (fun c_4 => ?_) (fun c_4 => ?_)
        · refine lv_iconst (v := iZ 0) hx hb dX3_isNoThing_68 rfl ?_
          exact W.zret (v := iZ 0) (ty := .boolean) hx hb hr rfl (fun t ht hW => ⟨congrArg (fun z : Int => Outcome.returned (some (Value.int (iZ z)))) (show 0 = (bZ (noThing w0 v0)) from by unfold noThing; (try unfold bZ); simp [*]), ht⟩) (fun q h => by cases h) dX3_isNoThing_69
        · refine lv_iload_n hx hb dX3_isNoThing_54 rfl (lv_at hl 1 rfl) ?_
          refine kz_i2l hx hb (by omega) dX3_isNoThing_55 ?_
          refine lv_lconst (v := lZ 0) hx hb dX3_isNoThing_56 rfl ?_
          refine lv_lconst (v := lZ 1) hx hb dX3_isNoThing_57 rfl ?_
          refine kc0 (fun _ q => q) (va_runS (As := [.long (lZ (v0)), .long (lZ (0)), .long (lZ (1))]) (rest := []) ⟨hx, hb, hml, hown, hts⟩ (c_X3_isIn l _ (v0) (0) (1) (by omega) (by omega) (by omega)) (va_cwS 3 hts (kg_S mw1025 mw1026 mw47 rfl mw1027) rfl rfl rfl hdS_X3_isIn ⟨Nat.le_of_ble_eq_true rfl, Nat.le_of_ble_eq_true rfl⟩) ⟨fun a U g mk q => q, fun U hU hW => ⟨rfl, hU⟩⟩ rfl rfl hl.1 rfl (lv_room (Nat.le_of_ble_eq_true rfl)) dX3_isNoThing_58 ⟨Nat.le_of_ble_eq_true rfl, Nat.le_of_ble_eq_true rfl⟩) ?_
          refine kz_ifb_ne (tgt := 68) hx hb  dX3_isNoThing_61 (by decide) (fun c_5 => ?_) (fun c_5 => ?_)
          · refine lv_iconst (v := iZ 0) hx hb dX3_isNoThing_68 rfl ?_
            exact W.zret (v := iZ 0) (ty := .boolean) hx hb hr rfl (fun t ht hW => ⟨congrArg (fun z : Int => Outcome.returned (some (Value.int (iZ z)))) (show 0 = (bZ (noThing w0 v0)) from by unfold noThing; (try unfold bZ); simp [*]), ht⟩) (fun q h => by cases h) dX3_isNoThing_69
          · refine lv_iconst (v := iZ 1) hx hb dX3_isNoThing_64 rfl ?_
            refine lv_goto (tgt := 69) hx hb dX3_isNoThing_65 (by decide) ?_
            exact W.zret (v := iZ 1) (ty := .boolean) hx hb hr rfl (fun t ht hW => ⟨congrArg (fun z : Int => Outcome.returned (some (Value.int (iZ z)))) (show 1 = (bZ (noThing w0 v0)) from by unfold noThing; (try unfold bZ); simp [*]), ht⟩) (fun q h => by cases h) dX3_isNoThing_69
      · refine lv_iload_n hx hb dX3_isNoThing_29 rfl (lv_at hl 1 rfl) ?_
        refine kz_i2l hx hb (by omega) dX3_isNoThing_30 ?_
        refine lv_lconst (v := lZ 1) hx hb dX3_isNoThing_31 rfl ?_
        refine lv_ldc2 (v := lZ 999999999) hx hb hown (hts _ (List.mem_cons_of_mem _ mw1032)) dX3_isNoThing_32 ?_
        refine kc0 (fun _ q => q) (va_runS (As := [.long (lZ (v0)), .long (lZ (1)), .long (lZ (999999999))]) (rest := []) ⟨hx, hb, hml, hown, hts⟩ (c_X3_isIn l _ (v0) (1) (999999999) (by omega) (by omega) (by omega)) (va_cwS 3 hts (kg_S mw1025 mw1026 mw47 rfl mw1027) rfl rfl rfl hdS_X3_isIn ⟨Nat.le_of_ble_eq_true rfl, Nat.le_of_ble_eq_true rfl⟩) ⟨fun a U g mk q => q, fun U hU hW => ⟨rfl, hU⟩⟩ rfl rfl hl.1 rfl (lv_room (Nat.le_of_ble_eq_true rfl)) dX3_isNoThing_35 ⟨Nat.le_of_ble_eq_true rfl, Nat.le_of_ble_eq_true rfl⟩) ?_
        refine kz_ifb_ne (tgt := 45) hx hb  dX3_isNoThing_38 (by decide) (fun c_6 => ?_) (fun c_6 => ?_)
        · refine lv_iconst (v := iZ 0) hx hb dX3_isNoThing_45 rfl ?_
          refine lv_goto (tgt := 69) hx hb dX3_isNoThing_46 (by decide) ?_
          exact W.zret (v := iZ 0) (ty := .boolean) hx hb hr rfl (fun t ht hW => ⟨congrArg (fun z : Int => Outcome.returned (some (Value.int (iZ z)))) (show 0 = (bZ (noThing w0 v0)) from by unfold noThing; (try unfold bZ); simp [*]), ht⟩) (fun q h => by cases h) dX3_isNoThing_69
        · refine lv_iconst (v := iZ 1) hx hb dX3_isNoThing_41 rfl ?_
          refine lv_goto (tgt := 69) hx hb dX3_isNoThing_42 (by decide) ?_
          exact W.zret (v := iZ 1) (ty := .boolean) hx hb hr rfl (fun t ht hW => ⟨congrArg (fun z : Int => Outcome.returned (some (Value.int (iZ z)))) (show 1 = (bZ (noThing w0 v0)) from by unfold noThing; (try unfold bZ); simp [*]), ht⟩) (fun q h => by cases h) dX3_isNoThing_69
    · refine lv_iload_n hx hb dX3_isNoThing_16 rfl (lv_at hl 1 rfl) ?_
      refine kz_i2l hx hb (by omega) dX3_isNoThing_17 ?_
      refine kc0 (fun _ q => q) (va_runS (As := [.long (lZ (v0))]) (rest := []) ⟨hx, hb, hml, hown, hts⟩ (c_X3_isNoYear l _ (v0) (by omega)) (va_cwS 1 hts (kg_S mw1028 mw1029 mw47 rfl mw1030) rfl rfl rfl hdS_X3_isNoYear ⟨Nat.le_of_ble_eq_true rfl, Nat.le_of_ble_eq_true rfl⟩) ⟨fun a U g mk q => q, fun U hU hW => ⟨rfl, hU⟩⟩ rfl rfl hl.1 rfl (lv_room (Nat.le_of_ble_eq_true rfl)) dX3_isNoThing_18 ⟨Nat.le_of_ble_eq_true rfl, Nat.le_of_ble_eq_true rfl⟩) ?_
      refine lv_goto (tgt := 69) hx hb dX3_isNoThing_21 (by decide) ?_
      exact W.zret (v := iZ (bZ (!inb ((v0)) (-999999999) 999999999))) (ty := .boolean) hx hb hr (by cases (!inb ((v0)) (-999999999) 999999999) <;> rfl) (fun t ht hW => ⟨congrArg (fun z : Int => Outcome.returned (some (Value.int (iZ z)))) (show (bZ (!inb ((v0)) (-999999999) 999999999)) = (bZ (noThing w0 v0)) from by unfold noThing; (try unfold bZ); simp [*]), ht⟩) (fun q h => by cases h) dX3_isNoThing_69
  · refine lv_iload_n hx hb dX3_isNoThing_4 rfl (lv_at hl 1 rfl) ?_
    refine kc0 (fun _ q => q) (va_runS (As := [.int (iZ v0)]) (rest := []) ⟨hx, hb, hml, hown, hts⟩ (c_X3_isNoMonth l _ (v0) (by omega)) (va_cwS 1 hts (kg_S mw1033 mw1034 mw47 rfl mw1035) rfl rfl rfl hdS_X3_isNoMonth ⟨Nat.le_of_ble_eq_true rfl, Nat.le_of_ble_eq_true rfl⟩) ⟨fun a U g mk q => q, fun U hU hW => ⟨rfl, hU⟩⟩ rfl rfl hl.1 rfl (lv_room (Nat.le_of_ble_eq_true rfl)) dX3_isNoThing_5 ⟨Nat.le_of_ble_eq_true rfl, Nat.le_of_ble_eq_true rfl⟩) ?_
    refine lv_goto (tgt := 69) hx hb dX3_isNoThing_8 (by decide) ?_
    exact W.zret (v := iZ (bZ (!inb ((v0)) 1 12))) (ty := .boolean) hx hb hr (by cases (!inb ((v0)) 1 12) <;> rfl) (fun t ht hW => ⟨congrArg (fun z : Int => Outcome.returned (some (Value.int (iZ z)))) (show (bZ (!inb ((v0)) 1 12)) = (bZ (noThing w0 v0)) from by unfold noThing; (try unfold bZ); simp [*]), ht⟩) (fun q h => by cases h) dX3_isNoThing_69

abbrev ww_X3_order : List Cond := .code yX3_order cX3_order 6 (some .int) :: gT
set_option maxHeartbeats 4000000 in
set_option maxRecDepth 100000 in
/-- X3_order -/
theorem c_X3_order (l : Launch) (H0 : Heap) (a0 : Int) (b0 : Int) (w0 : Int) (h0 : -9223372036854775808 ≤ a0 ∧ a0 < 9223372036854775808) (h1 : -9223372036854775808 ≤ b0 ∧ b0 < 9223372036854775808) (h2 : -2147483648 ≤ w0 ∧ w0 < 2147483648) : Met l yX3_order ww_X3_order ({ frames := 1, cells := 0, slots := 0, locals := 20 }) (va_Pc [.long (lZ (a0)), .long (lZ (b0)), .int (iZ w0)] (fun U => U.heap = H0)) (kQ0 (some (.int (iZ (ordT a0 b0 w0)))) H0) 0 0 kN := by
  refine Met.ofW (cc := cX3_order) (maxL := 6) (ret := (some .int)) (by decide) rfl ?_
  intro p e s m args below meth c s₁ B hml hv
  obtain ⟨rfl, hH⟩ := hv
  subst hH
  have hx := B.exec
  have hb := B.bytes
  have hr := B.returns
  have hts := atoms_spec (ws := ww_X3_order) B.pre
  have hown : s.vm.findClass RX3 = some m.cls := findClass_of_methodNamed B.named
  have hlocks := B.notSynchronized
  have hl := lv_entry ([.long (lZ (a0)), .long (lZ (b0)), .int (iZ w0)]) (n := 6) (Nat.le_of_ble_eq_true rfl)
  rw [lg_entry_eq]
  generalize (lg_sl ([.long (lZ (a0)), .long (lZ (b0)), .int (iZ w0)]) ++ List.replicate (6 - (lg_sl ([.long (lZ (a0)), .long (lZ (b0)), .int (iZ w0)])).length) Slot.unset).toArray = ls at hl ⊢
  have hl : lv_has ls 6 [(0, .long (lZ (a0))), (2, .long (lZ (b0))), (4, .int (iZ w0))] := hl
  refine lv_lload_n hx hb dX3_order_0 rfl (lv_at hl 0 rfl) ?_
  refine lv_lload_n hx hb dX3_order_1 rfl (lv_at hl 1 rfl) ?_
  refine kz_lcmp_ge (tgt := 10) hx hb (by first | omega | (cases (bZ_rng _) <;> omega)) (by first | omega | (cases (bZ_rng _) <;> omega)) dX3_order_2 dX3_order_3 (by decide) (fun c_1 => ?_) (fun c_1 => ?_)
  · refine lv_lload_n hx hb dX3_order_10 rfl (lv_at hl 0 rfl) ?_
    refine lv_lload_n hx hb dX3_order_11 rfl (lv_at hl 1 rfl) ?_
    refine kz_lcmp_le (tgt := 20) hx hb (by first | omega | (cases (bZ_rng _) <;> omega)) (by first | omega | (cases (bZ_rng _) <;> omega)) dX3_order_12 dX3_order_13 (by decide) (fun c_2 => ?_) (fun c_2 => ?_)
    · refine lv_iconst (v := iZ 0) hx hb dX3_order_20 rfl ?_
      refine kc0 (fun _ q => q) (va_runS (As := [.int (iZ (bZ false))]) (rest := []) ⟨hx, hb, hml, hown, hts⟩ (c_X3_bit l _ false) (va_cwS 1 hts (kg_S mw1116 mw1117 mw47 rfl mw1118) rfl rfl rfl hdS_X3_bit ⟨Nat.le_of_ble_eq_true rfl, Nat.le_of_ble_eq_true rfl⟩) ⟨fun a U g mk q => q, fun U hU hW => ⟨rfl, hU⟩⟩ rfl rfl hl.1 rfl (lv_room (Nat.le_of_ble_eq_true rfl)) dX3_order_21 ⟨Nat.le_of_ble_eq_true rfl, Nat.le_of_ble_eq_true rfl⟩) ?_
      refine lv_istore (lv' := [(5, .int (iZ 0)), (0, .long (lZ (a0))), (2, .long (lZ (b0))), (4, .int (iZ w0))]) hx hb dX3_order_24 hl (by decide) rfl (fun ls hl => ?_)
      refine lv_iload hx hb dX3_order_26 (lv_at hl 3 rfl) ?_
      refine kz_if_ne (tgt := 36) hx hb (by first | omega | (cases (bZ_rng _) <;> omega)) dX3_order_28 (by decide) (fun c_3 => ?_) (fun c_3 => ?_)
      · refine lv_iload hx hb dX3_order_36 (lv_at hl 3 rfl) ?_
        refine lv_iconst (v := iZ 1) hx hb dX3_order_38 rfl ?_
        refine kz_icmp_ne (tgt := 55) hx hb (by first | omega | (cases (bZ_rng _) <;> omega)) (by first | omega | (cases (bZ_rng _) <;> omega)) dX3_order_39 (by decide) (fun c_4 => ?_) (fun c_4 => ?_)
        · refine lv_iload hx hb dX3_order_55 (lv_at hl 0 rfl) ?_
          refine kz_if_le (tgt := 64) hx hb (by first | omega | (cases (bZ_rng _) <;> omega)) dX3_order_57 (by decide) (fun c_5 => ?_) (fun c_5 => absurd c_5 (by omega))
          refine lv_iconst (v := iZ 0) hx hb dX3_order_64 rfl ?_
          refine kc0 (fun _ q => q) (va_runS (As := [.int (iZ (bZ false))]) (rest := []) ⟨hx, hb, hml, hown, hts⟩ (c_X3_bit l _ false) (va_cwS 1 hts (kg_S mw1116 mw1117 mw47 rfl mw1118) rfl rfl rfl hdS_X3_bit ⟨Nat.le_of_ble_eq_true rfl, Nat.le_of_ble_eq_true rfl⟩) ⟨fun a U g mk q => q, fun U hU hW => ⟨rfl, hU⟩⟩ rfl rfl hl.1 rfl (lv_room (Nat.le_of_ble_eq_true rfl)) dX3_order_65 ⟨Nat.le_of_ble_eq_true rfl, Nat.le_of_ble_eq_true rfl⟩) ?_
          exact W.iret (v := iZ 0) hx hb hr (fun t ht hW => ⟨congrArg (fun z : Int => Outcome.returned (some (Value.int (iZ z)))) (show 0 = (ordT a0 b0 w0) from by unfold ordT; (repeat' split) <;> first | omega | simp_all), ht⟩) (fun q h => by cases h) dX3_order_68
        · refine lv_iload hx hb dX3_order_42 (lv_at hl 0 rfl) ?_
          refine kz_if_ge (tgt := 51) hx hb (by first | omega | (cases (bZ_rng _) <;> omega)) dX3_order_44 (by decide) (fun c_6 => ?_) (fun c_6 => absurd c_6 (by omega))
          refine lv_iconst (v := iZ 0) hx hb dX3_order_51 rfl ?_
          refine lv_goto (tgt := 65) hx hb dX3_order_52 (by decide) ?_
          refine kc0 (fun _ q => q) (va_runS (As := [.int (iZ (bZ false))]) (rest := []) ⟨hx, hb, hml, hown, hts⟩ (c_X3_bit l _ false) (va_cwS 1 hts (kg_S mw1116 mw1117 mw47 rfl mw1118) rfl rfl rfl hdS_X3_bit ⟨Nat.le_of_ble_eq_true rfl, Nat.le_of_ble_eq_true rfl⟩) ⟨fun a U g mk q => q, fun U hU hW => ⟨rfl, hU⟩⟩ rfl rfl hl.1 rfl (lv_room (Nat.le_of_ble_eq_true rfl)) dX3_order_65 ⟨Nat.le_of_ble_eq_true rfl, Nat.le_of_ble_eq_true rfl⟩) ?_
          exact W.iret (v := iZ 0) hx hb hr (fun t ht hW => ⟨congrArg (fun z : Int => Outcome.returned (some (Value.int (iZ z)))) (show 0 = (ordT a0 b0 w0) from by unfold ordT; (repeat' split) <;> first | omega | simp_all), ht⟩) (fun q h => by cases h) dX3_order_68
      · refine lv_iload hx hb dX3_order_31 (lv_at hl 0 rfl) ?_
        refine lv_goto (tgt := 68) hx hb dX3_order_33 (by decide) ?_
        exact W.iret (v := iZ 0) hx hb hr (fun t ht hW => ⟨congrArg (fun z : Int => Outcome.returned (some (Value.int (iZ z)))) (show 0 = (ordT a0 b0 w0) from by unfold ordT; (repeat' split) <;> first | omega | simp_all), ht⟩) (fun q h => by cases h) dX3_order_68
    · refine lv_iconst (v := iZ 1) hx hb dX3_order_16 rfl ?_
      refine lv_goto (tgt := 21) hx hb dX3_order_17 (by decide) ?_
      refine kc0 (fun _ q => q) (va_runS (As := [.int (iZ (bZ true))]) (rest := []) ⟨hx, hb, hml, hown, hts⟩ (c_X3_bit l _ true) (va_cwS 1 hts (kg_S mw1116 mw1117 mw47 rfl mw1118) rfl rfl rfl hdS_X3_bit ⟨Nat.le_of_ble_eq_true rfl, Nat.le_of_ble_eq_true rfl⟩) ⟨fun a U g mk q => q, fun U hU hW => ⟨rfl, hU⟩⟩ rfl rfl hl.1 rfl (lv_room (Nat.le_of_ble_eq_true rfl)) dX3_order_21 ⟨Nat.le_of_ble_eq_true rfl, Nat.le_of_ble_eq_true rfl⟩) ?_
      refine lv_istore (lv' := [(5, .int (iZ 1)), (0, .long (lZ (a0))), (2, .long (lZ (b0))), (4, .int (iZ w0))]) hx hb dX3_order_24 hl (by decide) rfl (fun ls hl => ?_)
      refine lv_iload hx hb dX3_order_26 (lv_at hl 3 rfl) ?_
      refine kz_if_ne (tgt := 36) hx hb (by first | omega | (cases (bZ_rng _) <;> omega)) dX3_order_28 (by decide) (fun c_7 => ?_) (fun c_7 => ?_)
      · refine lv_iload hx hb dX3_order_36 (lv_at hl 3 rfl) ?_
        refine lv_iconst (v := iZ 1) hx hb dX3_order_38 rfl ?_
        refine kz_icmp_ne (tgt := 55) hx hb (by first | omega | (cases (bZ_rng _) <;> omega)) (by first | omega | (cases (bZ_rng _) <;> omega)) dX3_order_39 (by decide) (fun c_8 => ?_) (fun c_8 => ?_)
        · refine lv_iload hx hb dX3_order_55 (lv_at hl 0 rfl) ?_
          refine kz_if_le (tgt := 64) hx hb (by first | omega | (cases (bZ_rng _) <;> omega)) dX3_order_57 (by decide) (fun c_9 => absurd c_9 (by omega)) (fun c_9 => ?_)
          refine lv_iconst (v := iZ 1) hx hb dX3_order_60 rfl ?_
          refine lv_goto (tgt := 65) hx hb dX3_order_61 (by decide) ?_
          refine kc0 (fun _ q => q) (va_runS (As := [.int (iZ (bZ true))]) (rest := []) ⟨hx, hb, hml, hown, hts⟩ (c_X3_bit l _ true) (va_cwS 1 hts (kg_S mw1116 mw1117 mw47 rfl mw1118) rfl rfl rfl hdS_X3_bit ⟨Nat.le_of_ble_eq_true rfl, Nat.le_of_ble_eq_true rfl⟩) ⟨fun a U g mk q => q, fun U hU hW => ⟨rfl, hU⟩⟩ rfl rfl hl.1 rfl (lv_room (Nat.le_of_ble_eq_true rfl)) dX3_order_65 ⟨Nat.le_of_ble_eq_true rfl, Nat.le_of_ble_eq_true rfl⟩) ?_
          exact W.iret (v := iZ 1) hx hb hr (fun t ht hW => ⟨congrArg (fun z : Int => Outcome.returned (some (Value.int (iZ z)))) (show 1 = (ordT a0 b0 w0) from by unfold ordT; (repeat' split) <;> first | omega | simp_all), ht⟩) (fun q h => by cases h) dX3_order_68
        · refine lv_iload hx hb dX3_order_42 (lv_at hl 0 rfl) ?_
          refine kz_if_ge (tgt := 51) hx hb (by first | omega | (cases (bZ_rng _) <;> omega)) dX3_order_44 (by decide) (fun c_10 => ?_) (fun c_10 => absurd c_10 (by omega))
          refine lv_iconst (v := iZ 0) hx hb dX3_order_51 rfl ?_
          refine lv_goto (tgt := 65) hx hb dX3_order_52 (by decide) ?_
          refine kc0 (fun _ q => q) (va_runS (As := [.int (iZ (bZ false))]) (rest := []) ⟨hx, hb, hml, hown, hts⟩ (c_X3_bit l _ false) (va_cwS 1 hts (kg_S mw1116 mw1117 mw47 rfl mw1118) rfl rfl rfl hdS_X3_bit ⟨Nat.le_of_ble_eq_true rfl, Nat.le_of_ble_eq_true rfl⟩) ⟨fun a U g mk q => q, fun U hU hW => ⟨rfl, hU⟩⟩ rfl rfl hl.1 rfl (lv_room (Nat.le_of_ble_eq_true rfl)) dX3_order_65 ⟨Nat.le_of_ble_eq_true rfl, Nat.le_of_ble_eq_true rfl⟩) ?_
          exact W.iret (v := iZ 0) hx hb hr (fun t ht hW => ⟨congrArg (fun z : Int => Outcome.returned (some (Value.int (iZ z)))) (show 0 = (ordT a0 b0 w0) from by unfold ordT; (repeat' split) <;> first | omega | simp_all), ht⟩) (fun q h => by cases h) dX3_order_68
      · refine lv_iload hx hb dX3_order_31 (lv_at hl 0 rfl) ?_
        refine lv_goto (tgt := 68) hx hb dX3_order_33 (by decide) ?_
        exact W.iret (v := iZ 1) hx hb hr (fun t ht hW => ⟨congrArg (fun z : Int => Outcome.returned (some (Value.int (iZ z)))) (show 1 = (ordT a0 b0 w0) from by unfold ordT; (repeat' split) <;> first | omega | simp_all), ht⟩) (fun q h => by cases h) dX3_order_68
  · refine lv_iconst (v := iZ (-1)) hx hb dX3_order_6 rfl ?_
    refine lv_goto (tgt := 24) hx hb dX3_order_7 (by decide) ?_
    refine lv_istore (lv' := [(5, .int (iZ ((-1)))), (0, .long (lZ (a0))), (2, .long (lZ (b0))), (4, .int (iZ w0))]) hx hb dX3_order_24 hl (by decide) rfl (fun ls hl => ?_)
    refine lv_iload hx hb dX3_order_26 (lv_at hl 3 rfl) ?_
    refine kz_if_ne (tgt := 36) hx hb (by first | omega | (cases (bZ_rng _) <;> omega)) dX3_order_28 (by decide) (fun c_11 => ?_) (fun c_11 => ?_)
    · refine lv_iload hx hb dX3_order_36 (lv_at hl 3 rfl) ?_
      refine lv_iconst (v := iZ 1) hx hb dX3_order_38 rfl ?_
      refine kz_icmp_ne (tgt := 55) hx hb (by first | omega | (cases (bZ_rng _) <;> omega)) (by first | omega | (cases (bZ_rng _) <;> omega)) dX3_order_39 (by decide) (fun c_12 => ?_) (fun c_12 => ?_)
      · refine lv_iload hx hb dX3_order_55 (lv_at hl 0 rfl) ?_
        refine kz_if_le (tgt := 64) hx hb (by first | omega | (cases (bZ_rng _) <;> omega)) dX3_order_57 (by decide) (fun c_13 => ?_) (fun c_13 => ?_)
        · refine lv_iconst (v := iZ 0) hx hb dX3_order_64 rfl ?_
          refine kc0 (fun _ q => q) (va_runS (As := [.int (iZ (bZ false))]) (rest := []) ⟨hx, hb, hml, hown, hts⟩ (c_X3_bit l _ false) (va_cwS 1 hts (kg_S mw1116 mw1117 mw47 rfl mw1118) rfl rfl rfl hdS_X3_bit ⟨Nat.le_of_ble_eq_true rfl, Nat.le_of_ble_eq_true rfl⟩) ⟨fun a U g mk q => q, fun U hU hW => ⟨rfl, hU⟩⟩ rfl rfl hl.1 rfl (lv_room (Nat.le_of_ble_eq_true rfl)) dX3_order_65 ⟨Nat.le_of_ble_eq_true rfl, Nat.le_of_ble_eq_true rfl⟩) ?_
          exact W.iret (v := iZ 0) hx hb hr (fun t ht hW => ⟨congrArg (fun z : Int => Outcome.returned (some (Value.int (iZ z)))) (show 0 = (ordT a0 b0 w0) from by unfold ordT; (repeat' split) <;> first | omega | simp_all), ht⟩) (fun q h => by cases h) dX3_order_68
        · refine lv_iconst (v := iZ 1) hx hb dX3_order_60 rfl ?_
          refine lv_goto (tgt := 65) hx hb dX3_order_61 (by decide) ?_
          refine kc0 (fun _ q => q) (va_runS (As := [.int (iZ (bZ true))]) (rest := []) ⟨hx, hb, hml, hown, hts⟩ (c_X3_bit l _ true) (va_cwS 1 hts (kg_S mw1116 mw1117 mw47 rfl mw1118) rfl rfl rfl hdS_X3_bit ⟨Nat.le_of_ble_eq_true rfl, Nat.le_of_ble_eq_true rfl⟩) ⟨fun a U g mk q => q, fun U hU hW => ⟨rfl, hU⟩⟩ rfl rfl hl.1 rfl (lv_room (Nat.le_of_ble_eq_true rfl)) dX3_order_65 ⟨Nat.le_of_ble_eq_true rfl, Nat.le_of_ble_eq_true rfl⟩) ?_
          exact W.iret (v := iZ 1) hx hb hr (fun t ht hW => ⟨congrArg (fun z : Int => Outcome.returned (some (Value.int (iZ z)))) (show 1 = (ordT a0 b0 w0) from by unfold ordT; (repeat' split) <;> first | omega | simp_all), ht⟩) (fun q h => by cases h) dX3_order_68
      · refine lv_iload hx hb dX3_order_42 (lv_at hl 0 rfl) ?_
        refine kz_if_ge (tgt := 51) hx hb (by first | omega | (cases (bZ_rng _) <;> omega)) dX3_order_44 (by decide) (fun c_14 => ?_) (fun c_14 => ?_)
        · refine lv_iconst (v := iZ 0) hx hb dX3_order_51 rfl ?_
          refine lv_goto (tgt := 65) hx hb dX3_order_52 (by decide) ?_
          refine kc0 (fun _ q => q) (va_runS (As := [.int (iZ (bZ false))]) (rest := []) ⟨hx, hb, hml, hown, hts⟩ (c_X3_bit l _ false) (va_cwS 1 hts (kg_S mw1116 mw1117 mw47 rfl mw1118) rfl rfl rfl hdS_X3_bit ⟨Nat.le_of_ble_eq_true rfl, Nat.le_of_ble_eq_true rfl⟩) ⟨fun a U g mk q => q, fun U hU hW => ⟨rfl, hU⟩⟩ rfl rfl hl.1 rfl (lv_room (Nat.le_of_ble_eq_true rfl)) dX3_order_65 ⟨Nat.le_of_ble_eq_true rfl, Nat.le_of_ble_eq_true rfl⟩) ?_
          exact W.iret (v := iZ 0) hx hb hr (fun t ht hW => ⟨congrArg (fun z : Int => Outcome.returned (some (Value.int (iZ z)))) (show 0 = (ordT a0 b0 w0) from by unfold ordT; (repeat' split) <;> first | omega | simp_all), ht⟩) (fun q h => by cases h) dX3_order_68
        · refine lv_iconst (v := iZ 1) hx hb dX3_order_47 rfl ?_
          refine lv_goto (tgt := 65) hx hb dX3_order_48 (by decide) ?_
          refine kc0 (fun _ q => q) (va_runS (As := [.int (iZ (bZ true))]) (rest := []) ⟨hx, hb, hml, hown, hts⟩ (c_X3_bit l _ true) (va_cwS 1 hts (kg_S mw1116 mw1117 mw47 rfl mw1118) rfl rfl rfl hdS_X3_bit ⟨Nat.le_of_ble_eq_true rfl, Nat.le_of_ble_eq_true rfl⟩) ⟨fun a U g mk q => q, fun U hU hW => ⟨rfl, hU⟩⟩ rfl rfl hl.1 rfl (lv_room (Nat.le_of_ble_eq_true rfl)) dX3_order_65 ⟨Nat.le_of_ble_eq_true rfl, Nat.le_of_ble_eq_true rfl⟩) ?_
          exact W.iret (v := iZ 1) hx hb hr (fun t ht hW => ⟨congrArg (fun z : Int => Outcome.returned (some (Value.int (iZ z)))) (show 1 = (ordT a0 b0 w0) from by unfold ordT; (repeat' split) <;> first | omega | simp_all), ht⟩) (fun q h => by cases h) dX3_order_68
    · refine lv_iload hx hb dX3_order_31 (lv_at hl 0 rfl) ?_
      refine lv_goto (tgt := 68) hx hb dX3_order_33 (by decide) ?_
      exact W.iret (v := iZ ((-1))) hx hb hr (fun t ht hW => ⟨congrArg (fun z : Int => Outcome.returned (some (Value.int (iZ z)))) (show ((-1)) = (ordT a0 b0 w0) from by unfold ordT; (repeat' split) <;> first | omega | simp_all), ht⟩) (fun q h => by cases h) dX3_order_68

abbrev ww_X3_add : List Cond := .code yX3_add cX3_add 4 (some .long) :: gT
set_option maxHeartbeats 4000000 in
set_option maxRecDepth 100000 in
/-- X3_add -/
theorem c_X3_add (l : Launch) (H0 : Heap) (d0 : Int) (v0 : Int)  : Met l yX3_add ww_X3_add ({ frames := 0, cells := 0, slots := 0, locals := 0 }) (va_Pc [.long (lZ (d0)), .long (lZ (v0))] (fun U => U.heap = H0)) (kQ0 (some (.long (lZ (d0 * 31 + v0)))) H0) 0 0 kN := by
  refine Met.ofW (cc := cX3_add) (maxL := 4) (ret := (some .long)) (by decide) rfl ?_
  intro p e s m args below meth c s₁ B hml hv
  obtain ⟨rfl, hH⟩ := hv
  subst hH
  have hx := B.exec
  have hb := B.bytes
  have hr := B.returns
  have hts := atoms_spec (ws := ww_X3_add) B.pre
  have hown : s.vm.findClass RX3 = some m.cls := findClass_of_methodNamed B.named
  have hlocks := B.notSynchronized
  have hl := lv_entry ([.long (lZ (d0)), .long (lZ (v0))]) (n := 4) (Nat.le_of_ble_eq_true rfl)
  rw [lg_entry_eq]
  generalize (lg_sl ([.long (lZ (d0)), .long (lZ (v0))]) ++ List.replicate (4 - (lg_sl ([.long (lZ (d0)), .long (lZ (v0))])).length) Slot.unset).toArray = ls at hl ⊢
  have hl : lv_has ls 4 [(0, .long (lZ (d0))), (2, .long (lZ (v0)))] := hl
  refine lv_lload_n hx hb dX3_add_0 rfl (lv_at hl 0 rfl) ?_
  refine lv_ldc2 (v := lZ 31) hx hb hown (hts _ (List.mem_cons_of_mem _ mw1179)) dX3_add_1 ?_
  refine kz_lmul hx hb dX3_add_4 ?_
  refine lv_lload_n hx hb dX3_add_5 rfl (lv_at hl 1 rfl) ?_
  refine kz_ladd hx hb dX3_add_6 ?_
  exact W.lret (v := lZ ((d0 * 31) + v0)) hx hb hr (fun t ht hW => ⟨congrArg (fun z : Int => Outcome.returned (some (Value.long (lZ z)))) (show ((d0 * 31) + v0) = (d0 * 31 + v0) from by rfl), ht⟩) (fun q h => by cases h) dX3_add_7

