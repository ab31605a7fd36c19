def ordT (a b w : Int) : Int := if w = 0 then (if a < b then -1 else if b < a then 1 else 0) else if w = 1 then (if a < b then 1 else 0) else (if b < a then 1 else 0)
def inb (v a b : Int) : Bool := decide (a ≤ v ∧ v ≤ b)
def sgn (v : Int) (b : Bool) : Int := if b = true then -v else v
def noThing (w v : Int) : Bool := if w = 0 then !inb v 1 12 else if w = 1 then !inb v (-999999999) 999999999 else if w = 2 then !inb v 1 999999999 else if w = 3 then !inb v 0 1 else false
theorem inb_t {v a b : Int} (h : inb v a b = true) : a ≤ v ∧ v ≤ b := of_decide_eq_true h
theorem inb_f {v a b : Int} (h : inb v a b = false) : ¬ (a ≤ v ∧ v ≤ b) := of_decide_eq_false h
abbrev ww_X1_oneIf : List Cond := .code yX1_oneIf cX1_oneIf 1 (some .int) :: gT
set_option maxHeartbeats 4000000 in
set_option maxRecDepth 100000 in
/-- X1_oneIf -/
theorem c_X1_oneIf (l : Launch) (H0 : Heap) (bb : Bool)  : Met l yX1_oneIf ww_X1_oneIf ({ frames := 0, cells := 0, slots := 0, locals := 0 }) (va_Pc [.int (iZ (bZ (bb)))] (fun U => U.heap = H0)) (kQ0 (some (.int (iZ (bZ bb)))) H0) 0 0 kN := by
  refine Met.ofW (cc := cX1_oneIf) (maxL := 1) (ret := (some .int)) (by decide) rfl ?_
  intro p e s m args below meth c s₁ B hml hv
  obtain ⟨rfl, hH⟩ := hv
  subst hH
  have hx := B.exec
  have hb := B.bytes
  have hr := B.returns
  have hts := atoms_spec (ws := ww_X1_oneIf) B.pre
  have hown : s.vm.findClass RX1 = some m.cls := findClass_of_methodNamed B.named
  have hlocks := B.notSynchronized
  have hl := lv_entry ([.int (iZ (bZ (bb)))]) (n := 1) (Nat.le_of_ble_eq_true rfl)
  rw [lg_entry_eq]
  generalize (lg_sl ([.int (iZ (bZ (bb)))]) ++ List.replicate (1 - (lg_sl ([.int (iZ (bZ (bb)))])).length) Slot.unset).toArray = ls at hl ⊢
  have hl : lv_has ls 1 [(0, .int (iZ (bZ (bb))))] := hl
  refine lv_iload_n hx hb dX1_oneIf_0 rfl (lv_at hl 0 rfl) ?_
  refine kz_ifb_eq (tgt := 8) hx hb  dX1_oneIf_1 (by decide) (fun c_1 => ?_) (fun c_1 => ?_)
  · refine lv_iconst (v := iZ 0) hx hb dX1_oneIf_8 rfl ?_
    exact W.iret (v := iZ 0) hx hb hr (fun t ht hW => ⟨congrArg (fun z : Int => Outcome.returned (some (Value.int (iZ z)))) (show 0 = (bZ bb) from by simp [*, bZ]), ht⟩) (fun q h => by cases h) dX1_oneIf_9
  · refine lv_iconst (v := iZ 1) hx hb dX1_oneIf_4 rfl ?_
    refine lv_goto (tgt := 9) hx hb dX1_oneIf_5 (by decide) ?_
    exact W.iret (v := iZ 1) hx hb hr (fun t ht hW => ⟨congrArg (fun z : Int => Outcome.returned (some (Value.int (iZ z)))) (show 1 = (bZ bb) from by simp [*, bZ]), ht⟩) (fun q h => by cases h) dX1_oneIf_9

abbrev ww_X1_orderTold : List Cond := .code yX1_orderTold cX1_orderTold 5 (some .int) :: gT
set_option maxHeartbeats 4000000 in
set_option maxRecDepth 100000 in
/-- X1_orderTold -/
theorem c_X1_orderTold (l : Launch) (H0 : Heap) (a0 : Int) (b0 : Int) (w0 : Int) (h0 : -9223372036854775808 ≤ a0 ∧ a0 < 9223372036854775808) (h1 : -9223372036854775808 ≤ b0 ∧ b0 < 9223372036854775808) (h2 : -2147483648 ≤ w0 ∧ w0 < 2147483648) : Met l yX1_orderTold ww_X1_orderTold ({ frames := 1, cells := 0, slots := 0, locals := 20 }) (va_Pc [.long (lZ (a0)), .long (lZ (b0)), .int (iZ w0)] (fun U => U.heap = H0)) (kQ0 (some (.int (iZ (ordT a0 b0 w0)))) H0) 0 0 kN := by
  refine Met.ofW (cc := cX1_orderTold) (maxL := 5) (ret := (some .int)) (by decide) rfl ?_
  intro p e s m args below meth c s₁ B hml hv
  obtain ⟨rfl, hH⟩ := hv
  subst hH
  have hx := B.exec
  have hb := B.bytes
  have hr := B.returns
  have hts := atoms_spec (ws := ww_X1_orderTold) B.pre
  have hown : s.vm.findClass RX1 = some m.cls := findClass_of_methodNamed B.named
  have hlocks := B.notSynchronized
  have hl := lv_entry ([.long (lZ (a0)), .long (lZ (b0)), .int (iZ w0)]) (n := 5) (Nat.le_of_ble_eq_true rfl)
  rw [lg_entry_eq]
  generalize (lg_sl ([.long (lZ (a0)), .long (lZ (b0)), .int (iZ w0)]) ++ List.replicate (5 - (lg_sl ([.long (lZ (a0)), .long (lZ (b0)), .int (iZ w0)])).length) Slot.unset).toArray = ls at hl ⊢
  have hl : lv_has ls 5 [(0, .long (lZ (a0))), (2, .long (lZ (b0))), (4, .int (iZ w0))] := hl
  refine lv_iload hx hb dX1_orderTold_0 (lv_at hl 2 rfl) ?_
  by_cases c_1 : w0 = 0
  · refine lv_lookup (tgt := 28) (off := 26) hx hb dX1_orderTold_2 (by decide) (by rw [iZ_toInt (z := w0) (by omega), show w0 = 0 from by omega]; rfl) (by decide) ?_
    refine lv_lload_n hx hb dX1_orderTold_28 rfl (lv_at hl 0 rfl) ?_
    refine lv_lload_n hx hb dX1_orderTold_29 rfl (lv_at hl 1 rfl) ?_
    refine kz_lcmp_ge (tgt := 38) hx hb (by omega) (by omega) dX1_orderTold_30 dX1_orderTold_31 (by decide) (fun c_2 => ?_) (fun c_2 => ?_)
    · refine lv_lload_n hx hb dX1_orderTold_38 rfl (lv_at hl 0 rfl) ?_
      refine lv_lload_n hx hb dX1_orderTold_39 rfl (lv_at hl 1 rfl) ?_
      refine kz_lcmp_le (tgt := 48) hx hb (by omega) (by omega) dX1_orderTold_40 dX1_orderTold_41 (by decide) (fun c_3 => ?_) (fun c_3 => ?_)
      · refine lv_iconst (v := iZ 0) hx hb dX1_orderTold_48 rfl ?_
        refine kc0 (fun _ q => q) (va_runS (As := [.int (iZ (bZ false))]) (rest := []) ⟨hx, hb, hml, hown, hts⟩ (c_X1_oneIf l _ false) (va_cwS 1 hts (kg_S mw176 mw177 mw42 rfl mw178) rfl rfl rfl hdS_X1_oneIf ⟨Nat.le_of_ble_eq_true rfl, Nat.le_of_ble_eq_true rfl⟩) ⟨fun a U g mk q => q, fun U hU hW => ⟨rfl, hU⟩⟩ rfl rfl hl.1 rfl (lv_room (Nat.le_of_ble_eq_true rfl)) dX1_orderTold_49 ⟨Nat.le_of_ble_eq_true rfl, Nat.le_of_ble_eq_true rfl⟩) ?_
        exact W.iret (v := iZ 0) hx hb hr (fun t ht hW => ⟨congrArg (fun z : Int => Outcome.returned (some (Value.int (iZ z)))) (show 0 = (ordT a0 b0 w0) from by unfold ordT; (try unfold bZ); (repeat' split) <;> first | omega | simp_all), ht⟩) (fun q h => by cases h) dX1_orderTold_52
      · refine lv_iconst (v := iZ 1) hx hb dX1_orderTold_44 rfl ?_
        refine lv_goto (tgt := 49) hx hb dX1_orderTold_45 (by decide) ?_
        refine kc0 (fun _ q => q) (va_runS (As := [.int (iZ (bZ true))]) (rest := []) ⟨hx, hb, hml, hown, hts⟩ (c_X1_oneIf l _ true) (va_cwS 1 hts (kg_S mw176 mw177 mw42 rfl mw178) rfl rfl rfl hdS_X1_oneIf ⟨Nat.le_of_ble_eq_true rfl, Nat.le_of_ble_eq_true rfl⟩) ⟨fun a U g mk q => q, fun U hU hW => ⟨rfl, hU⟩⟩ rfl rfl hl.1 rfl (lv_room (Nat.le_of_ble_eq_true rfl)) dX1_orderTold_49 ⟨Nat.le_of_ble_eq_true rfl, Nat.le_of_ble_eq_true rfl⟩) ?_
        exact W.iret (v := iZ 1) hx hb hr (fun t ht hW => ⟨congrArg (fun z : Int => Outcome.returned (some (Value.int (iZ z)))) (show 1 = (ordT a0 b0 w0) from by unfold ordT; (try unfold bZ); (repeat' split) <;> first | omega | simp_all), ht⟩) (fun q h => by cases h) dX1_orderTold_52
    · refine lv_iconst (v := iZ (-1)) hx hb dX1_orderTold_34 rfl ?_
      refine lv_goto (tgt := 52) hx hb dX1_orderTold_35 (by decide) ?_
      exact W.iret (v := iZ ((-1))) hx hb hr (fun t ht hW => ⟨congrArg (fun z : Int => Outcome.returned (some (Value.int (iZ z)))) (show ((-1)) = (ordT a0 b0 w0) from by unfold ordT; (try unfold bZ); (repeat' split) <;> first | omega | simp_all), ht⟩) (fun q h => by cases h) dX1_orderTold_52
  by_cases c_4 : w0 = 1
  · refine lv_lookup (tgt := 53) (off := 51) hx hb dX1_orderTold_2 (by decide) (by rw [iZ_toInt (z := w0) (by omega), show w0 = 1 from by omega]; rfl) (by decide) ?_
    refine lv_lload_n hx hb dX1_orderTold_53 rfl (lv_at hl 0 rfl) ?_
    refine lv_lload_n hx hb dX1_orderTold_54 rfl (lv_at hl 1 rfl) ?_
    refine kz_lcmp_ge (tgt := 63) hx hb (by omega) (by omega) dX1_orderTold_55 dX1_orderTold_56 (by decide) (fun c_5 => ?_) (fun c_5 => ?_)
    · refine lv_iconst (v := iZ 0) hx hb dX1_orderTold_63 rfl ?_
      refine kc0 (fun _ q => q) (va_runS (As := [.int (iZ (bZ false))]) (rest := []) ⟨hx, hb, hml, hown, hts⟩ (c_X1_oneIf l _ false) (va_cwS 1 hts (kg_S mw176 mw177 mw42 rfl mw178) rfl rfl rfl hdS_X1_oneIf ⟨Nat.le_of_ble_eq_true rfl, Nat.le_of_ble_eq_true rfl⟩) ⟨fun a U g mk q => q, fun U hU hW => ⟨rfl, hU⟩⟩ rfl rfl hl.1 rfl (lv_room (Nat.le_of_ble_eq_true rfl)) dX1_orderTold_64 ⟨Nat.le_of_ble_eq_true rfl, Nat.le_of_ble_eq_true rfl⟩) ?_
      exact W.iret (v := iZ 0) hx hb hr (fun t ht hW => ⟨congrArg (fun z : Int => Outcome.returned (some (Value.int (iZ z)))) (show 0 = (ordT a0 b0 w0) from by unfold ordT; (try unfold bZ); (repeat' split) <;> first | omega | simp_all), ht⟩) (fun q h => by cases h) dX1_orderTold_67
    · refine lv_iconst (v := iZ 1) hx hb dX1_orderTold_59 rfl ?_
      refine lv_goto (tgt := 64) hx hb dX1_orderTold_60 (by decide) ?_
      refine kc0 (fun _ q => q) (va_runS (As := [.int (iZ (bZ true))]) (rest := []) ⟨hx, hb, hml, hown, hts⟩ (c_X1_oneIf l _ true) (va_cwS 1 hts (kg_S mw176 mw177 mw42 rfl mw178) rfl rfl rfl hdS_X1_oneIf ⟨Nat.le_of_ble_eq_true rfl, Nat.le_of_ble_eq_true rfl⟩) ⟨fun a U g mk q => q, fun U hU hW => ⟨rfl, hU⟩⟩ rfl rfl hl.1 rfl (lv_room (Nat.le_of_ble_eq_true rfl)) dX1_orderTold_64 ⟨Nat.le_of_ble_eq_true rfl, Nat.le_of_ble_eq_true rfl⟩) ?_
      exact W.iret (v := iZ 1) hx hb hr (fun t ht hW => ⟨congrArg (fun z : Int => Outcome.returned (some (Value.int (iZ z)))) (show 1 = (ordT a0 b0 w0) from by unfold ordT; (try unfold bZ); (repeat' split) <;> first | omega | simp_all), ht⟩) (fun q h => by cases h) dX1_orderTold_67
  refine lv_lookup (tgt := 68) (off := 66) hx hb dX1_orderTold_2 (by decide) (by rw [iZ_toInt (z := w0) (by omega)]; exact kz_look2 (by omega) (by omega)) (by decide) ?_
  refine lv_lload_n hx hb dX1_orderTold_68 rfl (lv_at hl 0 rfl) ?_
  refine lv_lload_n hx hb dX1_orderTold_69 rfl (lv_at hl 1 rfl) ?_
  refine kz_lcmp_le (tgt := 78) hx hb (by omega) (by omega) dX1_orderTold_70 dX1_orderTold_71 (by decide) (fun c_6 => ?_) (fun c_6 => ?_)
  · refine lv_iconst (v := iZ 0) hx hb dX1_orderTold_78 rfl ?_
    refine kc0 (fun _ q => q) (va_runS (As := [.int (iZ (bZ false))]) (rest := []) ⟨hx, hb, hml, hown, hts⟩ (c_X1_oneIf l _ false) (va_cwS 1 hts (kg_S mw176 mw177 mw42 rfl mw178) rfl rfl rfl hdS_X1_oneIf ⟨Nat.le_of_ble_eq_true rfl, Nat.le_of_ble_eq_true rfl⟩) ⟨fun a U g mk q => q, fun U hU hW => ⟨rfl, hU⟩⟩ rfl rfl hl.1 rfl (lv_room (Nat.le_of_ble_eq_true rfl)) dX1_orderTold_79 ⟨Nat.le_of_ble_eq_true rfl, Nat.le_of_ble_eq_true rfl⟩) ?_
    exact W.iret (v := iZ 0) hx hb hr (fun t ht hW => ⟨congrArg (fun z : Int => Outcome.returned (some (Value.int (iZ z)))) (show 0 = (ordT a0 b0 w0) from by unfold ordT; (try unfold bZ); (repeat' split) <;> first | omega | simp_all), ht⟩) (fun q h => by cases h) dX1_orderTold_82
  · refine lv_iconst (v := iZ 1) hx hb dX1_orderTold_74 rfl ?_
    refine lv_goto (tgt := 79) hx hb dX1_orderTold_75 (by decide) ?_
    refine kc0 (fun _ q => q) (va_runS (As := [.int (iZ (bZ true))]) (rest := []) ⟨hx, hb, hml, hown, hts⟩ (c_X1_oneIf l _ true) (va_cwS 1 hts (kg_S mw176 mw177 mw42 rfl mw178) rfl rfl rfl hdS_X1_oneIf ⟨Nat.le_of_ble_eq_true rfl, Nat.le_of_ble_eq_true rfl⟩) ⟨fun a U g mk q => q, fun U hU hW => ⟨rfl, hU⟩⟩ rfl rfl hl.1 rfl (lv_room (Nat.le_of_ble_eq_true rfl)) dX1_orderTold_79 ⟨Nat.le_of_ble_eq_true rfl, Nat.le_of_ble_eq_true rfl⟩) ?_
    exact W.iret (v := iZ 1) hx hb hr (fun t ht hW => ⟨congrArg (fun z : Int => Outcome.returned (some (Value.int (iZ z)))) (show 1 = (ordT a0 b0 w0) from by unfold ordT; (try unfold bZ); (repeat' split) <;> first | omega | simp_all), ht⟩) (fun q h => by cases h) dX1_orderTold_82

