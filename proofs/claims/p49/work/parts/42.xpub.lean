def ex2 (A B : Bool) : Int := if A = true then 1 else if B = true then 2 else 0
theorem ex2_1 {A B : Bool} (h : A = true) : ex2 A B = 1 := if_pos h
theorem ex2_2 {A B : Bool} (h : A = false) (h2 : B = true) : ex2 A B = 2 := by unfold ex2; rw [h, h2]; rfl
theorem ex2_0 {A B : Bool} (h : A = false) (h2 : B = false) : ex2 A B = 0 := by unfold ex2; rw [h, h2]; rfl
def kQ2x (P : Prop) (v : Option Value) (C : Heap → Prop) (A : Nat → Prop) : Array Value → State → Outcome → State → Prop := fun _ st oc t => ((oc = .returned v ∧ C t.heap) ∧ va_F A st t) ∧ P
theorem putLr_cnt {y m : Int} (hy : -999999999 ≤ y ∧ y ≤ 999999999) (hm : 1 ≤ m ∧ m ≤ 12) : putLr (12 * y + m - 1) = mlen (leap y) m := by
  unfold putLr
  rw [show inb (12 * y + m - 1) (-11999999988) 11999999999 = true from decide_eq_true (by omega)]
  exact lenOf_cnt (y := y) hm
theorem putLs_cnt {σ : Nat → Nat → Int} {j : Nat} {y m : Int} (hy : -999999999 ≤ y ∧ y ≤ 999999999) (hm : 1 ≤ m ∧ m ≤ 12) : putLs σ j (12 * y + m - 1) = sU (sU σ 0 j y) 1 j m := by
  unfold putLs
  rw [show inb (12 * y + m - 1) (-11999999988) 11999999999 = true from decide_eq_true (by omega), show yearOf (12 * y + m - 1) = y from yearOf_cnt (y := y) hm, show monOf (12 * y + m - 1) = m from monOf_cnt (y := y) hm]
  rfl
theorem putYr_in {y : Int} (hy : -999999999 ≤ y ∧ y ≤ 999999999) : putYr y = ylen y := by unfold putYr; rw [show inb y (-999999999) 999999999 = true from decide_eq_true (by omega)]; rfl
theorem putYs_in {σ : Nat → Nat → Int} {j : Nat} {y : Int} (hy : -999999999 ≤ y ∧ y ≤ 999999999) : putYs σ j y = sU σ 2 j y := by unfold putYs; rw [show inb y (-999999999) 999999999 = true from decide_eq_true (by omega)]; rfl
theorem kmul_rng {a b : Int} (ha : -2147483648 ≤ a ∧ a < 2147483648) (hb : -2147483648 ≤ b ∧ b < 2147483648) : -9223372036854775808 ≤ a * b ∧ a * b < 9223372036854775808 := by
  have h1 : a.natAbs * b.natAbs ≤ 2147483648 * 2147483648 := Nat.mul_le_mul (by omega) (by omega)
  have h2 : (a * b).natAbs = a.natAbs * b.natAbs := Int.natAbs_mul a b
  omega
theorem kmul_u {a u : Int} (ha : -2147483648 ≤ a ∧ a < 2147483648) : -100000000000000 ≤ a * usize u ∧ a * usize u ≤ 100000000000000 := by
  have h0 := usize_rng u
  have h1 : a.natAbs * (usize u).natAbs ≤ 2147483648 * 12000 := Nat.mul_le_mul (by omega) (by omega)
  have h2 : (a * usize u).natAbs = a.natAbs * (usize u).natAbs := Int.natAbs_mul a (usize u)
  omega
theorem noThing_iff {w v : Int} : noThing w v = true ↔ (w = 0 ∧ ¬ (1 ≤ v ∧ v ≤ 12)) ∨ (w = 1 ∧ ¬ (-999999999 ≤ v ∧ v ≤ 999999999)) ∨ (w = 2 ∧ ¬ (1 ≤ v ∧ v ≤ 999999999)) ∨ (w = 3 ∧ ¬ (0 ≤ v ∧ v ≤ 1)) := by
  unfold noThing inb
  (repeat' split) <;> simp <;> omega
theorem noThing_niff {w v : Int} : noThing w v = false ↔ ¬ ((w = 0 ∧ ¬ (1 ≤ v ∧ v ≤ 12)) ∨ (w = 1 ∧ ¬ (-999999999 ≤ v ∧ v ≤ 999999999)) ∨ (w = 2 ∧ ¬ (1 ≤ v ∧ v ≤ 999999999)) ∨ (w = 3 ∧ ¬ (0 ≤ v ∧ v ≤ 1))) := by
  rw [← noThing_iff]; cases noThing w v <;> simp
def yus (u : Int) : Int := if u = 1 then 1 else if u = 2 then 10 else if u = 3 then 100 else 1000
theorem yus_usize {u : Int} (h : 1 ≤ u ∧ u ≤ 4) (a : Int) : tq (a * usize u) 12 = a * yus u := by
  have h2 : usize u = 12 * yus u := by unfold usize yus; (repeat' split) <;> omega
  rw [h2, Int.mul_left_comm]
  have h3 := tq_floor (x := 12 * (a * yus u)) (y := 12) (by omega)
  by_cases h4 : 0 ≤ 12 * (a * yus u)
  · rw [← h3.1 h4, Int.mul_ediv_cancel_left _ (by omega)]
  · obtain ⟨h5, h6⟩ := h3.2 (by omega)
    by_cases h7 : tq (12 * (a * yus u)) 12 * 12 = 12 * (a * yus u)
    · omega
    · have h8 := (h6 h7).2
      have h9 : 12 * (a * yus u) % 12 = 0 := Int.mul_emod_right _ _
      have h10 := (tq_mul (x := 12 * (a * yus u)) (y := 12) (by omega)).2 (by omega)
      omega
abbrev ww_X1_leaf : List Cond := .code yX1_leaf cX1_leaf 4 (some .int) :: gT
set_option maxHeartbeats 4000000 in
set_option maxRecDepth 100000 in
theorem c_X1_leaf (l : Launch) (hst : l.stackTraces = false) (dC : Nat → ClassId) (dI : Nat → Nat → Nat) (dA : Nat → ClassId) (k : Nat → Nat) (q : Nat → Nat) (σ : Nat → Nat → Int) (H0 : Heap) (hG : gX dC dI dA q σ H0) (hOK : kOK σ) (hq : kQI q k) (z1 : Int) (yy : Int) (mo : Int) (rz1 : -2147483648 ≤ z1 ∧ z1 < 2147483648) (ryy : -2147483648 ≤ yy ∧ yy < 2147483648) (rmo : -2147483648 ≤ mo ∧ mo < 2147483648) : vx_Met l yX1_leaf ww_X1_leaf ({ frames := 10, cells := 3, slots := 18, locals := 342 }) (va_Pc [.ref (q 0), .int (iZ z1), .int (iZ yy), .int (iZ mo)] (fun U => U.heap = H0 ∧ kM dC dI dA k U)) (kQ2x (ex2 (!inb z1 0 3) (!inb yy (-999999999) 999999999 || !inb mo 1 12) = 0) (some (.int (iZ (mlen (leap yy) mo)))) (gX dC dI dA q (sU (sU σ 0 z1.toNat yy) 1 z1.toNat mo)) (kA q H0.size)) (kXC (fun E => (ex2 (!inb z1 0 3) (!inb yy (-999999999) 999999999 || !inb mo 1 12) = 1 ∧ E = "java/lang/IndexOutOfBoundsException") ∨ (ex2 (!inb z1 0 3) (!inb yy (-999999999) 999999999 || !inb mo 1 12) = 2 ∧ E = "java/lang/IllegalArgumentException"))) 3 18 (kA q H0.size) := by
  refine vx_ofW (cc := cX1_leaf) (maxL := 4) (ret := (some .int)) (by decide) rfl ?_
  intro p e s m args below meth c s₁ B hml hno hv
  obtain ⟨rfl, hH, hM⟩ := hv
  subst hH
  have hB := hM.2.1
  obtain ⟨tb, tn, tm, htn, hfit, htm, hP⟩ := hG
  have hS : va_S (kA q s.heap.size) s.heap s.heap [] := va_S.rf
  have hx := B.exec
  have hb := B.bytes
  have hr := B.returns
  have hts := atoms_spec (ws := ww_X1_leaf) B.pre
  have hown : s.vm.findClass RX1 = some m.cls := findClass_of_methodNamed B.named
  have hlocks := B.notSynchronized
  have hl := lv_entry ([.ref (q 0), .int (iZ z1), .int (iZ yy), .int (iZ mo)]) (n := 4) (Nat.le_of_ble_eq_true rfl)
  rw [lg_entry_eq]
  generalize (lg_sl ([.ref (q 0), .int (iZ z1), .int (iZ yy), .int (iZ mo)]) ++ List.replicate (4 - (lg_sl ([.ref (q 0), .int (iZ z1), .int (iZ yy), .int (iZ mo)])).length) Slot.unset).toArray = ls at hl ⊢
  have hl : lv_has ls 4 [(0, .ref (q 0)), (1, .int (iZ z1)), (2, .int (iZ yy)), (3, .int (iZ mo))] := hl
  refine lv_iload_n hx hb dX1_leaf_0 rfl (lv_at hl 1 rfl) ?_
  refine kcxo (fun _ q => q) (vx_runS (As := [.int (iZ z1)]) (rest := []) ⟨hx, hb, hml, hown, hts⟩ (c_X1_needPlace l hst k _ (z1) (by omega)) (va_cwS 1 hts (kg_S mw224 mw225 mw42 rfl mw226) rfl rfl rfl hdS_X1_needPlace ⟨Nat.le_of_ble_eq_true rfl, Nat.le_of_ble_eq_true rfl⟩) ⟨fun a U g mk q => ⟨q.1, q.2.1, kB_call q.2.2⟩, fun U hU hW => ⟨rfl, hU, kB_same hB hU hW⟩⟩ rfl rfl hl.1 rfl (lv_room (Nat.le_of_ble_eq_true rfl)) dX1_leaf_1 ⟨Nat.le_of_ble_eq_true rfl, Nat.le_of_ble_eq_true rfl⟩) hno hlocks (fun E h => Or.inl ⟨ex2_1 (by have h9 := h.2; (simp only [inb, noThing_iff, noThing_niff, Bool.not_eq_true', Bool.not_eq_false', Bool.or_eq_true, Bool.or_eq_false_iff, decide_eq_true_eq, decide_eq_false_iff_not] <;> omega)), h.1⟩) (Nat.le_of_ble_eq_true rfl) (Nat.le_of_ble_eq_true rfl) (fun g_1 => ?_)
  have g_1 : 0 ≤ (z1) ∧ (z1) ≤ 3 := g_1
  obtain ⟨p1, hp1, rfl⟩ : ∃ p1 : Nat, p1 < 4 ∧ z1 = (p1 : Int) := ⟨z1.toNat, by omega, by omega⟩
  have o_p1 := kOKr hOK hp1
  refine lv_iload_n hx hb dX1_leaf_4 rfl (lv_at hl 2 rfl) ?_
  refine kcxo (fun _ q => q) (vx_runS (As := [.int (iZ yy)]) (rest := []) ⟨hx, hb, hml, hown, hts⟩ (c_X1_needYearNumber l hst k _ (yy) (by omega)) (va_cwS 1 hts (kg_S mw610 mw611 mw42 rfl mw612) rfl rfl rfl hdS_X1_needYearNumber ⟨Nat.le_of_ble_eq_true rfl, Nat.le_of_ble_eq_true rfl⟩) ⟨fun a U g mk q => ⟨q.1, q.2.1, kB_call q.2.2⟩, fun U hU hW => ⟨rfl, hU, kB_same hB hU hW⟩⟩ rfl rfl hl.1 rfl (lv_room (Nat.le_of_ble_eq_true rfl)) dX1_leaf_5 ⟨Nat.le_of_ble_eq_true rfl, Nat.le_of_ble_eq_true rfl⟩) hno hlocks (fun E h => Or.inr ⟨ex2_2 (by (simp only [inb, noThing_iff, noThing_niff, Bool.not_eq_true', Bool.not_eq_false', Bool.or_eq_true, Bool.or_eq_false_iff, decide_eq_true_eq, decide_eq_false_iff_not] <;> omega)) (by have h9 := h.2; (simp only [inb, noThing_iff, noThing_niff, Bool.not_eq_true', Bool.not_eq_false', Bool.or_eq_true, Bool.or_eq_false_iff, decide_eq_true_eq, decide_eq_false_iff_not] <;> omega)), h.1⟩) (Nat.le_of_ble_eq_true rfl) (Nat.le_of_ble_eq_true rfl) (fun g_2 => ?_)
  have g_2 : -999999999 ≤ (yy) ∧ (yy) ≤ 999999999 := g_2
  refine lv_iload_n hx hb dX1_leaf_8 rfl (lv_at hl 3 rfl) ?_
  refine kcxo (fun _ q => q) (vx_runS (As := [.int (iZ mo)]) (rest := []) ⟨hx, hb, hml, hown, hts⟩ (c_X1_needMonth l hst k _ (mo) (by omega)) (va_cwS 1 hts (kg_S mw613 mw614 mw42 rfl mw615) rfl rfl rfl hdS_X1_needMonth ⟨Nat.le_of_ble_eq_true rfl, Nat.le_of_ble_eq_true rfl⟩) ⟨fun a U g mk q => ⟨q.1, q.2.1, kB_call q.2.2⟩, fun U hU hW => ⟨rfl, hU, kB_same hB hU hW⟩⟩ rfl rfl hl.1 rfl (lv_room (Nat.le_of_ble_eq_true rfl)) dX1_leaf_9 ⟨Nat.le_of_ble_eq_true rfl, Nat.le_of_ble_eq_true rfl⟩) hno hlocks (fun E h => Or.inr ⟨ex2_2 (by (simp only [inb, noThing_iff, noThing_niff, Bool.not_eq_true', Bool.not_eq_false', Bool.or_eq_true, Bool.or_eq_false_iff, decide_eq_true_eq, decide_eq_false_iff_not] <;> omega)) (by have h9 := h.2; (simp only [inb, noThing_iff, noThing_niff, Bool.not_eq_true', Bool.not_eq_false', Bool.or_eq_true, Bool.or_eq_false_iff, decide_eq_true_eq, decide_eq_false_iff_not] <;> omega)), h.1⟩) (Nat.le_of_ble_eq_true rfl) (Nat.le_of_ble_eq_true rfl) (fun g_3 => ?_)
  have g_3 : 1 ≤ (mo) ∧ (mo) ≤ 12 := g_3
  refine lv_aload_n hx hb dX1_leaf_12 rfl (lv_at hl 0 rfl) ?_
  refine lv_iload_n hx hb dX1_leaf_13 rfl (lv_at hl 1 rfl) ?_
  refine lv_iload_n hx hb dX1_leaf_14 rfl (lv_at hl 2 rfl) ?_
  refine lv_iload_n hx hb dX1_leaf_15 rfl (lv_at hl 3 rfl) ?_
  refine kc0 (fun _ q => q) (va_runS (As := [.int (iZ yy), .int (iZ mo)]) (rest := [.int (iZ ((p1 : Nat) : Int)), .ref (q 0)]) ⟨hx, hb, hml, hown, hts⟩ (c_X0_countOf l _ (yy) (mo) (by omega) (by omega)) (va_cwS 2 hts (kg_S mw154 mw155 mw51 rfl mw156) rfl rfl rfl hdS_X0_countOf ⟨Nat.le_of_ble_eq_true rfl, Nat.le_of_ble_eq_true rfl⟩) ⟨fun a U g mk q => q, fun U hU hW => ⟨rfl, hU⟩⟩ rfl rfl hl.1 rfl (lv_room (Nat.le_of_ble_eq_true rfl)) dX1_leaf_16 ⟨Nat.le_of_ble_eq_true rfl, Nat.le_of_ble_eq_true rfl⟩) ?_
  refine kc2 (va_runV (As := [.int (iZ ((p1 : Nat) : Int)), .long (lZ (12 * ((yy)) + ((mo)) - 1))]) (rest := []) ⟨hx, hb, hml, hown, hts⟩ (c_X1_putLeaf l dC dI dA k q (σ) _ ⟨tb, tn, tm, htn, hfit, htm, hP⟩ (hOK) hq p1 ((12 * ((yy)) + ((mo)) - 1)) hp1 (by omega)) (cwV 2 hts (kg_V mw616 mw617 mw19 mw42 rfl mw618) rfl rfl rfl hdV_X1_putLeaf ⟨Nat.le_of_ble_eq_true rfl, Nat.le_of_ble_eq_true rfl⟩) ⟨fun a U g mk q => ⟨q.1, q.2.1, kM_call q.2.2⟩, va_recv hM.1 hP (ci := 4) (q0 := 0) rfl rfl, fun U hU hW => ⟨rfl, hU, kM_kept hM hS (kA_N hq hM.2.1.1) hU hW⟩⟩ rfl rfl hl.1 rfl (lv_room (Nat.le_of_ble_eq_true rfl)) dX1_leaf_19 ⟨Nat.le_of_ble_eq_true rfl, Nat.le_of_ble_eq_true rfl⟩) hS (fun a _ h => kA_up hS.1 a h) (fun a h => kA_up hS.1 a h) (fun H locs hG hz9 hk9 hS => ?_)
  obtain ⟨tb, tn, tm, htn, hfit, htm, hP⟩ := hG
  refine W.widen (k := 3) (n := 18) (Nat.le_of_ble_eq_true rfl) (Nat.le_of_ble_eq_true rfl) ?_
  refine vx_ret ?_
  exact W.iret (v := iZ (putLr (((12 * ((yy)) + ((mo)) - 1))))) hx hb hr (fun t ht hW => ⟨⟨⟨congrArg (fun z : Int => Outcome.returned (some (Value.int (iZ z)))) (show (putLr (((12 * ((yy)) + ((mo)) - 1)))) = (mlen (leap yy) mo) from by exact putLr_cnt (by omega) (by omega)), gX_cast ⟨tb, tn, tm, htn, hfit, htm, by rw [ht]; exact hP⟩ (show (putLs σ p1 (((12 * ((yy)) + ((mo)) - 1)))) = (sU (sU σ 0 p1 yy) 1 p1 mo) from by exact putLs_cnt (by omega) (by omega))⟩, hS.F ht⟩, ex2_0 (by (simp only [inb, noThing_iff, noThing_niff, Bool.not_eq_true', Bool.not_eq_false', Bool.or_eq_true, Bool.or_eq_false_iff, decide_eq_true_eq, decide_eq_false_iff_not] <;> omega)) (by (simp only [inb, noThing_iff, noThing_niff, Bool.not_eq_true', Bool.not_eq_false', Bool.or_eq_true, Bool.or_eq_false_iff, decide_eq_true_eq, decide_eq_false_iff_not] <;> omega))⟩) hS.2.2 dX1_leaf_22

abbrev ww_X1_leafRound : List Cond := .code yX1_leafRound cX1_leafRound 5 (some .int) :: gT
set_option maxHeartbeats 4000000 in
set_option maxRecDepth 100000 in
theorem c_X1_leafRound (l : Launch) (hst : l.stackTraces = false) (dC : Nat → ClassId) (dI : Nat → Nat → Nat) (dA : Nat → ClassId) (k : Nat → Nat) (q : Nat → Nat) (σ : Nat → Nat → Int) (H0 : Heap) (hG : gX dC dI dA q σ H0) (hOK : kOK σ) (hq : kQI q k) (z1 : Int) (yy : Int) (mm : Int) (rz1 : -2147483648 ≤ z1 ∧ z1 < 2147483648) (ryy : -2147483648 ≤ yy ∧ yy < 2147483648) (rmm : -2147483648 ≤ mm ∧ mm < 2147483648) : vx_Met l yX1_leafRound ww_X1_leafRound ({ frames := 10, cells := 2, slots := 12, locals := 342 }) (va_Pc [.ref (q 0), .int (iZ z1), .int (iZ yy), .int (iZ mm)] (fun U => U.heap = H0 ∧ kM dC dI dA k U)) (kQ2x (ex2 (!inb z1 0 3) (!inb yy (-999999999) 999999999) = 0) (some (.int (iZ (1 + mm % 12)))) (gX dC dI dA q (sU (sU σ 0 z1.toNat yy) 1 z1.toNat (1 + mm % 12))) (kA q H0.size)) (kXC (fun E => (ex2 (!inb z1 0 3) (!inb yy (-999999999) 999999999) = 1 ∧ E = "java/lang/IndexOutOfBoundsException") ∨ (ex2 (!inb z1 0 3) (!inb yy (-999999999) 999999999) = 2 ∧ E = "java/lang/IllegalArgumentException"))) 2 12 (kA q H0.size) := by
  refine vx_ofW (cc := cX1_leafRound) (maxL := 5) (ret := (some .int)) (by decide) rfl ?_
  intro p e s m args below meth c s₁ B hml hno hv
  obtain ⟨rfl, hH, hM⟩ := hv
  subst hH
  have hB := hM.2.1
  obtain ⟨tb, tn, tm, htn, hfit, htm, hP⟩ := hG
  have hS : va_S (kA q s.heap.size) s.heap s.heap [] := va_S.rf
  have hx := B.exec
  have hb := B.bytes
  have hr := B.returns
  have hts := atoms_spec (ws := ww_X1_leafRound) B.pre
  have hown : s.vm.findClass RX1 = some m.cls := findClass_of_methodNamed B.named
  have hlocks := B.notSynchronized
  have hl := lv_entry ([.ref (q 0), .int (iZ z1), .int (iZ yy), .int (iZ mm)]) (n := 5) (Nat.le_of_ble_eq_true rfl)
  rw [lg_entry_eq]
  generalize (lg_sl ([.ref (q 0), .int (iZ z1), .int (iZ yy), .int (iZ mm)]) ++ List.replicate (5 - (lg_sl ([.ref (q 0), .int (iZ z1), .int (iZ yy), .int (iZ mm)])).length) Slot.unset).toArray = ls at hl ⊢
  have hl : lv_has ls 5 [(0, .ref (q 0)), (1, .int (iZ z1)), (2, .int (iZ yy)), (3, .int (iZ mm))] := hl
  refine lv_iload_n hx hb dX1_leafRound_0 rfl (lv_at hl 1 rfl) ?_
  refine kcxo (fun _ q => q) (vx_runS (As := [.int (iZ z1)]) (rest := []) ⟨hx, hb, hml, hown, hts⟩ (c_X1_needPlace l hst k _ (z1) (by omega)) (va_cwS 1 hts (kg_S mw224 mw225 mw42 rfl mw226) rfl rfl rfl hdS_X1_needPlace ⟨Nat.le_of_ble_eq_true rfl, Nat.le_of_ble_eq_true rfl⟩) ⟨fun a U g mk q => ⟨q.1, q.2.1, kB_call q.2.2⟩, fun U hU hW => ⟨rfl, hU, kB_same hB hU hW⟩⟩ rfl rfl hl.1 rfl (lv_room (Nat.le_of_ble_eq_true rfl)) dX1_leafRound_1 ⟨Nat.le_of_ble_eq_true rfl, Nat.le_of_ble_eq_true rfl⟩) hno hlocks (fun E h => Or.inl ⟨ex2_1 (by have h9 := h.2; (simp only [inb, noThing_iff, noThing_niff, Bool.not_eq_true', Bool.not_eq_false', Bool.or_eq_true, Bool.or_eq_false_iff, decide_eq_true_eq, decide_eq_false_iff_not] <;> omega)), h.1⟩) (Nat.le_of_ble_eq_true rfl) (Nat.le_of_ble_eq_true rfl) (fun g_1 => ?_)
  have g_1 : 0 ≤ (z1) ∧ (z1) ≤ 3 := g_1
  obtain ⟨p1, hp1, rfl⟩ : ∃ p1 : Nat, p1 < 4 ∧ z1 = (p1 : Int) := ⟨z1.toNat, by omega, by omega⟩
  have o_p1 := kOKr hOK hp1
  refine lv_iload_n hx hb dX1_leafRound_4 rfl (lv_at hl 2 rfl) ?_
  refine kcxo (fun _ q => q) (vx_runS (As := [.int (iZ yy)]) (rest := []) ⟨hx, hb, hml, hown, hts⟩ (c_X1_needYearNumber l hst k _ (yy) (by omega)) (va_cwS 1 hts (kg_S mw610 mw611 mw42 rfl mw612) rfl rfl rfl hdS_X1_needYearNumber ⟨Nat.le_of_ble_eq_true rfl, Nat.le_of_ble_eq_true rfl⟩) ⟨fun a U g mk q => ⟨q.1, q.2.1, kB_call q.2.2⟩, fun U hU hW => ⟨rfl, hU, kB_same hB hU hW⟩⟩ rfl rfl hl.1 rfl (lv_room (Nat.le_of_ble_eq_true rfl)) dX1_leafRound_5 ⟨Nat.le_of_ble_eq_true rfl, Nat.le_of_ble_eq_true rfl⟩) hno hlocks (fun E h => Or.inr ⟨ex2_2 (by (simp only [inb, noThing_iff, noThing_niff, Bool.not_eq_true', Bool.not_eq_false', Bool.or_eq_true, Bool.or_eq_false_iff, decide_eq_true_eq, decide_eq_false_iff_not] <;> omega)) (by have h9 := h.2; (simp only [inb, noThing_iff, noThing_niff, Bool.not_eq_true', Bool.not_eq_false', Bool.or_eq_true, Bool.or_eq_false_iff, decide_eq_true_eq, decide_eq_false_iff_not] <;> omega)), h.1⟩) (Nat.le_of_ble_eq_true rfl) (Nat.le_of_ble_eq_true rfl) (fun g_2 => ?_)
  have g_2 : -999999999 ≤ (yy) ∧ (yy) ≤ 999999999 := g_2
  refine lv_iload_n hx hb dX1_leafRound_8 rfl (lv_at hl 3 rfl) ?_
  refine kc0 (fun _ q => q) (va_runS (As := [.int (iZ mm)]) (rest := []) ⟨hx, hb, hml, hown, hts⟩ (c_X0_monthBehindFirst l _ (mm) (by omega)) (va_cwS 1 hts (kg_S mw627 mw628 mw51 rfl mw629) rfl rfl rfl hdS_X0_monthBehindFirst ⟨Nat.le_of_ble_eq_true rfl, Nat.le_of_ble_eq_true rfl⟩) ⟨fun a U g mk q => q, fun U hU hW => ⟨rfl, hU⟩⟩ rfl rfl hl.1 rfl (lv_room (Nat.le_of_ble_eq_true rfl)) dX1_leafRound_9 ⟨Nat.le_of_ble_eq_true rfl, Nat.le_of_ble_eq_true rfl⟩) ?_
  refine lv_istore (lv' := [(4, .int (iZ (1 + ((mm)) % 12))), (0, .ref (q 0)), (1, .int (iZ ((p1 : Nat) : Int))), (2, .int (iZ yy)), (3, .int (iZ mm))]) hx hb dX1_leafRound_12 hl (by decide) rfl (fun ls hl => ?_)
  refine lv_aload_n hx hb dX1_leafRound_14 rfl (lv_at hl 1 rfl) ?_
  refine lv_iload_n hx hb dX1_leafRound_15 rfl (lv_at hl 2 rfl) ?_
  refine lv_iload_n hx hb dX1_leafRound_16 rfl (lv_at hl 3 rfl) ?_
  refine lv_iload hx hb dX1_leafRound_17 (lv_at hl 0 rfl) ?_
  refine kc0 (fun _ q => q) (va_runS (As := [.int (iZ yy), .int (iZ (1 + ((mm)) % 12))]) (rest := [.int (iZ ((p1 : Nat) : Int)), .ref (q 0)]) ⟨hx, hb, hml, hown, hts⟩ (c_X0_countOf l _ (yy) ((1 + ((mm)) % 12)) (by omega) (by omega)) (va_cwS 2 hts (kg_S mw154 mw155 mw51 rfl mw156) rfl rfl rfl hdS_X0_countOf ⟨Nat.le_of_ble_eq_true rfl, Nat.le_of_ble_eq_true rfl⟩) ⟨fun a U g mk q => q, fun U hU hW => ⟨rfl, hU⟩⟩ rfl rfl hl.1 rfl (lv_room (Nat.le_of_ble_eq_true rfl)) dX1_leafRound_19 ⟨Nat.le_of_ble_eq_true rfl, Nat.le_of_ble_eq_true rfl⟩) ?_
  refine kc2 (va_runV (As := [.int (iZ ((p1 : Nat) : Int)), .long (lZ (12 * ((yy)) + (((1 + ((mm)) % 12))) - 1))]) (rest := []) ⟨hx, hb, hml, hown, hts⟩ (c_X1_putLeaf l dC dI dA k q (σ) _ ⟨tb, tn, tm, htn, hfit, htm, hP⟩ (hOK) hq p1 ((12 * ((yy)) + (((1 + ((mm)) % 12))) - 1)) hp1 (by omega)) (cwV 2 hts (kg_V mw616 mw617 mw19 mw42 rfl mw618) rfl rfl rfl hdV_X1_putLeaf ⟨Nat.le_of_ble_eq_true rfl, Nat.le_of_ble_eq_true rfl⟩) ⟨fun a U g mk q => ⟨q.1, q.2.1, kM_call q.2.2⟩, va_recv hM.1 hP (ci := 4) (q0 := 0) rfl rfl, fun U hU hW => ⟨rfl, hU, kM_kept hM hS (kA_N hq hM.2.1.1) hU hW⟩⟩ rfl rfl hl.1 rfl (lv_room (Nat.le_of_ble_eq_true rfl)) dX1_leafRound_22 ⟨Nat.le_of_ble_eq_true rfl, Nat.le_of_ble_eq_true rfl⟩) hS (fun a _ h => kA_up hS.1 a h) (fun a h => kA_up hS.1 a h) (fun H locs hG hz9 hk9 hS => ?_)
  obtain ⟨tb, tn, tm, htn, hfit, htm, hP⟩ := hG
  refine lv_pop hx hb dX1_leafRound_25 rfl ?_
  refine lv_iload hx hb dX1_leafRound_26 (lv_at hl 0 rfl) ?_
  refine W.widen (k := 2) (n := 12) (Nat.le_of_ble_eq_true rfl) (Nat.le_of_ble_eq_true rfl) ?_
  refine vx_ret ?_
  exact W.iret (v := iZ (1 + ((mm)) % 12)) hx hb hr (fun t ht hW => ⟨⟨⟨congrArg (fun z : Int => Outcome.returned (some (Value.int (iZ z)))) (show (1 + ((mm)) % 12) = (1 + mm % 12) from by rfl), gX_cast ⟨tb, tn, tm, htn, hfit, htm, by rw [ht]; exact hP⟩ (show (putLs σ p1 (((12 * ((yy)) + (((1 + ((mm)) % 12))) - 1)))) = (sU (sU σ 0 p1 yy) 1 p1 (1 + mm % 12)) from by exact putLs_cnt (by omega) (by omega))⟩, hS.F ht⟩, ex2_0 (by (simp only [inb, noThing_iff, noThing_niff, Bool.not_eq_true', Bool.not_eq_false', Bool.or_eq_true, Bool.or_eq_false_iff, decide_eq_true_eq, decide_eq_false_iff_not] <;> omega)) (by (simp only [inb, noThing_iff, noThing_niff, Bool.not_eq_true', Bool.not_eq_false', Bool.or_eq_true, Bool.or_eq_false_iff, decide_eq_true_eq, decide_eq_false_iff_not] <;> omega))⟩) hS.2.2 dX1_leafRound_28

abbrev ww_X1_months : List Cond := .code yX1_months cX1_months 4 (some .int) :: gT
set_option maxHeartbeats 4000000 in
set_option maxRecDepth 100000 in
theorem c_X1_months (l : Launch) (hst : l.stackTraces = false) (dC : Nat → ClassId) (dI : Nat → Nat → Nat) (dA : Nat → ClassId) (k : Nat → Nat) (q : Nat → Nat) (σ : Nat → Nat → Int) (H0 : Heap) (hG : gX dC dI dA q σ H0) (hOK : kOK σ) (hq : kQI q k) (z1 : Int) (mm : Int) (bb : Bool) (rz1 : -2147483648 ≤ z1 ∧ z1 < 2147483648) (rmm : -2147483648 ≤ mm ∧ mm < 2147483648) : vx_Met l yX1_months ww_X1_months ({ frames := 9, cells := 1, slots := 6, locals := 320 }) (va_Pc [.ref (q 0), .int (iZ z1), .int (iZ mm), .int (iZ (bZ (bb)))] (fun U => U.heap = H0 ∧ kM dC dI dA k U)) (kQ2x (ex2 (!inb z1 0 3) (false) = 0) (some (.int (iZ (putLr (cnt (σ 0 (z1.toNat)) (σ 1 (z1.toNat)) + sgn mm bb))))) (gX dC dI dA q (putLs σ (z1.toNat) (cnt (σ 0 (z1.toNat)) (σ 1 (z1.toNat)) + sgn mm bb))) (kA q H0.size)) (kXC (fun E => (ex2 (!inb z1 0 3) (false) = 1 ∧ E = "java/lang/IndexOutOfBoundsException") ∨ (ex2 (!inb z1 0 3) (false) = 2 ∧ E = "java/lang/IllegalArgumentException"))) 1 6 (kA q H0.size) := by
  refine vx_ofW (cc := cX1_months) (maxL := 4) (ret := (some .int)) (by decide) rfl ?_
  intro p e s m args below meth c s₁ B hml hno hv
  obtain ⟨rfl, hH, hM⟩ := hv
  subst hH
  have hB := hM.2.1
  obtain ⟨tb, tn, tm, htn, hfit, htm, hP⟩ := hG
  have hS : va_S (kA q s.heap.size) s.heap s.heap [] := va_S.rf
  have hx := B.exec
  have hb := B.bytes
  have hr := B.returns
  have hts := atoms_spec (ws := ww_X1_months) B.pre
  have hown : s.vm.findClass RX1 = some m.cls := findClass_of_methodNamed B.named
  have hlocks := B.notSynchronized
  have hl := lv_entry ([.ref (q 0), .int (iZ z1), .int (iZ mm), .int (iZ (bZ (bb)))]) (n := 4) (Nat.le_of_ble_eq_true rfl)
  rw [lg_entry_eq]
  generalize (lg_sl ([.ref (q 0), .int (iZ z1), .int (iZ mm), .int (iZ (bZ (bb)))]) ++ List.replicate (4 - (lg_sl ([.ref (q 0), .int (iZ z1), .int (iZ mm), .int (iZ (bZ (bb)))])).length) Slot.unset).toArray = ls at hl ⊢
  have hl : lv_has ls 4 [(0, .ref (q 0)), (1, .int (iZ z1)), (2, .int (iZ mm)), (3, .int (iZ (bZ (bb))))] := hl
  refine lv_iload_n hx hb dX1_months_0 rfl (lv_at hl 1 rfl) ?_
  refine kcxo (fun _ q => q) (vx_runS (As := [.int (iZ z1)]) (rest := []) ⟨hx, hb, hml, hown, hts⟩ (c_X1_needPlace l hst k _ (z1) (by omega)) (va_cwS 1 hts (kg_S mw224 mw225 mw42 rfl mw226) rfl rfl rfl hdS_X1_needPlace ⟨Nat.le_of_ble_eq_true rfl, Nat.le_of_ble_eq_true rfl⟩) ⟨fun a U g mk q => ⟨q.1, q.2.1, kB_call q.2.2⟩, fun U hU hW => ⟨rfl, hU, kB_same hB hU hW⟩⟩ rfl rfl hl.1 rfl (lv_room (Nat.le_of_ble_eq_true rfl)) dX1_months_1 ⟨Nat.le_of_ble_eq_true rfl, Nat.le_of_ble_eq_true rfl⟩) hno hlocks (fun E h => Or.inl ⟨ex2_1 (by have h9 := h.2; (simp only [inb, noThing_iff, noThing_niff, Bool.not_eq_true', Bool.not_eq_false', Bool.or_eq_true, Bool.or_eq_false_iff, decide_eq_true_eq, decide_eq_false_iff_not] <;> omega)), h.1⟩) (Nat.le_of_ble_eq_true rfl) (Nat.le_of_ble_eq_true rfl) (fun g_1 => ?_)
  have g_1 : 0 ≤ (z1) ∧ (z1) ≤ 3 := g_1
  obtain ⟨p1, hp1, rfl⟩ : ∃ p1 : Nat, p1 < 4 ∧ z1 = (p1 : Int) := ⟨z1.toNat, by omega, by omega⟩
  have o_p1 := kOKr hOK hp1
  refine lv_aload_n hx hb dX1_months_4 rfl (lv_at hl 0 rfl) ?_
  refine lv_iload_n hx hb dX1_months_5 rfl (lv_at hl 1 rfl) ?_
  refine lv_iload_n hx hb dX1_months_6 rfl (lv_at hl 2 rfl) ?_
  refine kz_i2l hx hb (by omega) dX1_months_7 ?_
  refine lv_iload_n hx hb dX1_months_8 rfl (lv_at hl 3 rfl) ?_
  refine kc2 (va_runV (As := [.int (iZ ((p1 : Nat) : Int)), .long (lZ (mm)), .int (iZ (bZ (bb)))]) (rest := []) ⟨hx, hb, hml, hown, hts⟩ (c_X1_moveLeaf l dC dI dA k q (σ) _ ⟨tb, tn, tm, htn, hfit, htm, hP⟩ (hOK) hq p1 (mm) (bb) hp1 (by omega)) (cwV 3 hts (kg_V mw640 mw641 mw20 mw42 rfl mw642) rfl rfl rfl hdV_X1_moveLeaf ⟨Nat.le_of_ble_eq_true rfl, Nat.le_of_ble_eq_true rfl⟩) ⟨fun a U g mk q => ⟨q.1, q.2.1, kM_call q.2.2⟩, va_recv hM.1 hP (ci := 4) (q0 := 0) rfl rfl, fun U hU hW => ⟨rfl, hU, kM_kept hM hS (kA_N hq hM.2.1.1) hU hW⟩⟩ rfl rfl hl.1 rfl (lv_room (Nat.le_of_ble_eq_true rfl)) dX1_months_9 ⟨Nat.le_of_ble_eq_true rfl, Nat.le_of_ble_eq_true rfl⟩) hS (fun a _ h => kA_up hS.1 a h) (fun a h => kA_up hS.1 a h) (fun H locs hG hz9 hk9 hS => ?_)
  obtain ⟨tb, tn, tm, htn, hfit, htm, hP⟩ := hG
  refine W.widen (k := 1) (n := 6) (Nat.le_of_ble_eq_true rfl) (Nat.le_of_ble_eq_true rfl) ?_
  refine vx_ret ?_
  exact W.iret (v := iZ (putLr (cnt (σ 0 p1) (σ 1 p1) + sgn ((mm)) ((bb))))) hx hb hr (fun t ht hW => ⟨⟨⟨congrArg (fun z : Int => Outcome.returned (some (Value.int (iZ z)))) (show (putLr (cnt (σ 0 p1) (σ 1 p1) + sgn ((mm)) ((bb)))) = (putLr (cnt (σ 0 p1) (σ 1 p1) + sgn mm bb)) from by rfl), gX_cast ⟨tb, tn, tm, htn, hfit, htm, by rw [ht]; exact hP⟩ (show (putLs σ p1 (cnt (σ 0 p1) (σ 1 p1) + sgn ((mm)) ((bb)))) = (putLs σ p1 (cnt (σ 0 p1) (σ 1 p1) + sgn mm bb)) from by rfl)⟩, hS.F ht⟩, ex2_0 (by (simp only [inb, noThing_iff, noThing_niff, Bool.not_eq_true', Bool.not_eq_false', Bool.or_eq_true, Bool.or_eq_false_iff, decide_eq_true_eq, decide_eq_false_iff_not] <;> omega)) (by rfl)⟩) hS.2.2 dX1_months_12

abbrev ww_X1_years : List Cond := .code yX1_years cX1_years 4 (some .int) :: gT
set_option maxHeartbeats 4000000 in
set_option maxRecDepth 100000 in
theorem c_X1_years (l : Launch) (hst : l.stackTraces = false) (dC : Nat → ClassId) (dI : Nat → Nat → Nat) (dA : Nat → ClassId) (k : Nat → Nat) (q : Nat → Nat) (σ : Nat → Nat → Int) (H0 : Heap) (hG : gX dC dI dA q σ H0) (hOK : kOK σ) (hq : kQI q k) (z1 : Int) (mm : Int) (bb : Bool) (rz1 : -2147483648 ≤ z1 ∧ z1 < 2147483648) (rmm : -2147483648 ≤ mm ∧ mm < 2147483648) : vx_Met l yX1_years ww_X1_years ({ frames := 9, cells := 1, slots := 6, locals := 320 }) (va_Pc [.ref (q 0), .int (iZ z1), .int (iZ mm), .int (iZ (bZ (bb)))] (fun U => U.heap = H0 ∧ kM dC dI dA k U)) (kQ2x (ex2 (!inb z1 0 3) (false) = 0) (some (.int (iZ (putLr (cnt (σ 0 (z1.toNat)) (σ 1 (z1.toNat)) + sgn (12 * mm) bb))))) (gX dC dI dA q (putLs σ (z1.toNat) (cnt (σ 0 (z1.toNat)) (σ 1 (z1.toNat)) + sgn (12 * mm) bb))) (kA q H0.size)) (kXC (fun E => (ex2 (!inb z1 0 3) (false) = 1 ∧ E = "java/lang/IndexOutOfBoundsException") ∨ (ex2 (!inb z1 0 3) (false) = 2 ∧ E = "java/lang/IllegalArgumentException"))) 1 6 (kA q H0.size) := by
  refine vx_ofW (cc := cX1_years) (maxL := 4) (ret := (some .int)) (by decide) rfl ?_
  intro p e s m args below meth c s₁ B hml hno hv
  obtain ⟨rfl, hH, hM⟩ := hv
  subst hH
  have hB := hM.2.1
  obtain ⟨tb, tn, tm, htn, hfit, htm, hP⟩ := hG
  have hS : va_S (kA q s.heap.size) s.heap s.heap [] := va_S.rf
  have hx := B.exec
  have hb := B.bytes
  have hr := B.returns
  have hts := atoms_spec (ws := ww_X1_years) B.pre
  have hown : s.vm.findClass RX1 = some m.cls := findClass_of_methodNamed B.named
  have hlocks := B.notSynchronized
  have hl := lv_entry ([.ref (q 0), .int (iZ z1), .int (iZ mm), .int (iZ (bZ (bb)))]) (n := 4) (Nat.le_of_ble_eq_true rfl)
  rw [lg_entry_eq]
  generalize (lg_sl ([.ref (q 0), .int (iZ z1), .int (iZ mm), .int (iZ (bZ (bb)))]) ++ List.replicate (4 - (lg_sl ([.ref (q 0), .int (iZ z1), .int (iZ mm), .int (iZ (bZ (bb)))])).length) Slot.unset).toArray = ls at hl ⊢
  have hl : lv_has ls 4 [(0, .ref (q 0)), (1, .int (iZ z1)), (2, .int (iZ mm)), (3, .int (iZ (bZ (bb))))] := hl
  refine lv_iload_n hx hb dX1_years_0 rfl (lv_at hl 1 rfl) ?_
  refine kcxo (fun _ q => q) (vx_runS (As := [.int (iZ z1)]) (rest := []) ⟨hx, hb, hml, hown, hts⟩ (c_X1_needPlace l hst k _ (z1) (by first | omega | (have := kmul_u (u := 1) rmm; omega))) (va_cwS 1 hts (kg_S mw224 mw225 mw42 rfl mw226) rfl rfl rfl hdS_X1_needPlace ⟨Nat.le_of_ble_eq_true rfl, Nat.le_of_ble_eq_true rfl⟩) ⟨fun a U g mk q => ⟨q.1, q.2.1, kB_call q.2.2⟩, fun U hU hW => ⟨rfl, hU, kB_same hB hU hW⟩⟩ rfl rfl hl.1 rfl (lv_room (Nat.le_of_ble_eq_true rfl)) dX1_years_1 ⟨Nat.le_of_ble_eq_true rfl, Nat.le_of_ble_eq_true rfl⟩) hno hlocks (fun E h => Or.inl ⟨ex2_1 (by have h9 := h.2; (simp only [inb, noThing_iff, noThing_niff, Bool.not_eq_true', Bool.not_eq_false', Bool.or_eq_true, Bool.or_eq_false_iff, decide_eq_true_eq, decide_eq_false_iff_not] <;> omega)), h.1⟩) (Nat.le_of_ble_eq_true rfl) (Nat.le_of_ble_eq_true rfl) (fun g_1 => ?_)
  have g_1 : 0 ≤ (z1) ∧ (z1) ≤ 3 := g_1
  obtain ⟨p1, hp1, rfl⟩ : ∃ p1 : Nat, p1 < 4 ∧ z1 = (p1 : Int) := ⟨z1.toNat, by omega, by omega⟩
  have o_p1 := kOKr hOK hp1
  refine lv_aload_n hx hb dX1_years_4 rfl (lv_at hl 0 rfl) ?_
  refine lv_iload_n hx hb dX1_years_5 rfl (lv_at hl 1 rfl) ?_
  refine lv_iload_n hx hb dX1_years_6 rfl (lv_at hl 2 rfl) ?_
  refine lv_iconst (v := iZ 1) hx hb dX1_years_7 rfl ?_
  refine kc0 (fun _ q => q) (va_runS (As := [.int (iZ mm), .int (iZ 1)]) (rest := [.int (iZ ((p1 : Nat) : Int)), .ref (q 0)]) ⟨hx, hb, hml, hown, hts⟩ (c_X0_monthsInUnits l _ (mm) (1) (by first | omega | (have := kmul_u (u := 1) rmm; omega)) (by first | omega | (have := kmul_u (u := 1) rmm; omega))) (va_cwS 2 hts (kg_S mw650 mw651 mw51 rfl mw652) rfl rfl rfl hdS_X0_monthsInUnits ⟨Nat.le_of_ble_eq_true rfl, Nat.le_of_ble_eq_true rfl⟩) ⟨fun a U g mk q => q, fun U hU hW => ⟨rfl, hU⟩⟩ rfl rfl hl.1 rfl (lv_room (Nat.le_of_ble_eq_true rfl)) dX1_years_8 ⟨Nat.le_of_ble_eq_true rfl, Nat.le_of_ble_eq_true rfl⟩) ?_
  refine lv_iload_n hx hb dX1_years_11 rfl (lv_at hl 3 rfl) ?_
  refine kc2 (va_runV (As := [.int (iZ ((p1 : Nat) : Int)), .long (lZ (((mm)) * usize ((1)))), .int (iZ (bZ (bb)))]) (rest := []) ⟨hx, hb, hml, hown, hts⟩ (c_X1_moveLeaf l dC dI dA k q (σ) _ ⟨tb, tn, tm, htn, hfit, htm, hP⟩ (hOK) hq p1 ((((mm)) * usize ((1)))) (bb) hp1 (by first | omega | (have := kmul_u (u := 1) rmm; omega))) (cwV 3 hts (kg_V mw640 mw641 mw20 mw42 rfl mw642) rfl rfl rfl hdV_X1_moveLeaf ⟨Nat.le_of_ble_eq_true rfl, Nat.le_of_ble_eq_true rfl⟩) ⟨fun a U g mk q => ⟨q.1, q.2.1, kM_call q.2.2⟩, va_recv hM.1 hP (ci := 4) (q0 := 0) rfl rfl, fun U hU hW => ⟨rfl, hU, kM_kept hM hS (kA_N hq hM.2.1.1) hU hW⟩⟩ rfl rfl hl.1 rfl (lv_room (Nat.le_of_ble_eq_true rfl)) dX1_years_12 ⟨Nat.le_of_ble_eq_true rfl, Nat.le_of_ble_eq_true rfl⟩) hS (fun a _ h => kA_up hS.1 a h) (fun a h => kA_up hS.1 a h) (fun H locs hG hz9 hk9 hS => ?_)
  obtain ⟨tb, tn, tm, htn, hfit, htm, hP⟩ := hG
  refine W.widen (k := 1) (n := 6) (Nat.le_of_ble_eq_true rfl) (Nat.le_of_ble_eq_true rfl) ?_
  refine vx_ret ?_
  exact W.iret (v := iZ (putLr (cnt (σ 0 p1) (σ 1 p1) + sgn (((((mm)) * usize ((1))))) ((bb))))) hx hb hr (fun t ht hW => ⟨⟨⟨congrArg (fun z : Int => Outcome.returned (some (Value.int (iZ z)))) (show (putLr (cnt (σ 0 p1) (σ 1 p1) + sgn (((((mm)) * usize ((1))))) ((bb)))) = (putLr (cnt (σ 0 p1) (σ 1 p1) + sgn (12 * mm) bb)) from by rw [show mm * usize 1 = 12 * mm from by show mm * 12 = 12 * mm; omega]), gX_cast ⟨tb, tn, tm, htn, hfit, htm, by rw [ht]; exact hP⟩ (show (putLs σ p1 (cnt (σ 0 p1) (σ 1 p1) + sgn (((((mm)) * usize ((1))))) ((bb)))) = (putLs σ p1 (cnt (σ 0 p1) (σ 1 p1) + sgn (12 * mm) bb)) from by rw [show mm * usize 1 = 12 * mm from by show mm * 12 = 12 * mm; omega])⟩, hS.F ht⟩, ex2_0 (by (simp only [inb, noThing_iff, noThing_niff, Bool.not_eq_true', Bool.not_eq_false', Bool.or_eq_true, Bool.or_eq_false_iff, decide_eq_true_eq, decide_eq_false_iff_not] <;> omega)) (by rfl)⟩) hS.2.2 dX1_years_15

abbrev ww_X1_units : List Cond := .code yX1_units cX1_units 5 (some .int) :: gT
set_option maxHeartbeats 4000000 in
set_option maxRecDepth 100000 in
theorem c_X1_units (l : Launch) (hst : l.stackTraces = false) (dC : Nat → ClassId) (dI : Nat → Nat → Nat) (dA : Nat → ClassId) (k : Nat → Nat) (q : Nat → Nat) (σ : Nat → Nat → Int) (H0 : Heap) (hG : gX dC dI dA q σ H0) (hOK : kOK σ) (hq : kQI q k) (z1 : Int) (uu : Int) (mm : Int) (bb : Bool) (rz1 : -2147483648 ≤ z1 ∧ z1 < 2147483648) (ruu : -2147483648 ≤ uu ∧ uu < 2147483648) (rmm : -2147483648 ≤ mm ∧ mm < 2147483648) : vx_Met l yX1_units ww_X1_units ({ frames := 9, cells := 2, slots := 12, locals := 322 }) (va_Pc [.ref (q 0), .int (iZ z1), .int (iZ uu), .int (iZ mm), .int (iZ (bZ (bb)))] (fun U => U.heap = H0 ∧ kM dC dI dA k U)) (kQ2x (ex2 (!inb z1 0 3) (!inb uu 0 4) = 0) (some (.int (iZ (putLr (cnt (σ 0 (z1.toNat)) (σ 1 (z1.toNat)) + sgn (mm * usize uu) bb))))) (gX dC dI dA q (putLs σ (z1.toNat) (cnt (σ 0 (z1.toNat)) (σ 1 (z1.toNat)) + sgn (mm * usize uu) bb))) (kA q H0.size)) (kXC (fun E => (ex2 (!inb z1 0 3) (!inb uu 0 4) = 1 ∧ E = "java/lang/IndexOutOfBoundsException") ∨ (ex2 (!inb z1 0 3) (!inb uu 0 4) = 2 ∧ E = "java/lang/IllegalArgumentException"))) 2 12 (kA q H0.size) := by
  refine vx_ofW (cc := cX1_units) (maxL := 5) (ret := (some .int)) (by decide) rfl ?_
  intro p e s m args below meth c s₁ B hml hno hv
  obtain ⟨rfl, hH, hM⟩ := hv
  subst hH
  have hB := hM.2.1
  obtain ⟨tb, tn, tm, htn, hfit, htm, hP⟩ := hG
  have hS : va_S (kA q s.heap.size) s.heap s.heap [] := va_S.rf
  have hx := B.exec
  have hb := B.bytes
  have hr := B.returns
  have hts := atoms_spec (ws := ww_X1_units) B.pre
  have hown : s.vm.findClass RX1 = some m.cls := findClass_of_methodNamed B.named
  have hlocks := B.notSynchronized
  have hl := lv_entry ([.ref (q 0), .int (iZ z1), .int (iZ uu), .int (iZ mm), .int (iZ (bZ (bb)))]) (n := 5) (Nat.le_of_ble_eq_true rfl)
  rw [lg_entry_eq]
  generalize (lg_sl ([.ref (q 0), .int (iZ z1), .int (iZ uu), .int (iZ mm), .int (iZ (bZ (bb)))]) ++ List.replicate (5 - (lg_sl ([.ref (q 0), .int (iZ z1), .int (iZ uu), .int (iZ mm), .int (iZ (bZ (bb)))])).length) Slot.unset).toArray = ls at hl ⊢
  have hl : lv_has ls 5 [(0, .ref (q 0)), (1, .int (iZ z1)), (2, .int (iZ uu)), (3, .int (iZ mm)), (4, .int (iZ (bZ (bb))))] := hl
  refine lv_iload_n hx hb dX1_units_0 rfl (lv_at hl 1 rfl) ?_
  refine kcxo (fun _ q => q) (vx_runS (As := [.int (iZ z1)]) (rest := []) ⟨hx, hb, hml, hown, hts⟩ (c_X1_needPlace l hst k _ (z1) (by first | omega | (have := kmul_u (u := uu) rmm; omega))) (va_cwS 1 hts (kg_S mw224 mw225 mw42 rfl mw226) rfl rfl rfl hdS_X1_needPlace ⟨Nat.le_of_ble_eq_true rfl, Nat.le_of_ble_eq_true rfl⟩) ⟨fun a U g mk q => ⟨q.1, q.2.1, kB_call q.2.2⟩, fun U hU hW => ⟨rfl, hU, kB_same hB hU hW⟩⟩ rfl rfl hl.1 rfl (lv_room (Nat.le_of_ble_eq_true rfl)) dX1_units_1 ⟨Nat.le_of_ble_eq_true rfl, Nat.le_of_ble_eq_true rfl⟩) hno hlocks (fun E h => Or.inl ⟨ex2_1 (by have h9 := h.2; (simp only [inb, noThing_iff, noThing_niff, Bool.not_eq_true', Bool.not_eq_false', Bool.or_eq_true, Bool.or_eq_false_iff, decide_eq_true_eq, decide_eq_false_iff_not] <;> omega)), h.1⟩) (Nat.le_of_ble_eq_true rfl) (Nat.le_of_ble_eq_true rfl) (fun g_1 => ?_)
  have g_1 : 0 ≤ (z1) ∧ (z1) ≤ 3 := g_1
  obtain ⟨p1, hp1, rfl⟩ : ∃ p1 : Nat, p1 < 4 ∧ z1 = (p1 : Int) := ⟨z1.toNat, by omega, by omega⟩
  have o_p1 := kOKr hOK hp1
  refine lv_iload_n hx hb dX1_units_4 rfl (lv_at hl 2 rfl) ?_
  refine lv_iconst (v := iZ 0) hx hb dX1_units_5 rfl ?_
  refine lv_iconst (v := iZ 4) hx hb dX1_units_6 rfl ?_
  refine kcxo (fun _ q => q) (vx_runS (As := [.int (iZ uu), .int (iZ 0), .int (iZ 4)]) (rest := []) ⟨hx, hb, hml, hown, hts⟩ (c_X1_needWithin l hst k _ (uu) (0) (4) (by first | omega | (have := kmul_u (u := uu) rmm; omega)) (by first | omega | (have := kmul_u (u := uu) rmm; omega)) (by first | omega | (have := kmul_u (u := uu) rmm; omega))) (va_cwS 3 hts (kg_S mw228 mw229 mw42 rfl mw230) rfl rfl rfl hdS_X1_needWithin ⟨Nat.le_of_ble_eq_true rfl, Nat.le_of_ble_eq_true rfl⟩) ⟨fun a U g mk q => ⟨q.1, q.2.1, kB_call q.2.2⟩, fun U hU hW => ⟨rfl, hU, kB_same hB hU hW⟩⟩ rfl rfl hl.1 rfl (lv_room (Nat.le_of_ble_eq_true rfl)) dX1_units_7 ⟨Nat.le_of_ble_eq_true rfl, Nat.le_of_ble_eq_true rfl⟩) hno hlocks (fun E h => Or.inr ⟨ex2_2 (by (simp only [inb, noThing_iff, noThing_niff, Bool.not_eq_true', Bool.not_eq_false', Bool.or_eq_true, Bool.or_eq_false_iff, decide_eq_true_eq, decide_eq_false_iff_not] <;> omega)) (by have h9 := h.2; (simp only [inb, noThing_iff, noThing_niff, Bool.not_eq_true', Bool.not_eq_false', Bool.or_eq_true, Bool.or_eq_false_iff, decide_eq_true_eq, decide_eq_false_iff_not] <;> omega)), h.1⟩) (Nat.le_of_ble_eq_true rfl) (Nat.le_of_ble_eq_true rfl) (fun g_2 => ?_)
  have g_2 : (0) ≤ (uu) ∧ (uu) ≤ (4) := g_2
  refine lv_aload_n hx hb dX1_units_10 rfl (lv_at hl 0 rfl) ?_
  refine lv_iload_n hx hb dX1_units_11 rfl (lv_at hl 1 rfl) ?_
  refine lv_iload_n hx hb dX1_units_12 rfl (lv_at hl 3 rfl) ?_
  refine lv_iload_n hx hb dX1_units_13 rfl (lv_at hl 2 rfl) ?_
  refine kc0 (fun _ q => q) (va_runS (As := [.int (iZ mm), .int (iZ uu)]) (rest := [.int (iZ ((p1 : Nat) : Int)), .ref (q 0)]) ⟨hx, hb, hml, hown, hts⟩ (c_X0_monthsInUnits l _ (mm) (uu) (by first | omega | (have := kmul_u (u := uu) rmm; omega)) (by first | omega | (have := kmul_u (u := uu) rmm; omega))) (va_cwS 2 hts (kg_S mw650 mw651 mw51 rfl mw652) rfl rfl rfl hdS_X0_monthsInUnits ⟨Nat.le_of_ble_eq_true rfl, Nat.le_of_ble_eq_true rfl⟩) ⟨fun a U g mk q => q, fun U hU hW => ⟨rfl, hU⟩⟩ rfl rfl hl.1 rfl (lv_room (Nat.le_of_ble_eq_true rfl)) dX1_units_14 ⟨Nat.le_of_ble_eq_true rfl, Nat.le_of_ble_eq_true rfl⟩) ?_
  refine lv_iload hx hb dX1_units_17 (lv_at hl 4 rfl) ?_
  refine kc2 (va_runV (As := [.int (iZ ((p1 : Nat) : Int)), .long (lZ (((mm)) * usize ((uu)))), .int (iZ (bZ (bb)))]) (rest := []) ⟨hx, hb, hml, hown, hts⟩ (c_X1_moveLeaf l dC dI dA k q (σ) _ ⟨tb, tn, tm, htn, hfit, htm, hP⟩ (hOK) hq p1 ((((mm)) * usize ((uu)))) (bb) hp1 (by first | omega | (have := kmul_u (u := uu) rmm; omega))) (cwV 3 hts (kg_V mw640 mw641 mw20 mw42 rfl mw642) rfl rfl rfl hdV_X1_moveLeaf ⟨Nat.le_of_ble_eq_true rfl, Nat.le_of_ble_eq_true rfl⟩) ⟨fun a U g mk q => ⟨q.1, q.2.1, kM_call q.2.2⟩, va_recv hM.1 hP (ci := 4) (q0 := 0) rfl rfl, fun U hU hW => ⟨rfl, hU, kM_kept hM hS (kA_N hq hM.2.1.1) hU hW⟩⟩ rfl rfl hl.1 rfl (lv_room (Nat.le_of_ble_eq_true rfl)) dX1_units_19 ⟨Nat.le_of_ble_eq_true rfl, Nat.le_of_ble_eq_true rfl⟩) hS (fun a _ h => kA_up hS.1 a h) (fun a h => kA_up hS.1 a h) (fun H locs hG hz9 hk9 hS => ?_)
  obtain ⟨tb, tn, tm, htn, hfit, htm, hP⟩ := hG
  refine W.widen (k := 2) (n := 12) (Nat.le_of_ble_eq_true rfl) (Nat.le_of_ble_eq_true rfl) ?_
  refine vx_ret ?_
  exact W.iret (v := iZ (putLr (cnt (σ 0 p1) (σ 1 p1) + sgn (((((mm)) * usize ((uu))))) ((bb))))) hx hb hr (fun t ht hW => ⟨⟨⟨congrArg (fun z : Int => Outcome.returned (some (Value.int (iZ z)))) (show (putLr (cnt (σ 0 p1) (σ 1 p1) + sgn (((((mm)) * usize ((uu))))) ((bb)))) = (putLr (cnt (σ 0 p1) (σ 1 p1) + sgn (mm * usize uu) bb)) from by rfl), gX_cast ⟨tb, tn, tm, htn, hfit, htm, by rw [ht]; exact hP⟩ (show (putLs σ p1 (cnt (σ 0 p1) (σ 1 p1) + sgn (((((mm)) * usize ((uu))))) ((bb)))) = (putLs σ p1 (cnt (σ 0 p1) (σ 1 p1) + sgn (mm * usize uu) bb)) from by rfl)⟩, hS.F ht⟩, ex2_0 (by (simp only [inb, noThing_iff, noThing_niff, Bool.not_eq_true', Bool.not_eq_false', Bool.or_eq_true, Bool.or_eq_false_iff, decide_eq_true_eq, decide_eq_false_iff_not] <;> omega)) (by (simp only [inb, noThing_iff, noThing_niff, Bool.not_eq_true', Bool.not_eq_false', Bool.or_eq_true, Bool.or_eq_false_iff, decide_eq_true_eq, decide_eq_false_iff_not] <;> omega))⟩) hS.2.2 dX1_units_22

abbrev ww_X1_both : List Cond := .code yX1_both cX1_both 5 (some .int) :: gT
set_option maxHeartbeats 4000000 in
set_option maxRecDepth 100000 in
theorem c_X1_both (l : Launch) (hst : l.stackTraces = false) (dC : Nat → ClassId) (dI : Nat → Nat → Nat) (dA : Nat → ClassId) (k : Nat → Nat) (q : Nat → Nat) (σ : Nat → Nat → Int) (H0 : Heap) (hG : gX dC dI dA q σ H0) (hOK : kOK σ) (hq : kQI q k) (z1 : Int) (yy : Int) (mm : Int) (bb : Bool) (rz1 : -2147483648 ≤ z1 ∧ z1 < 2147483648) (ryy : -2147483648 ≤ yy ∧ yy < 2147483648) (rmm : -2147483648 ≤ mm ∧ mm < 2147483648) : vx_Met l yX1_both ww_X1_both ({ frames := 9, cells := 3, slots := 18, locals := 322 }) (va_Pc [.ref (q 0), .int (iZ z1), .int (iZ yy), .int (iZ mm), .int (iZ (bZ (bb)))] (fun U => U.heap = H0 ∧ kM dC dI dA k U)) (kQ2x (ex2 (!inb z1 0 3) (!inb yy (-99999999) 99999999 || !inb mm (-99999999) 99999999) = 0) (some (.int (iZ (putLr (cnt (σ 0 (z1.toNat)) (σ 1 (z1.toNat)) + sgn (12 * yy + mm) bb))))) (gX dC dI dA q (putLs σ (z1.toNat) (cnt (σ 0 (z1.toNat)) (σ 1 (z1.toNat)) + sgn (12 * yy + mm) bb))) (kA q H0.size)) (kXC (fun E => (ex2 (!inb z1 0 3) (!inb yy (-99999999) 99999999 || !inb mm (-99999999) 99999999) = 1 ∧ E = "java/lang/IndexOutOfBoundsException") ∨ (ex2 (!inb z1 0 3) (!inb yy (-99999999) 99999999 || !inb mm (-99999999) 99999999) = 2 ∧ E = "java/lang/IllegalArgumentException"))) 3 18 (kA q H0.size) := by
  refine vx_ofW (cc := cX1_both) (maxL := 5) (ret := (some .int)) (by decide) rfl ?_
  intro p e s m args below meth c s₁ B hml hno hv
  obtain ⟨rfl, hH, hM⟩ := hv
  subst hH
  have hB := hM.2.1
  obtain ⟨tb, tn, tm, htn, hfit, htm, hP⟩ := hG
  have hS : va_S (kA q s.heap.size) s.heap s.heap [] := va_S.rf
  have hx := B.exec
  have hb := B.bytes
  have hr := B.returns
  have hts := atoms_spec (ws := ww_X1_both) B.pre
  have hown : s.vm.findClass RX1 = some m.cls := findClass_of_methodNamed B.named
  have hlocks := B.notSynchronized
  have hl := lv_entry ([.ref (q 0), .int (iZ z1), .int (iZ yy), .int (iZ mm), .int (iZ (bZ (bb)))]) (n := 5) (Nat.le_of_ble_eq_true rfl)
  rw [lg_entry_eq]
  generalize (lg_sl ([.ref (q 0), .int (iZ z1), .int (iZ yy), .int (iZ mm), .int (iZ (bZ (bb)))]) ++ List.replicate (5 - (lg_sl ([.ref (q 0), .int (iZ z1), .int (iZ yy), .int (iZ mm), .int (iZ (bZ (bb)))])).length) Slot.unset).toArray = ls at hl ⊢
  have hl : lv_has ls 5 [(0, .ref (q 0)), (1, .int (iZ z1)), (2, .int (iZ yy)), (3, .int (iZ mm)), (4, .int (iZ (bZ (bb))))] := hl
  refine lv_iload_n hx hb dX1_both_0 rfl (lv_at hl 1 rfl) ?_
  refine kcxo (fun _ q => q) (vx_runS (As := [.int (iZ z1)]) (rest := []) ⟨hx, hb, hml, hown, hts⟩ (c_X1_needPlace l hst k _ (z1) (by first | omega | (have := kmul_u (u := 1) ryy; omega))) (va_cwS 1 hts (kg_S mw224 mw225 mw42 rfl mw226) rfl rfl rfl hdS_X1_needPlace ⟨Nat.le_of_ble_eq_true rfl, Nat.le_of_ble_eq_true rfl⟩) ⟨fun a U g mk q => ⟨q.1, q.2.1, kB_call q.2.2⟩, fun U hU hW => ⟨rfl, hU, kB_same hB hU hW⟩⟩ rfl rfl hl.1 rfl (lv_room (Nat.le_of_ble_eq_true rfl)) dX1_both_1 ⟨Nat.le_of_ble_eq_true rfl, Nat.le_of_ble_eq_true rfl⟩) hno hlocks (fun E h => Or.inl ⟨ex2_1 (by have h9 := h.2; (simp only [inb, noThing_iff, noThing_niff, Bool.not_eq_true', Bool.not_eq_false', Bool.or_eq_true, Bool.or_eq_false_iff, decide_eq_true_eq, decide_eq_false_iff_not] <;> omega)), h.1⟩) (Nat.le_of_ble_eq_true rfl) (Nat.le_of_ble_eq_true rfl) (fun g_1 => ?_)
  have g_1 : 0 ≤ (z1) ∧ (z1) ≤ 3 := g_1
  obtain ⟨p1, hp1, rfl⟩ : ∃ p1 : Nat, p1 < 4 ∧ z1 = (p1 : Int) := ⟨z1.toNat, by omega, by omega⟩
  have o_p1 := kOKr hOK hp1
  refine lv_iload_n hx hb dX1_both_4 rfl (lv_at hl 2 rfl) ?_
  refine lv_ldc (v := iZ (-99999999)) hx hb hown (hts _ (List.mem_cons_of_mem _ mw667)) dX1_both_5 ?_
  refine lv_ldc (v := iZ 99999999) hx hb hown (hts _ (List.mem_cons_of_mem _ mw668)) dX1_both_7 ?_
  refine kcxo (fun _ q => q) (vx_runS (As := [.int (iZ yy), .int (iZ ((-99999999))), .int (iZ 99999999)]) (rest := []) ⟨hx, hb, hml, hown, hts⟩ (c_X1_needWithin l hst k _ (yy) (((-99999999))) (99999999) (by first | omega | (have := kmul_u (u := 1) ryy; omega)) (by first | omega | (have := kmul_u (u := 1) ryy; omega)) (by first | omega | (have := kmul_u (u := 1) ryy; omega))) (va_cwS 3 hts (kg_S mw228 mw229 mw42 rfl mw230) rfl rfl rfl hdS_X1_needWithin ⟨Nat.le_of_ble_eq_true rfl, Nat.le_of_ble_eq_true rfl⟩) ⟨fun a U g mk q => ⟨q.1, q.2.1, kB_call q.2.2⟩, fun U hU hW => ⟨rfl, hU, kB_same hB hU hW⟩⟩ rfl rfl hl.1 rfl (lv_room (Nat.le_of_ble_eq_true rfl)) dX1_both_9 ⟨Nat.le_of_ble_eq_true rfl, Nat.le_of_ble_eq_true rfl⟩) hno hlocks (fun E h => Or.inr ⟨ex2_2 (by (simp only [inb, noThing_iff, noThing_niff, Bool.not_eq_true', Bool.not_eq_false', Bool.or_eq_true, Bool.or_eq_false_iff, decide_eq_true_eq, decide_eq_false_iff_not] <;> omega)) (by have h9 := h.2; (simp only [inb, noThing_iff, noThing_niff, Bool.not_eq_true', Bool.not_eq_false', Bool.or_eq_true, Bool.or_eq_false_iff, decide_eq_true_eq, decide_eq_false_iff_not] <;> omega)), h.1⟩) (Nat.le_of_ble_eq_true rfl) (Nat.le_of_ble_eq_true rfl) (fun g_2 => ?_)
  have g_2 : (((-99999999))) ≤ (yy) ∧ (yy) ≤ (99999999) := g_2
  refine lv_iload_n hx hb dX1_both_12 rfl (lv_at hl 3 rfl) ?_
  refine lv_ldc (v := iZ (-99999999)) hx hb hown (hts _ (List.mem_cons_of_mem _ mw667)) dX1_both_13 ?_
  refine lv_ldc (v := iZ 99999999) hx hb hown (hts _ (List.mem_cons_of_mem _ mw668)) dX1_both_15 ?_
  refine kcxo (fun _ q => q) (vx_runS (As := [.int (iZ mm), .int (iZ ((-99999999))), .int (iZ 99999999)]) (rest := []) ⟨hx, hb, hml, hown, hts⟩ (c_X1_needWithin l hst k _ (mm) (((-99999999))) (99999999) (by first | omega | (have := kmul_u (u := 1) ryy; omega)) (by first | omega | (have := kmul_u (u := 1) ryy; omega)) (by first | omega | (have := kmul_u (u := 1) ryy; omega))) (va_cwS 3 hts (kg_S mw228 mw229 mw42 rfl mw230) rfl rfl rfl hdS_X1_needWithin ⟨Nat.le_of_ble_eq_true rfl, Nat.le_of_ble_eq_true rfl⟩) ⟨fun a U g mk q => ⟨q.1, q.2.1, kB_call q.2.2⟩, fun U hU hW => ⟨rfl, hU, kB_same hB hU hW⟩⟩ rfl rfl hl.1 rfl (lv_room (Nat.le_of_ble_eq_true rfl)) dX1_both_17 ⟨Nat.le_of_ble_eq_true rfl, Nat.le_of_ble_eq_true rfl⟩) hno hlocks (fun E h => Or.inr ⟨ex2_2 (by (simp only [inb, noThing_iff, noThing_niff, Bool.not_eq_true', Bool.not_eq_false', Bool.or_eq_true, Bool.or_eq_false_iff, decide_eq_true_eq, decide_eq_false_iff_not] <;> omega)) (by have h9 := h.2; (simp only [inb, noThing_iff, noThing_niff, Bool.not_eq_true', Bool.not_eq_false', Bool.or_eq_true, Bool.or_eq_false_iff, decide_eq_true_eq, decide_eq_false_iff_not] <;> omega)), h.1⟩) (Nat.le_of_ble_eq_true rfl) (Nat.le_of_ble_eq_true rfl) (fun g_3 => ?_)
  have g_3 : (((-99999999))) ≤ (mm) ∧ (mm) ≤ (99999999) := g_3
  refine lv_aload_n hx hb dX1_both_20 rfl (lv_at hl 0 rfl) ?_
  refine lv_iload_n hx hb dX1_both_21 rfl (lv_at hl 1 rfl) ?_
  refine lv_iload_n hx hb dX1_both_22 rfl (lv_at hl 2 rfl) ?_
  refine lv_iconst (v := iZ 1) hx hb dX1_both_23 rfl ?_
  refine kc0 (fun _ q => q) (va_runS (As := [.int (iZ yy), .int (iZ 1)]) (rest := [.int (iZ ((p1 : Nat) : Int)), .ref (q 0)]) ⟨hx, hb, hml, hown, hts⟩ (c_X0_monthsInUnits l _ (yy) (1) (by first | omega | (have := kmul_u (u := 1) ryy; omega)) (by first | omega | (have := kmul_u (u := 1) ryy; omega))) (va_cwS 2 hts (kg_S mw650 mw651 mw51 rfl mw652) rfl rfl rfl hdS_X0_monthsInUnits ⟨Nat.le_of_ble_eq_true rfl, Nat.le_of_ble_eq_true rfl⟩) ⟨fun a U g mk q => q, fun U hU hW => ⟨rfl, hU⟩⟩ rfl rfl hl.1 rfl (lv_room (Nat.le_of_ble_eq_true rfl)) dX1_both_24 ⟨Nat.le_of_ble_eq_true rfl, Nat.le_of_ble_eq_true rfl⟩) ?_
  refine lv_iload_n hx hb dX1_both_27 rfl (lv_at hl 3 rfl) ?_
  refine kz_i2l hx hb (by omega) dX1_both_28 ?_
  refine kz_ladd hx hb dX1_both_29 ?_
  refine lv_iload hx hb dX1_both_30 (lv_at hl 4 rfl) ?_
  refine kc2 (va_runV (As := [.int (iZ ((p1 : Nat) : Int)), .long (lZ ((((yy)) * usize ((1))) + mm)), .int (iZ (bZ (bb)))]) (rest := []) ⟨hx, hb, hml, hown, hts⟩ (c_X1_moveLeaf l dC dI dA k q (σ) _ ⟨tb, tn, tm, htn, hfit, htm, hP⟩ (hOK) hq p1 (((((yy)) * usize ((1))) + mm)) (bb) hp1 (by first | omega | (have := kmul_u (u := 1) ryy; omega))) (cwV 3 hts (kg_V mw640 mw641 mw20 mw42 rfl mw642) rfl rfl rfl hdV_X1_moveLeaf ⟨Nat.le_of_ble_eq_true rfl, Nat.le_of_ble_eq_true rfl⟩) ⟨fun a U g mk q => ⟨q.1, q.2.1, kM_call q.2.2⟩, va_recv hM.1 hP (ci := 4) (q0 := 0) rfl rfl, fun U hU hW => ⟨rfl, hU, kM_kept hM hS (kA_N hq hM.2.1.1) hU hW⟩⟩ rfl rfl hl.1 rfl (lv_room (Nat.le_of_ble_eq_true rfl)) dX1_both_32 ⟨Nat.le_of_ble_eq_true rfl, Nat.le_of_ble_eq_true rfl⟩) hS (fun a _ h => kA_up hS.1 a h) (fun a h => kA_up hS.1 a h) (fun H locs hG hz9 hk9 hS => ?_)
  obtain ⟨tb, tn, tm, htn, hfit, htm, hP⟩ := hG
  refine W.widen (k := 3) (n := 18) (Nat.le_of_ble_eq_true rfl) (Nat.le_of_ble_eq_true rfl) ?_
  refine vx_ret ?_
  exact W.iret (v := iZ (putLr (cnt (σ 0 p1) (σ 1 p1) + sgn ((((((yy)) * usize ((1))) + mm))) ((bb))))) hx hb hr (fun t ht hW => ⟨⟨⟨congrArg (fun z : Int => Outcome.returned (some (Value.int (iZ z)))) (show (putLr (cnt (σ 0 p1) (σ 1 p1) + sgn ((((((yy)) * usize ((1))) + mm))) ((bb)))) = (putLr (cnt (σ 0 p1) (σ 1 p1) + sgn (12 * yy + mm) bb)) from by rw [show yy * usize 1 = 12 * yy from by show yy * 12 = 12 * yy; omega]), gX_cast ⟨tb, tn, tm, htn, hfit, htm, by rw [ht]; exact hP⟩ (show (putLs σ p1 (cnt (σ 0 p1) (σ 1 p1) + sgn ((((((yy)) * usize ((1))) + mm))) ((bb)))) = (putLs σ p1 (cnt (σ 0 p1) (σ 1 p1) + sgn (12 * yy + mm) bb)) from by rw [show yy * usize 1 = 12 * yy from by show yy * 12 = 12 * yy; omega])⟩, hS.F ht⟩, ex2_0 (by (simp only [inb, noThing_iff, noThing_niff, Bool.not_eq_true', Bool.not_eq_false', Bool.or_eq_true, Bool.or_eq_false_iff, decide_eq_true_eq, decide_eq_false_iff_not] <;> omega)) (by (simp only [inb, noThing_iff, noThing_niff, Bool.not_eq_true', Bool.not_eq_false', Bool.or_eq_true, Bool.or_eq_false_iff, decide_eq_true_eq, decide_eq_false_iff_not] <;> omega))⟩) hS.2.2 dX1_both_35

abbrev ww_X1_leafYear : List Cond := .code yX1_leafYear cX1_leafYear 5 (some .int) :: gT
set_option maxHeartbeats 4000000 in
set_option maxRecDepth 100000 in
theorem c_X1_leafYear (l : Launch) (hst : l.stackTraces = false) (dC : Nat → ClassId) (dI : Nat → Nat → Nat) (dA : Nat → ClassId) (k : Nat → Nat) (q : Nat → Nat) (σ : Nat → Nat → Int) (H0 : Heap) (hG : gX dC dI dA q σ H0) (hOK : kOK σ) (hq : kQI q k) (z1 : Int) (yy : Int) (rz1 : -2147483648 ≤ z1 ∧ z1 < 2147483648) (ryy : -2147483648 ≤ yy ∧ yy < 2147483648) : vx_Met l yX1_leafYear ww_X1_leafYear ({ frames := 10, cells := 2, slots := 12, locals := 342 }) (va_Pc [.ref (q 0), .int (iZ z1), .int (iZ yy)] (fun U => U.heap = H0 ∧ kM dC dI dA k U)) (kQ2x (ex2 (!inb z1 0 3) (!inb yy (-999999999) 999999999) = 0) (some (.int (iZ (σ 0 (z1.toNat))))) (gX dC dI dA q (sU (sU σ 0 z1.toNat yy) 1 z1.toNat (σ 1 (z1.toNat)))) (kA q H0.size)) (kXC (fun E => (ex2 (!inb z1 0 3) (!inb yy (-999999999) 999999999) = 1 ∧ E = "java/lang/IndexOutOfBoundsException") ∨ (ex2 (!inb z1 0 3) (!inb yy (-999999999) 999999999) = 2 ∧ E = "java/lang/IllegalArgumentException"))) 2 12 (kA q H0.size) := by
  refine vx_ofW (cc := cX1_leafYear) (maxL := 5) (ret := (some .int)) (by decide) rfl ?_
  intro p e s m args below meth c s₁ B hml hno hv
  obtain ⟨rfl, hH, hM⟩ := hv
  subst hH
  have hB := hM.2.1
  obtain ⟨tb, tn, tm, htn, hfit, htm, hP⟩ := hG
  have hS : va_S (kA q s.heap.size) s.heap s.heap [] := va_S.rf
  have hx := B.exec
  have hb := B.bytes
  have hr := B.returns
  have hts := atoms_spec (ws := ww_X1_leafYear) B.pre
  have hown : s.vm.findClass RX1 = some m.cls := findClass_of_methodNamed B.named
  have hlocks := B.notSynchronized
  have hl := lv_entry ([.ref (q 0), .int (iZ z1), .int (iZ yy)]) (n := 5) (Nat.le_of_ble_eq_true rfl)
  rw [lg_entry_eq]
  generalize (lg_sl ([.ref (q 0), .int (iZ z1), .int (iZ yy)]) ++ List.replicate (5 - (lg_sl ([.ref (q 0), .int (iZ z1), .int (iZ yy)])).length) Slot.unset).toArray = ls at hl ⊢
  have hl : lv_has ls 5 [(0, .ref (q 0)), (1, .int (iZ z1)), (2, .int (iZ yy))] := hl
  refine lv_iload_n hx hb dX1_leafYear_0 rfl (lv_at hl 1 rfl) ?_
  refine kcxo (fun _ q => q) (vx_runS (As := [.int (iZ z1)]) (rest := []) ⟨hx, hb, hml, hown, hts⟩ (c_X1_needPlace l hst k _ (z1) (by first | omega | (have := monOf_cnt (y := σ 0 p1) (m := σ 1 p1) (by omega); have := yearOf_cnt (y := σ 0 p1) (m := σ 1 p1) (by omega); omega))) (va_cwS 1 hts (kg_S mw224 mw225 mw42 rfl mw226) rfl rfl rfl hdS_X1_needPlace ⟨Nat.le_of_ble_eq_true rfl, Nat.le_of_ble_eq_true rfl⟩) ⟨fun a U g mk q => ⟨q.1, q.2.1, kB_call q.2.2⟩, fun U hU hW => ⟨rfl, hU, kB_same hB hU hW⟩⟩ rfl rfl hl.1 rfl (lv_room (Nat.le_of_ble_eq_true rfl)) dX1_leafYear_1 ⟨Nat.le_of_ble_eq_true rfl, Nat.le_of_ble_eq_true rfl⟩) hno hlocks (fun E h => Or.inl ⟨ex2_1 (by have h9 := h.2; (simp only [inb, noThing_iff, noThing_niff, Bool.not_eq_true', Bool.not_eq_false', Bool.or_eq_true, Bool.or_eq_false_iff, decide_eq_true_eq, decide_eq_false_iff_not] <;> omega)), h.1⟩) (Nat.le_of_ble_eq_true rfl) (Nat.le_of_ble_eq_true rfl) (fun g_1 => ?_)
  have g_1 : 0 ≤ (z1) ∧ (z1) ≤ 3 := g_1
  obtain ⟨p1, hp1, rfl⟩ : ∃ p1 : Nat, p1 < 4 ∧ z1 = (p1 : Int) := ⟨z1.toNat, by omega, by omega⟩
  have o_p1 := kOKr hOK hp1
  refine lv_iload_n hx hb dX1_leafYear_4 rfl (lv_at hl 2 rfl) ?_
  refine kcxo (fun _ q => q) (vx_runS (As := [.int (iZ yy)]) (rest := []) ⟨hx, hb, hml, hown, hts⟩ (c_X1_needYearNumber l hst k _ (yy) (by first | omega | (have := monOf_cnt (y := σ 0 p1) (m := σ 1 p1) (by omega); have := yearOf_cnt (y := σ 0 p1) (m := σ 1 p1) (by omega); omega))) (va_cwS 1 hts (kg_S mw610 mw611 mw42 rfl mw612) rfl rfl rfl hdS_X1_needYearNumber ⟨Nat.le_of_ble_eq_true rfl, Nat.le_of_ble_eq_true rfl⟩) ⟨fun a U g mk q => ⟨q.1, q.2.1, kB_call q.2.2⟩, fun U hU hW => ⟨rfl, hU, kB_same hB hU hW⟩⟩ rfl rfl hl.1 rfl (lv_room (Nat.le_of_ble_eq_true rfl)) dX1_leafYear_5 ⟨Nat.le_of_ble_eq_true rfl, Nat.le_of_ble_eq_true rfl⟩) hno hlocks (fun E h => Or.inr ⟨ex2_2 (by (simp only [inb, noThing_iff, noThing_niff, Bool.not_eq_true', Bool.not_eq_false', Bool.or_eq_true, Bool.or_eq_false_iff, decide_eq_true_eq, decide_eq_false_iff_not] <;> omega)) (by have h9 := h.2; (simp only [inb, noThing_iff, noThing_niff, Bool.not_eq_true', Bool.not_eq_false', Bool.or_eq_true, Bool.or_eq_false_iff, decide_eq_true_eq, decide_eq_false_iff_not] <;> omega)), h.1⟩) (Nat.le_of_ble_eq_true rfl) (Nat.le_of_ble_eq_true rfl) (fun g_2 => ?_)
  have g_2 : -999999999 ≤ (yy) ∧ (yy) ≤ 999999999 := g_2
  refine lv_aload_n hx hb dX1_leafYear_8 rfl (lv_at hl 0 rfl) ?_
  refine va_get (D := (dC, dI)) (ci := 4) (v := .ref (q 1)) (C := RX1) (T := TX1) (N := 8) hx hb hts (fun w h => List.mem_cons_of_mem _ (gF_0_in h)) hown hM.1 hP 0 rfl rfl 0 (by decide) (hts _ (List.mem_cons_of_mem _ mw97)) (fun _ h9 => h9) rfl dX1_leafYear_9 ?_
  refine lv_iload_n hx hb dX1_leafYear_12 rfl (lv_at hl 1 rfl) ?_
  refine kz_lald (v := cnt (σ 0 p1) (σ 1 p1)) hx hb hM.1 hP 1 1 rfl rfl (by omega) (by decide) rfl dX1_leafYear_13 ?_
  refine lv_lstore_n (lv' := [(3, .long (lZ (cnt (σ 0 p1) (σ 1 p1)))), (0, .ref (q 0)), (1, .int (iZ ((p1 : Nat) : Int))), (2, .int (iZ yy))]) hx hb dX1_leafYear_14 rfl hl (by decide) rfl (fun ls hl => ?_)
  refine lv_aload_n hx hb dX1_leafYear_15 rfl (lv_at hl 1 rfl) ?_
  refine lv_iload_n hx hb dX1_leafYear_16 rfl (lv_at hl 2 rfl) ?_
  refine lv_iload_n hx hb dX1_leafYear_17 rfl (lv_at hl 3 rfl) ?_
  refine lv_lload_n hx hb dX1_leafYear_18 rfl (lv_at hl 0 rfl) ?_
  refine kc0 (fun _ q => q) (va_runS (As := [.long (lZ (cnt (σ 0 p1) (σ 1 p1)))]) (rest := [.int (iZ yy), .int (iZ ((p1 : Nat) : Int)), .ref (q 0)]) ⟨hx, hb, hml, hown, hts⟩ (c_X0_monthOf l _ ((cnt (σ 0 p1) (σ 1 p1))) (by first | omega | (have := monOf_cnt (y := σ 0 p1) (m := σ 1 p1) (by omega); have := yearOf_cnt (y := σ 0 p1) (m := σ 1 p1) (by omega); omega))) (va_cwS 1 hts (kg_S mw153 mw136 mw51 rfl mw137) rfl rfl rfl hdS_X0_monthOf ⟨Nat.le_of_ble_eq_true rfl, Nat.le_of_ble_eq_true rfl⟩) ⟨fun a U g mk q => q, fun U hU hW => ⟨rfl, hU⟩⟩ rfl rfl hl.1 rfl (lv_room (Nat.le_of_ble_eq_true rfl)) dX1_leafYear_19 ⟨Nat.le_of_ble_eq_true rfl, Nat.le_of_ble_eq_true rfl⟩) ?_
  refine kc0 (fun _ q => q) (va_runS (As := [.int (iZ yy), .int (iZ (monOf (((cnt (σ 0 p1) (σ 1 p1))))))]) (rest := [.int (iZ ((p1 : Nat) : Int)), .ref (q 0)]) ⟨hx, hb, hml, hown, hts⟩ (c_X0_countOf l _ (yy) ((monOf (((cnt (σ 0 p1) (σ 1 p1)))))) (by first | omega | (have := monOf_cnt (y := σ 0 p1) (m := σ 1 p1) (by omega); have := yearOf_cnt (y := σ 0 p1) (m := σ 1 p1) (by omega); omega)) (by first | omega | (have := monOf_cnt (y := σ 0 p1) (m := σ 1 p1) (by omega); have := yearOf_cnt (y := σ 0 p1) (m := σ 1 p1) (by omega); omega))) (va_cwS 2 hts (kg_S mw154 mw155 mw51 rfl mw156) rfl rfl rfl hdS_X0_countOf ⟨Nat.le_of_ble_eq_true rfl, Nat.le_of_ble_eq_true rfl⟩) ⟨fun a U g mk q => q, fun U hU hW => ⟨rfl, hU⟩⟩ rfl rfl hl.1 rfl (lv_room (Nat.le_of_ble_eq_true rfl)) dX1_leafYear_22 ⟨Nat.le_of_ble_eq_true rfl, Nat.le_of_ble_eq_true rfl⟩) ?_
  refine kc2 (va_runV (As := [.int (iZ ((p1 : Nat) : Int)), .long (lZ (12 * ((yy)) + (((monOf (((cnt (σ 0 p1) (σ 1 p1))))))) - 1))]) (rest := []) ⟨hx, hb, hml, hown, hts⟩ (c_X1_putLeaf l dC dI dA k q (σ) _ ⟨tb, tn, tm, htn, hfit, htm, hP⟩ (hOK) hq p1 ((12 * ((yy)) + (((monOf (((cnt (σ 0 p1) (σ 1 p1))))))) - 1)) hp1 (by first | omega | (have := monOf_cnt (y := σ 0 p1) (m := σ 1 p1) (by omega); have := yearOf_cnt (y := σ 0 p1) (m := σ 1 p1) (by omega); omega))) (cwV 2 hts (kg_V mw616 mw617 mw19 mw42 rfl mw618) rfl rfl rfl hdV_X1_putLeaf ⟨Nat.le_of_ble_eq_true rfl, Nat.le_of_ble_eq_true rfl⟩) ⟨fun a U g mk q => ⟨q.1, q.2.1, kM_call q.2.2⟩, va_recv hM.1 hP (ci := 4) (q0 := 0) rfl rfl, fun U hU hW => ⟨rfl, hU, kM_kept hM hS (kA_N hq hM.2.1.1) hU hW⟩⟩ rfl rfl hl.1 rfl (lv_room (Nat.le_of_ble_eq_true rfl)) dX1_leafYear_25 ⟨Nat.le_of_ble_eq_true rfl, Nat.le_of_ble_eq_true rfl⟩) hS (fun a _ h => kA_up hS.1 a h) (fun a h => kA_up hS.1 a h) (fun H locs hG hz9 hk9 hS => ?_)
  obtain ⟨tb, tn, tm, htn, hfit, htm, hP⟩ := hG
  refine lv_pop hx hb dX1_leafYear_28 rfl ?_
  refine lv_lload_n hx hb dX1_leafYear_29 rfl (lv_at hl 0 rfl) ?_
  refine kc0 (fun _ q => q) (va_runS (As := [.long (lZ (cnt (σ 0 p1) (σ 1 p1)))]) (rest := []) ⟨hx, hb, hml, hown, hts⟩ (c_X0_yearOfCount l _ ((cnt (σ 0 p1) (σ 1 p1))) (by first | omega | (have := monOf_cnt (y := σ 0 p1) (m := σ 1 p1) (by omega); have := yearOf_cnt (y := σ 0 p1) (m := σ 1 p1) (by omega); omega))) (va_cwS 1 hts (kg_S mw152 mw143 mw51 rfl mw144) rfl rfl rfl hdS_X0_yearOfCount ⟨Nat.le_of_ble_eq_true rfl, Nat.le_of_ble_eq_true rfl⟩) ⟨fun a U g mk q => q, fun U hU hW => ⟨rfl, hU⟩⟩ rfl rfl hl.1 rfl (lv_room (Nat.le_of_ble_eq_true rfl)) dX1_leafYear_30 ⟨Nat.le_of_ble_eq_true rfl, Nat.le_of_ble_eq_true rfl⟩) ?_
  refine W.widen (k := 2) (n := 12) (Nat.le_of_ble_eq_true rfl) (Nat.le_of_ble_eq_true rfl) ?_
  refine vx_ret ?_
  exact W.iret (v := iZ (yearOf (((cnt (σ 0 p1) (σ 1 p1)))))) hx hb hr (fun t ht hW => ⟨⟨⟨congrArg (fun z : Int => Outcome.returned (some (Value.int (iZ z)))) (show (yearOf (((cnt (σ 0 p1) (σ 1 p1))))) = (σ 0 p1) from by exact yearOf_cnt (by omega)), gX_cast ⟨tb, tn, tm, htn, hfit, htm, by rw [ht]; exact hP⟩ (show (putLs σ p1 (((12 * ((yy)) + (((monOf (((cnt (σ 0 p1) (σ 1 p1))))))) - 1)))) = (sU (sU σ 0 p1 yy) 1 p1 (σ 1 p1)) from by rw [monOf_cnt (by omega)]; exact putLs_cnt (by omega) (by omega))⟩, hS.F ht⟩, ex2_0 (by (simp only [inb, noThing_iff, noThing_niff, Bool.not_eq_true', Bool.not_eq_false', Bool.or_eq_true, Bool.or_eq_false_iff, decide_eq_true_eq, decide_eq_false_iff_not] <;> omega)) (by (simp only [inb, noThing_iff, noThing_niff, Bool.not_eq_true', Bool.not_eq_false', Bool.or_eq_true, Bool.or_eq_false_iff, decide_eq_true_eq, decide_eq_false_iff_not] <;> omega))⟩) hS.2.2 dX1_leafYear_33

abbrev ww_X1_leafMonth : List Cond := .code yX1_leafMonth cX1_leafMonth 5 (some .int) :: gT
set_option maxHeartbeats 4000000 in
set_option maxRecDepth 100000 in
theorem c_X1_leafMonth (l : Launch) (hst : l.stackTraces = false) (dC : Nat → ClassId) (dI : Nat → Nat → Nat) (dA : Nat → ClassId) (k : Nat → Nat) (q : Nat → Nat) (σ : Nat → Nat → Int) (H0 : Heap) (hG : gX dC dI dA q σ H0) (hOK : kOK σ) (hq : kQI q k) (z1 : Int) (mo : Int) (rz1 : -2147483648 ≤ z1 ∧ z1 < 2147483648) (rmo : -2147483648 ≤ mo ∧ mo < 2147483648) : vx_Met l yX1_leafMonth ww_X1_leafMonth ({ frames := 10, cells := 2, slots := 12, locals := 342 }) (va_Pc [.ref (q 0), .int (iZ z1), .int (iZ mo)] (fun U => U.heap = H0 ∧ kM dC dI dA k U)) (kQ2x (ex2 (!inb z1 0 3) (!inb mo 1 12) = 0) (some (.int (iZ (σ 1 (z1.toNat))))) (gX dC dI dA q (sU (sU σ 0 z1.toNat (σ 0 (z1.toNat))) 1 z1.toNat mo)) (kA q H0.size)) (kXC (fun E => (ex2 (!inb z1 0 3) (!inb mo 1 12) = 1 ∧ E = "java/lang/IndexOutOfBoundsException") ∨ (ex2 (!inb z1 0 3) (!inb mo 1 12) = 2 ∧ E = "java/lang/IllegalArgumentException"))) 2 12 (kA q H0.size) := by
  refine vx_ofW (cc := cX1_leafMonth) (maxL := 5) (ret := (some .int)) (by decide) rfl ?_
  intro p e s m args below meth c s₁ B hml hno hv
  obtain ⟨rfl, hH, hM⟩ := hv
  subst hH
  have hB := hM.2.1
  obtain ⟨tb, tn, tm, htn, hfit, htm, hP⟩ := hG
  have hS : va_S (kA q s.heap.size) s.heap s.heap [] := va_S.rf
  have hx := B.exec
  have hb := B.bytes
  have hr := B.returns
  have hts := atoms_spec (ws := ww_X1_leafMonth) B.pre
  have hown : s.vm.findClass RX1 = some m.cls := findClass_of_methodNamed B.named
  have hlocks := B.notSynchronized
  have hl := lv_entry ([.ref (q 0), .int (iZ z1), .int (iZ mo)]) (n := 5) (Nat.le_of_ble_eq_true rfl)
  rw [lg_entry_eq]
  generalize (lg_sl ([.ref (q 0), .int (iZ z1), .int (iZ mo)]) ++ List.replicate (5 - (lg_sl ([.ref (q 0), .int (iZ z1), .int (iZ mo)])).length) Slot.unset).toArray = ls at hl ⊢
  have hl : lv_has ls 5 [(0, .ref (q 0)), (1, .int (iZ z1)), (2, .int (iZ mo))] := hl
  refine lv_iload_n hx hb dX1_leafMonth_0 rfl (lv_at hl 1 rfl) ?_
  refine kcxo (fun _ q => q) (vx_runS (As := [.int (iZ z1)]) (rest := []) ⟨hx, hb, hml, hown, hts⟩ (c_X1_needPlace l hst k _ (z1) (by first | omega | (have := monOf_cnt (y := σ 0 p1) (m := σ 1 p1) (by omega); have := yearOf_cnt (y := σ 0 p1) (m := σ 1 p1) (by omega); omega))) (va_cwS 1 hts (kg_S mw224 mw225 mw42 rfl mw226) rfl rfl rfl hdS_X1_needPlace ⟨Nat.le_of_ble_eq_true rfl, Nat.le_of_ble_eq_true rfl⟩) ⟨fun a U g mk q => ⟨q.1, q.2.1, kB_call q.2.2⟩, fun U hU hW => ⟨rfl, hU, kB_same hB hU hW⟩⟩ rfl rfl hl.1 rfl (lv_room (Nat.le_of_ble_eq_true rfl)) dX1_leafMonth_1 ⟨Nat.le_of_ble_eq_true rfl, Nat.le_of_ble_eq_true rfl⟩) hno hlocks (fun E h => Or.inl ⟨ex2_1 (by have h9 := h.2; (simp only [inb, noThing_iff, noThing_niff, Bool.not_eq_true', Bool.not_eq_false', Bool.or_eq_true, Bool.or_eq_false_iff, decide_eq_true_eq, decide_eq_false_iff_not] <;> omega)), h.1⟩) (Nat.le_of_ble_eq_true rfl) (Nat.le_of_ble_eq_true rfl) (fun g_1 => ?_)
  have g_1 : 0 ≤ (z1) ∧ (z1) ≤ 3 := g_1
  obtain ⟨p1, hp1, rfl⟩ : ∃ p1 : Nat, p1 < 4 ∧ z1 = (p1 : Int) := ⟨z1.toNat, by omega, by omega⟩
  have o_p1 := kOKr hOK hp1
  refine lv_iload_n hx hb dX1_leafMonth_4 rfl (lv_at hl 2 rfl) ?_
  refine kcxo (fun _ q => q) (vx_runS (As := [.int (iZ mo)]) (rest := []) ⟨hx, hb, hml, hown, hts⟩ (c_X1_needMonth l hst k _ (mo) (by first | omega | (have := monOf_cnt (y := σ 0 p1) (m := σ 1 p1) (by omega); have := yearOf_cnt (y := σ 0 p1) (m := σ 1 p1) (by omega); omega))) (va_cwS 1 hts (kg_S mw613 mw614 mw42 rfl mw615) rfl rfl rfl hdS_X1_needMonth ⟨Nat.le_of_ble_eq_true rfl, Nat.le_of_ble_eq_true rfl⟩) ⟨fun a U g mk q => ⟨q.1, q.2.1, kB_call q.2.2⟩, fun U hU hW => ⟨rfl, hU, kB_same hB hU hW⟩⟩ rfl rfl hl.1 rfl (lv_room (Nat.le_of_ble_eq_true rfl)) dX1_leafMonth_5 ⟨Nat.le_of_ble_eq_true rfl, Nat.le_of_ble_eq_true rfl⟩) hno hlocks (fun E h => Or.inr ⟨ex2_2 (by (simp only [inb, noThing_iff, noThing_niff, Bool.not_eq_true', Bool.not_eq_false', Bool.or_eq_true, Bool.or_eq_false_iff, decide_eq_true_eq, decide_eq_false_iff_not] <;> omega)) (by have h9 := h.2; (simp only [inb, noThing_iff, noThing_niff, Bool.not_eq_true', Bool.not_eq_false', Bool.or_eq_true, Bool.or_eq_false_iff, decide_eq_true_eq, decide_eq_false_iff_not] <;> omega)), h.1⟩) (Nat.le_of_ble_eq_true rfl) (Nat.le_of_ble_eq_true rfl) (fun g_2 => ?_)
  have g_2 : 1 ≤ (mo) ∧ (mo) ≤ 12 := g_2
  refine lv_aload_n hx hb dX1_leafMonth_8 rfl (lv_at hl 0 rfl) ?_
  refine va_get (D := (dC, dI)) (ci := 4) (v := .ref (q 1)) (C := RX1) (T := TX1) (N := 8) hx hb hts (fun w h => List.mem_cons_of_mem _ (gF_0_in h)) hown hM.1 hP 0 rfl rfl 0 (by decide) (hts _ (List.mem_cons_of_mem _ mw97)) (fun _ h9 => h9) rfl dX1_leafMonth_9 ?_
  refine lv_iload_n hx hb dX1_leafMonth_12 rfl (lv_at hl 1 rfl) ?_
  refine kz_lald (v := cnt (σ 0 p1) (σ 1 p1)) hx hb hM.1 hP 1 1 rfl rfl (by omega) (by decide) rfl dX1_leafMonth_13 ?_
  refine lv_lstore_n (lv' := [(3, .long (lZ (cnt (σ 0 p1) (σ 1 p1)))), (0, .ref (q 0)), (1, .int (iZ ((p1 : Nat) : Int))), (2, .int (iZ mo))]) hx hb dX1_leafMonth_14 rfl hl (by decide) rfl (fun ls hl => ?_)
  refine lv_aload_n hx hb dX1_leafMonth_15 rfl (lv_at hl 1 rfl) ?_
  refine lv_iload_n hx hb dX1_leafMonth_16 rfl (lv_at hl 2 rfl) ?_
  refine lv_lload_n hx hb dX1_leafMonth_17 rfl (lv_at hl 0 rfl) ?_
  refine kc0 (fun _ q => q) (va_runS (As := [.long (lZ (cnt (σ 0 p1) (σ 1 p1)))]) (rest := [.int (iZ ((p1 : Nat) : Int)), .ref (q 0)]) ⟨hx, hb, hml, hown, hts⟩ (c_X0_yearOfCount l _ ((cnt (σ 0 p1) (σ 1 p1))) (by first | omega | (have := monOf_cnt (y := σ 0 p1) (m := σ 1 p1) (by omega); have := yearOf_cnt (y := σ 0 p1) (m := σ 1 p1) (by omega); omega))) (va_cwS 1 hts (kg_S mw152 mw143 mw51 rfl mw144) rfl rfl rfl hdS_X0_yearOfCount ⟨Nat.le_of_ble_eq_true rfl, Nat.le_of_ble_eq_true rfl⟩) ⟨fun a U g mk q => q, fun U hU hW => ⟨rfl, hU⟩⟩ rfl rfl hl.1 rfl (lv_room (Nat.le_of_ble_eq_true rfl)) dX1_leafMonth_18 ⟨Nat.le_of_ble_eq_true rfl, Nat.le_of_ble_eq_true rfl⟩) ?_
  refine lv_iload_n hx hb dX1_leafMonth_21 rfl (lv_at hl 3 rfl) ?_
  refine kc0 (fun _ q => q) (va_runS (As := [.int (iZ (yearOf (((cnt (σ 0 p1) (σ 1 p1)))))), .int (iZ mo)]) (rest := [.int (iZ ((p1 : Nat) : Int)), .ref (q 0)]) ⟨hx, hb, hml, hown, hts⟩ (c_X0_countOf l _ ((yearOf (((cnt (σ 0 p1) (σ 1 p1)))))) (mo) (by first | omega | (have := monOf_cnt (y := σ 0 p1) (m := σ 1 p1) (by omega); have := yearOf_cnt (y := σ 0 p1) (m := σ 1 p1) (by omega); omega)) (by first | omega | (have := monOf_cnt (y := σ 0 p1) (m := σ 1 p1) (by omega); have := yearOf_cnt (y := σ 0 p1) (m := σ 1 p1) (by omega); omega))) (va_cwS 2 hts (kg_S mw154 mw155 mw51 rfl mw156) rfl rfl rfl hdS_X0_countOf ⟨Nat.le_of_ble_eq_true rfl, Nat.le_of_ble_eq_true rfl⟩) ⟨fun a U g mk q => q, fun U hU hW => ⟨rfl, hU⟩⟩ rfl rfl hl.1 rfl (lv_room (Nat.le_of_ble_eq_true rfl)) dX1_leafMonth_22 ⟨Nat.le_of_ble_eq_true rfl, Nat.le_of_ble_eq_true rfl⟩) ?_
  refine kc2 (va_runV (As := [.int (iZ ((p1 : Nat) : Int)), .long (lZ (12 * (((yearOf (((cnt (σ 0 p1) (σ 1 p1))))))) + ((mo)) - 1))]) (rest := []) ⟨hx, hb, hml, hown, hts⟩ (c_X1_putLeaf l dC dI dA k q (σ) _ ⟨tb, tn, tm, htn, hfit, htm, hP⟩ (hOK) hq p1 ((12 * (((yearOf (((cnt (σ 0 p1) (σ 1 p1))))))) + ((mo)) - 1)) hp1 (by first | omega | (have := monOf_cnt (y := σ 0 p1) (m := σ 1 p1) (by omega); have := yearOf_cnt (y := σ 0 p1) (m := σ 1 p1) (by omega); omega))) (cwV 2 hts (kg_V mw616 mw617 mw19 mw42 rfl mw618) rfl rfl rfl hdV_X1_putLeaf ⟨Nat.le_of_ble_eq_true rfl, Nat.le_of_ble_eq_true rfl⟩) ⟨fun a U g mk q => ⟨q.1, q.2.1, kM_call q.2.2⟩, va_recv hM.1 hP (ci := 4) (q0 := 0) rfl rfl, fun U hU hW => ⟨rfl, hU, kM_kept hM hS (kA_N hq hM.2.1.1) hU hW⟩⟩ rfl rfl hl.1 rfl (lv_room (Nat.le_of_ble_eq_true rfl)) dX1_leafMonth_25 ⟨Nat.le_of_ble_eq_true rfl, Nat.le_of_ble_eq_true rfl⟩) hS (fun a _ h => kA_up hS.1 a h) (fun a h => kA_up hS.1 a h) (fun H locs hG hz9 hk9 hS => ?_)
  obtain ⟨tb, tn, tm, htn, hfit, htm, hP⟩ := hG
  refine lv_pop hx hb dX1_leafMonth_28 rfl ?_
  refine lv_lload_n hx hb dX1_leafMonth_29 rfl (lv_at hl 0 rfl) ?_
  refine kc0 (fun _ q => q) (va_runS (As := [.long (lZ (cnt (σ 0 p1) (σ 1 p1)))]) (rest := []) ⟨hx, hb, hml, hown, hts⟩ (c_X0_monthOf l _ ((cnt (σ 0 p1) (σ 1 p1))) (by first | omega | (have := monOf_cnt (y := σ 0 p1) (m := σ 1 p1) (by omega); have := yearOf_cnt (y := σ 0 p1) (m := σ 1 p1) (by omega); omega))) (va_cwS 1 hts (kg_S mw153 mw136 mw51 rfl mw137) rfl rfl rfl hdS_X0_monthOf ⟨Nat.le_of_ble_eq_true rfl, Nat.le_of_ble_eq_true rfl⟩) ⟨fun a U g mk q => q, fun U hU hW => ⟨rfl, hU⟩⟩ rfl rfl hl.1 rfl (lv_room (Nat.le_of_ble_eq_true rfl)) dX1_leafMonth_30 ⟨Nat.le_of_ble_eq_true rfl, Nat.le_of_ble_eq_true rfl⟩) ?_
  refine W.widen (k := 2) (n := 12) (Nat.le_of_ble_eq_true rfl) (Nat.le_of_ble_eq_true rfl) ?_
  refine vx_ret ?_
  exact W.iret (v := iZ (monOf (((cnt (σ 0 p1) (σ 1 p1)))))) hx hb hr (fun t ht hW => ⟨⟨⟨congrArg (fun z : Int => Outcome.returned (some (Value.int (iZ z)))) (show (monOf (((cnt (σ 0 p1) (σ 1 p1))))) = (σ 1 p1) from by exact monOf_cnt (by omega)), gX_cast ⟨tb, tn, tm, htn, hfit, htm, by rw [ht]; exact hP⟩ (show (putLs σ p1 (((12 * (((yearOf (((cnt (σ 0 p1) (σ 1 p1))))))) + ((mo)) - 1)))) = (sU (sU σ 0 p1 (σ 0 p1)) 1 p1 mo) from by rw [yearOf_cnt (by omega)]; exact putLs_cnt (by omega) (by omega))⟩, hS.F ht⟩, ex2_0 (by (simp only [inb, noThing_iff, noThing_niff, Bool.not_eq_true', Bool.not_eq_false', Bool.or_eq_true, Bool.or_eq_false_iff, decide_eq_true_eq, decide_eq_false_iff_not] <;> omega)) (by (simp only [inb, noThing_iff, noThing_niff, Bool.not_eq_true', Bool.not_eq_false', Bool.or_eq_true, Bool.or_eq_false_iff, decide_eq_true_eq, decide_eq_false_iff_not] <;> omega))⟩) hS.2.2 dX1_leafMonth_33

abbrev ww_X1_leafOf : List Cond := .code yX1_leafOf cX1_leafOf 4 (some .int) :: gT
set_option maxHeartbeats 4000000 in
set_option maxRecDepth 100000 in
theorem c_X1_leafOf (l : Launch) (hst : l.stackTraces = false) (dC : Nat → ClassId) (dI : Nat → Nat → Nat) (dA : Nat → ClassId) (k : Nat → Nat) (q : Nat → Nat) (σ : Nat → Nat → Int) (H0 : Heap) (hG : gX dC dI dA q σ H0) (hOK : kOK σ) (hq : kQI q k) (z1 : Int) (z2 : Int) (mo : Int) (rz1 : -2147483648 ≤ z1 ∧ z1 < 2147483648) (rz2 : -2147483648 ≤ z2 ∧ z2 < 2147483648) (rmo : -2147483648 ≤ mo ∧ mo < 2147483648) : vx_Met l yX1_leafOf ww_X1_leafOf ({ frames := 10, cells := 3, slots := 18, locals := 342 }) (va_Pc [.ref (q 0), .int (iZ z1), .int (iZ z2), .int (iZ mo)] (fun U => U.heap = H0 ∧ kM dC dI dA k U)) (kQ2x (ex2 (!inb z1 0 3 || !inb z2 0 3) (!inb mo 1 12) = 0) (some (.int (iZ (mlen (leap (σ 2 (z2.toNat))) mo)))) (gX dC dI dA q (sU (sU σ 0 z1.toNat (σ 2 (z2.toNat))) 1 z1.toNat mo)) (kA q H0.size)) (kXC (fun E => (ex2 (!inb z1 0 3 || !inb z2 0 3) (!inb mo 1 12) = 1 ∧ E = "java/lang/IndexOutOfBoundsException") ∨ (ex2 (!inb z1 0 3 || !inb z2 0 3) (!inb mo 1 12) = 2 ∧ E = "java/lang/IllegalArgumentException"))) 3 18 (kA q H0.size) := by
  refine vx_ofW (cc := cX1_leafOf) (maxL := 4) (ret := (some .int)) (by decide) rfl ?_
  intro p e s m args below meth c s₁ B hml hno hv
  obtain ⟨rfl, hH, hM⟩ := hv
  subst hH
  have hB := hM.2.1
  obtain ⟨tb, tn, tm, htn, hfit, htm, hP⟩ := hG
  have hS : va_S (kA q s.heap.size) s.heap s.heap [] := va_S.rf
  have hx := B.exec
  have hb := B.bytes
  have hr := B.returns
  have hts := atoms_spec (ws := ww_X1_leafOf) B.pre
  have hown : s.vm.findClass RX1 = some m.cls := findClass_of_methodNamed B.named
  have hlocks := B.notSynchronized
  have hl := lv_entry ([.ref (q 0), .int (iZ z1), .int (iZ z2), .int (iZ mo)]) (n := 4) (Nat.le_of_ble_eq_true rfl)
  rw [lg_entry_eq]
  generalize (lg_sl ([.ref (q 0), .int (iZ z1), .int (iZ z2), .int (iZ mo)]) ++ List.replicate (4 - (lg_sl ([.ref (q 0), .int (iZ z1), .int (iZ z2), .int (iZ mo)])).length) Slot.unset).toArray = ls at hl ⊢
  have hl : lv_has ls 4 [(0, .ref (q 0)), (1, .int (iZ z1)), (2, .int (iZ z2)), (3, .int (iZ mo))] := hl
  refine lv_iload_n hx hb dX1_leafOf_0 rfl (lv_at hl 1 rfl) ?_
  refine kcxo (fun _ q => q) (vx_runS (As := [.int (iZ z1)]) (rest := []) ⟨hx, hb, hml, hown, hts⟩ (c_X1_needPlace l hst k _ (z1) (by omega)) (va_cwS 1 hts (kg_S mw224 mw225 mw42 rfl mw226) rfl rfl rfl hdS_X1_needPlace ⟨Nat.le_of_ble_eq_true rfl, Nat.le_of_ble_eq_true rfl⟩) ⟨fun a U g mk q => ⟨q.1, q.2.1, kB_call q.2.2⟩, fun U hU hW => ⟨rfl, hU, kB_same hB hU hW⟩⟩ rfl rfl hl.1 rfl (lv_room (Nat.le_of_ble_eq_true rfl)) dX1_leafOf_1 ⟨Nat.le_of_ble_eq_true rfl, Nat.le_of_ble_eq_true rfl⟩) hno hlocks (fun E h => Or.inl ⟨ex2_1 (by have h9 := h.2; (simp only [inb, noThing_iff, noThing_niff, Bool.not_eq_true', Bool.not_eq_false', Bool.or_eq_true, Bool.or_eq_false_iff, decide_eq_true_eq, decide_eq_false_iff_not] <;> omega)), h.1⟩) (Nat.le_of_ble_eq_true rfl) (Nat.le_of_ble_eq_true rfl) (fun g_1 => ?_)
  have g_1 : 0 ≤ (z1) ∧ (z1) ≤ 3 := g_1
  obtain ⟨p1, hp1, rfl⟩ : ∃ p1 : Nat, p1 < 4 ∧ z1 = (p1 : Int) := ⟨z1.toNat, by omega, by omega⟩
  have o_p1 := kOKr hOK hp1
  refine lv_iload_n hx hb dX1_leafOf_4 rfl (lv_at hl 2 rfl) ?_
  refine kcxo (fun _ q => q) (vx_runS (As := [.int (iZ z2)]) (rest := []) ⟨hx, hb, hml, hown, hts⟩ (c_X1_needPlace l hst k _ (z2) (by omega)) (va_cwS 1 hts (kg_S mw224 mw225 mw42 rfl mw226) rfl rfl rfl hdS_X1_needPlace ⟨Nat.le_of_ble_eq_true rfl, Nat.le_of_ble_eq_true rfl⟩) ⟨fun a U g mk q => ⟨q.1, q.2.1, kB_call q.2.2⟩, fun U hU hW => ⟨rfl, hU, kB_same hB hU hW⟩⟩ rfl rfl hl.1 rfl (lv_room (Nat.le_of_ble_eq_true rfl)) dX1_leafOf_5 ⟨Nat.le_of_ble_eq_true rfl, Nat.le_of_ble_eq_true rfl⟩) hno hlocks (fun E h => Or.inl ⟨ex2_1 (by have h9 := h.2; (simp only [inb, noThing_iff, noThing_niff, Bool.not_eq_true', Bool.not_eq_false', Bool.or_eq_true, Bool.or_eq_false_iff, decide_eq_true_eq, decide_eq_false_iff_not] <;> omega)), h.1⟩) (Nat.le_of_ble_eq_true rfl) (Nat.le_of_ble_eq_true rfl) (fun g_2 => ?_)
  have g_2 : 0 ≤ (z2) ∧ (z2) ≤ 3 := g_2
  obtain ⟨p2, hp2, rfl⟩ : ∃ p2 : Nat, p2 < 4 ∧ z2 = (p2 : Int) := ⟨z2.toNat, by omega, by omega⟩
  have o_p2 := kOKr hOK hp2
  refine lv_iload_n hx hb dX1_leafOf_8 rfl (lv_at hl 3 rfl) ?_
  refine kcxo (fun _ q => q) (vx_runS (As := [.int (iZ mo)]) (rest := []) ⟨hx, hb, hml, hown, hts⟩ (c_X1_needMonth l hst k _ (mo) (by omega)) (va_cwS 1 hts (kg_S mw613 mw614 mw42 rfl mw615) rfl rfl rfl hdS_X1_needMonth ⟨Nat.le_of_ble_eq_true rfl, Nat.le_of_ble_eq_true rfl⟩) ⟨fun a U g mk q => ⟨q.1, q.2.1, kB_call q.2.2⟩, fun U hU hW => ⟨rfl, hU, kB_same hB hU hW⟩⟩ rfl rfl hl.1 rfl (lv_room (Nat.le_of_ble_eq_true rfl)) dX1_leafOf_9 ⟨Nat.le_of_ble_eq_true rfl, Nat.le_of_ble_eq_true rfl⟩) hno hlocks (fun E h => Or.inr ⟨ex2_2 (by (simp only [inb, noThing_iff, noThing_niff, Bool.not_eq_true', Bool.not_eq_false', Bool.or_eq_true, Bool.or_eq_false_iff, decide_eq_true_eq, decide_eq_false_iff_not] <;> omega)) (by have h9 := h.2; (simp only [inb, noThing_iff, noThing_niff, Bool.not_eq_true', Bool.not_eq_false', Bool.or_eq_true, Bool.or_eq_false_iff, decide_eq_true_eq, decide_eq_false_iff_not] <;> omega)), h.1⟩) (Nat.le_of_ble_eq_true rfl) (Nat.le_of_ble_eq_true rfl) (fun g_3 => ?_)
  have g_3 : 1 ≤ (mo) ∧ (mo) ≤ 12 := g_3
  refine lv_aload_n hx hb dX1_leafOf_12 rfl (lv_at hl 0 rfl) ?_
  refine lv_iload_n hx hb dX1_leafOf_13 rfl (lv_at hl 1 rfl) ?_
  refine lv_aload_n hx hb dX1_leafOf_14 rfl (lv_at hl 0 rfl) ?_
  refine va_get (D := (dC, dI)) (ci := 4) (v := .ref (q 2)) (C := RX1) (T := TX1) (N := 8) hx hb hts (fun w h => List.mem_cons_of_mem _ (gF_0_in h)) hown hM.1 hP 0 rfl rfl 1 (by decide) (hts _ (List.mem_cons_of_mem _ mw98)) (fun _ h9 => h9) rfl dX1_leafOf_15 ?_
  refine lv_iload_n hx hb dX1_leafOf_18 rfl (lv_at hl 2 rfl) ?_
  refine kz_iald (v := σ 2 p2) hx hb hM.1 hP 2 0 rfl rfl (by omega) (by decide) rfl dX1_leafOf_19 ?_
  refine lv_iload_n hx hb dX1_leafOf_20 rfl (lv_at hl 3 rfl) ?_
  refine kc0 (fun _ q => q) (va_runS (As := [.int (iZ (σ 2 p2)), .int (iZ mo)]) (rest := [.int (iZ ((p1 : Nat) : Int)), .ref (q 0)]) ⟨hx, hb, hml, hown, hts⟩ (c_X0_countOf l _ ((σ 2 p2)) (mo) (by omega) (by omega)) (va_cwS 2 hts (kg_S mw154 mw155 mw51 rfl mw156) rfl rfl rfl hdS_X0_countOf ⟨Nat.le_of_ble_eq_true rfl, Nat.le_of_ble_eq_true rfl⟩) ⟨fun a U g mk q => q, fun U hU hW => ⟨rfl, hU⟩⟩ rfl rfl hl.1 rfl (lv_room (Nat.le_of_ble_eq_true rfl)) dX1_leafOf_21 ⟨Nat.le_of_ble_eq_true rfl, Nat.le_of_ble_eq_true rfl⟩) ?_
  refine kc2 (va_runV (As := [.int (iZ ((p1 : Nat) : Int)), .long (lZ (12 * (((σ 2 p2))) + ((mo)) - 1))]) (rest := []) ⟨hx, hb, hml, hown, hts⟩ (c_X1_putLeaf l dC dI dA k q (σ) _ ⟨tb, tn, tm, htn, hfit, htm, hP⟩ (hOK) hq p1 ((12 * (((σ 2 p2))) + ((mo)) - 1)) hp1 (by omega)) (cwV 2 hts (kg_V mw616 mw617 mw19 mw42 rfl mw618) rfl rfl rfl hdV_X1_putLeaf ⟨Nat.le_of_ble_eq_true rfl, Nat.le_of_ble_eq_true rfl⟩) ⟨fun a U g mk q => ⟨q.1, q.2.1, kM_call q.2.2⟩, va_recv hM.1 hP (ci := 4) (q0 := 0) rfl rfl, fun U hU hW => ⟨rfl, hU, kM_kept hM hS (kA_N hq hM.2.1.1) hU hW⟩⟩ rfl rfl hl.1 rfl (lv_room (Nat.le_of_ble_eq_true rfl)) dX1_leafOf_24 ⟨Nat.le_of_ble_eq_true rfl, Nat.le_of_ble_eq_true rfl⟩) hS (fun a _ h => kA_up hS.1 a h) (fun a h => kA_up hS.1 a h) (fun H locs hG hz9 hk9 hS => ?_)
  obtain ⟨tb, tn, tm, htn, hfit, htm, hP⟩ := hG
  refine W.widen (k := 3) (n := 18) (Nat.le_of_ble_eq_true rfl) (Nat.le_of_ble_eq_true rfl) ?_
  refine vx_ret ?_
  exact W.iret (v := iZ (putLr (((12 * (((σ 2 p2))) + ((mo)) - 1))))) hx hb hr (fun t ht hW => ⟨⟨⟨congrArg (fun z : Int => Outcome.returned (some (Value.int (iZ z)))) (show (putLr (((12 * (((σ 2 p2))) + ((mo)) - 1)))) = (mlen (leap (σ 2 p2)) mo) from by exact putLr_cnt (by omega) (by omega)), gX_cast ⟨tb, tn, tm, htn, hfit, htm, by rw [ht]; exact hP⟩ (show (putLs σ p1 (((12 * (((σ 2 p2))) + ((mo)) - 1)))) = (sU (sU σ 0 p1 (σ 2 p2)) 1 p1 mo) from by exact putLs_cnt (by omega) (by omega))⟩, hS.F ht⟩, ex2_0 (by (simp only [inb, noThing_iff, noThing_niff, Bool.not_eq_true', Bool.not_eq_false', Bool.or_eq_true, Bool.or_eq_false_iff, decide_eq_true_eq, decide_eq_false_iff_not] <;> omega)) (by (simp only [inb, noThing_iff, noThing_niff, Bool.not_eq_true', Bool.not_eq_false', Bool.or_eq_true, Bool.or_eq_false_iff, decide_eq_true_eq, decide_eq_false_iff_not] <;> omega))⟩) hS.2.2 dX1_leafOf_27

abbrev ww_X1_leafOfRound : List Cond := .code yX1_leafOfRound cX1_leafOfRound 5 (some .int) :: gT
set_option maxHeartbeats 4000000 in
set_option maxRecDepth 100000 in
theorem c_X1_leafOfRound (l : Launch) (hst : l.stackTraces = false) (dC : Nat → ClassId) (dI : Nat → Nat → Nat) (dA : Nat → ClassId) (k : Nat → Nat) (q : Nat → Nat) (σ : Nat → Nat → Int) (H0 : Heap) (hG : gX dC dI dA q σ H0) (hOK : kOK σ) (hq : kQI q k) (z1 : Int) (z2 : Int) (mm : Int) (rz1 : -2147483648 ≤ z1 ∧ z1 < 2147483648) (rz2 : -2147483648 ≤ z2 ∧ z2 < 2147483648) (rmm : -2147483648 ≤ mm ∧ mm < 2147483648) : vx_Met l yX1_leafOfRound ww_X1_leafOfRound ({ frames := 9, cells := 2, slots := 12, locals := 320 }) (va_Pc [.ref (q 0), .int (iZ z1), .int (iZ z2), .int (iZ mm)] (fun U => U.heap = H0 ∧ kM dC dI dA k U)) (kQ2x (ex2 (!inb z1 0 3 || !inb z2 0 3) (false) = 0) (some (.int (iZ (1 + mm % 12)))) (gX dC dI dA q (sU (sU σ 0 z1.toNat (σ 2 (z2.toNat))) 1 z1.toNat (1 + mm % 12))) (kA q H0.size)) (kXC (fun E => (ex2 (!inb z1 0 3 || !inb z2 0 3) (false) = 1 ∧ E = "java/lang/IndexOutOfBoundsException") ∨ (ex2 (!inb z1 0 3 || !inb z2 0 3) (false) = 2 ∧ E = "java/lang/IllegalArgumentException"))) 2 12 (kA q H0.size) := by
  refine vx_ofW (cc := cX1_leafOfRound) (maxL := 5) (ret := (some .int)) (by decide) rfl ?_
  intro p e s m args below meth c s₁ B hml hno hv
  obtain ⟨rfl, hH, hM⟩ := hv
  subst hH
  have hB := hM.2.1
  obtain ⟨tb, tn, tm, htn, hfit, htm, hP⟩ := hG
  have hS : va_S (kA q s.heap.size) s.heap s.heap [] := va_S.rf
  have hx := B.exec
  have hb := B.bytes
  have hr := B.returns
  have hts := atoms_spec (ws := ww_X1_leafOfRound) B.pre
  have hown : s.vm.findClass RX1 = some m.cls := findClass_of_methodNamed B.named
  have hlocks := B.notSynchronized
  have hl := lv_entry ([.ref (q 0), .int (iZ z1), .int (iZ z2), .int (iZ mm)]) (n := 5) (Nat.le_of_ble_eq_true rfl)
  rw [lg_entry_eq]
  generalize (lg_sl ([.ref (q 0), .int (iZ z1), .int (iZ z2), .int (iZ mm)]) ++ List.replicate (5 - (lg_sl ([.ref (q 0), .int (iZ z1), .int (iZ z2), .int (iZ mm)])).length) Slot.unset).toArray = ls at hl ⊢
  have hl : lv_has ls 5 [(0, .ref (q 0)), (1, .int (iZ z1)), (2, .int (iZ z2)), (3, .int (iZ mm))] := hl
  refine lv_iload_n hx hb dX1_leafOfRound_0 rfl (lv_at hl 1 rfl) ?_
  refine kcxo (fun _ q => q) (vx_runS (As := [.int (iZ z1)]) (rest := []) ⟨hx, hb, hml, hown, hts⟩ (c_X1_needPlace l hst k _ (z1) (by omega)) (va_cwS 1 hts (kg_S mw224 mw225 mw42 rfl mw226) rfl rfl rfl hdS_X1_needPlace ⟨Nat.le_of_ble_eq_true rfl, Nat.le_of_ble_eq_true rfl⟩) ⟨fun a U g mk q => ⟨q.1, q.2.1, kB_call q.2.2⟩, fun U hU hW => ⟨rfl, hU, kB_same hB hU hW⟩⟩ rfl rfl hl.1 rfl (lv_room (Nat.le_of_ble_eq_true rfl)) dX1_leafOfRound_1 ⟨Nat.le_of_ble_eq_true rfl, Nat.le_of_ble_eq_true rfl⟩) hno hlocks (fun E h => Or.inl ⟨ex2_1 (by have h9 := h.2; (simp only [inb, noThing_iff, noThing_niff, Bool.not_eq_true', Bool.not_eq_false', Bool.or_eq_true, Bool.or_eq_false_iff, decide_eq_true_eq, decide_eq_false_iff_not] <;> omega)), h.1⟩) (Nat.le_of_ble_eq_true rfl) (Nat.le_of_ble_eq_true rfl) (fun g_1 => ?_)
  have g_1 : 0 ≤ (z1) ∧ (z1) ≤ 3 := g_1
  obtain ⟨p1, hp1, rfl⟩ : ∃ p1 : Nat, p1 < 4 ∧ z1 = (p1 : Int) := ⟨z1.toNat, by omega, by omega⟩
  have o_p1 := kOKr hOK hp1
  refine lv_iload_n hx hb dX1_leafOfRound_4 rfl (lv_at hl 2 rfl) ?_
  refine kcxo (fun _ q => q) (vx_runS (As := [.int (iZ z2)]) (rest := []) ⟨hx, hb, hml, hown, hts⟩ (c_X1_needPlace l hst k _ (z2) (by omega)) (va_cwS 1 hts (kg_S mw224 mw225 mw42 rfl mw226) rfl rfl rfl hdS_X1_needPlace ⟨Nat.le_of_ble_eq_true rfl, Nat.le_of_ble_eq_true rfl⟩) ⟨fun a U g mk q => ⟨q.1, q.2.1, kB_call q.2.2⟩, fun U hU hW => ⟨rfl, hU, kB_same hB hU hW⟩⟩ rfl rfl hl.1 rfl (lv_room (Nat.le_of_ble_eq_true rfl)) dX1_leafOfRound_5 ⟨Nat.le_of_ble_eq_true rfl, Nat.le_of_ble_eq_true rfl⟩) hno hlocks (fun E h => Or.inl ⟨ex2_1 (by have h9 := h.2; (simp only [inb, noThing_iff, noThing_niff, Bool.not_eq_true', Bool.not_eq_false', Bool.or_eq_true, Bool.or_eq_false_iff, decide_eq_true_eq, decide_eq_false_iff_not] <;> omega)), h.1⟩) (Nat.le_of_ble_eq_true rfl) (Nat.le_of_ble_eq_true rfl) (fun g_2 => ?_)
  have g_2 : 0 ≤ (z2) ∧ (z2) ≤ 3 := g_2
  obtain ⟨p2, hp2, rfl⟩ : ∃ p2 : Nat, p2 < 4 ∧ z2 = (p2 : Int) := ⟨z2.toNat, by omega, by omega⟩
  have o_p2 := kOKr hOK hp2
  refine lv_iload_n hx hb dX1_leafOfRound_8 rfl (lv_at hl 3 rfl) ?_
  refine kc0 (fun _ q => q) (va_runS (As := [.int (iZ mm)]) (rest := []) ⟨hx, hb, hml, hown, hts⟩ (c_X0_monthBehindFirst l _ (mm) (by omega)) (va_cwS 1 hts (kg_S mw627 mw628 mw51 rfl mw629) rfl rfl rfl hdS_X0_monthBehindFirst ⟨Nat.le_of_ble_eq_true rfl, Nat.le_of_ble_eq_true rfl⟩) ⟨fun a U g mk q => q, fun U hU hW => ⟨rfl, hU⟩⟩ rfl rfl hl.1 rfl (lv_room (Nat.le_of_ble_eq_true rfl)) dX1_leafOfRound_9 ⟨Nat.le_of_ble_eq_true rfl, Nat.le_of_ble_eq_true rfl⟩) ?_
  refine lv_istore (lv' := [(4, .int (iZ (1 + ((mm)) % 12))), (0, .ref (q 0)), (1, .int (iZ ((p1 : Nat) : Int))), (2, .int (iZ ((p2 : Nat) : Int))), (3, .int (iZ mm))]) hx hb dX1_leafOfRound_12 hl (by decide) rfl (fun ls hl => ?_)
  refine lv_aload_n hx hb dX1_leafOfRound_14 rfl (lv_at hl 1 rfl) ?_
  refine lv_iload_n hx hb dX1_leafOfRound_15 rfl (lv_at hl 2 rfl) ?_
  refine lv_aload_n hx hb dX1_leafOfRound_16 rfl (lv_at hl 1 rfl) ?_
  refine va_get (D := (dC, dI)) (ci := 4) (v := .ref (q 2)) (C := RX1) (T := TX1) (N := 8) hx hb hts (fun w h => List.mem_cons_of_mem _ (gF_0_in h)) hown hM.1 hP 0 rfl rfl 1 (by decide) (hts _ (List.mem_cons_of_mem _ mw98)) (fun _ h9 => h9) rfl dX1_leafOfRound_17 ?_
  refine lv_iload_n hx hb dX1_leafOfRound_20 rfl (lv_at hl 3 rfl) ?_
  refine kz_iald (v := σ 2 p2) hx hb hM.1 hP 2 0 rfl rfl (by omega) (by decide) rfl dX1_leafOfRound_21 ?_
  refine lv_iload hx hb dX1_leafOfRound_22 (lv_at hl 0 rfl) ?_
  refine kc0 (fun _ q => q) (va_runS (As := [.int (iZ (σ 2 p2)), .int (iZ (1 + ((mm)) % 12))]) (rest := [.int (iZ ((p1 : Nat) : Int)), .ref (q 0)]) ⟨hx, hb, hml, hown, hts⟩ (c_X0_countOf l _ ((σ 2 p2)) ((1 + ((mm)) % 12)) (by omega) (by omega)) (va_cwS 2 hts (kg_S mw154 mw155 mw51 rfl mw156) rfl rfl rfl hdS_X0_countOf ⟨Nat.le_of_ble_eq_true rfl, Nat.le_of_ble_eq_true rfl⟩) ⟨fun a U g mk q => q, fun U hU hW => ⟨rfl, hU⟩⟩ rfl rfl hl.1 rfl (lv_room (Nat.le_of_ble_eq_true rfl)) dX1_leafOfRound_24 ⟨Nat.le_of_ble_eq_true rfl, Nat.le_of_ble_eq_true rfl⟩) ?_
  refine kc2 (va_runV (As := [.int (iZ ((p1 : Nat) : Int)), .long (lZ (12 * (((σ 2 p2))) + (((1 + ((mm)) % 12))) - 1))]) (rest := []) ⟨hx, hb, hml, hown, hts⟩ (c_X1_putLeaf l dC dI dA k q (σ) _ ⟨tb, tn, tm, htn, hfit, htm, hP⟩ (hOK) hq p1 ((12 * (((σ 2 p2))) + (((1 + ((mm)) % 12))) - 1)) hp1 (by omega)) (cwV 2 hts (kg_V mw616 mw617 mw19 mw42 rfl mw618) rfl rfl rfl hdV_X1_putLeaf ⟨Nat.le_of_ble_eq_true rfl, Nat.le_of_ble_eq_true rfl⟩) ⟨fun a U g mk q => ⟨q.1, q.2.1, kM_call q.2.2⟩, va_recv hM.1 hP (ci := 4) (q0 := 0) rfl rfl, fun U hU hW => ⟨rfl, hU, kM_kept hM hS (kA_N hq hM.2.1.1) hU hW⟩⟩ rfl rfl hl.1 rfl (lv_room (Nat.le_of_ble_eq_true rfl)) dX1_leafOfRound_27 ⟨Nat.le_of_ble_eq_true rfl, Nat.le_of_ble_eq_true rfl⟩) hS (fun a _ h => kA_up hS.1 a h) (fun a h => kA_up hS.1 a h) (fun H locs hG hz9 hk9 hS => ?_)
  obtain ⟨tb, tn, tm, htn, hfit, htm, hP⟩ := hG
  refine lv_pop hx hb dX1_leafOfRound_30 rfl ?_
  refine lv_iload hx hb dX1_leafOfRound_31 (lv_at hl 0 rfl) ?_
  refine W.widen (k := 2) (n := 12) (Nat.le_of_ble_eq_true rfl) (Nat.le_of_ble_eq_true rfl) ?_
  refine vx_ret ?_
  exact W.iret (v := iZ (1 + ((mm)) % 12)) hx hb hr (fun t ht hW => ⟨⟨⟨congrArg (fun z : Int => Outcome.returned (some (Value.int (iZ z)))) (show (1 + ((mm)) % 12) = (1 + mm % 12) from by rfl), gX_cast ⟨tb, tn, tm, htn, hfit, htm, by rw [ht]; exact hP⟩ (show (putLs σ p1 (((12 * (((σ 2 p2))) + (((1 + ((mm)) % 12))) - 1)))) = (sU (sU σ 0 p1 (σ 2 p2)) 1 p1 (1 + mm % 12)) from by exact putLs_cnt (by omega) (by omega))⟩, hS.F ht⟩, ex2_0 (by (simp only [inb, noThing_iff, noThing_niff, Bool.not_eq_true', Bool.not_eq_false', Bool.or_eq_true, Bool.or_eq_false_iff, decide_eq_true_eq, decide_eq_false_iff_not] <;> omega)) (by rfl)⟩) hS.2.2 dX1_leafOfRound_33

abbrev ww_X1_leafOfDay : List Cond := .code yX1_leafOfDay cX1_leafOfDay 3 (some .int) :: gT
set_option maxHeartbeats 4000000 in
set_option maxRecDepth 100000 in
theorem c_X1_leafOfDay (l : Launch) (hst : l.stackTraces = false) (dC : Nat → ClassId) (dI : Nat → Nat → Nat) (dA : Nat → ClassId) (k : Nat → Nat) (q : Nat → Nat) (σ : Nat → Nat → Int) (H0 : Heap) (hG : gX dC dI dA q σ H0) (hOK : kOK σ) (hq : kQI q k) (z1 : Int) (z2 : Int) (rz1 : -2147483648 ≤ z1 ∧ z1 < 2147483648) (rz2 : -2147483648 ≤ z2 ∧ z2 < 2147483648) : vx_Met l yX1_leafOfDay ww_X1_leafOfDay ({ frames := 9, cells := 2, slots := 12, locals := 320 }) (va_Pc [.ref (q 0), .int (iZ z1), .int (iZ z2)] (fun U => U.heap = H0 ∧ kM dC dI dA k U)) (kQ2x (ex2 (!inb z1 0 3 || !inb z2 0 3) (false) = 0) (some (.int (iZ (mlen (leap (σ 5 (z2.toNat))) (σ 6 (z2.toNat)))))) (gX dC dI dA q (sU (sU σ 0 z1.toNat (σ 5 (z2.toNat))) 1 z1.toNat (σ 6 (z2.toNat)))) (kA q H0.size)) (kXC (fun E => (ex2 (!inb z1 0 3 || !inb z2 0 3) (false) = 1 ∧ E = "java/lang/IndexOutOfBoundsException") ∨ (ex2 (!inb z1 0 3 || !inb z2 0 3) (false) = 2 ∧ E = "java/lang/IllegalArgumentException"))) 2 12 (kA q H0.size) := by
  refine vx_ofW (cc := cX1_leafOfDay) (maxL := 3) (ret := (some .int)) (by decide) rfl ?_
  intro p e s m args below meth c s₁ B hml hno hv
  obtain ⟨rfl, hH, hM⟩ := hv
  subst hH
  have hB := hM.2.1
  obtain ⟨tb, tn, tm, htn, hfit, htm, hP⟩ := hG
  have hS : va_S (kA q s.heap.size) s.heap s.heap [] := va_S.rf
  have hx := B.exec
  have hb := B.bytes
  have hr := B.returns
  have hts := atoms_spec (ws := ww_X1_leafOfDay) B.pre
  have hown : s.vm.findClass RX1 = some m.cls := findClass_of_methodNamed B.named
  have hlocks := B.notSynchronized
  have hl := lv_entry ([.ref (q 0), .int (iZ z1), .int (iZ z2)]) (n := 3) (Nat.le_of_ble_eq_true rfl)
  rw [lg_entry_eq]
  generalize (lg_sl ([.ref (q 0), .int (iZ z1), .int (iZ z2)]) ++ List.replicate (3 - (lg_sl ([.ref (q 0), .int (iZ z1), .int (iZ z2)])).length) Slot.unset).toArray = ls at hl ⊢
  have hl : lv_has ls 3 [(0, .ref (q 0)), (1, .int (iZ z1)), (2, .int (iZ z2))] := hl
  refine lv_iload_n hx hb dX1_leafOfDay_0 rfl (lv_at hl 1 rfl) ?_
  refine kcxo (fun _ q => q) (vx_runS (As := [.int (iZ z1)]) (rest := []) ⟨hx, hb, hml, hown, hts⟩ (c_X1_needPlace l hst k _ (z1) (by omega)) (va_cwS 1 hts (kg_S mw224 mw225 mw42 rfl mw226) rfl rfl rfl hdS_X1_needPlace ⟨Nat.le_of_ble_eq_true rfl, Nat.le_of_ble_eq_true rfl⟩) ⟨fun a U g mk q => ⟨q.1, q.2.1, kB_call q.2.2⟩, fun U hU hW => ⟨rfl, hU, kB_same hB hU hW⟩⟩ rfl rfl hl.1 rfl (lv_room (Nat.le_of_ble_eq_true rfl)) dX1_leafOfDay_1 ⟨Nat.le_of_ble_eq_true rfl, Nat.le_of_ble_eq_true rfl⟩) hno hlocks (fun E h => Or.inl ⟨ex2_1 (by have h9 := h.2; (simp only [inb, noThing_iff, noThing_niff, Bool.not_eq_true', Bool.not_eq_false', Bool.or_eq_true, Bool.or_eq_false_iff, decide_eq_true_eq, decide_eq_false_iff_not] <;> omega)), h.1⟩) (Nat.le_of_ble_eq_true rfl) (Nat.le_of_ble_eq_true rfl) (fun g_1 => ?_)
  have g_1 : 0 ≤ (z1) ∧ (z1) ≤ 3 := g_1
  obtain ⟨p1, hp1, rfl⟩ : ∃ p1 : Nat, p1 < 4 ∧ z1 = (p1 : Int) := ⟨z1.toNat, by omega, by omega⟩
  have o_p1 := kOKr hOK hp1
  refine lv_iload_n hx hb dX1_leafOfDay_4 rfl (lv_at hl 2 rfl) ?_
  refine kcxo (fun _ q => q) (vx_runS (As := [.int (iZ z2)]) (rest := []) ⟨hx, hb, hml, hown, hts⟩ (c_X1_needPlace l hst k _ (z2) (by omega)) (va_cwS 1 hts (kg_S mw224 mw225 mw42 rfl mw226) rfl rfl rfl hdS_X1_needPlace ⟨Nat.le_of_ble_eq_true rfl, Nat.le_of_ble_eq_true rfl⟩) ⟨fun a U g mk q => ⟨q.1, q.2.1, kB_call q.2.2⟩, fun U hU hW => ⟨rfl, hU, kB_same hB hU hW⟩⟩ rfl rfl hl.1 rfl (lv_room (Nat.le_of_ble_eq_true rfl)) dX1_leafOfDay_5 ⟨Nat.le_of_ble_eq_true rfl, Nat.le_of_ble_eq_true rfl⟩) hno hlocks (fun E h => Or.inl ⟨ex2_1 (by have h9 := h.2; (simp only [inb, noThing_iff, noThing_niff, Bool.not_eq_true', Bool.not_eq_false', Bool.or_eq_true, Bool.or_eq_false_iff, decide_eq_true_eq, decide_eq_false_iff_not] <;> omega)), h.1⟩) (Nat.le_of_ble_eq_true rfl) (Nat.le_of_ble_eq_true rfl) (fun g_2 => ?_)
  have g_2 : 0 ≤ (z2) ∧ (z2) ≤ 3 := g_2
  obtain ⟨p2, hp2, rfl⟩ : ∃ p2 : Nat, p2 < 4 ∧ z2 = (p2 : Int) := ⟨z2.toNat, by omega, by omega⟩
  have o_p2 := kOKr hOK hp2
  refine lv_aload_n hx hb dX1_leafOfDay_8 rfl (lv_at hl 0 rfl) ?_
  refine lv_iload_n hx hb dX1_leafOfDay_9 rfl (lv_at hl 1 rfl) ?_
  refine lv_aload_n hx hb dX1_leafOfDay_10 rfl (lv_at hl 0 rfl) ?_
  refine va_get (D := (dC, dI)) (ci := 4) (v := .ref (q 5)) (C := RX1) (T := TX1) (N := 8) hx hb hts (fun w h => List.mem_cons_of_mem _ (gF_0_in h)) hown hM.1 hP 0 rfl rfl 4 (by decide) (hts _ (List.mem_cons_of_mem _ mw101)) (fun _ h9 => h9) rfl dX1_leafOfDay_11 ?_
  refine lv_iload_n hx hb dX1_leafOfDay_14 rfl (lv_at hl 2 rfl) ?_
  refine kz_lald (v := cnt (σ 5 p2) (σ 6 p2)) hx hb hM.1 hP 5 1 rfl rfl (by omega) (by decide) rfl dX1_leafOfDay_15 ?_
  refine kc2 (va_runV (As := [.int (iZ ((p1 : Nat) : Int)), .long (lZ (cnt (σ 5 p2) (σ 6 p2)))]) (rest := []) ⟨hx, hb, hml, hown, hts⟩ (c_X1_putLeaf l dC dI dA k q (σ) _ ⟨tb, tn, tm, htn, hfit, htm, hP⟩ (hOK) hq p1 ((cnt (σ 5 p2) (σ 6 p2))) hp1 (by omega)) (cwV 2 hts (kg_V mw616 mw617 mw19 mw42 rfl mw618) rfl rfl rfl hdV_X1_putLeaf ⟨Nat.le_of_ble_eq_true rfl, Nat.le_of_ble_eq_true rfl⟩) ⟨fun a U g mk q => ⟨q.1, q.2.1, kM_call q.2.2⟩, va_recv hM.1 hP (ci := 4) (q0 := 0) rfl rfl, fun U hU hW => ⟨rfl, hU, kM_kept hM hS (kA_N hq hM.2.1.1) hU hW⟩⟩ rfl rfl hl.1 rfl (lv_room (Nat.le_of_ble_eq_true rfl)) dX1_leafOfDay_16 ⟨Nat.le_of_ble_eq_true rfl, Nat.le_of_ble_eq_true rfl⟩) hS (fun a _ h => kA_up hS.1 a h) (fun a h => kA_up hS.1 a h) (fun H locs hG hz9 hk9 hS => ?_)
  obtain ⟨tb, tn, tm, htn, hfit, htm, hP⟩ := hG
  refine W.widen (k := 2) (n := 12) (Nat.le_of_ble_eq_true rfl) (Nat.le_of_ble_eq_true rfl) ?_
  refine vx_ret ?_
  exact W.iret (v := iZ (putLr (((cnt (σ 5 p2) (σ 6 p2)))))) hx hb hr (fun t ht hW => ⟨⟨⟨congrArg (fun z : Int => Outcome.returned (some (Value.int (iZ z)))) (show (putLr (((cnt (σ 5 p2) (σ 6 p2))))) = (mlen (leap (σ 5 p2)) (σ 6 p2)) from by exact putLr_cnt (y := σ 5 p2) (m := σ 6 p2) (by omega) (by omega)), gX_cast ⟨tb, tn, tm, htn, hfit, htm, by rw [ht]; exact hP⟩ (show (putLs σ p1 (((cnt (σ 5 p2) (σ 6 p2))))) = (sU (sU σ 0 p1 (σ 5 p2)) 1 p1 (σ 6 p2)) from by exact putLs_cnt (y := σ 5 p2) (m := σ 6 p2) (by omega) (by omega))⟩, hS.F ht⟩, ex2_0 (by (simp only [inb, noThing_iff, noThing_niff, Bool.not_eq_true', Bool.not_eq_false', Bool.or_eq_true, Bool.or_eq_false_iff, decide_eq_true_eq, decide_eq_false_iff_not] <;> omega)) (by rfl)⟩) hS.2.2 dX1_leafOfDay_19

abbrev ww_X1_leafLike : List Cond := .code yX1_leafLike cX1_leafLike 4 (some .int) :: gT
set_option maxHeartbeats 4000000 in
set_option maxRecDepth 100000 in
theorem c_X1_leafLike (l : Launch) (hst : l.stackTraces = false) (dC : Nat → ClassId) (dI : Nat → Nat → Nat) (dA : Nat → ClassId) (k : Nat → Nat) (q : Nat → Nat) (σ : Nat → Nat → Int) (H0 : Heap) (hG : gX dC dI dA q σ H0) (hOK : kOK σ) (hq : kQI q k) (z1 : Int) (z2 : Int) (rz1 : -2147483648 ≤ z1 ∧ z1 < 2147483648) (rz2 : -2147483648 ≤ z2 ∧ z2 < 2147483648) : vx_Met l yX1_leafLike ww_X1_leafLike ({ frames := 9, cells := 2, slots := 12, locals := 320 }) (va_Pc [.ref (q 0), .int (iZ z1), .int (iZ z2)] (fun U => U.heap = H0 ∧ kM dC dI dA k U)) (kQ2x (ex2 (!inb z1 0 3 || !inb z2 0 3) (false) = 0) (some (.int (iZ (bZ (decide (σ 0 (z1.toNat) = σ 0 (z2.toNat) ∧ σ 1 (z1.toNat) = σ 1 (z2.toNat))))))) (gX dC dI dA q (sU (sU σ 0 z1.toNat (σ 0 (z2.toNat))) 1 z1.toNat (σ 1 (z2.toNat)))) (kA q H0.size)) (kXC (fun E => (ex2 (!inb z1 0 3 || !inb z2 0 3) (false) = 1 ∧ E = "java/lang/IndexOutOfBoundsException") ∨ (ex2 (!inb z1 0 3 || !inb z2 0 3) (false) = 2 ∧ E = "java/lang/IllegalArgumentException"))) 2 12 (kA q H0.size) := by
  refine vx_ofW (cc := cX1_leafLike) (maxL := 4) (ret := (some .int)) (by decide) rfl ?_
  intro p e s m args below meth c s₁ B hml hno hv
  obtain ⟨rfl, hH, hM⟩ := hv
  subst hH
  have hB := hM.2.1
  obtain ⟨tb, tn, tm, htn, hfit, htm, hP⟩ := hG
  have hS : va_S (kA q s.heap.size) s.heap s.heap [] := va_S.rf
  have hx := B.exec
  have hb := B.bytes
  have hr := B.returns
  have hts := atoms_spec (ws := ww_X1_leafLike) B.pre
  have hown : s.vm.findClass RX1 = some m.cls := findClass_of_methodNamed B.named
  have hlocks := B.notSynchronized
  have hl := lv_entry ([.ref (q 0), .int (iZ z1), .int (iZ z2)]) (n := 4) (Nat.le_of_ble_eq_true rfl)
  rw [lg_entry_eq]
  generalize (lg_sl ([.ref (q 0), .int (iZ z1), .int (iZ z2)]) ++ List.replicate (4 - (lg_sl ([.ref (q 0), .int (iZ z1), .int (iZ z2)])).length) Slot.unset).toArray = ls at hl ⊢
  have hl : lv_has ls 4 [(0, .ref (q 0)), (1, .int (iZ z1)), (2, .int (iZ z2))] := hl
  refine lv_iload_n hx hb dX1_leafLike_0 rfl (lv_at hl 1 rfl) ?_
  refine kcxo (fun _ q => q) (vx_runS (As := [.int (iZ z1)]) (rest := []) ⟨hx, hb, hml, hown, hts⟩ (c_X1_needPlace l hst k _ (z1) (by omega)) (va_cwS 1 hts (kg_S mw224 mw225 mw42 rfl mw226) rfl rfl rfl hdS_X1_needPlace ⟨Nat.le_of_ble_eq_true rfl, Nat.le_of_ble_eq_true rfl⟩) ⟨fun a U g mk q => ⟨q.1, q.2.1, kB_call q.2.2⟩, fun U hU hW => ⟨rfl, hU, kB_same hB hU hW⟩⟩ rfl rfl hl.1 rfl (lv_room (Nat.le_of_ble_eq_true rfl)) dX1_leafLike_1 ⟨Nat.le_of_ble_eq_true rfl, Nat.le_of_ble_eq_true rfl⟩) hno hlocks (fun E h => Or.inl ⟨ex2_1 (by have h9 := h.2; (simp only [inb, noThing_iff, noThing_niff, Bool.not_eq_true', Bool.not_eq_false', Bool.or_eq_true, Bool.or_eq_false_iff, decide_eq_true_eq, decide_eq_false_iff_not] <;> omega)), h.1⟩) (Nat.le_of_ble_eq_true rfl) (Nat.le_of_ble_eq_true rfl) (fun g_1 => ?_)
  have g_1 : 0 ≤ (z1) ∧ (z1) ≤ 3 := g_1
  obtain ⟨p1, hp1, rfl⟩ : ∃ p1 : Nat, p1 < 4 ∧ z1 = (p1 : Int) := ⟨z1.toNat, by omega, by omega⟩
  have o_p1 := kOKr hOK hp1
  refine lv_iload_n hx hb dX1_leafLike_4 rfl (lv_at hl 2 rfl) ?_
  refine kcxo (fun _ q => q) (vx_runS (As := [.int (iZ z2)]) (rest := []) ⟨hx, hb, hml, hown, hts⟩ (c_X1_needPlace l hst k _ (z2) (by omega)) (va_cwS 1 hts (kg_S mw224 mw225 mw42 rfl mw226) rfl rfl rfl hdS_X1_needPlace ⟨Nat.le_of_ble_eq_true rfl, Nat.le_of_ble_eq_true rfl⟩) ⟨fun a U g mk q => ⟨q.1, q.2.1, kB_call q.2.2⟩, fun U hU hW => ⟨rfl, hU, kB_same hB hU hW⟩⟩ rfl rfl hl.1 rfl (lv_room (Nat.le_of_ble_eq_true rfl)) dX1_leafLike_5 ⟨Nat.le_of_ble_eq_true rfl, Nat.le_of_ble_eq_true rfl⟩) hno hlocks (fun E h => Or.inl ⟨ex2_1 (by have h9 := h.2; (simp only [inb, noThing_iff, noThing_niff, Bool.not_eq_true', Bool.not_eq_false', Bool.or_eq_true, Bool.or_eq_false_iff, decide_eq_true_eq, decide_eq_false_iff_not] <;> omega)), h.1⟩) (Nat.le_of_ble_eq_true rfl) (Nat.le_of_ble_eq_true rfl) (fun g_2 => ?_)
  have g_2 : 0 ≤ (z2) ∧ (z2) ≤ 3 := g_2
  obtain ⟨p2, hp2, rfl⟩ : ∃ p2 : Nat, p2 < 4 ∧ z2 = (p2 : Int) := ⟨z2.toNat, by omega, by omega⟩
  have o_p2 := kOKr hOK hp2
  refine lv_aload_n hx hb dX1_leafLike_8 rfl (lv_at hl 0 rfl) ?_
  refine va_get (D := (dC, dI)) (ci := 4) (v := .ref (q 1)) (C := RX1) (T := TX1) (N := 8) hx hb hts (fun w h => List.mem_cons_of_mem _ (gF_0_in h)) hown hM.1 hP 0 rfl rfl 0 (by decide) (hts _ (List.mem_cons_of_mem _ mw97)) (fun _ h9 => h9) rfl dX1_leafLike_9 ?_
  refine lv_iload_n hx hb dX1_leafLike_12 rfl (lv_at hl 1 rfl) ?_
  refine kz_lald (v := cnt (σ 0 p1) (σ 1 p1)) hx hb hM.1 hP 1 1 rfl rfl (by omega) (by decide) rfl dX1_leafLike_13 ?_
  refine lv_aload_n hx hb dX1_leafLike_14 rfl (lv_at hl 0 rfl) ?_
  refine va_get (D := (dC, dI)) (ci := 4) (v := .ref (q 1)) (C := RX1) (T := TX1) (N := 8) hx hb hts (fun w h => List.mem_cons_of_mem _ (gF_0_in h)) hown hM.1 hP 0 rfl rfl 0 (by decide) (hts _ (List.mem_cons_of_mem _ mw97)) (fun _ h9 => h9) rfl dX1_leafLike_15 ?_
  refine lv_iload_n hx hb dX1_leafLike_18 rfl (lv_at hl 2 rfl) ?_
  refine kz_lald (v := cnt (σ 0 p2) (σ 1 p2)) hx hb hM.1 hP 1 1 rfl rfl (by omega) (by decide) rfl dX1_leafLike_19 ?_
  refine kz_lcmp_ne (tgt := 28) hx hb (by omega) (by omega) dX1_leafLike_20 dX1_leafLike_21 (by decide) (fun c_3 => ?_) (fun c_3 => ?_)
  · refine lv_iconst (v := iZ 0) hx hb dX1_leafLike_28 rfl ?_
    refine kc0 (fun _ q => q) (va_runS (As := [.int (iZ (bZ false))]) (rest := []) ⟨hx, hb, hml, hown, hts⟩ (c_X1_oneIf l _ false) (va_cwS 1 hts (kg_S mw176 mw177 mw42 rfl mw178) rfl rfl rfl hdS_X1_oneIf ⟨Nat.le_of_ble_eq_true rfl, Nat.le_of_ble_eq_true rfl⟩) ⟨fun a U g mk q => q, fun U hU hW => ⟨rfl, hU⟩⟩ rfl rfl hl.1 rfl (lv_room (Nat.le_of_ble_eq_true rfl)) dX1_leafLike_29 ⟨Nat.le_of_ble_eq_true rfl, Nat.le_of_ble_eq_true rfl⟩) ?_
    refine lv_istore_n (lv' := [(3, .int (iZ 0)), (0, .ref (q 0)), (1, .int (iZ ((p1 : Nat) : Int))), (2, .int (iZ ((p2 : Nat) : Int)))]) hx hb dX1_leafLike_32 rfl hl (by decide) rfl (fun ls hl => ?_)
    refine lv_aload_n hx hb dX1_leafLike_33 rfl (lv_at hl 1 rfl) ?_
    refine va_get (D := (dC, dI)) (ci := 4) (v := .ref (q 1)) (C := RX1) (T := TX1) (N := 8) hx hb hts (fun w h => List.mem_cons_of_mem _ (gF_0_in h)) hown hM.1 hP 0 rfl rfl 0 (by decide) (hts _ (List.mem_cons_of_mem _ mw97)) (fun _ h9 => h9) rfl dX1_leafLike_34 ?_
    refine lv_iload_n hx hb dX1_leafLike_37 rfl (lv_at hl 2 rfl) ?_
    refine lv_aload_n hx hb dX1_leafLike_38 rfl (lv_at hl 1 rfl) ?_
    refine va_get (D := (dC, dI)) (ci := 4) (v := .ref (q 1)) (C := RX1) (T := TX1) (N := 8) hx hb hts (fun w h => List.mem_cons_of_mem _ (gF_0_in h)) hown hM.1 hP 0 rfl rfl 0 (by decide) (hts _ (List.mem_cons_of_mem _ mw97)) (fun _ h9 => h9) rfl dX1_leafLike_39 ?_
    refine lv_iload_n hx hb dX1_leafLike_42 rfl (lv_at hl 3 rfl) ?_
    refine kz_lald (v := cnt (σ 0 p2) (σ 1 p2)) hx hb hM.1 hP 1 1 rfl rfl (by omega) (by decide) rfl dX1_leafLike_43 ?_
    refine kxs_1 hx hb hq hM.1 hP hS hp1 (y1 := σ 0 p2) (m1 := σ 1 p2) (rfl) dX1_leafLike_44 (fun H locs hP hS => ?_)
    refine lv_iload_n hx hb dX1_leafLike_45 rfl (lv_at hl 0 rfl) ?_
    refine W.widen (k := 2) (n := 12) (Nat.le_of_ble_eq_true rfl) (Nat.le_of_ble_eq_true rfl) ?_
    refine vx_ret ?_
    exact W.iret (v := iZ 0) hx hb hr (fun t ht hW => ⟨⟨⟨congrArg (fun z : Int => Outcome.returned (some (Value.int (iZ z)))) (show 0 = (bZ (decide (σ 0 p1 = σ 0 p2 ∧ σ 1 p1 = σ 1 p2))) from by exact bZ_d0 (by unfold cnt at *; omega)), gX_cast ⟨tb, tn, tm, htn, hfit, htm, by rw [ht]; exact hP⟩ (show (sU (sU (σ) 0 p1 (σ 0 p2)) 1 p1 (σ 1 p2)) = (sU (sU σ 0 p1 (σ 0 p2)) 1 p1 (σ 1 p2)) from by rfl)⟩, hS.F ht⟩, ex2_0 (by (simp only [inb, noThing_iff, noThing_niff, Bool.not_eq_true', Bool.not_eq_false', Bool.or_eq_true, Bool.or_eq_false_iff, decide_eq_true_eq, decide_eq_false_iff_not] <;> omega)) (by rfl)⟩) hS.2.2 dX1_leafLike_46
  · refine lv_iconst (v := iZ 1) hx hb dX1_leafLike_24 rfl ?_
    refine lv_goto (tgt := 29) hx hb dX1_leafLike_25 (by decide) ?_
    refine kc0 (fun _ q => q) (va_runS (As := [.int (iZ (bZ true))]) (rest := []) ⟨hx, hb, hml, hown, hts⟩ (c_X1_oneIf l _ true) (va_cwS 1 hts (kg_S mw176 mw177 mw42 rfl mw178) rfl rfl rfl hdS_X1_oneIf ⟨Nat.le_of_ble_eq_true rfl, Nat.le_of_ble_eq_true rfl⟩) ⟨fun a U g mk q => q, fun U hU hW => ⟨rfl, hU⟩⟩ rfl rfl hl.1 rfl (lv_room (Nat.le_of_ble_eq_true rfl)) dX1_leafLike_29 ⟨Nat.le_of_ble_eq_true rfl, Nat.le_of_ble_eq_true rfl⟩) ?_
    refine lv_istore_n (lv' := [(3, .int (iZ 1)), (0, .ref (q 0)), (1, .int (iZ ((p1 : Nat) : Int))), (2, .int (iZ ((p2 : Nat) : Int)))]) hx hb dX1_leafLike_32 rfl hl (by decide) rfl (fun ls hl => ?_)
    refine lv_aload_n hx hb dX1_leafLike_33 rfl (lv_at hl 1 rfl) ?_
    refine va_get (D := (dC, dI)) (ci := 4) (v := .ref (q 1)) (C := RX1) (T := TX1) (N := 8) hx hb hts (fun w h => List.mem_cons_of_mem _ (gF_0_in h)) hown hM.1 hP 0 rfl rfl 0 (by decide) (hts _ (List.mem_cons_of_mem _ mw97)) (fun _ h9 => h9) rfl dX1_leafLike_34 ?_
    refine lv_iload_n hx hb dX1_leafLike_37 rfl (lv_at hl 2 rfl) ?_
    refine lv_aload_n hx hb dX1_leafLike_38 rfl (lv_at hl 1 rfl) ?_
    refine va_get (D := (dC, dI)) (ci := 4) (v := .ref (q 1)) (C := RX1) (T := TX1) (N := 8) hx hb hts (fun w h => List.mem_cons_of_mem _ (gF_0_in h)) hown hM.1 hP 0 rfl rfl 0 (by decide) (hts _ (List.mem_cons_of_mem _ mw97)) (fun _ h9 => h9) rfl dX1_leafLike_39 ?_
    refine lv_iload_n hx hb dX1_leafLike_42 rfl (lv_at hl 3 rfl) ?_
    refine kz_lald (v := cnt (σ 0 p2) (σ 1 p2)) hx hb hM.1 hP 1 1 rfl rfl (by omega) (by decide) rfl dX1_leafLike_43 ?_
    refine kxs_1 hx hb hq hM.1 hP hS hp1 (y1 := σ 0 p2) (m1 := σ 1 p2) (rfl) dX1_leafLike_44 (fun H locs hP hS => ?_)
    refine lv_iload_n hx hb dX1_leafLike_45 rfl (lv_at hl 0 rfl) ?_
    refine W.widen (k := 2) (n := 12) (Nat.le_of_ble_eq_true rfl) (Nat.le_of_ble_eq_true rfl) ?_
    refine vx_ret ?_
    exact W.iret (v := iZ 1) hx hb hr (fun t ht hW => ⟨⟨⟨congrArg (fun z : Int => Outcome.returned (some (Value.int (iZ z)))) (show 1 = (bZ (decide (σ 0 p1 = σ 0 p2 ∧ σ 1 p1 = σ 1 p2))) from by exact bZ_d1 (by unfold cnt at *; omega)), gX_cast ⟨tb, tn, tm, htn, hfit, htm, by rw [ht]; exact hP⟩ (show (sU (sU (σ) 0 p1 (σ 0 p2)) 1 p1 (σ 1 p2)) = (sU (sU σ 0 p1 (σ 0 p2)) 1 p1 (σ 1 p2)) from by rfl)⟩, hS.F ht⟩, ex2_0 (by (simp only [inb, noThing_iff, noThing_niff, Bool.not_eq_true', Bool.not_eq_false', Bool.or_eq_true, Bool.or_eq_false_iff, decide_eq_true_eq, decide_eq_false_iff_not] <;> omega)) (by rfl)⟩) hS.2.2 dX1_leafLike_46

abbrev ww_X1_year : List Cond := .code yX1_year cX1_year 3 (some .int) :: gT
set_option maxHeartbeats 4000000 in
set_option maxRecDepth 100000 in
theorem c_X1_year (l : Launch) (hst : l.stackTraces = false) (dC : Nat → ClassId) (dI : Nat → Nat → Nat) (dA : Nat → ClassId) (k : Nat → Nat) (q : Nat → Nat) (σ : Nat → Nat → Int) (H0 : Heap) (hG : gX dC dI dA q σ H0) (hOK : kOK σ) (hq : kQI q k) (z1 : Int) (yy : Int) (rz1 : -2147483648 ≤ z1 ∧ z1 < 2147483648) (ryy : -2147483648 ≤ yy ∧ yy < 2147483648) : vx_Met l yX1_year ww_X1_year ({ frames := 10, cells := 2, slots := 12, locals := 342 }) (va_Pc [.ref (q 0), .int (iZ z1), .int (iZ yy)] (fun U => U.heap = H0 ∧ kM dC dI dA k U)) (kQ2x (ex2 (!inb z1 0 3) (!inb yy (-999999999) 999999999) = 0) (some (.int (iZ (ylen yy)))) (gX dC dI dA q (sU σ 2 z1.toNat yy)) (kA q H0.size)) (kXC (fun E => (ex2 (!inb z1 0 3) (!inb yy (-999999999) 999999999) = 1 ∧ E = "java/lang/IndexOutOfBoundsException") ∨ (ex2 (!inb z1 0 3) (!inb yy (-999999999) 999999999) = 2 ∧ E = "java/lang/IllegalArgumentException"))) 2 12 (kA q H0.size) := by
  refine vx_ofW (cc := cX1_year) (maxL := 3) (ret := (some .int)) (by decide) rfl ?_
  intro p e s m args below meth c s₁ B hml hno hv
  obtain ⟨rfl, hH, hM⟩ := hv
  subst hH
  have hB := hM.2.1
  obtain ⟨tb, tn, tm, htn, hfit, htm, hP⟩ := hG
  have hS : va_S (kA q s.heap.size) s.heap s.heap [] := va_S.rf
  have hx := B.exec
  have hb := B.bytes
  have hr := B.returns
  have hts := atoms_spec (ws := ww_X1_year) B.pre
  have hown : s.vm.findClass RX1 = some m.cls := findClass_of_methodNamed B.named
  have hlocks := B.notSynchronized
  have hl := lv_entry ([.ref (q 0), .int (iZ z1), .int (iZ yy)]) (n := 3) (Nat.le_of_ble_eq_true rfl)
  rw [lg_entry_eq]
  generalize (lg_sl ([.ref (q 0), .int (iZ z1), .int (iZ yy)]) ++ List.replicate (3 - (lg_sl ([.ref (q 0), .int (iZ z1), .int (iZ yy)])).length) Slot.unset).toArray = ls at hl ⊢
  have hl : lv_has ls 3 [(0, .ref (q 0)), (1, .int (iZ z1)), (2, .int (iZ yy))] := hl
  refine lv_iload_n hx hb dX1_year_0 rfl (lv_at hl 1 rfl) ?_
  refine kcxo (fun _ q => q) (vx_runS (As := [.int (iZ z1)]) (rest := []) ⟨hx, hb, hml, hown, hts⟩ (c_X1_needPlace l hst k _ (z1) (by omega)) (va_cwS 1 hts (kg_S mw224 mw225 mw42 rfl mw226) rfl rfl rfl hdS_X1_needPlace ⟨Nat.le_of_ble_eq_true rfl, Nat.le_of_ble_eq_true rfl⟩) ⟨fun a U g mk q => ⟨q.1, q.2.1, kB_call q.2.2⟩, fun U hU hW => ⟨rfl, hU, kB_same hB hU hW⟩⟩ rfl rfl hl.1 rfl (lv_room (Nat.le_of_ble_eq_true rfl)) dX1_year_1 ⟨Nat.le_of_ble_eq_true rfl, Nat.le_of_ble_eq_true rfl⟩) hno hlocks (fun E h => Or.inl ⟨ex2_1 (by have h9 := h.2; (simp only [inb, noThing_iff, noThing_niff, Bool.not_eq_true', Bool.not_eq_false', Bool.or_eq_true, Bool.or_eq_false_iff, decide_eq_true_eq, decide_eq_false_iff_not] <;> omega)), h.1⟩) (Nat.le_of_ble_eq_true rfl) (Nat.le_of_ble_eq_true rfl) (fun g_1 => ?_)
  have g_1 : 0 ≤ (z1) ∧ (z1) ≤ 3 := g_1
  obtain ⟨p1, hp1, rfl⟩ : ∃ p1 : Nat, p1 < 4 ∧ z1 = (p1 : Int) := ⟨z1.toNat, by omega, by omega⟩
  have o_p1 := kOKr hOK hp1
  refine lv_iload_n hx hb dX1_year_4 rfl (lv_at hl 2 rfl) ?_
  refine kcxo (fun _ q => q) (vx_runS (As := [.int (iZ yy)]) (rest := []) ⟨hx, hb, hml, hown, hts⟩ (c_X1_needYearNumber l hst k _ (yy) (by omega)) (va_cwS 1 hts (kg_S mw610 mw611 mw42 rfl mw612) rfl rfl rfl hdS_X1_needYearNumber ⟨Nat.le_of_ble_eq_true rfl, Nat.le_of_ble_eq_true rfl⟩) ⟨fun a U g mk q => ⟨q.1, q.2.1, kB_call q.2.2⟩, fun U hU hW => ⟨rfl, hU, kB_same hB hU hW⟩⟩ rfl rfl hl.1 rfl (lv_room (Nat.le_of_ble_eq_true rfl)) dX1_year_5 ⟨Nat.le_of_ble_eq_true rfl, Nat.le_of_ble_eq_true rfl⟩) hno hlocks (fun E h => Or.inr ⟨ex2_2 (by (simp only [inb, noThing_iff, noThing_niff, Bool.not_eq_true', Bool.not_eq_false', Bool.or_eq_true, Bool.or_eq_false_iff, decide_eq_true_eq, decide_eq_false_iff_not] <;> omega)) (by have h9 := h.2; (simp only [inb, noThing_iff, noThing_niff, Bool.not_eq_true', Bool.not_eq_false', Bool.or_eq_true, Bool.or_eq_false_iff, decide_eq_true_eq, decide_eq_false_iff_not] <;> omega)), h.1⟩) (Nat.le_of_ble_eq_true rfl) (Nat.le_of_ble_eq_true rfl) (fun g_2 => ?_)
  have g_2 : -999999999 ≤ (yy) ∧ (yy) ≤ 999999999 := g_2
  refine lv_aload_n hx hb dX1_year_8 rfl (lv_at hl 0 rfl) ?_
  refine lv_iload_n hx hb dX1_year_9 rfl (lv_at hl 1 rfl) ?_
  refine lv_iload_n hx hb dX1_year_10 rfl (lv_at hl 2 rfl) ?_
  refine kz_i2l hx hb (by omega) dX1_year_11 ?_
  refine kc2 (va_runV (As := [.int (iZ ((p1 : Nat) : Int)), .long (lZ (yy))]) (rest := []) ⟨hx, hb, hml, hown, hts⟩ (c_X1_putYear l dC dI dA k q (σ) _ ⟨tb, tn, tm, htn, hfit, htm, hP⟩ (hOK) hq p1 (yy) hp1 (by omega)) (cwV 2 hts (kg_V mw736 mw737 mw21 mw42 rfl mw738) rfl rfl rfl hdV_X1_putYear ⟨Nat.le_of_ble_eq_true rfl, Nat.le_of_ble_eq_true rfl⟩) ⟨fun a U g mk q => ⟨q.1, q.2.1, kM_call q.2.2⟩, va_recv hM.1 hP (ci := 4) (q0 := 0) rfl rfl, fun U hU hW => ⟨rfl, hU, kM_kept hM hS (kA_N hq hM.2.1.1) hU hW⟩⟩ rfl rfl hl.1 rfl (lv_room (Nat.le_of_ble_eq_true rfl)) dX1_year_12 ⟨Nat.le_of_ble_eq_true rfl, Nat.le_of_ble_eq_true rfl⟩) hS (fun a _ h => kA_up hS.1 a h) (fun a h => kA_up hS.1 a h) (fun H locs hG hz9 hk9 hS => ?_)
  obtain ⟨tb, tn, tm, htn, hfit, htm, hP⟩ := hG
  refine W.widen (k := 2) (n := 12) (Nat.le_of_ble_eq_true rfl) (Nat.le_of_ble_eq_true rfl) ?_
  refine vx_ret ?_
  exact W.iret (v := iZ (putYr ((yy)))) hx hb hr (fun t ht hW => ⟨⟨⟨congrArg (fun z : Int => Outcome.returned (some (Value.int (iZ z)))) (show (putYr ((yy))) = (ylen yy) from by exact putYr_in (by omega)), gX_cast ⟨tb, tn, tm, htn, hfit, htm, by rw [ht]; exact hP⟩ (show (putYs σ p1 ((yy))) = (sU σ 2 p1 yy) from by exact putYs_in (by omega))⟩, hS.F ht⟩, ex2_0 (by (simp only [inb, noThing_iff, noThing_niff, Bool.not_eq_true', Bool.not_eq_false', Bool.or_eq_true, Bool.or_eq_false_iff, decide_eq_true_eq, decide_eq_false_iff_not] <;> omega)) (by (simp only [inb, noThing_iff, noThing_niff, Bool.not_eq_true', Bool.not_eq_false', Bool.or_eq_true, Bool.or_eq_false_iff, decide_eq_true_eq, decide_eq_false_iff_not] <;> omega))⟩) hS.2.2 dX1_year_15

abbrev ww_X1_later : List Cond := .code yX1_later cX1_later 4 (some .int) :: gT
set_option maxHeartbeats 4000000 in
set_option maxRecDepth 100000 in
theorem c_X1_later (l : Launch) (hst : l.stackTraces = false) (dC : Nat → ClassId) (dI : Nat → Nat → Nat) (dA : Nat → ClassId) (k : Nat → Nat) (q : Nat → Nat) (σ : Nat → Nat → Int) (H0 : Heap) (hG : gX dC dI dA q σ H0) (hOK : kOK σ) (hq : kQI q k) (z1 : Int) (mm : Int) (bb : Bool) (rz1 : -2147483648 ≤ z1 ∧ z1 < 2147483648) (rmm : -2147483648 ≤ mm ∧ mm < 2147483648) : vx_Met l yX1_later ww_X1_later ({ frames := 9, cells := 1, slots := 6, locals := 320 }) (va_Pc [.ref (q 0), .int (iZ z1), .int (iZ mm), .int (iZ (bZ (bb)))] (fun U => U.heap = H0 ∧ kM dC dI dA k U)) (kQ2x (ex2 (!inb z1 0 3) (false) = 0) (some (.int (iZ (putYr (σ 2 (z1.toNat) + sgn mm bb))))) (gX dC dI dA q (putYs σ (z1.toNat) (σ 2 (z1.toNat) + sgn mm bb))) (kA q H0.size)) (kXC (fun E => (ex2 (!inb z1 0 3) (false) = 1 ∧ E = "java/lang/IndexOutOfBoundsException") ∨ (ex2 (!inb z1 0 3) (false) = 2 ∧ E = "java/lang/IllegalArgumentException"))) 1 6 (kA q H0.size) := by
  refine vx_ofW (cc := cX1_later) (maxL := 4) (ret := (some .int)) (by decide) rfl ?_
  intro p e s m args below meth c s₁ B hml hno hv
  obtain ⟨rfl, hH, hM⟩ := hv
  subst hH
  have hB := hM.2.1
  obtain ⟨tb, tn, tm, htn, hfit, htm, hP⟩ := hG
  have hS : va_S (kA q s.heap.size) s.heap s.heap [] := va_S.rf
  have hx := B.exec
  have hb := B.bytes
  have hr := B.returns
  have hts := atoms_spec (ws := ww_X1_later) B.pre
  have hown : s.vm.findClass RX1 = some m.cls := findClass_of_methodNamed B.named
  have hlocks := B.notSynchronized
  have hl := lv_entry ([.ref (q 0), .int (iZ z1), .int (iZ mm), .int (iZ (bZ (bb)))]) (n := 4) (Nat.le_of_ble_eq_true rfl)
  rw [lg_entry_eq]
  generalize (lg_sl ([.ref (q 0), .int (iZ z1), .int (iZ mm), .int (iZ (bZ (bb)))]) ++ List.replicate (4 - (lg_sl ([.ref (q 0), .int (iZ z1), .int (iZ mm), .int (iZ (bZ (bb)))])).length) Slot.unset).toArray = ls at hl ⊢
  have hl : lv_has ls 4 [(0, .ref (q 0)), (1, .int (iZ z1)), (2, .int (iZ mm)), (3, .int (iZ (bZ (bb))))] := hl
  refine lv_iload_n hx hb dX1_later_0 rfl (lv_at hl 1 rfl) ?_
  refine kcxo (fun _ q => q) (vx_runS (As := [.int (iZ z1)]) (rest := []) ⟨hx, hb, hml, hown, hts⟩ (c_X1_needPlace l hst k _ (z1) (by omega)) (va_cwS 1 hts (kg_S mw224 mw225 mw42 rfl mw226) rfl rfl rfl hdS_X1_needPlace ⟨Nat.le_of_ble_eq_true rfl, Nat.le_of_ble_eq_true rfl⟩) ⟨fun a U g mk q => ⟨q.1, q.2.1, kB_call q.2.2⟩, fun U hU hW => ⟨rfl, hU, kB_same hB hU hW⟩⟩ rfl rfl hl.1 rfl (lv_room (Nat.le_of_ble_eq_true rfl)) dX1_later_1 ⟨Nat.le_of_ble_eq_true rfl, Nat.le_of_ble_eq_true rfl⟩) hno hlocks (fun E h => Or.inl ⟨ex2_1 (by have h9 := h.2; (simp only [inb, noThing_iff, noThing_niff, Bool.not_eq_true', Bool.not_eq_false', Bool.or_eq_true, Bool.or_eq_false_iff, decide_eq_true_eq, decide_eq_false_iff_not] <;> omega)), h.1⟩) (Nat.le_of_ble_eq_true rfl) (Nat.le_of_ble_eq_true rfl) (fun g_1 => ?_)
  have g_1 : 0 ≤ (z1) ∧ (z1) ≤ 3 := g_1
  obtain ⟨p1, hp1, rfl⟩ : ∃ p1 : Nat, p1 < 4 ∧ z1 = (p1 : Int) := ⟨z1.toNat, by omega, by omega⟩
  have o_p1 := kOKr hOK hp1
  refine lv_aload_n hx hb dX1_later_4 rfl (lv_at hl 0 rfl) ?_
  refine lv_iload_n hx hb dX1_later_5 rfl (lv_at hl 1 rfl) ?_
  refine lv_iload_n hx hb dX1_later_6 rfl (lv_at hl 2 rfl) ?_
  refine kz_i2l hx hb (by omega) dX1_later_7 ?_
  refine lv_iload_n hx hb dX1_later_8 rfl (lv_at hl 3 rfl) ?_
  refine kc2 (va_runV (As := [.int (iZ ((p1 : Nat) : Int)), .long (lZ (mm)), .int (iZ (bZ (bb)))]) (rest := []) ⟨hx, hb, hml, hown, hts⟩ (c_X1_moveYear l dC dI dA k q (σ) _ ⟨tb, tn, tm, htn, hfit, htm, hP⟩ (hOK) hq p1 (mm) (bb) hp1 (by omega)) (cwV 3 hts (kg_V mw748 mw749 mw22 mw42 rfl mw750) rfl rfl rfl hdV_X1_moveYear ⟨Nat.le_of_ble_eq_true rfl, Nat.le_of_ble_eq_true rfl⟩) ⟨fun a U g mk q => ⟨q.1, q.2.1, kM_call q.2.2⟩, va_recv hM.1 hP (ci := 4) (q0 := 0) rfl rfl, fun U hU hW => ⟨rfl, hU, kM_kept hM hS (kA_N hq hM.2.1.1) hU hW⟩⟩ rfl rfl hl.1 rfl (lv_room (Nat.le_of_ble_eq_true rfl)) dX1_later_9 ⟨Nat.le_of_ble_eq_true rfl, Nat.le_of_ble_eq_true rfl⟩) hS (fun a _ h => kA_up hS.1 a h) (fun a h => kA_up hS.1 a h) (fun H locs hG hz9 hk9 hS => ?_)
  obtain ⟨tb, tn, tm, htn, hfit, htm, hP⟩ := hG
  refine W.widen (k := 1) (n := 6) (Nat.le_of_ble_eq_true rfl) (Nat.le_of_ble_eq_true rfl) ?_
  refine vx_ret ?_
  exact W.iret (v := iZ (putYr (σ 2 p1 + sgn ((mm)) ((bb))))) hx hb hr (fun t ht hW => ⟨⟨⟨congrArg (fun z : Int => Outcome.returned (some (Value.int (iZ z)))) (show (putYr (σ 2 p1 + sgn ((mm)) ((bb)))) = (putYr (σ 2 p1 + sgn mm bb)) from by rfl), gX_cast ⟨tb, tn, tm, htn, hfit, htm, by rw [ht]; exact hP⟩ (show (putYs σ p1 (σ 2 p1 + sgn ((mm)) ((bb)))) = (putYs σ p1 (σ 2 p1 + sgn mm bb)) from by rfl)⟩, hS.F ht⟩, ex2_0 (by (simp only [inb, noThing_iff, noThing_niff, Bool.not_eq_true', Bool.not_eq_false', Bool.or_eq_true, Bool.or_eq_false_iff, decide_eq_true_eq, decide_eq_false_iff_not] <;> omega)) (by rfl)⟩) hS.2.2 dX1_later_12

abbrev ww_X1_yearUnits : List Cond := .code yX1_yearUnits cX1_yearUnits 5 (some .int) :: gT
set_option maxHeartbeats 4000000 in
set_option maxRecDepth 100000 in
theorem c_X1_yearUnits (l : Launch) (hst : l.stackTraces = false) (dC : Nat → ClassId) (dI : Nat → Nat → Nat) (dA : Nat → ClassId) (k : Nat → Nat) (q : Nat → Nat) (σ : Nat → Nat → Int) (H0 : Heap) (hG : gX dC dI dA q σ H0) (hOK : kOK σ) (hq : kQI q k) (z1 : Int) (uu : Int) (mm : Int) (bb : Bool) (rz1 : -2147483648 ≤ z1 ∧ z1 < 2147483648) (ruu : -2147483648 ≤ uu ∧ uu < 2147483648) (rmm : -2147483648 ≤ mm ∧ mm < 2147483648) : vx_Met l yX1_yearUnits ww_X1_yearUnits ({ frames := 9, cells := 2, slots := 12, locals := 322 }) (va_Pc [.ref (q 0), .int (iZ z1), .int (iZ uu), .int (iZ mm), .int (iZ (bZ (bb)))] (fun U => U.heap = H0 ∧ kM dC dI dA k U)) (kQ2x (ex2 (!inb z1 0 3) (!inb uu 1 4) = 0) (some (.int (iZ (putYr (σ 2 (z1.toNat) + sgn (mm * yus uu) bb))))) (gX dC dI dA q (putYs σ (z1.toNat) (σ 2 (z1.toNat) + sgn (mm * yus uu) bb))) (kA q H0.size)) (kXC (fun E => (ex2 (!inb z1 0 3) (!inb uu 1 4) = 1 ∧ E = "java/lang/IndexOutOfBoundsException") ∨ (ex2 (!inb z1 0 3) (!inb uu 1 4) = 2 ∧ E = "java/lang/IllegalArgumentException"))) 2 12 (kA q H0.size) := by
  refine vx_ofW (cc := cX1_yearUnits) (maxL := 5) (ret := (some .int)) (by decide) rfl ?_
  intro p e s m args below meth c s₁ B hml hno hv
  obtain ⟨rfl, hH, hM⟩ := hv
  subst hH
  have hB := hM.2.1
  obtain ⟨tb, tn, tm, htn, hfit, htm, hP⟩ := hG
  have hS : va_S (kA q s.heap.size) s.heap s.heap [] := va_S.rf
  have hx := B.exec
  have hb := B.bytes
  have hr := B.returns
  have hts := atoms_spec (ws := ww_X1_yearUnits) B.pre
  have hown : s.vm.findClass RX1 = some m.cls := findClass_of_methodNamed B.named
  have hlocks := B.notSynchronized
  have hl := lv_entry ([.ref (q 0), .int (iZ z1), .int (iZ uu), .int (iZ mm), .int (iZ (bZ (bb)))]) (n := 5) (Nat.le_of_ble_eq_true rfl)
  rw [lg_entry_eq]
  generalize (lg_sl ([.ref (q 0), .int (iZ z1), .int (iZ uu), .int (iZ mm), .int (iZ (bZ (bb)))]) ++ List.replicate (5 - (lg_sl ([.ref (q 0), .int (iZ z1), .int (iZ uu), .int (iZ mm), .int (iZ (bZ (bb)))])).length) Slot.unset).toArray = ls at hl ⊢
  have hl : lv_has ls 5 [(0, .ref (q 0)), (1, .int (iZ z1)), (2, .int (iZ uu)), (3, .int (iZ mm)), (4, .int (iZ (bZ (bb))))] := hl
  refine lv_iload_n hx hb dX1_yearUnits_0 rfl (lv_at hl 1 rfl) ?_
  refine kcxo (fun _ q => q) (vx_runS (As := [.int (iZ z1)]) (rest := []) ⟨hx, hb, hml, hown, hts⟩ (c_X1_needPlace l hst k _ (z1) (by first | omega | (have := kmul_u (u := uu) rmm; omega) | (have := kmul_u (u := uu) rmm; rw [yus_usize (by omega)]; have := tq_mul (x := mm * usize uu) (y := 12) (by omega); have := yus_usize (u := uu) (by omega) mm; omega))) (va_cwS 1 hts (kg_S mw224 mw225 mw42 rfl mw226) rfl rfl rfl hdS_X1_needPlace ⟨Nat.le_of_ble_eq_true rfl, Nat.le_of_ble_eq_true rfl⟩) ⟨fun a U g mk q => ⟨q.1, q.2.1, kB_call q.2.2⟩, fun U hU hW => ⟨rfl, hU, kB_same hB hU hW⟩⟩ rfl rfl hl.1 rfl (lv_room (Nat.le_of_ble_eq_true rfl)) dX1_yearUnits_1 ⟨Nat.le_of_ble_eq_true rfl, Nat.le_of_ble_eq_true rfl⟩) hno hlocks (fun E h => Or.inl ⟨ex2_1 (by have h9 := h.2; (simp only [inb, noThing_iff, noThing_niff, Bool.not_eq_true', Bool.not_eq_false', Bool.or_eq_true, Bool.or_eq_false_iff, decide_eq_true_eq, decide_eq_false_iff_not] <;> omega)), h.1⟩) (Nat.le_of_ble_eq_true rfl) (Nat.le_of_ble_eq_true rfl) (fun g_1 => ?_)
  have g_1 : 0 ≤ (z1) ∧ (z1) ≤ 3 := g_1
  obtain ⟨p1, hp1, rfl⟩ : ∃ p1 : Nat, p1 < 4 ∧ z1 = (p1 : Int) := ⟨z1.toNat, by omega, by omega⟩
  have o_p1 := kOKr hOK hp1
  refine lv_iload_n hx hb dX1_yearUnits_4 rfl (lv_at hl 2 rfl) ?_
  refine lv_iconst (v := iZ 1) hx hb dX1_yearUnits_5 rfl ?_
  refine lv_iconst (v := iZ 4) hx hb dX1_yearUnits_6 rfl ?_
  refine kcxo (fun _ q => q) (vx_runS (As := [.int (iZ uu), .int (iZ 1), .int (iZ 4)]) (rest := []) ⟨hx, hb, hml, hown, hts⟩ (c_X1_needWithin l hst k _ (uu) (1) (4) (by first | omega | (have := kmul_u (u := uu) rmm; omega) | (have := kmul_u (u := uu) rmm; rw [yus_usize (by omega)]; have := tq_mul (x := mm * usize uu) (y := 12) (by omega); have := yus_usize (u := uu) (by omega) mm; omega)) (by first | omega | (have := kmul_u (u := uu) rmm; omega) | (have := kmul_u (u := uu) rmm; rw [yus_usize (by omega)]; have := tq_mul (x := mm * usize uu) (y := 12) (by omega); have := yus_usize (u := uu) (by omega) mm; omega)) (by first | omega | (have := kmul_u (u := uu) rmm; omega) | (have := kmul_u (u := uu) rmm; rw [yus_usize (by omega)]; have := tq_mul (x := mm * usize uu) (y := 12) (by omega); have := yus_usize (u := uu) (by omega) mm; omega))) (va_cwS 3 hts (kg_S mw228 mw229 mw42 rfl mw230) rfl rfl rfl hdS_X1_needWithin ⟨Nat.le_of_ble_eq_true rfl, Nat.le_of_ble_eq_true rfl⟩) ⟨fun a U g mk q => ⟨q.1, q.2.1, kB_call q.2.2⟩, fun U hU hW => ⟨rfl, hU, kB_same hB hU hW⟩⟩ rfl rfl hl.1 rfl (lv_room (Nat.le_of_ble_eq_true rfl)) dX1_yearUnits_7 ⟨Nat.le_of_ble_eq_true rfl, Nat.le_of_ble_eq_true rfl⟩) hno hlocks (fun E h => Or.inr ⟨ex2_2 (by (simp only [inb, noThing_iff, noThing_niff, Bool.not_eq_true', Bool.not_eq_false', Bool.or_eq_true, Bool.or_eq_false_iff, decide_eq_true_eq, decide_eq_false_iff_not] <;> omega)) (by have h9 := h.2; (simp only [inb, noThing_iff, noThing_niff, Bool.not_eq_true', Bool.not_eq_false', Bool.or_eq_true, Bool.or_eq_false_iff, decide_eq_true_eq, decide_eq_false_iff_not] <;> omega)), h.1⟩) (Nat.le_of_ble_eq_true rfl) (Nat.le_of_ble_eq_true rfl) (fun g_2 => ?_)
  have g_2 : (1) ≤ (uu) ∧ (uu) ≤ (4) := g_2
  refine lv_aload_n hx hb dX1_yearUnits_10 rfl (lv_at hl 0 rfl) ?_
  refine lv_iload_n hx hb dX1_yearUnits_11 rfl (lv_at hl 1 rfl) ?_
  refine lv_iload_n hx hb dX1_yearUnits_12 rfl (lv_at hl 3 rfl) ?_
  refine lv_iload_n hx hb dX1_yearUnits_13 rfl (lv_at hl 2 rfl) ?_
  refine kc0 (fun _ q => q) (va_runS (As := [.int (iZ mm), .int (iZ uu)]) (rest := [.int (iZ ((p1 : Nat) : Int)), .ref (q 0)]) ⟨hx, hb, hml, hown, hts⟩ (c_X0_monthsInUnits l _ (mm) (uu) (by first | omega | (have := kmul_u (u := uu) rmm; omega) | (have := kmul_u (u := uu) rmm; rw [yus_usize (by omega)]; have := tq_mul (x := mm * usize uu) (y := 12) (by omega); have := yus_usize (u := uu) (by omega) mm; omega)) (by first | omega | (have := kmul_u (u := uu) rmm; omega) | (have := kmul_u (u := uu) rmm; rw [yus_usize (by omega)]; have := tq_mul (x := mm * usize uu) (y := 12) (by omega); have := yus_usize (u := uu) (by omega) mm; omega))) (va_cwS 2 hts (kg_S mw650 mw651 mw51 rfl mw652) rfl rfl rfl hdS_X0_monthsInUnits ⟨Nat.le_of_ble_eq_true rfl, Nat.le_of_ble_eq_true rfl⟩) ⟨fun a U g mk q => q, fun U hU hW => ⟨rfl, hU⟩⟩ rfl rfl hl.1 rfl (lv_room (Nat.le_of_ble_eq_true rfl)) dX1_yearUnits_14 ⟨Nat.le_of_ble_eq_true rfl, Nat.le_of_ble_eq_true rfl⟩) ?_
  refine lv_ldc2 (v := lZ 12) hx hb hown (hts _ (List.mem_cons_of_mem _ mw758)) dX1_yearUnits_17 ?_
  refine kz_ldiv hx hb (by first | omega | (have := kmul_u (u := uu) rmm; omega)) (by omega) dX1_yearUnits_20 ?_
  refine lv_iload hx hb dX1_yearUnits_21 (lv_at hl 4 rfl) ?_
  refine kc2 (va_runV (As := [.int (iZ ((p1 : Nat) : Int)), .long (lZ (tq (((mm)) * usize ((uu))) 12)), .int (iZ (bZ (bb)))]) (rest := []) ⟨hx, hb, hml, hown, hts⟩ (c_X1_moveYear l dC dI dA k q (σ) _ ⟨tb, tn, tm, htn, hfit, htm, hP⟩ (hOK) hq p1 ((tq (((mm)) * usize ((uu))) 12)) (bb) hp1 (by first | omega | (have := kmul_u (u := uu) rmm; omega) | (have := kmul_u (u := uu) rmm; rw [yus_usize (by omega)]; have := tq_mul (x := mm * usize uu) (y := 12) (by omega); have := yus_usize (u := uu) (by omega) mm; omega))) (cwV 3 hts (kg_V mw748 mw749 mw22 mw42 rfl mw750) rfl rfl rfl hdV_X1_moveYear ⟨Nat.le_of_ble_eq_true rfl, Nat.le_of_ble_eq_true rfl⟩) ⟨fun a U g mk q => ⟨q.1, q.2.1, kM_call q.2.2⟩, va_recv hM.1 hP (ci := 4) (q0 := 0) rfl rfl, fun U hU hW => ⟨rfl, hU, kM_kept hM hS (kA_N hq hM.2.1.1) hU hW⟩⟩ rfl rfl hl.1 rfl (lv_room (Nat.le_of_ble_eq_true rfl)) dX1_yearUnits_23 ⟨Nat.le_of_ble_eq_true rfl, Nat.le_of_ble_eq_true rfl⟩) hS (fun a _ h => kA_up hS.1 a h) (fun a h => kA_up hS.1 a h) (fun H locs hG hz9 hk9 hS => ?_)
  obtain ⟨tb, tn, tm, htn, hfit, htm, hP⟩ := hG
  refine W.widen (k := 2) (n := 12) (Nat.le_of_ble_eq_true rfl) (Nat.le_of_ble_eq_true rfl) ?_
  refine vx_ret ?_
  exact W.iret (v := iZ (putYr (σ 2 p1 + sgn (((tq (((mm)) * usize ((uu))) 12))) ((bb))))) hx hb hr (fun t ht hW => ⟨⟨⟨congrArg (fun z : Int => Outcome.returned (some (Value.int (iZ z)))) (show (putYr (σ 2 p1 + sgn (((tq (((mm)) * usize ((uu))) 12))) ((bb)))) = (putYr (σ 2 p1 + sgn (mm * yus uu) bb)) from by rw [yus_usize (by omega)]), gX_cast ⟨tb, tn, tm, htn, hfit, htm, by rw [ht]; exact hP⟩ (show (putYs σ p1 (σ 2 p1 + sgn (((tq (((mm)) * usize ((uu))) 12))) ((bb)))) = (putYs σ p1 (σ 2 p1 + sgn (mm * yus uu) bb)) from by rw [yus_usize (by omega)])⟩, hS.F ht⟩, ex2_0 (by (simp only [inb, noThing_iff, noThing_niff, Bool.not_eq_true', Bool.not_eq_false', Bool.or_eq_true, Bool.or_eq_false_iff, decide_eq_true_eq, decide_eq_false_iff_not] <;> omega)) (by (simp only [inb, noThing_iff, noThing_niff, Bool.not_eq_true', Bool.not_eq_false', Bool.or_eq_true, Bool.or_eq_false_iff, decide_eq_true_eq, decide_eq_false_iff_not] <;> omega))⟩) hS.2.2 dX1_yearUnits_26

abbrev ww_X1_yearOf : List Cond := .code yX1_yearOf cX1_yearOf 4 (some .int) :: gT
set_option maxHeartbeats 4000000 in
set_option maxRecDepth 100000 in
theorem c_X1_yearOf (l : Launch) (hst : l.stackTraces = false) (dC : Nat → ClassId) (dI : Nat → Nat → Nat) (dA : Nat → ClassId) (k : Nat → Nat) (q : Nat → Nat) (σ : Nat → Nat → Int) (H0 : Heap) (hG : gX dC dI dA q σ H0) (hOK : kOK σ) (hq : kQI q k) (z1 : Int) (bb : Bool) (z2 : Int) (rz1 : -2147483648 ≤ z1 ∧ z1 < 2147483648) (rz2 : -2147483648 ≤ z2 ∧ z2 < 2147483648) : vx_Met l yX1_yearOf ww_X1_yearOf ({ frames := 9, cells := 2, slots := 12, locals := 320 }) (va_Pc [.ref (q 0), .int (iZ z1), .int (iZ (bZ (bb))), .int (iZ z2)] (fun U => U.heap = H0 ∧ kM dC dI dA k U)) (kQ2x (ex2 (!inb z1 0 3 || !inb z2 0 3) (false) = 0) (some (.int (iZ (ylen (if bb = true then σ 5 (z2.toNat) else σ 0 (z2.toNat)))))) (gX dC dI dA q (sU σ 2 (z1.toNat) (if bb = true then σ 5 (z2.toNat) else σ 0 (z2.toNat)))) (kA q H0.size)) (kXC (fun E => (ex2 (!inb z1 0 3 || !inb z2 0 3) (false) = 1 ∧ E = "java/lang/IndexOutOfBoundsException") ∨ (ex2 (!inb z1 0 3 || !inb z2 0 3) (false) = 2 ∧ E = "java/lang/IllegalArgumentException"))) 2 12 (kA q H0.size) := by
  refine vx_ofW (cc := cX1_yearOf) (maxL := 4) (ret := (some .int)) (by decide) rfl ?_
  intro p e s m args below meth c s₁ B hml hno hv
  obtain ⟨rfl, hH, hM⟩ := hv
  subst hH
  have hB := hM.2.1
  obtain ⟨tb, tn, tm, htn, hfit, htm, hP⟩ := hG
  have hS : va_S (kA q s.heap.size) s.heap s.heap [] := va_S.rf
  have hx := B.exec
  have hb := B.bytes
  have hr := B.returns
  have hts := atoms_spec (ws := ww_X1_yearOf) B.pre
  have hown : s.vm.findClass RX1 = some m.cls := findClass_of_methodNamed B.named
  have hlocks := B.notSynchronized
  have hl := lv_entry ([.ref (q 0), .int (iZ z1), .int (iZ (bZ (bb))), .int (iZ z2)]) (n := 4) (Nat.le_of_ble_eq_true rfl)
  rw [lg_entry_eq]
  generalize (lg_sl ([.ref (q 0), .int (iZ z1), .int (iZ (bZ (bb))), .int (iZ z2)]) ++ List.replicate (4 - (lg_sl ([.ref (q 0), .int (iZ z1), .int (iZ (bZ (bb))), .int (iZ z2)])).length) Slot.unset).toArray = ls at hl ⊢
  have hl : lv_has ls 4 [(0, .ref (q 0)), (1, .int (iZ z1)), (2, .int (iZ (bZ (bb)))), (3, .int (iZ z2))] := hl
  refine lv_iload_n hx hb dX1_yearOf_0 rfl (lv_at hl 1 rfl) ?_
  refine kcxo (fun _ q => q) (vx_runS (As := [.int (iZ z1)]) (rest := []) ⟨hx, hb, hml, hown, hts⟩ (c_X1_needPlace l hst k _ (z1) (by first | omega | (have := yearOf_rng (c := cnt (σ 5 p2) (σ 6 p2)) (by omega); have := yearOf_rng (c := cnt (σ 0 p2) (σ 1 p2)) (by omega); omega))) (va_cwS 1 hts (kg_S mw224 mw225 mw42 rfl mw226) rfl rfl rfl hdS_X1_needPlace ⟨Nat.le_of_ble_eq_true rfl, Nat.le_of_ble_eq_true rfl⟩) ⟨fun a U g mk q => ⟨q.1, q.2.1, kB_call q.2.2⟩, fun U hU hW => ⟨rfl, hU, kB_same hB hU hW⟩⟩ rfl rfl hl.1 rfl (lv_room (Nat.le_of_ble_eq_true rfl)) dX1_yearOf_1 ⟨Nat.le_of_ble_eq_true rfl, Nat.le_of_ble_eq_true rfl⟩) hno hlocks (fun E h => Or.inl ⟨ex2_1 (by have h9 := h.2; (simp only [inb, noThing_iff, noThing_niff, Bool.not_eq_true', Bool.not_eq_false', Bool.or_eq_true, Bool.or_eq_false_iff, decide_eq_true_eq, decide_eq_false_iff_not] <;> omega)), h.1⟩) (Nat.le_of_ble_eq_true rfl) (Nat.le_of_ble_eq_true rfl) (fun g_1 => ?_)
  have g_1 : 0 ≤ (z1) ∧ (z1) ≤ 3 := g_1
  obtain ⟨p1, hp1, rfl⟩ : ∃ p1 : Nat, p1 < 4 ∧ z1 = (p1 : Int) := ⟨z1.toNat, by omega, by omega⟩
  have o_p1 := kOKr hOK hp1
  refine lv_iload_n hx hb dX1_yearOf_4 rfl (lv_at hl 3 rfl) ?_
  refine kcxo (fun _ q => q) (vx_runS (As := [.int (iZ z2)]) (rest := []) ⟨hx, hb, hml, hown, hts⟩ (c_X1_needPlace l hst k _ (z2) (by first | omega | (have := yearOf_rng (c := cnt (σ 5 p2) (σ 6 p2)) (by omega); have := yearOf_rng (c := cnt (σ 0 p2) (σ 1 p2)) (by omega); omega))) (va_cwS 1 hts (kg_S mw224 mw225 mw42 rfl mw226) rfl rfl rfl hdS_X1_needPlace ⟨Nat.le_of_ble_eq_true rfl, Nat.le_of_ble_eq_true rfl⟩) ⟨fun a U g mk q => ⟨q.1, q.2.1, kB_call q.2.2⟩, fun U hU hW => ⟨rfl, hU, kB_same hB hU hW⟩⟩ rfl rfl hl.1 rfl (lv_room (Nat.le_of_ble_eq_true rfl)) dX1_yearOf_5 ⟨Nat.le_of_ble_eq_true rfl, Nat.le_of_ble_eq_true rfl⟩) hno hlocks (fun E h => Or.inl ⟨ex2_1 (by have h9 := h.2; (simp only [inb, noThing_iff, noThing_niff, Bool.not_eq_true', Bool.not_eq_false', Bool.or_eq_true, Bool.or_eq_false_iff, decide_eq_true_eq, decide_eq_false_iff_not] <;> omega)), h.1⟩) (Nat.le_of_ble_eq_true rfl) (Nat.le_of_ble_eq_true rfl) (fun g_2 => ?_)
  have g_2 : 0 ≤ (z2) ∧ (z2) ≤ 3 := g_2
  obtain ⟨p2, hp2, rfl⟩ : ∃ p2 : Nat, p2 < 4 ∧ z2 = (p2 : Int) := ⟨z2.toNat, by omega, by omega⟩
  have o_p2 := kOKr hOK hp2
  refine lv_aload_n hx hb dX1_yearOf_8 rfl (lv_at hl 0 rfl) ?_
  refine lv_iload_n hx hb dX1_yearOf_9 rfl (lv_at hl 1 rfl) ?_
  refine lv_iload_n hx hb dX1_yearOf_10 rfl (lv_at hl 2 rfl) ?_
  refine kz_ifb_eq (tgt := 23) hx hb  dX1_yearOf_11 (by decide) (fun c_3 => ?_) (fun c_3 => ?_)
  · refine lv_aload_n hx hb dX1_yearOf_23 rfl (lv_at hl 0 rfl) ?_
    refine va_get (D := (dC, dI)) (ci := 4) (v := .ref (q 1)) (C := RX1) (T := TX1) (N := 8) hx hb hts (fun w h => List.mem_cons_of_mem _ (gF_0_in h)) hown hM.1 hP 0 rfl rfl 0 (by decide) (hts _ (List.mem_cons_of_mem _ mw97)) (fun _ h9 => h9) rfl dX1_yearOf_24 ?_
    refine lv_iload_n hx hb dX1_yearOf_27 rfl (lv_at hl 3 rfl) ?_
    refine kz_lald (v := cnt (σ 0 p2) (σ 1 p2)) hx hb hM.1 hP 1 1 rfl rfl (by omega) (by decide) rfl dX1_yearOf_28 ?_
    refine kc0 (fun _ q => q) (va_runS (As := [.long (lZ (cnt (σ 0 p2) (σ 1 p2)))]) (rest := [.int (iZ ((p1 : Nat) : Int)), .ref (q 0)]) ⟨hx, hb, hml, hown, hts⟩ (c_X0_yearOfCount l _ ((cnt (σ 0 p2) (σ 1 p2))) (by first | omega | (have := yearOf_rng (c := cnt (σ 5 p2) (σ 6 p2)) (by omega); have := yearOf_rng (c := cnt (σ 0 p2) (σ 1 p2)) (by omega); omega))) (va_cwS 1 hts (kg_S mw152 mw143 mw51 rfl mw144) rfl rfl rfl hdS_X0_yearOfCount ⟨Nat.le_of_ble_eq_true rfl, Nat.le_of_ble_eq_true rfl⟩) ⟨fun a U g mk q => q, fun U hU hW => ⟨rfl, hU⟩⟩ rfl rfl hl.1 rfl (lv_room (Nat.le_of_ble_eq_true rfl)) dX1_yearOf_29 ⟨Nat.le_of_ble_eq_true rfl, Nat.le_of_ble_eq_true rfl⟩) ?_
    refine kz_i2l hx hb (by first | omega | (have := yearOf_rng (c := cnt (σ 5 p2) (σ 6 p2)) (by omega); have := yearOf_rng (c := cnt (σ 0 p2) (σ 1 p2)) (by omega); omega)) dX1_yearOf_32 ?_
    refine kc2 (va_runV (As := [.int (iZ ((p1 : Nat) : Int)), .long (lZ ((yearOf (((cnt (σ 0 p2) (σ 1 p2)))))))]) (rest := []) ⟨hx, hb, hml, hown, hts⟩ (c_X1_putYear l dC dI dA k q (σ) _ ⟨tb, tn, tm, htn, hfit, htm, hP⟩ (hOK) hq p1 (((yearOf (((cnt (σ 0 p2) (σ 1 p2))))))) hp1 (by first | omega | (have := yearOf_rng (c := cnt (σ 5 p2) (σ 6 p2)) (by omega); have := yearOf_rng (c := cnt (σ 0 p2) (σ 1 p2)) (by omega); omega))) (cwV 2 hts (kg_V mw736 mw737 mw21 mw42 rfl mw738) rfl rfl rfl hdV_X1_putYear ⟨Nat.le_of_ble_eq_true rfl, Nat.le_of_ble_eq_true rfl⟩) ⟨fun a U g mk q => ⟨q.1, q.2.1, kM_call q.2.2⟩, va_recv hM.1 hP (ci := 4) (q0 := 0) rfl rfl, fun U hU hW => ⟨rfl, hU, kM_kept hM hS (kA_N hq hM.2.1.1) hU hW⟩⟩ rfl rfl hl.1 rfl (lv_room (Nat.le_of_ble_eq_true rfl)) dX1_yearOf_33 ⟨Nat.le_of_ble_eq_true rfl, Nat.le_of_ble_eq_true rfl⟩) hS (fun a _ h => kA_up hS.1 a h) (fun a h => kA_up hS.1 a h) (fun H locs hG hz9 hk9 hS => ?_)
    obtain ⟨tb, tn, tm, htn, hfit, htm, hP⟩ := hG
    refine W.widen (k := 2) (n := 12) (Nat.le_of_ble_eq_true rfl) (Nat.le_of_ble_eq_true rfl) ?_
    refine vx_ret ?_
    exact W.iret (v := iZ (putYr ((((yearOf (((cnt (σ 0 p2) (σ 1 p2)))))))))) hx hb hr (fun t ht hW => ⟨⟨⟨congrArg (fun z : Int => Outcome.returned (some (Value.int (iZ z)))) (show (putYr ((((yearOf (((cnt (σ 0 p2) (σ 1 p2))))))))) = (ylen (if bb = true then σ 5 p2 else σ 0 p2)) from by simp only [*, yearOf_cnt o_p2.1.2.2, yearOf_cnt (y := σ 5 p2) (m := σ 6 p2) (by omega)]; exact putYr_in (by (try split) <;> omega)), gX_cast ⟨tb, tn, tm, htn, hfit, htm, by rw [ht]; exact hP⟩ (show (putYs σ p1 ((((yearOf (((cnt (σ 0 p2) (σ 1 p2))))))))) = (sU σ 2 p1 (if bb = true then σ 5 p2 else σ 0 p2)) from by simp only [*, yearOf_cnt o_p2.1.2.2, yearOf_cnt (y := σ 5 p2) (m := σ 6 p2) (by omega)]; exact putYs_in (by (try split) <;> omega))⟩, hS.F ht⟩, ex2_0 (by (simp only [inb, noThing_iff, noThing_niff, Bool.not_eq_true', Bool.not_eq_false', Bool.or_eq_true, Bool.or_eq_false_iff, decide_eq_true_eq, decide_eq_false_iff_not] <;> omega)) (by rfl)⟩) hS.2.2 dX1_yearOf_36
  · refine lv_aload_n hx hb dX1_yearOf_14 rfl (lv_at hl 0 rfl) ?_
    refine va_get (D := (dC, dI)) (ci := 4) (v := .ref (q 5)) (C := RX1) (T := TX1) (N := 8) hx hb hts (fun w h => List.mem_cons_of_mem _ (gF_0_in h)) hown hM.1 hP 0 rfl rfl 4 (by decide) (hts _ (List.mem_cons_of_mem _ mw101)) (fun _ h9 => h9) rfl dX1_yearOf_15 ?_
    refine lv_iload_n hx hb dX1_yearOf_18 rfl (lv_at hl 3 rfl) ?_
    refine kz_lald (v := cnt (σ 5 p2) (σ 6 p2)) hx hb hM.1 hP 5 1 rfl rfl (by omega) (by decide) rfl dX1_yearOf_19 ?_
    refine lv_goto (tgt := 29) hx hb dX1_yearOf_20 (by decide) ?_
    refine kc0 (fun _ q => q) (va_runS (As := [.long (lZ (cnt (σ 5 p2) (σ 6 p2)))]) (rest := [.int (iZ ((p1 : Nat) : Int)), .ref (q 0)]) ⟨hx, hb, hml, hown, hts⟩ (c_X0_yearOfCount l _ ((cnt (σ 5 p2) (σ 6 p2))) (by first | omega | (have := yearOf_rng (c := cnt (σ 5 p2) (σ 6 p2)) (by omega); have := yearOf_rng (c := cnt (σ 0 p2) (σ 1 p2)) (by omega); omega))) (va_cwS 1 hts (kg_S mw152 mw143 mw51 rfl mw144) rfl rfl rfl hdS_X0_yearOfCount ⟨Nat.le_of_ble_eq_true rfl, Nat.le_of_ble_eq_true rfl⟩) ⟨fun a U g mk q => q, fun U hU hW => ⟨rfl, hU⟩⟩ rfl rfl hl.1 rfl (lv_room (Nat.le_of_ble_eq_true rfl)) dX1_yearOf_29 ⟨Nat.le_of_ble_eq_true rfl, Nat.le_of_ble_eq_true rfl⟩) ?_
    refine kz_i2l hx hb (by first | omega | (have := yearOf_rng (c := cnt (σ 5 p2) (σ 6 p2)) (by omega); have := yearOf_rng (c := cnt (σ 0 p2) (σ 1 p2)) (by omega); omega)) dX1_yearOf_32 ?_
    refine kc2 (va_runV (As := [.int (iZ ((p1 : Nat) : Int)), .long (lZ ((yearOf (((cnt (σ 5 p2) (σ 6 p2)))))))]) (rest := []) ⟨hx, hb, hml, hown, hts⟩ (c_X1_putYear l dC dI dA k q (σ) _ ⟨tb, tn, tm, htn, hfit, htm, hP⟩ (hOK) hq p1 (((yearOf (((cnt (σ 5 p2) (σ 6 p2))))))) hp1 (by first | omega | (have := yearOf_rng (c := cnt (σ 5 p2) (σ 6 p2)) (by omega); have := yearOf_rng (c := cnt (σ 0 p2) (σ 1 p2)) (by omega); omega))) (cwV 2 hts (kg_V mw736 mw737 mw21 mw42 rfl mw738) rfl rfl rfl hdV_X1_putYear ⟨Nat.le_of_ble_eq_true rfl, Nat.le_of_ble_eq_true rfl⟩) ⟨fun a U g mk q => ⟨q.1, q.2.1, kM_call q.2.2⟩, va_recv hM.1 hP (ci := 4) (q0 := 0) rfl rfl, fun U hU hW => ⟨rfl, hU, kM_kept hM hS (kA_N hq hM.2.1.1) hU hW⟩⟩ rfl rfl hl.1 rfl (lv_room (Nat.le_of_ble_eq_true rfl)) dX1_yearOf_33 ⟨Nat.le_of_ble_eq_true rfl, Nat.le_of_ble_eq_true rfl⟩) hS (fun a _ h => kA_up hS.1 a h) (fun a h => kA_up hS.1 a h) (fun H locs hG hz9 hk9 hS => ?_)
    obtain ⟨tb, tn, tm, htn, hfit, htm, hP⟩ := hG
    refine W.widen (k := 2) (n := 12) (Nat.le_of_ble_eq_true rfl) (Nat.le_of_ble_eq_true rfl) ?_
    refine vx_ret ?_
    exact W.iret (v := iZ (putYr ((((yearOf (((cnt (σ 5 p2) (σ 6 p2)))))))))) hx hb hr (fun t ht hW => ⟨⟨⟨congrArg (fun z : Int => Outcome.returned (some (Value.int (iZ z)))) (show (putYr ((((yearOf (((cnt (σ 5 p2) (σ 6 p2))))))))) = (ylen (if bb = true then σ 5 p2 else σ 0 p2)) from by simp only [*, yearOf_cnt o_p2.1.2.2, yearOf_cnt (y := σ 5 p2) (m := σ 6 p2) (by omega)]; exact putYr_in (by (try split) <;> omega)), gX_cast ⟨tb, tn, tm, htn, hfit, htm, by rw [ht]; exact hP⟩ (show (putYs σ p1 ((((yearOf (((cnt (σ 5 p2) (σ 6 p2))))))))) = (sU σ 2 p1 (if bb = true then σ 5 p2 else σ 0 p2)) from by simp only [*, yearOf_cnt o_p2.1.2.2, yearOf_cnt (y := σ 5 p2) (m := σ 6 p2) (by omega)]; exact putYs_in (by (try split) <;> omega))⟩, hS.F ht⟩, ex2_0 (by (simp only [inb, noThing_iff, noThing_niff, Bool.not_eq_true', Bool.not_eq_false', Bool.or_eq_true, Bool.or_eq_false_iff, decide_eq_true_eq, decide_eq_false_iff_not] <;> omega)) (by rfl)⟩) hS.2.2 dX1_yearOf_36

abbrev ww_X1_yearLike : List Cond := .code yX1_yearLike cX1_yearLike 4 (some .int) :: gT
set_option maxHeartbeats 4000000 in
set_option maxRecDepth 100000 in
theorem c_X1_yearLike (l : Launch) (hst : l.stackTraces = false) (dC : Nat → ClassId) (dI : Nat → Nat → Nat) (dA : Nat → ClassId) (k : Nat → Nat) (q : Nat → Nat) (σ : Nat → Nat → Int) (H0 : Heap) (hG : gX dC dI dA q σ H0) (hOK : kOK σ) (hq : kQI q k) (z1 : Int) (z2 : Int) (rz1 : -2147483648 ≤ z1 ∧ z1 < 2147483648) (rz2 : -2147483648 ≤ z2 ∧ z2 < 2147483648) : vx_Met l yX1_yearLike ww_X1_yearLike ({ frames := 9, cells := 2, slots := 12, locals := 320 }) (va_Pc [.ref (q 0), .int (iZ z1), .int (iZ z2)] (fun U => U.heap = H0 ∧ kM dC dI dA k U)) (kQ2x (ex2 (!inb z1 0 3 || !inb z2 0 3) (false) = 0) (some (.int (iZ (bZ (decide (σ 2 (z1.toNat) = σ 2 (z2.toNat))))))) (gX dC dI dA q (sU σ 2 (z1.toNat) (σ 2 (z2.toNat)))) (kA q H0.size)) (kXC (fun E => (ex2 (!inb z1 0 3 || !inb z2 0 3) (false) = 1 ∧ E = "java/lang/IndexOutOfBoundsException") ∨ (ex2 (!inb z1 0 3 || !inb z2 0 3) (false) = 2 ∧ E = "java/lang/IllegalArgumentException"))) 2 12 (kA q H0.size) := by
  refine vx_ofW (cc := cX1_yearLike) (maxL := 4) (ret := (some .int)) (by decide) rfl ?_
  intro p e s m args below meth c s₁ B hml hno hv
  obtain ⟨rfl, hH, hM⟩ := hv
  subst hH
  have hB := hM.2.1
  obtain ⟨tb, tn, tm, htn, hfit, htm, hP⟩ := hG
  have hS : va_S (kA q s.heap.size) s.heap s.heap [] := va_S.rf
  have hx := B.exec
  have hb := B.bytes
  have hr := B.returns
  have hts := atoms_spec (ws := ww_X1_yearLike) B.pre
  have hown : s.vm.findClass RX1 = some m.cls := findClass_of_methodNamed B.named
  have hlocks := B.notSynchronized
  have hl := lv_entry ([.ref (q 0), .int (iZ z1), .int (iZ z2)]) (n := 4) (Nat.le_of_ble_eq_true rfl)
  rw [lg_entry_eq]
  generalize (lg_sl ([.ref (q 0), .int (iZ z1), .int (iZ z2)]) ++ List.replicate (4 - (lg_sl ([.ref (q 0), .int (iZ z1), .int (iZ z2)])).length) Slot.unset).toArray = ls at hl ⊢
  have hl : lv_has ls 4 [(0, .ref (q 0)), (1, .int (iZ z1)), (2, .int (iZ z2))] := hl
  refine lv_iload_n hx hb dX1_yearLike_0 rfl (lv_at hl 1 rfl) ?_
  refine kcxo (fun _ q => q) (vx_runS (As := [.int (iZ z1)]) (rest := []) ⟨hx, hb, hml, hown, hts⟩ (c_X1_needPlace l hst k _ (z1) (by omega)) (va_cwS 1 hts (kg_S mw224 mw225 mw42 rfl mw226) rfl rfl rfl hdS_X1_needPlace ⟨Nat.le_of_ble_eq_true rfl, Nat.le_of_ble_eq_true rfl⟩) ⟨fun a U g mk q => ⟨q.1, q.2.1, kB_call q.2.2⟩, fun U hU hW => ⟨rfl, hU, kB_same hB hU hW⟩⟩ rfl rfl hl.1 rfl (lv_room (Nat.le_of_ble_eq_true rfl)) dX1_yearLike_1 ⟨Nat.le_of_ble_eq_true rfl, Nat.le_of_ble_eq_true rfl⟩) hno hlocks (fun E h => Or.inl ⟨ex2_1 (by have h9 := h.2; (simp only [inb, noThing_iff, noThing_niff, Bool.not_eq_true', Bool.not_eq_false', Bool.or_eq_true, Bool.or_eq_false_iff, decide_eq_true_eq, decide_eq_false_iff_not] <;> omega)), h.1⟩) (Nat.le_of_ble_eq_true rfl) (Nat.le_of_ble_eq_true rfl) (fun g_1 => ?_)
  have g_1 : 0 ≤ (z1) ∧ (z1) ≤ 3 := g_1
  obtain ⟨p1, hp1, rfl⟩ : ∃ p1 : Nat, p1 < 4 ∧ z1 = (p1 : Int) := ⟨z1.toNat, by omega, by omega⟩
  have o_p1 := kOKr hOK hp1
  refine lv_iload_n hx hb dX1_yearLike_4 rfl (lv_at hl 2 rfl) ?_
  refine kcxo (fun _ q => q) (vx_runS (As := [.int (iZ z2)]) (rest := []) ⟨hx, hb, hml, hown, hts⟩ (c_X1_needPlace l hst k _ (z2) (by omega)) (va_cwS 1 hts (kg_S mw224 mw225 mw42 rfl mw226) rfl rfl rfl hdS_X1_needPlace ⟨Nat.le_of_ble_eq_true rfl, Nat.le_of_ble_eq_true rfl⟩) ⟨fun a U g mk q => ⟨q.1, q.2.1, kB_call q.2.2⟩, fun U hU hW => ⟨rfl, hU, kB_same hB hU hW⟩⟩ rfl rfl hl.1 rfl (lv_room (Nat.le_of_ble_eq_true rfl)) dX1_yearLike_5 ⟨Nat.le_of_ble_eq_true rfl, Nat.le_of_ble_eq_true rfl⟩) hno hlocks (fun E h => Or.inl ⟨ex2_1 (by have h9 := h.2; (simp only [inb, noThing_iff, noThing_niff, Bool.not_eq_true', Bool.not_eq_false', Bool.or_eq_true, Bool.or_eq_false_iff, decide_eq_true_eq, decide_eq_false_iff_not] <;> omega)), h.1⟩) (Nat.le_of_ble_eq_true rfl) (Nat.le_of_ble_eq_true rfl) (fun g_2 => ?_)
  have g_2 : 0 ≤ (z2) ∧ (z2) ≤ 3 := g_2
  obtain ⟨p2, hp2, rfl⟩ : ∃ p2 : Nat, p2 < 4 ∧ z2 = (p2 : Int) := ⟨z2.toNat, by omega, by omega⟩
  have o_p2 := kOKr hOK hp2
  refine lv_aload_n hx hb dX1_yearLike_8 rfl (lv_at hl 0 rfl) ?_
  refine va_get (D := (dC, dI)) (ci := 4) (v := .ref (q 2)) (C := RX1) (T := TX1) (N := 8) hx hb hts (fun w h => List.mem_cons_of_mem _ (gF_0_in h)) hown hM.1 hP 0 rfl rfl 1 (by decide) (hts _ (List.mem_cons_of_mem _ mw98)) (fun _ h9 => h9) rfl dX1_yearLike_9 ?_
  refine lv_iload_n hx hb dX1_yearLike_12 rfl (lv_at hl 1 rfl) ?_
  refine kz_iald (v := σ 2 p1) hx hb hM.1 hP 2 0 rfl rfl (by omega) (by decide) rfl dX1_yearLike_13 ?_
  refine lv_aload_n hx hb dX1_yearLike_14 rfl (lv_at hl 0 rfl) ?_
  refine va_get (D := (dC, dI)) (ci := 4) (v := .ref (q 2)) (C := RX1) (T := TX1) (N := 8) hx hb hts (fun w h => List.mem_cons_of_mem _ (gF_0_in h)) hown hM.1 hP 0 rfl rfl 1 (by decide) (hts _ (List.mem_cons_of_mem _ mw98)) (fun _ h9 => h9) rfl dX1_yearLike_15 ?_
  refine lv_iload_n hx hb dX1_yearLike_18 rfl (lv_at hl 2 rfl) ?_
  refine kz_iald (v := σ 2 p2) hx hb hM.1 hP 2 0 rfl rfl (by omega) (by decide) rfl dX1_yearLike_19 ?_
  refine kz_icmp_ne (tgt := 27) hx hb (by omega) (by omega) dX1_yearLike_20 (by decide) (fun c_3 => ?_) (fun c_3 => ?_)
  · refine lv_iconst (v := iZ 0) hx hb dX1_yearLike_27 rfl ?_
    refine kc0 (fun _ q => q) (va_runS (As := [.int (iZ (bZ false))]) (rest := []) ⟨hx, hb, hml, hown, hts⟩ (c_X1_oneIf l _ false) (va_cwS 1 hts (kg_S mw176 mw177 mw42 rfl mw178) rfl rfl rfl hdS_X1_oneIf ⟨Nat.le_of_ble_eq_true rfl, Nat.le_of_ble_eq_true rfl⟩) ⟨fun a U g mk q => q, fun U hU hW => ⟨rfl, hU⟩⟩ rfl rfl hl.1 rfl (lv_room (Nat.le_of_ble_eq_true rfl)) dX1_yearLike_28 ⟨Nat.le_of_ble_eq_true rfl, Nat.le_of_ble_eq_true rfl⟩) ?_
    refine lv_istore_n (lv' := [(3, .int (iZ 0)), (0, .ref (q 0)), (1, .int (iZ ((p1 : Nat) : Int))), (2, .int (iZ ((p2 : Nat) : Int)))]) hx hb dX1_yearLike_31 rfl hl (by decide) rfl (fun ls hl => ?_)
    refine lv_aload_n hx hb dX1_yearLike_32 rfl (lv_at hl 1 rfl) ?_
    refine va_get (D := (dC, dI)) (ci := 4) (v := .ref (q 2)) (C := RX1) (T := TX1) (N := 8) hx hb hts (fun w h => List.mem_cons_of_mem _ (gF_0_in h)) hown hM.1 hP 0 rfl rfl 1 (by decide) (hts _ (List.mem_cons_of_mem _ mw98)) (fun _ h9 => h9) rfl dX1_yearLike_33 ?_
    refine lv_iload_n hx hb dX1_yearLike_36 rfl (lv_at hl 2 rfl) ?_
    refine lv_aload_n hx hb dX1_yearLike_37 rfl (lv_at hl 1 rfl) ?_
    refine va_get (D := (dC, dI)) (ci := 4) (v := .ref (q 2)) (C := RX1) (T := TX1) (N := 8) hx hb hts (fun w h => List.mem_cons_of_mem _ (gF_0_in h)) hown hM.1 hP 0 rfl rfl 1 (by decide) (hts _ (List.mem_cons_of_mem _ mw98)) (fun _ h9 => h9) rfl dX1_yearLike_38 ?_
    refine lv_iload_n hx hb dX1_yearLike_41 rfl (lv_at hl 3 rfl) ?_
    refine kz_iald (v := σ 2 p2) hx hb hM.1 hP 2 0 rfl rfl (by omega) (by decide) rfl dX1_yearLike_42 ?_
    refine kxs_2 hx hb hq hM.1 hP hS hp1 (v1 := (σ 2 p2)) dX1_yearLike_43 (fun H locs hP hS => ?_)
    refine lv_iload_n hx hb dX1_yearLike_44 rfl (lv_at hl 0 rfl) ?_
    refine W.widen (k := 2) (n := 12) (Nat.le_of_ble_eq_true rfl) (Nat.le_of_ble_eq_true rfl) ?_
    refine vx_ret ?_
    exact W.iret (v := iZ 0) hx hb hr (fun t ht hW => ⟨⟨⟨congrArg (fun z : Int => Outcome.returned (some (Value.int (iZ z)))) (show 0 = (bZ (decide (σ 2 p1 = σ 2 p2))) from by exact bZ_d0 (by omega)), gX_cast ⟨tb, tn, tm, htn, hfit, htm, by rw [ht]; exact hP⟩ (show (sU (σ) 2 p1 (σ 2 p2)) = (sU σ 2 p1 (σ 2 p2)) from by rfl)⟩, hS.F ht⟩, ex2_0 (by (simp only [inb, noThing_iff, noThing_niff, Bool.not_eq_true', Bool.not_eq_false', Bool.or_eq_true, Bool.or_eq_false_iff, decide_eq_true_eq, decide_eq_false_iff_not] <;> omega)) (by rfl)⟩) hS.2.2 dX1_yearLike_45
  · refine lv_iconst (v := iZ 1) hx hb dX1_yearLike_23 rfl ?_
    refine lv_goto (tgt := 28) hx hb dX1_yearLike_24 (by decide) ?_
    refine kc0 (fun _ q => q) (va_runS (As := [.int (iZ (bZ true))]) (rest := []) ⟨hx, hb, hml, hown, hts⟩ (c_X1_oneIf l _ true) (va_cwS 1 hts (kg_S mw176 mw177 mw42 rfl mw178) rfl rfl rfl hdS_X1_oneIf ⟨Nat.le_of_ble_eq_true rfl, Nat.le_of_ble_eq_true rfl⟩) ⟨fun a U g mk q => q, fun U hU hW => ⟨rfl, hU⟩⟩ rfl rfl hl.1 rfl (lv_room (Nat.le_of_ble_eq_true rfl)) dX1_yearLike_28 ⟨Nat.le_of_ble_eq_true rfl, Nat.le_of_ble_eq_true rfl⟩) ?_
    refine lv_istore_n (lv' := [(3, .int (iZ 1)), (0, .ref (q 0)), (1, .int (iZ ((p1 : Nat) : Int))), (2, .int (iZ ((p2 : Nat) : Int)))]) hx hb dX1_yearLike_31 rfl hl (by decide) rfl (fun ls hl => ?_)
    refine lv_aload_n hx hb dX1_yearLike_32 rfl (lv_at hl 1 rfl) ?_
    refine va_get (D := (dC, dI)) (ci := 4) (v := .ref (q 2)) (C := RX1) (T := TX1) (N := 8) hx hb hts (fun w h => List.mem_cons_of_mem _ (gF_0_in h)) hown hM.1 hP 0 rfl rfl 1 (by decide) (hts _ (List.mem_cons_of_mem _ mw98)) (fun _ h9 => h9) rfl dX1_yearLike_33 ?_
    refine lv_iload_n hx hb dX1_yearLike_36 rfl (lv_at hl 2 rfl) ?_
    refine lv_aload_n hx hb dX1_yearLike_37 rfl (lv_at hl 1 rfl) ?_
    refine va_get (D := (dC, dI)) (ci := 4) (v := .ref (q 2)) (C := RX1) (T := TX1) (N := 8) hx hb hts (fun w h => List.mem_cons_of_mem _ (gF_0_in h)) hown hM.1 hP 0 rfl rfl 1 (by decide) (hts _ (List.mem_cons_of_mem _ mw98)) (fun _ h9 => h9) rfl dX1_yearLike_38 ?_
    refine lv_iload_n hx hb dX1_yearLike_41 rfl (lv_at hl 3 rfl) ?_
    refine kz_iald (v := σ 2 p2) hx hb hM.1 hP 2 0 rfl rfl (by omega) (by decide) rfl dX1_yearLike_42 ?_
    refine kxs_2 hx hb hq hM.1 hP hS hp1 (v1 := (σ 2 p2)) dX1_yearLike_43 (fun H locs hP hS => ?_)
    refine lv_iload_n hx hb dX1_yearLike_44 rfl (lv_at hl 0 rfl) ?_
    refine W.widen (k := 2) (n := 12) (Nat.le_of_ble_eq_true rfl) (Nat.le_of_ble_eq_true rfl) ?_
    refine vx_ret ?_
    exact W.iret (v := iZ 1) hx hb hr (fun t ht hW => ⟨⟨⟨congrArg (fun z : Int => Outcome.returned (some (Value.int (iZ z)))) (show 1 = (bZ (decide (σ 2 p1 = σ 2 p2))) from by exact bZ_d1 (by omega)), gX_cast ⟨tb, tn, tm, htn, hfit, htm, by rw [ht]; exact hP⟩ (show (sU (σ) 2 p1 (σ 2 p2)) = (sU σ 2 p1 (σ 2 p2)) from by rfl)⟩, hS.F ht⟩, ex2_0 (by (simp only [inb, noThing_iff, noThing_niff, Bool.not_eq_true', Bool.not_eq_false', Bool.or_eq_true, Bool.or_eq_false_iff, decide_eq_true_eq, decide_eq_false_iff_not] <;> omega)) (by rfl)⟩) hS.2.2 dX1_yearLike_45

abbrev ww_X1_hasDay : List Cond := .code yX1_hasDay cX1_hasDay 3 (some .boolean) :: gT
set_option maxHeartbeats 4000000 in
set_option maxRecDepth 100000 in
theorem c_X1_hasDay (l : Launch) (hst : l.stackTraces = false) (dC : Nat → ClassId) (dI : Nat → Nat → Nat) (dA : Nat → ClassId) (k : Nat → Nat) (q : Nat → Nat) (σ : Nat → Nat → Int) (H0 : Heap) (hG : gX dC dI dA q σ H0) (hOK : kOK σ) (hq : kQI q k) (z1 : Int) (nn : Int) (rz1 : -2147483648 ≤ z1 ∧ z1 < 2147483648) (rnn : -2147483648 ≤ nn ∧ nn < 2147483648) : vx_Met l yX1_hasDay ww_X1_hasDay ({ frames := 9, cells := 1, slots := 6, locals := 320 }) (va_Pc [.ref (q 0), .int (iZ z1), .int (iZ nn)] (fun U => U.heap = H0 ∧ kM dC dI dA k U)) (kQ2x (ex2 (!inb z1 0 3) (false) = 0) (some (.int (iZ (bZ (decide (1 ≤ nn ∧ nn ≤ mlen (leap (σ 0 (z1.toNat))) (σ 1 (z1.toNat)))))))) (gX dC dI dA q (σ)) (kA q H0.size)) (kXC (fun E => (ex2 (!inb z1 0 3) (false) = 1 ∧ E = "java/lang/IndexOutOfBoundsException") ∨ (ex2 (!inb z1 0 3) (false) = 2 ∧ E = "java/lang/IllegalArgumentException"))) 1 6 (kA q H0.size) := by
  refine vx_ofW (cc := cX1_hasDay) (maxL := 3) (ret := (some .boolean)) (by decide) rfl ?_
  intro p e s m args below meth c s₁ B hml hno hv
  obtain ⟨rfl, hH, hM⟩ := hv
  subst hH
  have hB := hM.2.1
  obtain ⟨tb, tn, tm, htn, hfit, htm, hP⟩ := hG
  have hS : va_S (kA q s.heap.size) s.heap s.heap [] := va_S.rf
  have hx := B.exec
  have hb := B.bytes
  have hr := B.returns
  have hts := atoms_spec (ws := ww_X1_hasDay) B.pre
  have hown : s.vm.findClass RX1 = some m.cls := findClass_of_methodNamed B.named
  have hlocks := B.notSynchronized
  have hl := lv_entry ([.ref (q 0), .int (iZ z1), .int (iZ nn)]) (n := 3) (Nat.le_of_ble_eq_true rfl)
  rw [lg_entry_eq]
  generalize (lg_sl ([.ref (q 0), .int (iZ z1), .int (iZ nn)]) ++ List.replicate (3 - (lg_sl ([.ref (q 0), .int (iZ z1), .int (iZ nn)])).length) Slot.unset).toArray = ls at hl ⊢
  have hl : lv_has ls 3 [(0, .ref (q 0)), (1, .int (iZ z1)), (2, .int (iZ nn))] := hl
  refine lv_iload_n hx hb dX1_hasDay_0 rfl (lv_at hl 1 rfl) ?_
  refine kcxo (fun _ q => q) (vx_runS (As := [.int (iZ z1)]) (rest := []) ⟨hx, hb, hml, hown, hts⟩ (c_X1_needPlace l hst k _ (z1) (by omega)) (va_cwS 1 hts (kg_S mw224 mw225 mw42 rfl mw226) rfl rfl rfl hdS_X1_needPlace ⟨Nat.le_of_ble_eq_true rfl, Nat.le_of_ble_eq_true rfl⟩) ⟨fun a U g mk q => ⟨q.1, q.2.1, kB_call q.2.2⟩, fun U hU hW => ⟨rfl, hU, kB_same hB hU hW⟩⟩ rfl rfl hl.1 rfl (lv_room (Nat.le_of_ble_eq_true rfl)) dX1_hasDay_1 ⟨Nat.le_of_ble_eq_true rfl, Nat.le_of_ble_eq_true rfl⟩) hno hlocks (fun E h => Or.inl ⟨ex2_1 (by have h9 := h.2; (simp only [inb, noThing_iff, noThing_niff, Bool.not_eq_true', Bool.not_eq_false', Bool.or_eq_true, Bool.or_eq_false_iff, decide_eq_true_eq, decide_eq_false_iff_not] <;> omega)), h.1⟩) (Nat.le_of_ble_eq_true rfl) (Nat.le_of_ble_eq_true rfl) (fun g_1 => ?_)
  have g_1 : 0 ≤ (z1) ∧ (z1) ≤ 3 := g_1
  obtain ⟨p1, hp1, rfl⟩ : ∃ p1 : Nat, p1 < 4 ∧ z1 = (p1 : Int) := ⟨z1.toNat, by omega, by omega⟩
  have o_p1 := kOKr hOK hp1
  refine lv_aload_n hx hb dX1_hasDay_4 rfl (lv_at hl 0 rfl) ?_
  refine va_get (D := (dC, dI)) (ci := 4) (v := .ref (q 1)) (C := RX1) (T := TX1) (N := 8) hx hb hts (fun w h => List.mem_cons_of_mem _ (gF_0_in h)) hown hM.1 hP 0 rfl rfl 0 (by decide) (hts _ (List.mem_cons_of_mem _ mw97)) (fun _ h9 => h9) rfl dX1_hasDay_5 ?_
  refine lv_iload_n hx hb dX1_hasDay_8 rfl (lv_at hl 1 rfl) ?_
  refine kz_lald (v := cnt (σ 0 p1) (σ 1 p1)) hx hb hM.1 hP 1 1 rfl rfl (by omega) (by decide) rfl dX1_hasDay_9 ?_
  refine lv_iload_n hx hb dX1_hasDay_10 rfl (lv_at hl 2 rfl) ?_
  refine kc0 (fun _ q => q) (va_runS (As := [.long (lZ (cnt (σ 0 p1) (σ 1 p1))), .int (iZ nn)]) (rest := []) ⟨hx, hb, hml, hown, hts⟩ (c_X0_isDayOfCount l _ ((cnt (σ 0 p1) (σ 1 p1))) (nn) (by omega) (by omega)) (va_cwS 2 hts (kg_S mw157 mw158 mw51 rfl mw159) rfl rfl rfl hdS_X0_isDayOfCount ⟨Nat.le_of_ble_eq_true rfl, Nat.le_of_ble_eq_true rfl⟩) ⟨fun a U g mk q => q, fun U hU hW => ⟨rfl, hU⟩⟩ rfl rfl hl.1 rfl (lv_room (Nat.le_of_ble_eq_true rfl)) dX1_hasDay_11 ⟨Nat.le_of_ble_eq_true rfl, Nat.le_of_ble_eq_true rfl⟩) ?_
  refine W.widen (k := 1) (n := 6) (Nat.le_of_ble_eq_true rfl) (Nat.le_of_ble_eq_true rfl) ?_
  refine vx_ret ?_
  exact W.zret (v := iZ (bZ (decide (1 ≤ ((nn)) ∧ ((nn)) ≤ lenOf (((cnt (σ 0 p1) (σ 1 p1)))))))) (ty := .boolean) hx hb hr (by cases (decide (1 ≤ ((nn)) ∧ ((nn)) ≤ lenOf (((cnt (σ 0 p1) (σ 1 p1)))))) <;> rfl) (fun t ht hW => ⟨⟨⟨congrArg (fun z : Int => Outcome.returned (some (Value.int (iZ z)))) (show (bZ (decide (1 ≤ ((nn)) ∧ ((nn)) ≤ lenOf (((cnt (σ 0 p1) (σ 1 p1))))))) = (bZ (decide (1 ≤ nn ∧ nn ≤ mlen (leap (σ 0 p1)) (σ 1 p1)))) from by rw [lenOf_cnt (by omega)]), gX_cast ⟨tb, tn, tm, htn, hfit, htm, by rw [ht]; exact hP⟩ (show (σ) = (σ) from by rfl)⟩, hS.F ht⟩, ex2_0 (by (simp only [inb, noThing_iff, noThing_niff, Bool.not_eq_true', Bool.not_eq_false', Bool.or_eq_true, Bool.or_eq_false_iff, decide_eq_true_eq, decide_eq_false_iff_not] <;> omega)) (by rfl)⟩) hS.2.2 dX1_hasDay_14

abbrev ww_X1_leafOrder : List Cond := .code yX1_leafOrder cX1_leafOrder 4 (some .int) :: gT
set_option maxHeartbeats 4000000 in
set_option maxRecDepth 100000 in
theorem c_X1_leafOrder (l : Launch) (hst : l.stackTraces = false) (dC : Nat → ClassId) (dI : Nat → Nat → Nat) (dA : Nat → ClassId) (k : Nat → Nat) (q : Nat → Nat) (σ : Nat → Nat → Int) (H0 : Heap) (hG : gX dC dI dA q σ H0) (hOK : kOK σ) (hq : kQI q k) (z1 : Int) (z2 : Int) (w0 : Int) (rz1 : -2147483648 ≤ z1 ∧ z1 < 2147483648) (rz2 : -2147483648 ≤ z2 ∧ z2 < 2147483648) (rw0 : -2147483648 ≤ w0 ∧ w0 < 2147483648) : vx_Met l yX1_leafOrder ww_X1_leafOrder ({ frames := 9, cells := 3, slots := 18, locals := 322 }) (va_Pc [.ref (q 0), .int (iZ z1), .int (iZ z2), .int (iZ w0)] (fun U => U.heap = H0 ∧ kM dC dI dA k U)) (kQ2x (ex2 (!inb z1 0 3 || !inb z2 0 3) (!inb w0 0 2) = 0) (some (.int (iZ (ordT (cnt (σ 0 (z1.toNat)) (σ 1 (z1.toNat))) (cnt (σ 0 (z2.toNat)) (σ 1 (z2.toNat))) w0)))) (gX dC dI dA q (σ)) (kA q H0.size)) (kXC (fun E => (ex2 (!inb z1 0 3 || !inb z2 0 3) (!inb w0 0 2) = 1 ∧ E = "java/lang/IndexOutOfBoundsException") ∨ (ex2 (!inb z1 0 3 || !inb z2 0 3) (!inb w0 0 2) = 2 ∧ E = "java/lang/IllegalArgumentException"))) 3 18 (kA q H0.size) := by
  refine vx_ofW (cc := cX1_leafOrder) (maxL := 4) (ret := (some .int)) (by decide) rfl ?_
  intro p e s m args below meth c s₁ B hml hno hv
  obtain ⟨rfl, hH, hM⟩ := hv
  subst hH
  have hB := hM.2.1
  obtain ⟨tb, tn, tm, htn, hfit, htm, hP⟩ := hG
  have hS : va_S (kA q s.heap.size) s.heap s.heap [] := va_S.rf
  have hx := B.exec
  have hb := B.bytes
  have hr := B.returns
  have hts := atoms_spec (ws := ww_X1_leafOrder) B.pre
  have hown : s.vm.findClass RX1 = some m.cls := findClass_of_methodNamed B.named
  have hlocks := B.notSynchronized
  have hl := lv_entry ([.ref (q 0), .int (iZ z1), .int (iZ z2), .int (iZ w0)]) (n := 4) (Nat.le_of_ble_eq_true rfl)
  rw [lg_entry_eq]
  generalize (lg_sl ([.ref (q 0), .int (iZ z1), .int (iZ z2), .int (iZ w0)]) ++ List.replicate (4 - (lg_sl ([.ref (q 0), .int (iZ z1), .int (iZ z2), .int (iZ w0)])).length) Slot.unset).toArray = ls at hl ⊢
  have hl : lv_has ls 4 [(0, .ref (q 0)), (1, .int (iZ z1)), (2, .int (iZ z2)), (3, .int (iZ w0))] := hl
  refine lv_iload_n hx hb dX1_leafOrder_0 rfl (lv_at hl 1 rfl) ?_
  refine kcxo (fun _ q => q) (vx_runS (As := [.int (iZ z1)]) (rest := []) ⟨hx, hb, hml, hown, hts⟩ (c_X1_needPlace l hst k _ (z1) (by omega)) (va_cwS 1 hts (kg_S mw224 mw225 mw42 rfl mw226) rfl rfl rfl hdS_X1_needPlace ⟨Nat.le_of_ble_eq_true rfl, Nat.le_of_ble_eq_true rfl⟩) ⟨fun a U g mk q => ⟨q.1, q.2.1, kB_call q.2.2⟩, fun U hU hW => ⟨rfl, hU, kB_same hB hU hW⟩⟩ rfl rfl hl.1 rfl (lv_room (Nat.le_of_ble_eq_true rfl)) dX1_leafOrder_1 ⟨Nat.le_of_ble_eq_true rfl, Nat.le_of_ble_eq_true rfl⟩) hno hlocks (fun E h => Or.inl ⟨ex2_1 (by have h9 := h.2; (simp only [inb, noThing_iff, noThing_niff, Bool.not_eq_true', Bool.not_eq_false', Bool.or_eq_true, Bool.or_eq_false_iff, decide_eq_true_eq, decide_eq_false_iff_not] <;> omega)), h.1⟩) (Nat.le_of_ble_eq_true rfl) (Nat.le_of_ble_eq_true rfl) (fun g_1 => ?_)
  have g_1 : 0 ≤ (z1) ∧ (z1) ≤ 3 := g_1
  obtain ⟨p1, hp1, rfl⟩ : ∃ p1 : Nat, p1 < 4 ∧ z1 = (p1 : Int) := ⟨z1.toNat, by omega, by omega⟩
  have o_p1 := kOKr hOK hp1
  refine lv_iload_n hx hb dX1_leafOrder_4 rfl (lv_at hl 2 rfl) ?_
  refine kcxo (fun _ q => q) (vx_runS (As := [.int (iZ z2)]) (rest := []) ⟨hx, hb, hml, hown, hts⟩ (c_X1_needPlace l hst k _ (z2) (by omega)) (va_cwS 1 hts (kg_S mw224 mw225 mw42 rfl mw226) rfl rfl rfl hdS_X1_needPlace ⟨Nat.le_of_ble_eq_true rfl, Nat.le_of_ble_eq_true rfl⟩) ⟨fun a U g mk q => ⟨q.1, q.2.1, kB_call q.2.2⟩, fun U hU hW => ⟨rfl, hU, kB_same hB hU hW⟩⟩ rfl rfl hl.1 rfl (lv_room (Nat.le_of_ble_eq_true rfl)) dX1_leafOrder_5 ⟨Nat.le_of_ble_eq_true rfl, Nat.le_of_ble_eq_true rfl⟩) hno hlocks (fun E h => Or.inl ⟨ex2_1 (by have h9 := h.2; (simp only [inb, noThing_iff, noThing_niff, Bool.not_eq_true', Bool.not_eq_false', Bool.or_eq_true, Bool.or_eq_false_iff, decide_eq_true_eq, decide_eq_false_iff_not] <;> omega)), h.1⟩) (Nat.le_of_ble_eq_true rfl) (Nat.le_of_ble_eq_true rfl) (fun g_2 => ?_)
  have g_2 : 0 ≤ (z2) ∧ (z2) ≤ 3 := g_2
  obtain ⟨p2, hp2, rfl⟩ : ∃ p2 : Nat, p2 < 4 ∧ z2 = (p2 : Int) := ⟨z2.toNat, by omega, by omega⟩
  have o_p2 := kOKr hOK hp2
  refine lv_iload_n hx hb dX1_leafOrder_8 rfl (lv_at hl 3 rfl) ?_
  refine lv_iconst (v := iZ 0) hx hb dX1_leafOrder_9 rfl ?_
  refine lv_iconst (v := iZ 2) hx hb dX1_leafOrder_10 rfl ?_
  refine kcxo (fun _ q => q) (vx_runS (As := [.int (iZ w0), .int (iZ 0), .int (iZ 2)]) (rest := []) ⟨hx, hb, hml, hown, hts⟩ (c_X1_needWithin l hst k _ (w0) (0) (2) (by omega) (by omega) (by omega)) (va_cwS 3 hts (kg_S mw228 mw229 mw42 rfl mw230) rfl rfl rfl hdS_X1_needWithin ⟨Nat.le_of_ble_eq_true rfl, Nat.le_of_ble_eq_true rfl⟩) ⟨fun a U g mk q => ⟨q.1, q.2.1, kB_call q.2.2⟩, fun U hU hW => ⟨rfl, hU, kB_same hB hU hW⟩⟩ rfl rfl hl.1 rfl (lv_room (Nat.le_of_ble_eq_true rfl)) dX1_leafOrder_11 ⟨Nat.le_of_ble_eq_true rfl, Nat.le_of_ble_eq_true rfl⟩) hno hlocks (fun E h => Or.inr ⟨ex2_2 (by (simp only [inb, noThing_iff, noThing_niff, Bool.not_eq_true', Bool.not_eq_false', Bool.or_eq_true, Bool.or_eq_false_iff, decide_eq_true_eq, decide_eq_false_iff_not] <;> omega)) (by have h9 := h.2; (simp only [inb, noThing_iff, noThing_niff, Bool.not_eq_true', Bool.not_eq_false', Bool.or_eq_true, Bool.or_eq_false_iff, decide_eq_true_eq, decide_eq_false_iff_not] <;> omega)), h.1⟩) (Nat.le_of_ble_eq_true rfl) (Nat.le_of_ble_eq_true rfl) (fun g_3 => ?_)
  have g_3 : (0) ≤ (w0) ∧ (w0) ≤ (2) := g_3
  refine lv_aload_n hx hb dX1_leafOrder_14 rfl (lv_at hl 0 rfl) ?_
  refine va_get (D := (dC, dI)) (ci := 4) (v := .ref (q 1)) (C := RX1) (T := TX1) (N := 8) hx hb hts (fun w h => List.mem_cons_of_mem _ (gF_0_in h)) hown hM.1 hP 0 rfl rfl 0 (by decide) (hts _ (List.mem_cons_of_mem _ mw97)) (fun _ h9 => h9) rfl dX1_leafOrder_15 ?_
  refine lv_iload_n hx hb dX1_leafOrder_18 rfl (lv_at hl 1 rfl) ?_
  refine kz_lald (v := cnt (σ 0 p1) (σ 1 p1)) hx hb hM.1 hP 1 1 rfl rfl (by omega) (by decide) rfl dX1_leafOrder_19 ?_
  refine lv_aload_n hx hb dX1_leafOrder_20 rfl (lv_at hl 0 rfl) ?_
  refine va_get (D := (dC, dI)) (ci := 4) (v := .ref (q 1)) (C := RX1) (T := TX1) (N := 8) hx hb hts (fun w h => List.mem_cons_of_mem _ (gF_0_in h)) hown hM.1 hP 0 rfl rfl 0 (by decide) (hts _ (List.mem_cons_of_mem _ mw97)) (fun _ h9 => h9) rfl dX1_leafOrder_21 ?_
  refine lv_iload_n hx hb dX1_leafOrder_24 rfl (lv_at hl 2 rfl) ?_
  refine kz_lald (v := cnt (σ 0 p2) (σ 1 p2)) hx hb hM.1 hP 1 1 rfl rfl (by omega) (by decide) rfl dX1_leafOrder_25 ?_
  refine lv_iload_n hx hb dX1_leafOrder_26 rfl (lv_at hl 3 rfl) ?_
  refine kc0 (fun _ q => q) (va_runS (As := [.long (lZ (cnt (σ 0 p1) (σ 1 p1))), .long (lZ (cnt (σ 0 p2) (σ 1 p2))), .int (iZ w0)]) (rest := []) ⟨hx, hb, hml, hown, hts⟩ (c_X1_orderTold l _ ((cnt (σ 0 p1) (σ 1 p1))) ((cnt (σ 0 p2) (σ 1 p2))) (w0) (by omega) (by omega) (by omega)) (va_cwS 3 hts (kg_S mw173 mw174 mw42 rfl mw175) rfl rfl rfl hdS_X1_orderTold ⟨Nat.le_of_ble_eq_true rfl, Nat.le_of_ble_eq_true rfl⟩) ⟨fun a U g mk q => q, fun U hU hW => ⟨rfl, hU⟩⟩ rfl rfl hl.1 rfl (lv_room (Nat.le_of_ble_eq_true rfl)) dX1_leafOrder_27 ⟨Nat.le_of_ble_eq_true rfl, Nat.le_of_ble_eq_true rfl⟩) ?_
  refine W.widen (k := 3) (n := 18) (Nat.le_of_ble_eq_true rfl) (Nat.le_of_ble_eq_true rfl) ?_
  refine vx_ret ?_
  exact W.iret (v := iZ (ordT (((cnt (σ 0 p1) (σ 1 p1)))) (((cnt (σ 0 p2) (σ 1 p2)))) ((w0)))) hx hb hr (fun t ht hW => ⟨⟨⟨congrArg (fun z : Int => Outcome.returned (some (Value.int (iZ z)))) (show (ordT (((cnt (σ 0 p1) (σ 1 p1)))) (((cnt (σ 0 p2) (σ 1 p2)))) ((w0))) = (ordT (cnt (σ 0 p1) (σ 1 p1)) (cnt (σ 0 p2) (σ 1 p2)) w0) from by rfl), gX_cast ⟨tb, tn, tm, htn, hfit, htm, by rw [ht]; exact hP⟩ (show (σ) = (σ) from by rfl)⟩, hS.F ht⟩, ex2_0 (by (simp only [inb, noThing_iff, noThing_niff, Bool.not_eq_true', Bool.not_eq_false', Bool.or_eq_true, Bool.or_eq_false_iff, decide_eq_true_eq, decide_eq_false_iff_not] <;> omega)) (by (simp only [inb, noThing_iff, noThing_niff, Bool.not_eq_true', Bool.not_eq_false', Bool.or_eq_true, Bool.or_eq_false_iff, decide_eq_true_eq, decide_eq_false_iff_not] <;> omega))⟩) hS.2.2 dX1_leafOrder_30

abbrev ww_X1_isLeaf : List Cond := .code yX1_isLeaf cX1_isLeaf 4 (some .boolean) :: gT
set_option maxHeartbeats 4000000 in
set_option maxRecDepth 100000 in
theorem c_X1_isLeaf (l : Launch) (hst : l.stackTraces = false) (dC : Nat → ClassId) (dI : Nat → Nat → Nat) (dA : Nat → ClassId) (k : Nat → Nat) (q : Nat → Nat) (σ : Nat → Nat → Int) (H0 : Heap) (hG : gX dC dI dA q σ H0) (hOK : kOK σ) (hq : kQI q k) (z1 : Int) (w0 : Int) (z2 : Int) (rz1 : -2147483648 ≤ z1 ∧ z1 < 2147483648) (rw0 : -2147483648 ≤ w0 ∧ w0 < 2147483648) (rz2 : -2147483648 ≤ z2 ∧ z2 < 2147483648) : vx_Met l yX1_isLeaf ww_X1_isLeaf ({ frames := 9, cells := 3, slots := 18, locals := 322 }) (va_Pc [.ref (q 0), .int (iZ z1), .int (iZ w0), .int (iZ z2)] (fun U => U.heap = H0 ∧ kM dC dI dA k U)) (kQ2x (ex2 (!inb z1 0 3 || !inb z2 0 3) (!inb w0 0 4) = 0) (some (.int (iZ (bZ (decide (w0 = 0 ∧ σ 0 (z1.toNat) = σ 0 (z2.toNat) ∧ σ 1 (z1.toNat) = σ 1 (z2.toNat))))))) (gX dC dI dA q (σ)) (kA q H0.size)) (kXC (fun E => (ex2 (!inb z1 0 3 || !inb z2 0 3) (!inb w0 0 4) = 1 ∧ E = "java/lang/IndexOutOfBoundsException") ∨ (ex2 (!inb z1 0 3 || !inb z2 0 3) (!inb w0 0 4) = 2 ∧ E = "java/lang/IllegalArgumentException"))) 3 18 (kA q H0.size) := by
  refine vx_ofW (cc := cX1_isLeaf) (maxL := 4) (ret := (some .boolean)) (by decide) rfl ?_
  intro p e s m args below meth c s₁ B hml hno hv
  obtain ⟨rfl, hH, hM⟩ := hv
  subst hH
  have hB := hM.2.1
  obtain ⟨tb, tn, tm, htn, hfit, htm, hP⟩ := hG
  have hS : va_S (kA q s.heap.size) s.heap s.heap [] := va_S.rf
  have hx := B.exec
  have hb := B.bytes
  have hr := B.returns
  have hts := atoms_spec (ws := ww_X1_isLeaf) B.pre
  have hown : s.vm.findClass RX1 = some m.cls := findClass_of_methodNamed B.named
  have hlocks := B.notSynchronized
  have hl := lv_entry ([.ref (q 0), .int (iZ z1), .int (iZ w0), .int (iZ z2)]) (n := 4) (Nat.le_of_ble_eq_true rfl)
  rw [lg_entry_eq]
  generalize (lg_sl ([.ref (q 0), .int (iZ z1), .int (iZ w0), .int (iZ z2)]) ++ List.replicate (4 - (lg_sl ([.ref (q 0), .int (iZ z1), .int (iZ w0), .int (iZ z2)])).length) Slot.unset).toArray = ls at hl ⊢
  have hl : lv_has ls 4 [(0, .ref (q 0)), (1, .int (iZ z1)), (2, .int (iZ w0)), (3, .int (iZ z2))] := hl
  refine lv_iload_n hx hb dX1_isLeaf_0 rfl (lv_at hl 1 rfl) ?_
  refine kcxo (fun _ q => q) (vx_runS (As := [.int (iZ z1)]) (rest := []) ⟨hx, hb, hml, hown, hts⟩ (c_X1_needPlace l hst k _ (z1) (by omega)) (va_cwS 1 hts (kg_S mw224 mw225 mw42 rfl mw226) rfl rfl rfl hdS_X1_needPlace ⟨Nat.le_of_ble_eq_true rfl, Nat.le_of_ble_eq_true rfl⟩) ⟨fun a U g mk q => ⟨q.1, q.2.1, kB_call q.2.2⟩, fun U hU hW => ⟨rfl, hU, kB_same hB hU hW⟩⟩ rfl rfl hl.1 rfl (lv_room (Nat.le_of_ble_eq_true rfl)) dX1_isLeaf_1 ⟨Nat.le_of_ble_eq_true rfl, Nat.le_of_ble_eq_true rfl⟩) hno hlocks (fun E h => Or.inl ⟨ex2_1 (by have h9 := h.2; (simp only [inb, noThing_iff, noThing_niff, Bool.not_eq_true', Bool.not_eq_false', Bool.or_eq_true, Bool.or_eq_false_iff, decide_eq_true_eq, decide_eq_false_iff_not] <;> omega)), h.1⟩) (Nat.le_of_ble_eq_true rfl) (Nat.le_of_ble_eq_true rfl) (fun g_1 => ?_)
  have g_1 : 0 ≤ (z1) ∧ (z1) ≤ 3 := g_1
  obtain ⟨p1, hp1, rfl⟩ : ∃ p1 : Nat, p1 < 4 ∧ z1 = (p1 : Int) := ⟨z1.toNat, by omega, by omega⟩
  have o_p1 := kOKr hOK hp1
  refine lv_iload_n hx hb dX1_isLeaf_4 rfl (lv_at hl 3 rfl) ?_
  refine kcxo (fun _ q => q) (vx_runS (As := [.int (iZ z2)]) (rest := []) ⟨hx, hb, hml, hown, hts⟩ (c_X1_needPlace l hst k _ (z2) (by omega)) (va_cwS 1 hts (kg_S mw224 mw225 mw42 rfl mw226) rfl rfl rfl hdS_X1_needPlace ⟨Nat.le_of_ble_eq_true rfl, Nat.le_of_ble_eq_true rfl⟩) ⟨fun a U g mk q => ⟨q.1, q.2.1, kB_call q.2.2⟩, fun U hU hW => ⟨rfl, hU, kB_same hB hU hW⟩⟩ rfl rfl hl.1 rfl (lv_room (Nat.le_of_ble_eq_true rfl)) dX1_isLeaf_5 ⟨Nat.le_of_ble_eq_true rfl, Nat.le_of_ble_eq_true rfl⟩) hno hlocks (fun E h => Or.inl ⟨ex2_1 (by have h9 := h.2; (simp only [inb, noThing_iff, noThing_niff, Bool.not_eq_true', Bool.not_eq_false', Bool.or_eq_true, Bool.or_eq_false_iff, decide_eq_true_eq, decide_eq_false_iff_not] <;> omega)), h.1⟩) (Nat.le_of_ble_eq_true rfl) (Nat.le_of_ble_eq_true rfl) (fun g_2 => ?_)
  have g_2 : 0 ≤ (z2) ∧ (z2) ≤ 3 := g_2
  obtain ⟨p2, hp2, rfl⟩ : ∃ p2 : Nat, p2 < 4 ∧ z2 = (p2 : Int) := ⟨z2.toNat, by omega, by omega⟩
  have o_p2 := kOKr hOK hp2
  refine lv_iload_n hx hb dX1_isLeaf_8 rfl (lv_at hl 2 rfl) ?_
  refine lv_iconst (v := iZ 0) hx hb dX1_isLeaf_9 rfl ?_
  refine lv_iconst (v := iZ 4) hx hb dX1_isLeaf_10 rfl ?_
  refine kcxo (fun _ q => q) (vx_runS (As := [.int (iZ w0), .int (iZ 0), .int (iZ 4)]) (rest := []) ⟨hx, hb, hml, hown, hts⟩ (c_X1_needWithin l hst k _ (w0) (0) (4) (by omega) (by omega) (by omega)) (va_cwS 3 hts (kg_S mw228 mw229 mw42 rfl mw230) rfl rfl rfl hdS_X1_needWithin ⟨Nat.le_of_ble_eq_true rfl, Nat.le_of_ble_eq_true rfl⟩) ⟨fun a U g mk q => ⟨q.1, q.2.1, kB_call q.2.2⟩, fun U hU hW => ⟨rfl, hU, kB_same hB hU hW⟩⟩ rfl rfl hl.1 rfl (lv_room (Nat.le_of_ble_eq_true rfl)) dX1_isLeaf_11 ⟨Nat.le_of_ble_eq_true rfl, Nat.le_of_ble_eq_true rfl⟩) hno hlocks (fun E h => Or.inr ⟨ex2_2 (by (simp only [inb, noThing_iff, noThing_niff, Bool.not_eq_true', Bool.not_eq_false', Bool.or_eq_true, Bool.or_eq_false_iff, decide_eq_true_eq, decide_eq_false_iff_not] <;> omega)) (by have h9 := h.2; (simp only [inb, noThing_iff, noThing_niff, Bool.not_eq_true', Bool.not_eq_false', Bool.or_eq_true, Bool.or_eq_false_iff, decide_eq_true_eq, decide_eq_false_iff_not] <;> omega)), h.1⟩) (Nat.le_of_ble_eq_true rfl) (Nat.le_of_ble_eq_true rfl) (fun g_3 => ?_)
  have g_3 : (0) ≤ (w0) ∧ (w0) ≤ (4) := g_3
  refine lv_iload_n hx hb dX1_isLeaf_14 rfl (lv_at hl 2 rfl) ?_
  refine kz_if_ne (tgt := 38) hx hb (by omega) dX1_isLeaf_15 (by decide) (fun c_4 => ?_) (fun c_4 => ?_)
  · refine lv_iconst (v := iZ 0) hx hb dX1_isLeaf_38 rfl ?_
    refine W.widen (k := 3) (n := 18) (Nat.le_of_ble_eq_true rfl) (Nat.le_of_ble_eq_true rfl) ?_
    refine vx_ret ?_
    exact W.zret (v := iZ 0) (ty := .boolean) hx hb hr rfl (fun t ht hW => ⟨⟨⟨congrArg (fun z : Int => Outcome.returned (some (Value.int (iZ z)))) (show 0 = (bZ (decide (w0 = 0 ∧ σ 0 p1 = σ 0 p2 ∧ σ 1 p1 = σ 1 p2))) from by exact bZ_d0 (by unfold cnt at *; omega)), gX_cast ⟨tb, tn, tm, htn, hfit, htm, by rw [ht]; exact hP⟩ (show (σ) = (σ) from by rfl)⟩, hS.F ht⟩, ex2_0 (by (simp only [inb, noThing_iff, noThing_niff, Bool.not_eq_true', Bool.not_eq_false', Bool.or_eq_true, Bool.or_eq_false_iff, decide_eq_true_eq, decide_eq_false_iff_not] <;> omega)) (by (simp only [inb, noThing_iff, noThing_niff, Bool.not_eq_true', Bool.not_eq_false', Bool.or_eq_true, Bool.or_eq_false_iff, decide_eq_true_eq, decide_eq_false_iff_not] <;> omega))⟩) hS.2.2 dX1_isLeaf_39
  · refine lv_aload_n hx hb dX1_isLeaf_18 rfl (lv_at hl 0 rfl) ?_
    refine va_get (D := (dC, dI)) (ci := 4) (v := .ref (q 1)) (C := RX1) (T := TX1) (N := 8) hx hb hts (fun w h => List.mem_cons_of_mem _ (gF_0_in h)) hown hM.1 hP 0 rfl rfl 0 (by decide) (hts _ (List.mem_cons_of_mem _ mw97)) (fun _ h9 => h9) rfl dX1_isLeaf_19 ?_
    refine lv_iload_n hx hb dX1_isLeaf_22 rfl (lv_at hl 1 rfl) ?_
    refine kz_lald (v := cnt (σ 0 p1) (σ 1 p1)) hx hb hM.1 hP 1 1 rfl rfl (by omega) (by decide) rfl dX1_isLeaf_23 ?_
    refine lv_aload_n hx hb dX1_isLeaf_24 rfl (lv_at hl 0 rfl) ?_
    refine va_get (D := (dC, dI)) (ci := 4) (v := .ref (q 1)) (C := RX1) (T := TX1) (N := 8) hx hb hts (fun w h => List.mem_cons_of_mem _ (gF_0_in h)) hown hM.1 hP 0 rfl rfl 0 (by decide) (hts _ (List.mem_cons_of_mem _ mw97)) (fun _ h9 => h9) rfl dX1_isLeaf_25 ?_
    refine lv_iload_n hx hb dX1_isLeaf_28 rfl (lv_at hl 3 rfl) ?_
    refine kz_lald (v := cnt (σ 0 p2) (σ 1 p2)) hx hb hM.1 hP 1 1 rfl rfl (by omega) (by decide) rfl dX1_isLeaf_29 ?_
    refine kz_lcmp_ne (tgt := 38) hx hb (by omega) (by omega) dX1_isLeaf_30 dX1_isLeaf_31 (by decide) (fun c_5 => ?_) (fun c_5 => ?_)
    · refine lv_iconst (v := iZ 0) hx hb dX1_isLeaf_38 rfl ?_
      refine W.widen (k := 3) (n := 18) (Nat.le_of_ble_eq_true rfl) (Nat.le_of_ble_eq_true rfl) ?_
      refine vx_ret ?_
      exact W.zret (v := iZ 0) (ty := .boolean) hx hb hr rfl (fun t ht hW => ⟨⟨⟨congrArg (fun z : Int => Outcome.returned (some (Value.int (iZ z)))) (show 0 = (bZ (decide (w0 = 0 ∧ σ 0 p1 = σ 0 p2 ∧ σ 1 p1 = σ 1 p2))) from by exact bZ_d0 (by unfold cnt at *; omega)), gX_cast ⟨tb, tn, tm, htn, hfit, htm, by rw [ht]; exact hP⟩ (show (σ) = (σ) from by rfl)⟩, hS.F ht⟩, ex2_0 (by (simp only [inb, noThing_iff, noThing_niff, Bool.not_eq_true', Bool.not_eq_false', Bool.or_eq_true, Bool.or_eq_false_iff, decide_eq_true_eq, decide_eq_false_iff_not] <;> omega)) (by (simp only [inb, noThing_iff, noThing_niff, Bool.not_eq_true', Bool.not_eq_false', Bool.or_eq_true, Bool.or_eq_false_iff, decide_eq_true_eq, decide_eq_false_iff_not] <;> omega))⟩) hS.2.2 dX1_isLeaf_39
    · refine lv_iconst (v := iZ 1) hx hb dX1_isLeaf_34 rfl ?_
      refine lv_goto (tgt := 39) hx hb dX1_isLeaf_35 (by decide) ?_
      refine W.widen (k := 3) (n := 18) (Nat.le_of_ble_eq_true rfl) (Nat.le_of_ble_eq_true rfl) ?_
      refine vx_ret ?_
      exact W.zret (v := iZ 1) (ty := .boolean) hx hb hr rfl (fun t ht hW => ⟨⟨⟨congrArg (fun z : Int => Outcome.returned (some (Value.int (iZ z)))) (show 1 = (bZ (decide (w0 = 0 ∧ σ 0 p1 = σ 0 p2 ∧ σ 1 p1 = σ 1 p2))) from by exact bZ_d1 (by unfold cnt at *; omega)), gX_cast ⟨tb, tn, tm, htn, hfit, htm, by rw [ht]; exact hP⟩ (show (σ) = (σ) from by rfl)⟩, hS.F ht⟩, ex2_0 (by (simp only [inb, noThing_iff, noThing_niff, Bool.not_eq_true', Bool.not_eq_false', Bool.or_eq_true, Bool.or_eq_false_iff, decide_eq_true_eq, decide_eq_false_iff_not] <;> omega)) (by (simp only [inb, noThing_iff, noThing_niff, Bool.not_eq_true', Bool.not_eq_false', Bool.or_eq_true, Bool.or_eq_false_iff, decide_eq_true_eq, decide_eq_false_iff_not] <;> omega))⟩) hS.2.2 dX1_isLeaf_39

abbrev ww_X1_yearOrder : List Cond := .code yX1_yearOrder cX1_yearOrder 4 (some .int) :: gT
set_option maxHeartbeats 4000000 in
set_option maxRecDepth 100000 in
theorem c_X1_yearOrder (l : Launch) (hst : l.stackTraces = false) (dC : Nat → ClassId) (dI : Nat → Nat → Nat) (dA : Nat → ClassId) (k : Nat → Nat) (q : Nat → Nat) (σ : Nat → Nat → Int) (H0 : Heap) (hG : gX dC dI dA q σ H0) (hOK : kOK σ) (hq : kQI q k) (z1 : Int) (z2 : Int) (w0 : Int) (rz1 : -2147483648 ≤ z1 ∧ z1 < 2147483648) (rz2 : -2147483648 ≤ z2 ∧ z2 < 2147483648) (rw0 : -2147483648 ≤ w0 ∧ w0 < 2147483648) : vx_Met l yX1_yearOrder ww_X1_yearOrder ({ frames := 9, cells := 3, slots := 18, locals := 322 }) (va_Pc [.ref (q 0), .int (iZ z1), .int (iZ z2), .int (iZ w0)] (fun U => U.heap = H0 ∧ kM dC dI dA k U)) (kQ2x (ex2 (!inb z1 0 3 || !inb z2 0 3) (!inb w0 0 2) = 0) (some (.int (iZ (ordT (σ 2 (z1.toNat)) (σ 2 (z2.toNat)) w0)))) (gX dC dI dA q (σ)) (kA q H0.size)) (kXC (fun E => (ex2 (!inb z1 0 3 || !inb z2 0 3) (!inb w0 0 2) = 1 ∧ E = "java/lang/IndexOutOfBoundsException") ∨ (ex2 (!inb z1 0 3 || !inb z2 0 3) (!inb w0 0 2) = 2 ∧ E = "java/lang/IllegalArgumentException"))) 3 18 (kA q H0.size) := by
  refine vx_ofW (cc := cX1_yearOrder) (maxL := 4) (ret := (some .int)) (by decide) rfl ?_
  intro p e s m args below meth c s₁ B hml hno hv
  obtain ⟨rfl, hH, hM⟩ := hv
  subst hH
  have hB := hM.2.1
  obtain ⟨tb, tn, tm, htn, hfit, htm, hP⟩ := hG
  have hS : va_S (kA q s.heap.size) s.heap s.heap [] := va_S.rf
  have hx := B.exec
  have hb := B.bytes
  have hr := B.returns
  have hts := atoms_spec (ws := ww_X1_yearOrder) B.pre
  have hown : s.vm.findClass RX1 = some m.cls := findClass_of_methodNamed B.named
  have hlocks := B.notSynchronized
  have hl := lv_entry ([.ref (q 0), .int (iZ z1), .int (iZ z2), .int (iZ w0)]) (n := 4) (Nat.le_of_ble_eq_true rfl)
  rw [lg_entry_eq]
  generalize (lg_sl ([.ref (q 0), .int (iZ z1), .int (iZ z2), .int (iZ w0)]) ++ List.replicate (4 - (lg_sl ([.ref (q 0), .int (iZ z1), .int (iZ z2), .int (iZ w0)])).length) Slot.unset).toArray = ls at hl ⊢
  have hl : lv_has ls 4 [(0, .ref (q 0)), (1, .int (iZ z1)), (2, .int (iZ z2)), (3, .int (iZ w0))] := hl
  refine lv_iload_n hx hb dX1_yearOrder_0 rfl (lv_at hl 1 rfl) ?_
  refine kcxo (fun _ q => q) (vx_runS (As := [.int (iZ z1)]) (rest := []) ⟨hx, hb, hml, hown, hts⟩ (c_X1_needPlace l hst k _ (z1) (by omega)) (va_cwS 1 hts (kg_S mw224 mw225 mw42 rfl mw226) rfl rfl rfl hdS_X1_needPlace ⟨Nat.le_of_ble_eq_true rfl, Nat.le_of_ble_eq_true rfl⟩) ⟨fun a U g mk q => ⟨q.1, q.2.1, kB_call q.2.2⟩, fun U hU hW => ⟨rfl, hU, kB_same hB hU hW⟩⟩ rfl rfl hl.1 rfl (lv_room (Nat.le_of_ble_eq_true rfl)) dX1_yearOrder_1 ⟨Nat.le_of_ble_eq_true rfl, Nat.le_of_ble_eq_true rfl⟩) hno hlocks (fun E h => Or.inl ⟨ex2_1 (by have h9 := h.2; (simp only [inb, noThing_iff, noThing_niff, Bool.not_eq_true', Bool.not_eq_false', Bool.or_eq_true, Bool.or_eq_false_iff, decide_eq_true_eq, decide_eq_false_iff_not] <;> omega)), h.1⟩) (Nat.le_of_ble_eq_true rfl) (Nat.le_of_ble_eq_true rfl) (fun g_1 => ?_)
  have g_1 : 0 ≤ (z1) ∧ (z1) ≤ 3 := g_1
  obtain ⟨p1, hp1, rfl⟩ : ∃ p1 : Nat, p1 < 4 ∧ z1 = (p1 : Int) := ⟨z1.toNat, by omega, by omega⟩
  have o_p1 := kOKr hOK hp1
  refine lv_iload_n hx hb dX1_yearOrder_4 rfl (lv_at hl 2 rfl) ?_
  refine kcxo (fun _ q => q) (vx_runS (As := [.int (iZ z2)]) (rest := []) ⟨hx, hb, hml, hown, hts⟩ (c_X1_needPlace l hst k _ (z2) (by omega)) (va_cwS 1 hts (kg_S mw224 mw225 mw42 rfl mw226) rfl rfl rfl hdS_X1_needPlace ⟨Nat.le_of_ble_eq_true rfl, Nat.le_of_ble_eq_true rfl⟩) ⟨fun a U g mk q => ⟨q.1, q.2.1, kB_call q.2.2⟩, fun U hU hW => ⟨rfl, hU, kB_same hB hU hW⟩⟩ rfl rfl hl.1 rfl (lv_room (Nat.le_of_ble_eq_true rfl)) dX1_yearOrder_5 ⟨Nat.le_of_ble_eq_true rfl, Nat.le_of_ble_eq_true rfl⟩) hno hlocks (fun E h => Or.inl ⟨ex2_1 (by have h9 := h.2; (simp only [inb, noThing_iff, noThing_niff, Bool.not_eq_true', Bool.not_eq_false', Bool.or_eq_true, Bool.or_eq_false_iff, decide_eq_true_eq, decide_eq_false_iff_not] <;> omega)), h.1⟩) (Nat.le_of_ble_eq_true rfl) (Nat.le_of_ble_eq_true rfl) (fun g_2 => ?_)
  have g_2 : 0 ≤ (z2) ∧ (z2) ≤ 3 := g_2
  obtain ⟨p2, hp2, rfl⟩ : ∃ p2 : Nat, p2 < 4 ∧ z2 = (p2 : Int) := ⟨z2.toNat, by omega, by omega⟩
  have o_p2 := kOKr hOK hp2
  refine lv_iload_n hx hb dX1_yearOrder_8 rfl (lv_at hl 3 rfl) ?_
  refine lv_iconst (v := iZ 0) hx hb dX1_yearOrder_9 rfl ?_
  refine lv_iconst (v := iZ 2) hx hb dX1_yearOrder_10 rfl ?_
  refine kcxo (fun _ q => q) (vx_runS (As := [.int (iZ w0), .int (iZ 0), .int (iZ 2)]) (rest := []) ⟨hx, hb, hml, hown, hts⟩ (c_X1_needWithin l hst k _ (w0) (0) (2) (by omega) (by omega) (by omega)) (va_cwS 3 hts (kg_S mw228 mw229 mw42 rfl mw230) rfl rfl rfl hdS_X1_needWithin ⟨Nat.le_of_ble_eq_true rfl, Nat.le_of_ble_eq_true rfl⟩) ⟨fun a U g mk q => ⟨q.1, q.2.1, kB_call q.2.2⟩, fun U hU hW => ⟨rfl, hU, kB_same hB hU hW⟩⟩ rfl rfl hl.1 rfl (lv_room (Nat.le_of_ble_eq_true rfl)) dX1_yearOrder_11 ⟨Nat.le_of_ble_eq_true rfl, Nat.le_of_ble_eq_true rfl⟩) hno hlocks (fun E h => Or.inr ⟨ex2_2 (by (simp only [inb, noThing_iff, noThing_niff, Bool.not_eq_true', Bool.not_eq_false', Bool.or_eq_true, Bool.or_eq_false_iff, decide_eq_true_eq, decide_eq_false_iff_not] <;> omega)) (by have h9 := h.2; (simp only [inb, noThing_iff, noThing_niff, Bool.not_eq_true', Bool.not_eq_false', Bool.or_eq_true, Bool.or_eq_false_iff, decide_eq_true_eq, decide_eq_false_iff_not] <;> omega)), h.1⟩) (Nat.le_of_ble_eq_true rfl) (Nat.le_of_ble_eq_true rfl) (fun g_3 => ?_)
  have g_3 : (0) ≤ (w0) ∧ (w0) ≤ (2) := g_3
  refine lv_aload_n hx hb dX1_yearOrder_14 rfl (lv_at hl 0 rfl) ?_
  refine va_get (D := (dC, dI)) (ci := 4) (v := .ref (q 2)) (C := RX1) (T := TX1) (N := 8) hx hb hts (fun w h => List.mem_cons_of_mem _ (gF_0_in h)) hown hM.1 hP 0 rfl rfl 1 (by decide) (hts _ (List.mem_cons_of_mem _ mw98)) (fun _ h9 => h9) rfl dX1_yearOrder_15 ?_
  refine lv_iload_n hx hb dX1_yearOrder_18 rfl (lv_at hl 1 rfl) ?_
  refine kz_iald (v := σ 2 p1) hx hb hM.1 hP 2 0 rfl rfl (by omega) (by decide) rfl dX1_yearOrder_19 ?_
  refine kz_i2l hx hb (by omega) dX1_yearOrder_20 ?_
  refine lv_aload_n hx hb dX1_yearOrder_21 rfl (lv_at hl 0 rfl) ?_
  refine va_get (D := (dC, dI)) (ci := 4) (v := .ref (q 2)) (C := RX1) (T := TX1) (N := 8) hx hb hts (fun w h => List.mem_cons_of_mem _ (gF_0_in h)) hown hM.1 hP 0 rfl rfl 1 (by decide) (hts _ (List.mem_cons_of_mem _ mw98)) (fun _ h9 => h9) rfl dX1_yearOrder_22 ?_
  refine lv_iload_n hx hb dX1_yearOrder_25 rfl (lv_at hl 2 rfl) ?_
  refine kz_iald (v := σ 2 p2) hx hb hM.1 hP 2 0 rfl rfl (by omega) (by decide) rfl dX1_yearOrder_26 ?_
  refine kz_i2l hx hb (by omega) dX1_yearOrder_27 ?_
  refine lv_iload_n hx hb dX1_yearOrder_28 rfl (lv_at hl 3 rfl) ?_
  refine kc0 (fun _ q => q) (va_runS (As := [.long (lZ ((σ 2 p1))), .long (lZ ((σ 2 p2))), .int (iZ w0)]) (rest := []) ⟨hx, hb, hml, hown, hts⟩ (c_X1_orderTold l _ (((σ 2 p1))) (((σ 2 p2))) (w0) (by omega) (by omega) (by omega)) (va_cwS 3 hts (kg_S mw173 mw174 mw42 rfl mw175) rfl rfl rfl hdS_X1_orderTold ⟨Nat.le_of_ble_eq_true rfl, Nat.le_of_ble_eq_true rfl⟩) ⟨fun a U g mk q => q, fun U hU hW => ⟨rfl, hU⟩⟩ rfl rfl hl.1 rfl (lv_room (Nat.le_of_ble_eq_true rfl)) dX1_yearOrder_29 ⟨Nat.le_of_ble_eq_true rfl, Nat.le_of_ble_eq_true rfl⟩) ?_
  refine W.widen (k := 3) (n := 18) (Nat.le_of_ble_eq_true rfl) (Nat.le_of_ble_eq_true rfl) ?_
  refine vx_ret ?_
  exact W.iret (v := iZ (ordT ((((σ 2 p1)))) ((((σ 2 p2)))) ((w0)))) hx hb hr (fun t ht hW => ⟨⟨⟨congrArg (fun z : Int => Outcome.returned (some (Value.int (iZ z)))) (show (ordT ((((σ 2 p1)))) ((((σ 2 p2)))) ((w0))) = (ordT (σ 2 p1) (σ 2 p2) w0) from by rfl), gX_cast ⟨tb, tn, tm, htn, hfit, htm, by rw [ht]; exact hP⟩ (show (σ) = (σ) from by rfl)⟩, hS.F ht⟩, ex2_0 (by (simp only [inb, noThing_iff, noThing_niff, Bool.not_eq_true', Bool.not_eq_false', Bool.or_eq_true, Bool.or_eq_false_iff, decide_eq_true_eq, decide_eq_false_iff_not] <;> omega)) (by (simp only [inb, noThing_iff, noThing_niff, Bool.not_eq_true', Bool.not_eq_false', Bool.or_eq_true, Bool.or_eq_false_iff, decide_eq_true_eq, decide_eq_false_iff_not] <;> omega))⟩) hS.2.2 dX1_yearOrder_32

abbrev ww_X1_isYear : List Cond := .code yX1_isYear cX1_isYear 4 (some .boolean) :: gT
set_option maxHeartbeats 4000000 in
set_option maxRecDepth 100000 in
theorem c_X1_isYear (l : Launch) (hst : l.stackTraces = false) (dC : Nat → ClassId) (dI : Nat → Nat → Nat) (dA : Nat → ClassId) (k : Nat → Nat) (q : Nat → Nat) (σ : Nat → Nat → Int) (H0 : Heap) (hG : gX dC dI dA q σ H0) (hOK : kOK σ) (hq : kQI q k) (z1 : Int) (w0 : Int) (z2 : Int) (rz1 : -2147483648 ≤ z1 ∧ z1 < 2147483648) (rw0 : -2147483648 ≤ w0 ∧ w0 < 2147483648) (rz2 : -2147483648 ≤ z2 ∧ z2 < 2147483648) : vx_Met l yX1_isYear ww_X1_isYear ({ frames := 9, cells := 3, slots := 18, locals := 322 }) (va_Pc [.ref (q 0), .int (iZ z1), .int (iZ w0), .int (iZ z2)] (fun U => U.heap = H0 ∧ kM dC dI dA k U)) (kQ2x (ex2 (!inb z1 0 3 || !inb z2 0 3) (!inb w0 0 4) = 0) (some (.int (iZ (bZ (decide (w0 = 1 ∧ σ 2 (z1.toNat) = σ 2 (z2.toNat))))))) (gX dC dI dA q (σ)) (kA q H0.size)) (kXC (fun E => (ex2 (!inb z1 0 3 || !inb z2 0 3) (!inb w0 0 4) = 1 ∧ E = "java/lang/IndexOutOfBoundsException") ∨ (ex2 (!inb z1 0 3 || !inb z2 0 3) (!inb w0 0 4) = 2 ∧ E = "java/lang/IllegalArgumentException"))) 3 18 (kA q H0.size) := by
  refine vx_ofW (cc := cX1_isYear) (maxL := 4) (ret := (some .boolean)) (by decide) rfl ?_
  intro p e s m args below meth c s₁ B hml hno hv
  obtain ⟨rfl, hH, hM⟩ := hv
  subst hH
  have hB := hM.2.1
  obtain ⟨tb, tn, tm, htn, hfit, htm, hP⟩ := hG
  have hS : va_S (kA q s.heap.size) s.heap s.heap [] := va_S.rf
  have hx := B.exec
  have hb := B.bytes
  have hr := B.returns
  have hts := atoms_spec (ws := ww_X1_isYear) B.pre
  have hown : s.vm.findClass RX1 = some m.cls := findClass_of_methodNamed B.named
  have hlocks := B.notSynchronized
  have hl := lv_entry ([.ref (q 0), .int (iZ z1), .int (iZ w0), .int (iZ z2)]) (n := 4) (Nat.le_of_ble_eq_true rfl)
  rw [lg_entry_eq]
  generalize (lg_sl ([.ref (q 0), .int (iZ z1), .int (iZ w0), .int (iZ z2)]) ++ List.replicate (4 - (lg_sl ([.ref (q 0), .int (iZ z1), .int (iZ w0), .int (iZ z2)])).length) Slot.unset).toArray = ls at hl ⊢
  have hl : lv_has ls 4 [(0, .ref (q 0)), (1, .int (iZ z1)), (2, .int (iZ w0)), (3, .int (iZ z2))] := hl
  refine lv_iload_n hx hb dX1_isYear_0 rfl (lv_at hl 1 rfl) ?_
  refine kcxo (fun _ q => q) (vx_runS (As := [.int (iZ z1)]) (rest := []) ⟨hx, hb, hml, hown, hts⟩ (c_X1_needPlace l hst k _ (z1) (by omega)) (va_cwS 1 hts (kg_S mw224 mw225 mw42 rfl mw226) rfl rfl rfl hdS_X1_needPlace ⟨Nat.le_of_ble_eq_true rfl, Nat.le_of_ble_eq_true rfl⟩) ⟨fun a U g mk q => ⟨q.1, q.2.1, kB_call q.2.2⟩, fun U hU hW => ⟨rfl, hU, kB_same hB hU hW⟩⟩ rfl rfl hl.1 rfl (lv_room (Nat.le_of_ble_eq_true rfl)) dX1_isYear_1 ⟨Nat.le_of_ble_eq_true rfl, Nat.le_of_ble_eq_true rfl⟩) hno hlocks (fun E h => Or.inl ⟨ex2_1 (by have h9 := h.2; (simp only [inb, noThing_iff, noThing_niff, Bool.not_eq_true', Bool.not_eq_false', Bool.or_eq_true, Bool.or_eq_false_iff, decide_eq_true_eq, decide_eq_false_iff_not] <;> omega)), h.1⟩) (Nat.le_of_ble_eq_true rfl) (Nat.le_of_ble_eq_true rfl) (fun g_1 => ?_)
  have g_1 : 0 ≤ (z1) ∧ (z1) ≤ 3 := g_1
  obtain ⟨p1, hp1, rfl⟩ : ∃ p1 : Nat, p1 < 4 ∧ z1 = (p1 : Int) := ⟨z1.toNat, by omega, by omega⟩
  have o_p1 := kOKr hOK hp1
  refine lv_iload_n hx hb dX1_isYear_4 rfl (lv_at hl 3 rfl) ?_
  refine kcxo (fun _ q => q) (vx_runS (As := [.int (iZ z2)]) (rest := []) ⟨hx, hb, hml, hown, hts⟩ (c_X1_needPlace l hst k _ (z2) (by omega)) (va_cwS 1 hts (kg_S mw224 mw225 mw42 rfl mw226) rfl rfl rfl hdS_X1_needPlace ⟨Nat.le_of_ble_eq_true rfl, Nat.le_of_ble_eq_true rfl⟩) ⟨fun a U g mk q => ⟨q.1, q.2.1, kB_call q.2.2⟩, fun U hU hW => ⟨rfl, hU, kB_same hB hU hW⟩⟩ rfl rfl hl.1 rfl (lv_room (Nat.le_of_ble_eq_true rfl)) dX1_isYear_5 ⟨Nat.le_of_ble_eq_true rfl, Nat.le_of_ble_eq_true rfl⟩) hno hlocks (fun E h => Or.inl ⟨ex2_1 (by have h9 := h.2; (simp only [inb, noThing_iff, noThing_niff, Bool.not_eq_true', Bool.not_eq_false', Bool.or_eq_true, Bool.or_eq_false_iff, decide_eq_true_eq, decide_eq_false_iff_not] <;> omega)), h.1⟩) (Nat.le_of_ble_eq_true rfl) (Nat.le_of_ble_eq_true rfl) (fun g_2 => ?_)
  have g_2 : 0 ≤ (z2) ∧ (z2) ≤ 3 := g_2
  obtain ⟨p2, hp2, rfl⟩ : ∃ p2 : Nat, p2 < 4 ∧ z2 = (p2 : Int) := ⟨z2.toNat, by omega, by omega⟩
  have o_p2 := kOKr hOK hp2
  refine lv_iload_n hx hb dX1_isYear_8 rfl (lv_at hl 2 rfl) ?_
  refine lv_iconst (v := iZ 0) hx hb dX1_isYear_9 rfl ?_
  refine lv_iconst (v := iZ 4) hx hb dX1_isYear_10 rfl ?_
  refine kcxo (fun _ q => q) (vx_runS (As := [.int (iZ w0), .int (iZ 0), .int (iZ 4)]) (rest := []) ⟨hx, hb, hml, hown, hts⟩ (c_X1_needWithin l hst k _ (w0) (0) (4) (by omega) (by omega) (by omega)) (va_cwS 3 hts (kg_S mw228 mw229 mw42 rfl mw230) rfl rfl rfl hdS_X1_needWithin ⟨Nat.le_of_ble_eq_true rfl, Nat.le_of_ble_eq_true rfl⟩) ⟨fun a U g mk q => ⟨q.1, q.2.1, kB_call q.2.2⟩, fun U hU hW => ⟨rfl, hU, kB_same hB hU hW⟩⟩ rfl rfl hl.1 rfl (lv_room (Nat.le_of_ble_eq_true rfl)) dX1_isYear_11 ⟨Nat.le_of_ble_eq_true rfl, Nat.le_of_ble_eq_true rfl⟩) hno hlocks (fun E h => Or.inr ⟨ex2_2 (by (simp only [inb, noThing_iff, noThing_niff, Bool.not_eq_true', Bool.not_eq_false', Bool.or_eq_true, Bool.or_eq_false_iff, decide_eq_true_eq, decide_eq_false_iff_not] <;> omega)) (by have h9 := h.2; (simp only [inb, noThing_iff, noThing_niff, Bool.not_eq_true', Bool.not_eq_false', Bool.or_eq_true, Bool.or_eq_false_iff, decide_eq_true_eq, decide_eq_false_iff_not] <;> omega)), h.1⟩) (Nat.le_of_ble_eq_true rfl) (Nat.le_of_ble_eq_true rfl) (fun g_3 => ?_)
  have g_3 : (0) ≤ (w0) ∧ (w0) ≤ (4) := g_3
  refine lv_iload_n hx hb dX1_isYear_14 rfl (lv_at hl 2 rfl) ?_
  refine lv_iconst (v := iZ 1) hx hb dX1_isYear_15 rfl ?_
  refine kz_icmp_ne (tgt := 38) hx hb (by omega) (by omega) dX1_isYear_16 (by decide) (fun c_4 => ?_) (fun c_4 => ?_)
  · refine lv_iconst (v := iZ 0) hx hb dX1_isYear_38 rfl ?_
    refine W.widen (k := 3) (n := 18) (Nat.le_of_ble_eq_true rfl) (Nat.le_of_ble_eq_true rfl) ?_
    refine vx_ret ?_
    exact W.zret (v := iZ 0) (ty := .boolean) hx hb hr rfl (fun t ht hW => ⟨⟨⟨congrArg (fun z : Int => Outcome.returned (some (Value.int (iZ z)))) (show 0 = (bZ (decide (w0 = 1 ∧ σ 2 p1 = σ 2 p2))) from by exact bZ_d0 (by omega)), gX_cast ⟨tb, tn, tm, htn, hfit, htm, by rw [ht]; exact hP⟩ (show (σ) = (σ) from by rfl)⟩, hS.F ht⟩, ex2_0 (by (simp only [inb, noThing_iff, noThing_niff, Bool.not_eq_true', Bool.not_eq_false', Bool.or_eq_true, Bool.or_eq_false_iff, decide_eq_true_eq, decide_eq_false_iff_not] <;> omega)) (by (simp only [inb, noThing_iff, noThing_niff, Bool.not_eq_true', Bool.not_eq_false', Bool.or_eq_true, Bool.or_eq_false_iff, decide_eq_true_eq, decide_eq_false_iff_not] <;> omega))⟩) hS.2.2 dX1_isYear_39
  · refine lv_aload_n hx hb dX1_isYear_19 rfl (lv_at hl 0 rfl) ?_
    refine va_get (D := (dC, dI)) (ci := 4) (v := .ref (q 2)) (C := RX1) (T := TX1) (N := 8) hx hb hts (fun w h => List.mem_cons_of_mem _ (gF_0_in h)) hown hM.1 hP 0 rfl rfl 1 (by decide) (hts _ (List.mem_cons_of_mem _ mw98)) (fun _ h9 => h9) rfl dX1_isYear_20 ?_
    refine lv_iload_n hx hb dX1_isYear_23 rfl (lv_at hl 1 rfl) ?_
    refine kz_iald (v := σ 2 p1) hx hb hM.1 hP 2 0 rfl rfl (by omega) (by decide) rfl dX1_isYear_24 ?_
    refine lv_aload_n hx hb dX1_isYear_25 rfl (lv_at hl 0 rfl) ?_
    refine va_get (D := (dC, dI)) (ci := 4) (v := .ref (q 2)) (C := RX1) (T := TX1) (N := 8) hx hb hts (fun w h => List.mem_cons_of_mem _ (gF_0_in h)) hown hM.1 hP 0 rfl rfl 1 (by decide) (hts _ (List.mem_cons_of_mem _ mw98)) (fun _ h9 => h9) rfl dX1_isYear_26 ?_
    refine lv_iload_n hx hb dX1_isYear_29 rfl (lv_at hl 3 rfl) ?_
    refine kz_iald (v := σ 2 p2) hx hb hM.1 hP 2 0 rfl rfl (by omega) (by decide) rfl dX1_isYear_30 ?_
    refine kz_icmp_ne (tgt := 38) hx hb (by omega) (by omega) dX1_isYear_31 (by decide) (fun c_5 => ?_) (fun c_5 => ?_)
    · refine lv_iconst (v := iZ 0) hx hb dX1_isYear_38 rfl ?_
      refine W.widen (k := 3) (n := 18) (Nat.le_of_ble_eq_true rfl) (Nat.le_of_ble_eq_true rfl) ?_
      refine vx_ret ?_
      exact W.zret (v := iZ 0) (ty := .boolean) hx hb hr rfl (fun t ht hW => ⟨⟨⟨congrArg (fun z : Int => Outcome.returned (some (Value.int (iZ z)))) (show 0 = (bZ (decide (w0 = 1 ∧ σ 2 p1 = σ 2 p2))) from by exact bZ_d0 (by omega)), gX_cast ⟨tb, tn, tm, htn, hfit, htm, by rw [ht]; exact hP⟩ (show (σ) = (σ) from by rfl)⟩, hS.F ht⟩, ex2_0 (by (simp only [inb, noThing_iff, noThing_niff, Bool.not_eq_true', Bool.not_eq_false', Bool.or_eq_true, Bool.or_eq_false_iff, decide_eq_true_eq, decide_eq_false_iff_not] <;> omega)) (by (simp only [inb, noThing_iff, noThing_niff, Bool.not_eq_true', Bool.not_eq_false', Bool.or_eq_true, Bool.or_eq_false_iff, decide_eq_true_eq, decide_eq_false_iff_not] <;> omega))⟩) hS.2.2 dX1_isYear_39
    · refine lv_iconst (v := iZ 1) hx hb dX1_isYear_34 rfl ?_
      refine lv_goto (tgt := 39) hx hb dX1_isYear_35 (by decide) ?_
      refine W.widen (k := 3) (n := 18) (Nat.le_of_ble_eq_true rfl) (Nat.le_of_ble_eq_true rfl) ?_
      refine vx_ret ?_
      exact W.zret (v := iZ 1) (ty := .boolean) hx hb hr rfl (fun t ht hW => ⟨⟨⟨congrArg (fun z : Int => Outcome.returned (some (Value.int (iZ z)))) (show 1 = (bZ (decide (w0 = 1 ∧ σ 2 p1 = σ 2 p2))) from by exact bZ_d1 (by omega)), gX_cast ⟨tb, tn, tm, htn, hfit, htm, by rw [ht]; exact hP⟩ (show (σ) = (σ) from by rfl)⟩, hS.F ht⟩, ex2_0 (by (simp only [inb, noThing_iff, noThing_niff, Bool.not_eq_true', Bool.not_eq_false', Bool.or_eq_true, Bool.or_eq_false_iff, decide_eq_true_eq, decide_eq_false_iff_not] <;> omega)) (by (simp only [inb, noThing_iff, noThing_niff, Bool.not_eq_true', Bool.not_eq_false', Bool.or_eq_true, Bool.or_eq_false_iff, decide_eq_true_eq, decide_eq_false_iff_not] <;> omega))⟩) hS.2.2 dX1_isYear_39

abbrev ww_X1_hasFeast : List Cond := .code yX1_hasFeast cX1_hasFeast 4 (some .boolean) :: gT
set_option maxHeartbeats 4000000 in
set_option maxRecDepth 100000 in
theorem c_X1_hasFeast (l : Launch) (hst : l.stackTraces = false) (dC : Nat → ClassId) (dI : Nat → Nat → Nat) (dA : Nat → ClassId) (k : Nat → Nat) (q : Nat → Nat) (σ : Nat → Nat → Int) (H0 : Heap) (hG : gX dC dI dA q σ H0) (hOK : kOK σ) (hq : kQI q k) (z1 : Int) (z2 : Int) (bb : Bool) (rz1 : -2147483648 ≤ z1 ∧ z1 < 2147483648) (rz2 : -2147483648 ≤ z2 ∧ z2 < 2147483648) : vx_Met l yX1_hasFeast ww_X1_hasFeast ({ frames := 9, cells := 2, slots := 12, locals := 320 }) (va_Pc [.ref (q 0), .int (iZ z1), .int (iZ z2), .int (iZ (bZ (bb)))] (fun U => U.heap = H0 ∧ kM dC dI dA k U)) (kQ2x (ex2 (!inb z1 0 3 || !inb z2 0 3) (false) = 0) (some (.int (iZ (bZ ((!bb && inYr σ (z2.toNat) (σ 2 (z1.toNat)))))))) (gX dC dI dA q (σ)) (kA q H0.size)) (kXC (fun E => (ex2 (!inb z1 0 3 || !inb z2 0 3) (false) = 1 ∧ E = "java/lang/IndexOutOfBoundsException") ∨ (ex2 (!inb z1 0 3 || !inb z2 0 3) (false) = 2 ∧ E = "java/lang/IllegalArgumentException"))) 2 12 (kA q H0.size) := by
  refine vx_ofW (cc := cX1_hasFeast) (maxL := 4) (ret := (some .boolean)) (by decide) rfl ?_
  intro p e s m args below meth c s₁ B hml hno hv
  obtain ⟨rfl, hH, hM⟩ := hv
  subst hH
  have hB := hM.2.1
  obtain ⟨tb, tn, tm, htn, hfit, htm, hP⟩ := hG
  have hS : va_S (kA q s.heap.size) s.heap s.heap [] := va_S.rf
  have hx := B.exec
  have hb := B.bytes
  have hr := B.returns
  have hts := atoms_spec (ws := ww_X1_hasFeast) B.pre
  have hown : s.vm.findClass RX1 = some m.cls := findClass_of_methodNamed B.named
  have hlocks := B.notSynchronized
  have hl := lv_entry ([.ref (q 0), .int (iZ z1), .int (iZ z2), .int (iZ (bZ (bb)))]) (n := 4) (Nat.le_of_ble_eq_true rfl)
  rw [lg_entry_eq]
  generalize (lg_sl ([.ref (q 0), .int (iZ z1), .int (iZ z2), .int (iZ (bZ (bb)))]) ++ List.replicate (4 - (lg_sl ([.ref (q 0), .int (iZ z1), .int (iZ z2), .int (iZ (bZ (bb)))])).length) Slot.unset).toArray = ls at hl ⊢
  have hl : lv_has ls 4 [(0, .ref (q 0)), (1, .int (iZ z1)), (2, .int (iZ z2)), (3, .int (iZ (bZ (bb))))] := hl
  refine lv_iload_n hx hb dX1_hasFeast_0 rfl (lv_at hl 1 rfl) ?_
  refine kcxo (fun _ q => q) (vx_runS (As := [.int (iZ z1)]) (rest := []) ⟨hx, hb, hml, hown, hts⟩ (c_X1_needPlace l hst k _ (z1) (by omega)) (va_cwS 1 hts (kg_S mw224 mw225 mw42 rfl mw226) rfl rfl rfl hdS_X1_needPlace ⟨Nat.le_of_ble_eq_true rfl, Nat.le_of_ble_eq_true rfl⟩) ⟨fun a U g mk q => ⟨q.1, q.2.1, kB_call q.2.2⟩, fun U hU hW => ⟨rfl, hU, kB_same hB hU hW⟩⟩ rfl rfl hl.1 rfl (lv_room (Nat.le_of_ble_eq_true rfl)) dX1_hasFeast_1 ⟨Nat.le_of_ble_eq_true rfl, Nat.le_of_ble_eq_true rfl⟩) hno hlocks (fun E h => Or.inl ⟨ex2_1 (by have h9 := h.2; (simp only [inb, noThing_iff, noThing_niff, Bool.not_eq_true', Bool.not_eq_false', Bool.or_eq_true, Bool.or_eq_false_iff, decide_eq_true_eq, decide_eq_false_iff_not] <;> omega)), h.1⟩) (Nat.le_of_ble_eq_true rfl) (Nat.le_of_ble_eq_true rfl) (fun g_1 => ?_)
  have g_1 : 0 ≤ (z1) ∧ (z1) ≤ 3 := g_1
  obtain ⟨p1, hp1, rfl⟩ : ∃ p1 : Nat, p1 < 4 ∧ z1 = (p1 : Int) := ⟨z1.toNat, by omega, by omega⟩
  have o_p1 := kOKr hOK hp1
  refine lv_iload_n hx hb dX1_hasFeast_4 rfl (lv_at hl 2 rfl) ?_
  refine kcxo (fun _ q => q) (vx_runS (As := [.int (iZ z2)]) (rest := []) ⟨hx, hb, hml, hown, hts⟩ (c_X1_needPlace l hst k _ (z2) (by omega)) (va_cwS 1 hts (kg_S mw224 mw225 mw42 rfl mw226) rfl rfl rfl hdS_X1_needPlace ⟨Nat.le_of_ble_eq_true rfl, Nat.le_of_ble_eq_true rfl⟩) ⟨fun a U g mk q => ⟨q.1, q.2.1, kB_call q.2.2⟩, fun U hU hW => ⟨rfl, hU, kB_same hB hU hW⟩⟩ rfl rfl hl.1 rfl (lv_room (Nat.le_of_ble_eq_true rfl)) dX1_hasFeast_5 ⟨Nat.le_of_ble_eq_true rfl, Nat.le_of_ble_eq_true rfl⟩) hno hlocks (fun E h => Or.inl ⟨ex2_1 (by have h9 := h.2; (simp only [inb, noThing_iff, noThing_niff, Bool.not_eq_true', Bool.not_eq_false', Bool.or_eq_true, Bool.or_eq_false_iff, decide_eq_true_eq, decide_eq_false_iff_not] <;> omega)), h.1⟩) (Nat.le_of_ble_eq_true rfl) (Nat.le_of_ble_eq_true rfl) (fun g_2 => ?_)
  have g_2 : 0 ≤ (z2) ∧ (z2) ≤ 3 := g_2
  obtain ⟨p2, hp2, rfl⟩ : ∃ p2 : Nat, p2 < 4 ∧ z2 = (p2 : Int) := ⟨z2.toNat, by omega, by omega⟩
  have o_p2 := kOKr hOK hp2
  refine lv_iload_n hx hb dX1_hasFeast_8 rfl (lv_at hl 3 rfl) ?_
  refine kz_ifb_ne (tgt := 30) hx hb  dX1_hasFeast_9 (by decide) (fun c_3 => ?_) (fun c_3 => ?_)
  · refine lv_iconst (v := iZ 0) hx hb dX1_hasFeast_30 rfl ?_
    refine W.widen (k := 2) (n := 12) (Nat.le_of_ble_eq_true rfl) (Nat.le_of_ble_eq_true rfl) ?_
    refine vx_ret ?_
    exact W.zret (v := iZ 0) (ty := .boolean) hx hb hr rfl (fun t ht hW => ⟨⟨⟨congrArg (fun z : Int => Outcome.returned (some (Value.int (iZ z)))) (show 0 = (bZ ((!bb && inYr σ p2 (σ 2 p1)))) from by simp [*, bZ]), gX_cast ⟨tb, tn, tm, htn, hfit, htm, by rw [ht]; exact hP⟩ (show (σ) = (σ) from by rfl)⟩, hS.F ht⟩, ex2_0 (by (simp only [inb, noThing_iff, noThing_niff, Bool.not_eq_true', Bool.not_eq_false', Bool.or_eq_true, Bool.or_eq_false_iff, decide_eq_true_eq, decide_eq_false_iff_not] <;> omega)) (by rfl)⟩) hS.2.2 dX1_hasFeast_31
  · refine lv_aload_n hx hb dX1_hasFeast_12 rfl (lv_at hl 0 rfl) ?_
    refine lv_iload_n hx hb dX1_hasFeast_13 rfl (lv_at hl 2 rfl) ?_
    refine lv_aload_n hx hb dX1_hasFeast_14 rfl (lv_at hl 0 rfl) ?_
    refine va_get (D := (dC, dI)) (ci := 4) (v := .ref (q 2)) (C := RX1) (T := TX1) (N := 8) hx hb hts (fun w h => List.mem_cons_of_mem _ (gF_0_in h)) hown hM.1 hP 0 rfl rfl 1 (by decide) (hts _ (List.mem_cons_of_mem _ mw98)) (fun _ h9 => h9) rfl dX1_hasFeast_15 ?_
    refine lv_iload_n hx hb dX1_hasFeast_18 rfl (lv_at hl 1 rfl) ?_
    refine kz_iald (v := σ 2 p1) hx hb hM.1 hP 2 0 rfl rfl (by omega) (by decide) rfl dX1_hasFeast_19 ?_
    refine kc0 (fun _ q => q) (va_runV (As := [.int (iZ ((p2 : Nat) : Int)), .int (iZ (σ 2 p1))]) (rest := []) ⟨hx, hb, hml, hown, hts⟩ (c_X1_isFeastIn l dC dI dA k q (σ) _ ⟨tb, tn, tm, htn, hfit, htm, hP⟩ (hOK) p2 ((σ 2 p1)) (by omega) (by omega)) (cwV 2 hts (kg_V mw202 mw203 mw4 mw42 rfl mw204) rfl rfl rfl hdV_X1_isFeastIn ⟨Nat.le_of_ble_eq_true rfl, Nat.le_of_ble_eq_true rfl⟩) ⟨fun a U g mk q => ⟨q.1, q.2.1, kM_call q.2.2⟩, va_recv hM.1 hP (ci := 4) (q0 := 0) rfl rfl, fun U hU hW => ⟨rfl, hU, kM_same hM hU hW⟩⟩ rfl rfl hl.1 rfl (lv_room (Nat.le_of_ble_eq_true rfl)) dX1_hasFeast_20 ⟨Nat.le_of_ble_eq_true rfl, Nat.le_of_ble_eq_true rfl⟩) ?_
    refine kz_ifb_eq (tgt := 30) hx hb  dX1_hasFeast_23 (by decide) (fun c_4 => ?_) (fun c_4 => ?_)
    · refine lv_iconst (v := iZ 0) hx hb dX1_hasFeast_30 rfl ?_
      refine W.widen (k := 2) (n := 12) (Nat.le_of_ble_eq_true rfl) (Nat.le_of_ble_eq_true rfl) ?_
      refine vx_ret ?_
      exact W.zret (v := iZ 0) (ty := .boolean) hx hb hr rfl (fun t ht hW => ⟨⟨⟨congrArg (fun z : Int => Outcome.returned (some (Value.int (iZ z)))) (show 0 = (bZ ((!bb && inYr σ p2 (σ 2 p1)))) from by simp [*, bZ]), gX_cast ⟨tb, tn, tm, htn, hfit, htm, by rw [ht]; exact hP⟩ (show (σ) = (σ) from by rfl)⟩, hS.F ht⟩, ex2_0 (by (simp only [inb, noThing_iff, noThing_niff, Bool.not_eq_true', Bool.not_eq_false', Bool.or_eq_true, Bool.or_eq_false_iff, decide_eq_true_eq, decide_eq_false_iff_not] <;> omega)) (by rfl)⟩) hS.2.2 dX1_hasFeast_31
    · refine lv_iconst (v := iZ 1) hx hb dX1_hasFeast_26 rfl ?_
      refine lv_goto (tgt := 31) hx hb dX1_hasFeast_27 (by decide) ?_
      refine W.widen (k := 2) (n := 12) (Nat.le_of_ble_eq_true rfl) (Nat.le_of_ble_eq_true rfl) ?_
      refine vx_ret ?_
      exact W.zret (v := iZ 1) (ty := .boolean) hx hb hr rfl (fun t ht hW => ⟨⟨⟨congrArg (fun z : Int => Outcome.returned (some (Value.int (iZ z)))) (show 1 = (bZ ((!bb && inYr σ p2 (σ 2 p1)))) from by simp [*, bZ]), gX_cast ⟨tb, tn, tm, htn, hfit, htm, by rw [ht]; exact hP⟩ (show (σ) = (σ) from by rfl)⟩, hS.F ht⟩, ex2_0 (by (simp only [inb, noThing_iff, noThing_niff, Bool.not_eq_true', Bool.not_eq_false', Bool.or_eq_true, Bool.or_eq_false_iff, decide_eq_true_eq, decide_eq_false_iff_not] <;> omega)) (by rfl)⟩) hS.2.2 dX1_hasFeast_31

abbrev ww_X1_isInYear : List Cond := .code yX1_isInYear cX1_isInYear 3 (some .boolean) :: gT
set_option maxHeartbeats 4000000 in
set_option maxRecDepth 100000 in
theorem c_X1_isInYear (l : Launch) (hst : l.stackTraces = false) (dC : Nat → ClassId) (dI : Nat → Nat → Nat) (dA : Nat → ClassId) (k : Nat → Nat) (q : Nat → Nat) (σ : Nat → Nat → Int) (H0 : Heap) (hG : gX dC dI dA q σ H0) (hOK : kOK σ) (hq : kQI q k) (z1 : Int) (yy : Int) (rz1 : -2147483648 ≤ z1 ∧ z1 < 2147483648) (ryy : -2147483648 ≤ yy ∧ yy < 2147483648) : vx_Met l yX1_isInYear ww_X1_isInYear ({ frames := 10, cells := 2, slots := 12, locals := 342 }) (va_Pc [.ref (q 0), .int (iZ z1), .int (iZ yy)] (fun U => U.heap = H0 ∧ kM dC dI dA k U)) (kQ2x (ex2 (!inb z1 0 3) (!inb yy (-999999999) 999999999) = 0) (some (.int (iZ (bZ (inYr σ (z1.toNat) yy))))) (gX dC dI dA q (σ)) (kA q H0.size)) (kXC (fun E => (ex2 (!inb z1 0 3) (!inb yy (-999999999) 999999999) = 1 ∧ E = "java/lang/IndexOutOfBoundsException") ∨ (ex2 (!inb z1 0 3) (!inb yy (-999999999) 999999999) = 2 ∧ E = "java/lang/IllegalArgumentException"))) 2 12 (kA q H0.size) := by
  refine vx_ofW (cc := cX1_isInYear) (maxL := 3) (ret := (some .boolean)) (by decide) rfl ?_
  intro p e s m args below meth c s₁ B hml hno hv
  obtain ⟨rfl, hH, hM⟩ := hv
  subst hH
  have hB := hM.2.1
  obtain ⟨tb, tn, tm, htn, hfit, htm, hP⟩ := hG
  have hS : va_S (kA q s.heap.size) s.heap s.heap [] := va_S.rf
  have hx := B.exec
  have hb := B.bytes
  have hr := B.returns
  have hts := atoms_spec (ws := ww_X1_isInYear) B.pre
  have hown : s.vm.findClass RX1 = some m.cls := findClass_of_methodNamed B.named
  have hlocks := B.notSynchronized
  have hl := lv_entry ([.ref (q 0), .int (iZ z1), .int (iZ yy)]) (n := 3) (Nat.le_of_ble_eq_true rfl)
  rw [lg_entry_eq]
  generalize (lg_sl ([.ref (q 0), .int (iZ z1), .int (iZ yy)]) ++ List.replicate (3 - (lg_sl ([.ref (q 0), .int (iZ z1), .int (iZ yy)])).length) Slot.unset).toArray = ls at hl ⊢
  have hl : lv_has ls 3 [(0, .ref (q 0)), (1, .int (iZ z1)), (2, .int (iZ yy))] := hl
  refine lv_iload_n hx hb dX1_isInYear_0 rfl (lv_at hl 1 rfl) ?_
  refine kcxo (fun _ q => q) (vx_runS (As := [.int (iZ z1)]) (rest := []) ⟨hx, hb, hml, hown, hts⟩ (c_X1_needPlace l hst k _ (z1) (by omega)) (va_cwS 1 hts (kg_S mw224 mw225 mw42 rfl mw226) rfl rfl rfl hdS_X1_needPlace ⟨Nat.le_of_ble_eq_true rfl, Nat.le_of_ble_eq_true rfl⟩) ⟨fun a U g mk q => ⟨q.1, q.2.1, kB_call q.2.2⟩, fun U hU hW => ⟨rfl, hU, kB_same hB hU hW⟩⟩ rfl rfl hl.1 rfl (lv_room (Nat.le_of_ble_eq_true rfl)) dX1_isInYear_1 ⟨Nat.le_of_ble_eq_true rfl, Nat.le_of_ble_eq_true rfl⟩) hno hlocks (fun E h => Or.inl ⟨ex2_1 (by have h9 := h.2; (simp only [inb, noThing_iff, noThing_niff, Bool.not_eq_true', Bool.not_eq_false', Bool.or_eq_true, Bool.or_eq_false_iff, decide_eq_true_eq, decide_eq_false_iff_not] <;> omega)), h.1⟩) (Nat.le_of_ble_eq_true rfl) (Nat.le_of_ble_eq_true rfl) (fun g_1 => ?_)
  have g_1 : 0 ≤ (z1) ∧ (z1) ≤ 3 := g_1
  obtain ⟨p1, hp1, rfl⟩ : ∃ p1 : Nat, p1 < 4 ∧ z1 = (p1 : Int) := ⟨z1.toNat, by omega, by omega⟩
  have o_p1 := kOKr hOK hp1
  refine lv_iload_n hx hb dX1_isInYear_4 rfl (lv_at hl 2 rfl) ?_
  refine kcxo (fun _ q => q) (vx_runS (As := [.int (iZ yy)]) (rest := []) ⟨hx, hb, hml, hown, hts⟩ (c_X1_needYearNumber l hst k _ (yy) (by omega)) (va_cwS 1 hts (kg_S mw610 mw611 mw42 rfl mw612) rfl rfl rfl hdS_X1_needYearNumber ⟨Nat.le_of_ble_eq_true rfl, Nat.le_of_ble_eq_true rfl⟩) ⟨fun a U g mk q => ⟨q.1, q.2.1, kB_call q.2.2⟩, fun U hU hW => ⟨rfl, hU, kB_same hB hU hW⟩⟩ rfl rfl hl.1 rfl (lv_room (Nat.le_of_ble_eq_true rfl)) dX1_isInYear_5 ⟨Nat.le_of_ble_eq_true rfl, Nat.le_of_ble_eq_true rfl⟩) hno hlocks (fun E h => Or.inr ⟨ex2_2 (by (simp only [inb, noThing_iff, noThing_niff, Bool.not_eq_true', Bool.not_eq_false', Bool.or_eq_true, Bool.or_eq_false_iff, decide_eq_true_eq, decide_eq_false_iff_not] <;> omega)) (by have h9 := h.2; (simp only [inb, noThing_iff, noThing_niff, Bool.not_eq_true', Bool.not_eq_false', Bool.or_eq_true, Bool.or_eq_false_iff, decide_eq_true_eq, decide_eq_false_iff_not] <;> omega)), h.1⟩) (Nat.le_of_ble_eq_true rfl) (Nat.le_of_ble_eq_true rfl) (fun g_2 => ?_)
  have g_2 : -999999999 ≤ (yy) ∧ (yy) ≤ 999999999 := g_2
  refine lv_aload_n hx hb dX1_isInYear_8 rfl (lv_at hl 0 rfl) ?_
  refine lv_iload_n hx hb dX1_isInYear_9 rfl (lv_at hl 1 rfl) ?_
  refine lv_iload_n hx hb dX1_isInYear_10 rfl (lv_at hl 2 rfl) ?_
  refine kc0 (fun _ q => q) (va_runV (As := [.int (iZ ((p1 : Nat) : Int)), .int (iZ yy)]) (rest := []) ⟨hx, hb, hml, hown, hts⟩ (c_X1_isFeastIn l dC dI dA k q (σ) _ ⟨tb, tn, tm, htn, hfit, htm, hP⟩ (hOK) p1 (yy) (by omega) (by omega)) (cwV 2 hts (kg_V mw202 mw203 mw4 mw42 rfl mw204) rfl rfl rfl hdV_X1_isFeastIn ⟨Nat.le_of_ble_eq_true rfl, Nat.le_of_ble_eq_true rfl⟩) ⟨fun a U g mk q => ⟨q.1, q.2.1, kM_call q.2.2⟩, va_recv hM.1 hP (ci := 4) (q0 := 0) rfl rfl, fun U hU hW => ⟨rfl, hU, kM_same hM hU hW⟩⟩ rfl rfl hl.1 rfl (lv_room (Nat.le_of_ble_eq_true rfl)) dX1_isInYear_11 ⟨Nat.le_of_ble_eq_true rfl, Nat.le_of_ble_eq_true rfl⟩) ?_
  refine W.widen (k := 2) (n := 12) (Nat.le_of_ble_eq_true rfl) (Nat.le_of_ble_eq_true rfl) ?_
  refine vx_ret ?_
  exact W.zret (v := iZ (bZ (inYr σ p1 ((yy))))) (ty := .boolean) hx hb hr (by cases (inYr σ p1 ((yy))) <;> rfl) (fun t ht hW => ⟨⟨⟨congrArg (fun z : Int => Outcome.returned (some (Value.int (iZ z)))) (show (bZ (inYr σ p1 ((yy)))) = (bZ (inYr σ p1 yy)) from by rfl), gX_cast ⟨tb, tn, tm, htn, hfit, htm, by rw [ht]; exact hP⟩ (show (σ) = (σ) from by rfl)⟩, hS.F ht⟩, ex2_0 (by (simp only [inb, noThing_iff, noThing_niff, Bool.not_eq_true', Bool.not_eq_false', Bool.or_eq_true, Bool.or_eq_false_iff, decide_eq_true_eq, decide_eq_false_iff_not] <;> omega)) (by (simp only [inb, noThing_iff, noThing_niff, Bool.not_eq_true', Bool.not_eq_false', Bool.or_eq_true, Bool.or_eq_false_iff, decide_eq_true_eq, decide_eq_false_iff_not] <;> omega))⟩) hS.2.2 dX1_isInYear_14

abbrev ww_X1_feastOrder : List Cond := .code yX1_feastOrder cX1_feastOrder 4 (some .int) :: gT
set_option maxHeartbeats 4000000 in
set_option maxRecDepth 100000 in
theorem c_X1_feastOrder (l : Launch) (hst : l.stackTraces = false) (dC : Nat → ClassId) (dI : Nat → Nat → Nat) (dA : Nat → ClassId) (k : Nat → Nat) (q : Nat → Nat) (σ : Nat → Nat → Int) (H0 : Heap) (hG : gX dC dI dA q σ H0) (hOK : kOK σ) (hq : kQI q k) (z1 : Int) (z2 : Int) (w0 : Int) (rz1 : -2147483648 ≤ z1 ∧ z1 < 2147483648) (rz2 : -2147483648 ≤ z2 ∧ z2 < 2147483648) (rw0 : -2147483648 ≤ w0 ∧ w0 < 2147483648) : vx_Met l yX1_feastOrder ww_X1_feastOrder ({ frames := 9, cells := 3, slots := 18, locals := 322 }) (va_Pc [.ref (q 0), .int (iZ z1), .int (iZ z2), .int (iZ w0)] (fun U => U.heap = H0 ∧ kM dC dI dA k U)) (kQ2x (ex2 (!inb z1 0 3 || !inb z2 0 3) (!inb w0 0 2) = 0) (some (.int (iZ (ordT (32 * σ 3 (z1.toNat) + σ 4 (z1.toNat)) (32 * σ 3 (z2.toNat) + σ 4 (z2.toNat)) w0)))) (gX dC dI dA q (σ)) (kA q H0.size)) (kXC (fun E => (ex2 (!inb z1 0 3 || !inb z2 0 3) (!inb w0 0 2) = 1 ∧ E = "java/lang/IndexOutOfBoundsException") ∨ (ex2 (!inb z1 0 3 || !inb z2 0 3) (!inb w0 0 2) = 2 ∧ E = "java/lang/IllegalArgumentException"))) 3 18 (kA q H0.size) := by
  refine vx_ofW (cc := cX1_feastOrder) (maxL := 4) (ret := (some .int)) (by decide) rfl ?_
  intro p e s m args below meth c s₁ B hml hno hv
  obtain ⟨rfl, hH, hM⟩ := hv
  subst hH
  have hB := hM.2.1
  obtain ⟨tb, tn, tm, htn, hfit, htm, hP⟩ := hG
  have hS : va_S (kA q s.heap.size) s.heap s.heap [] := va_S.rf
  have hx := B.exec
  have hb := B.bytes
  have hr := B.returns
  have hts := atoms_spec (ws := ww_X1_feastOrder) B.pre
  have hown : s.vm.findClass RX1 = some m.cls := findClass_of_methodNamed B.named
  have hlocks := B.notSynchronized
  have hl := lv_entry ([.ref (q 0), .int (iZ z1), .int (iZ z2), .int (iZ w0)]) (n := 4) (Nat.le_of_ble_eq_true rfl)
  rw [lg_entry_eq]
  generalize (lg_sl ([.ref (q 0), .int (iZ z1), .int (iZ z2), .int (iZ w0)]) ++ List.replicate (4 - (lg_sl ([.ref (q 0), .int (iZ z1), .int (iZ z2), .int (iZ w0)])).length) Slot.unset).toArray = ls at hl ⊢
  have hl : lv_has ls 4 [(0, .ref (q 0)), (1, .int (iZ z1)), (2, .int (iZ z2)), (3, .int (iZ w0))] := hl
  refine lv_iload_n hx hb dX1_feastOrder_0 rfl (lv_at hl 1 rfl) ?_
  refine kcxo (fun _ q => q) (vx_runS (As := [.int (iZ z1)]) (rest := []) ⟨hx, hb, hml, hown, hts⟩ (c_X1_needPlace l hst k _ (z1) (by omega)) (va_cwS 1 hts (kg_S mw224 mw225 mw42 rfl mw226) rfl rfl rfl hdS_X1_needPlace ⟨Nat.le_of_ble_eq_true rfl, Nat.le_of_ble_eq_true rfl⟩) ⟨fun a U g mk q => ⟨q.1, q.2.1, kB_call q.2.2⟩, fun U hU hW => ⟨rfl, hU, kB_same hB hU hW⟩⟩ rfl rfl hl.1 rfl (lv_room (Nat.le_of_ble_eq_true rfl)) dX1_feastOrder_1 ⟨Nat.le_of_ble_eq_true rfl, Nat.le_of_ble_eq_true rfl⟩) hno hlocks (fun E h => Or.inl ⟨ex2_1 (by have h9 := h.2; (simp only [inb, noThing_iff, noThing_niff, Bool.not_eq_true', Bool.not_eq_false', Bool.or_eq_true, Bool.or_eq_false_iff, decide_eq_true_eq, decide_eq_false_iff_not] <;> omega)), h.1⟩) (Nat.le_of_ble_eq_true rfl) (Nat.le_of_ble_eq_true rfl) (fun g_1 => ?_)
  have g_1 : 0 ≤ (z1) ∧ (z1) ≤ 3 := g_1
  obtain ⟨p1, hp1, rfl⟩ : ∃ p1 : Nat, p1 < 4 ∧ z1 = (p1 : Int) := ⟨z1.toNat, by omega, by omega⟩
  have o_p1 := kOKr hOK hp1
  refine lv_iload_n hx hb dX1_feastOrder_4 rfl (lv_at hl 2 rfl) ?_
  refine kcxo (fun _ q => q) (vx_runS (As := [.int (iZ z2)]) (rest := []) ⟨hx, hb, hml, hown, hts⟩ (c_X1_needPlace l hst k _ (z2) (by omega)) (va_cwS 1 hts (kg_S mw224 mw225 mw42 rfl mw226) rfl rfl rfl hdS_X1_needPlace ⟨Nat.le_of_ble_eq_true rfl, Nat.le_of_ble_eq_true rfl⟩) ⟨fun a U g mk q => ⟨q.1, q.2.1, kB_call q.2.2⟩, fun U hU hW => ⟨rfl, hU, kB_same hB hU hW⟩⟩ rfl rfl hl.1 rfl (lv_room (Nat.le_of_ble_eq_true rfl)) dX1_feastOrder_5 ⟨Nat.le_of_ble_eq_true rfl, Nat.le_of_ble_eq_true rfl⟩) hno hlocks (fun E h => Or.inl ⟨ex2_1 (by have h9 := h.2; (simp only [inb, noThing_iff, noThing_niff, Bool.not_eq_true', Bool.not_eq_false', Bool.or_eq_true, Bool.or_eq_false_iff, decide_eq_true_eq, decide_eq_false_iff_not] <;> omega)), h.1⟩) (Nat.le_of_ble_eq_true rfl) (Nat.le_of_ble_eq_true rfl) (fun g_2 => ?_)
  have g_2 : 0 ≤ (z2) ∧ (z2) ≤ 3 := g_2
  obtain ⟨p2, hp2, rfl⟩ : ∃ p2 : Nat, p2 < 4 ∧ z2 = (p2 : Int) := ⟨z2.toNat, by omega, by omega⟩
  have o_p2 := kOKr hOK hp2
  refine lv_iload_n hx hb dX1_feastOrder_8 rfl (lv_at hl 3 rfl) ?_
  refine lv_iconst (v := iZ 0) hx hb dX1_feastOrder_9 rfl ?_
  refine lv_iconst (v := iZ 2) hx hb dX1_feastOrder_10 rfl ?_
  refine kcxo (fun _ q => q) (vx_runS (As := [.int (iZ w0), .int (iZ 0), .int (iZ 2)]) (rest := []) ⟨hx, hb, hml, hown, hts⟩ (c_X1_needWithin l hst k _ (w0) (0) (2) (by omega) (by omega) (by omega)) (va_cwS 3 hts (kg_S mw228 mw229 mw42 rfl mw230) rfl rfl rfl hdS_X1_needWithin ⟨Nat.le_of_ble_eq_true rfl, Nat.le_of_ble_eq_true rfl⟩) ⟨fun a U g mk q => ⟨q.1, q.2.1, kB_call q.2.2⟩, fun U hU hW => ⟨rfl, hU, kB_same hB hU hW⟩⟩ rfl rfl hl.1 rfl (lv_room (Nat.le_of_ble_eq_true rfl)) dX1_feastOrder_11 ⟨Nat.le_of_ble_eq_true rfl, Nat.le_of_ble_eq_true rfl⟩) hno hlocks (fun E h => Or.inr ⟨ex2_2 (by (simp only [inb, noThing_iff, noThing_niff, Bool.not_eq_true', Bool.not_eq_false', Bool.or_eq_true, Bool.or_eq_false_iff, decide_eq_true_eq, decide_eq_false_iff_not] <;> omega)) (by have h9 := h.2; (simp only [inb, noThing_iff, noThing_niff, Bool.not_eq_true', Bool.not_eq_false', Bool.or_eq_true, Bool.or_eq_false_iff, decide_eq_true_eq, decide_eq_false_iff_not] <;> omega)), h.1⟩) (Nat.le_of_ble_eq_true rfl) (Nat.le_of_ble_eq_true rfl) (fun g_3 => ?_)
  have g_3 : (0) ≤ (w0) ∧ (w0) ≤ (2) := g_3
  refine lv_aload_n hx hb dX1_feastOrder_14 rfl (lv_at hl 0 rfl) ?_
  refine lv_iload_n hx hb dX1_feastOrder_15 rfl (lv_at hl 1 rfl) ?_
  refine kc0 (fun _ q => q) (va_runV (As := [.int (iZ ((p1 : Nat) : Int))]) (rest := []) ⟨hx, hb, hml, hown, hts⟩ (c_X1_feastRank l dC dI dA k q (σ) _ ⟨tb, tn, tm, htn, hfit, htm, hP⟩ (hOK) p1 (by omega)) (cwV 1 hts (kg_V mw193 mw194 mw1 mw42 rfl mw195) rfl rfl rfl hdV_X1_feastRank ⟨Nat.le_of_ble_eq_true rfl, Nat.le_of_ble_eq_true rfl⟩) ⟨fun a U g mk q => ⟨q.1, q.2.1, kM_call q.2.2⟩, va_recv hM.1 hP (ci := 4) (q0 := 0) rfl rfl, fun U hU hW => ⟨rfl, hU, kM_same hM hU hW⟩⟩ rfl rfl hl.1 rfl (lv_room (Nat.le_of_ble_eq_true rfl)) dX1_feastOrder_16 ⟨Nat.le_of_ble_eq_true rfl, Nat.le_of_ble_eq_true rfl⟩) ?_
  refine kz_i2l hx hb (by omega) dX1_feastOrder_19 ?_
  refine lv_aload_n hx hb dX1_feastOrder_20 rfl (lv_at hl 0 rfl) ?_
  refine lv_iload_n hx hb dX1_feastOrder_21 rfl (lv_at hl 2 rfl) ?_
  refine kc0 (fun _ q => q) (va_runV (As := [.int (iZ ((p2 : Nat) : Int))]) (rest := [.long (lZ ((32 * σ 3 p1 + σ 4 p1)))]) ⟨hx, hb, hml, hown, hts⟩ (c_X1_feastRank l dC dI dA k q (σ) _ ⟨tb, tn, tm, htn, hfit, htm, hP⟩ (hOK) p2 (by omega)) (cwV 1 hts (kg_V mw193 mw194 mw1 mw42 rfl mw195) rfl rfl rfl hdV_X1_feastRank ⟨Nat.le_of_ble_eq_true rfl, Nat.le_of_ble_eq_true rfl⟩) ⟨fun a U g mk q => ⟨q.1, q.2.1, kM_call q.2.2⟩, va_recv hM.1 hP (ci := 4) (q0 := 0) rfl rfl, fun U hU hW => ⟨rfl, hU, kM_same hM hU hW⟩⟩ rfl rfl hl.1 rfl (lv_room (Nat.le_of_ble_eq_true rfl)) dX1_feastOrder_22 ⟨Nat.le_of_ble_eq_true rfl, Nat.le_of_ble_eq_true rfl⟩) ?_
  refine kz_i2l hx hb (by omega) dX1_feastOrder_25 ?_
  refine lv_iload_n hx hb dX1_feastOrder_26 rfl (lv_at hl 3 rfl) ?_
  refine kc0 (fun _ q => q) (va_runS (As := [.long (lZ ((32 * σ 3 p1 + σ 4 p1))), .long (lZ ((32 * σ 3 p2 + σ 4 p2))), .int (iZ w0)]) (rest := []) ⟨hx, hb, hml, hown, hts⟩ (c_X1_orderTold l _ (((32 * σ 3 p1 + σ 4 p1))) (((32 * σ 3 p2 + σ 4 p2))) (w0) (by omega) (by omega) (by omega)) (va_cwS 3 hts (kg_S mw173 mw174 mw42 rfl mw175) rfl rfl rfl hdS_X1_orderTold ⟨Nat.le_of_ble_eq_true rfl, Nat.le_of_ble_eq_true rfl⟩) ⟨fun a U g mk q => q, fun U hU hW => ⟨rfl, hU⟩⟩ rfl rfl hl.1 rfl (lv_room (Nat.le_of_ble_eq_true rfl)) dX1_feastOrder_27 ⟨Nat.le_of_ble_eq_true rfl, Nat.le_of_ble_eq_true rfl⟩) ?_
  refine W.widen (k := 3) (n := 18) (Nat.le_of_ble_eq_true rfl) (Nat.le_of_ble_eq_true rfl) ?_
  refine vx_ret ?_
  exact W.iret (v := iZ (ordT ((((32 * σ 3 p1 + σ 4 p1)))) ((((32 * σ 3 p2 + σ 4 p2)))) ((w0)))) hx hb hr (fun t ht hW => ⟨⟨⟨congrArg (fun z : Int => Outcome.returned (some (Value.int (iZ z)))) (show (ordT ((((32 * σ 3 p1 + σ 4 p1)))) ((((32 * σ 3 p2 + σ 4 p2)))) ((w0))) = (ordT (32 * σ 3 p1 + σ 4 p1) (32 * σ 3 p2 + σ 4 p2) w0) from by rfl), gX_cast ⟨tb, tn, tm, htn, hfit, htm, by rw [ht]; exact hP⟩ (show (σ) = (σ) from by rfl)⟩, hS.F ht⟩, ex2_0 (by (simp only [inb, noThing_iff, noThing_niff, Bool.not_eq_true', Bool.not_eq_false', Bool.or_eq_true, Bool.or_eq_false_iff, decide_eq_true_eq, decide_eq_false_iff_not] <;> omega)) (by (simp only [inb, noThing_iff, noThing_niff, Bool.not_eq_true', Bool.not_eq_false', Bool.or_eq_true, Bool.or_eq_false_iff, decide_eq_true_eq, decide_eq_false_iff_not] <;> omega))⟩) hS.2.2 dX1_feastOrder_30

abbrev ww_X1_isFeast : List Cond := .code yX1_isFeast cX1_isFeast 4 (some .boolean) :: gT
set_option maxHeartbeats 4000000 in
set_option maxRecDepth 100000 in
theorem c_X1_isFeast (l : Launch) (hst : l.stackTraces = false) (dC : Nat → ClassId) (dI : Nat → Nat → Nat) (dA : Nat → ClassId) (k : Nat → Nat) (q : Nat → Nat) (σ : Nat → Nat → Int) (H0 : Heap) (hG : gX dC dI dA q σ H0) (hOK : kOK σ) (hq : kQI q k) (z1 : Int) (w0 : Int) (z2 : Int) (rz1 : -2147483648 ≤ z1 ∧ z1 < 2147483648) (rw0 : -2147483648 ≤ w0 ∧ w0 < 2147483648) (rz2 : -2147483648 ≤ z2 ∧ z2 < 2147483648) : vx_Met l yX1_isFeast ww_X1_isFeast ({ frames := 9, cells := 3, slots := 18, locals := 322 }) (va_Pc [.ref (q 0), .int (iZ z1), .int (iZ w0), .int (iZ z2)] (fun U => U.heap = H0 ∧ kM dC dI dA k U)) (kQ2x (ex2 (!inb z1 0 3 || !inb z2 0 3) (!inb w0 0 4) = 0) (some (.int (iZ (bZ (decide (w0 = 2 ∧ σ 3 (z1.toNat) = σ 3 (z2.toNat) ∧ σ 4 (z1.toNat) = σ 4 (z2.toNat))))))) (gX dC dI dA q (σ)) (kA q H0.size)) (kXC (fun E => (ex2 (!inb z1 0 3 || !inb z2 0 3) (!inb w0 0 4) = 1 ∧ E = "java/lang/IndexOutOfBoundsException") ∨ (ex2 (!inb z1 0 3 || !inb z2 0 3) (!inb w0 0 4) = 2 ∧ E = "java/lang/IllegalArgumentException"))) 3 18 (kA q H0.size) := by
  refine vx_ofW (cc := cX1_isFeast) (maxL := 4) (ret := (some .boolean)) (by decide) rfl ?_
  intro p e s m args below meth c s₁ B hml hno hv
  obtain ⟨rfl, hH, hM⟩ := hv
  subst hH
  have hB := hM.2.1
  obtain ⟨tb, tn, tm, htn, hfit, htm, hP⟩ := hG
  have hS : va_S (kA q s.heap.size) s.heap s.heap [] := va_S.rf
  have hx := B.exec
  have hb := B.bytes
  have hr := B.returns
  have hts := atoms_spec (ws := ww_X1_isFeast) B.pre
  have hown : s.vm.findClass RX1 = some m.cls := findClass_of_methodNamed B.named
  have hlocks := B.notSynchronized
  have hl := lv_entry ([.ref (q 0), .int (iZ z1), .int (iZ w0), .int (iZ z2)]) (n := 4) (Nat.le_of_ble_eq_true rfl)
  rw [lg_entry_eq]
  generalize (lg_sl ([.ref (q 0), .int (iZ z1), .int (iZ w0), .int (iZ z2)]) ++ List.replicate (4 - (lg_sl ([.ref (q 0), .int (iZ z1), .int (iZ w0), .int (iZ z2)])).length) Slot.unset).toArray = ls at hl ⊢
  have hl : lv_has ls 4 [(0, .ref (q 0)), (1, .int (iZ z1)), (2, .int (iZ w0)), (3, .int (iZ z2))] := hl
  refine lv_iload_n hx hb dX1_isFeast_0 rfl (lv_at hl 1 rfl) ?_
  refine kcxo (fun _ q => q) (vx_runS (As := [.int (iZ z1)]) (rest := []) ⟨hx, hb, hml, hown, hts⟩ (c_X1_needPlace l hst k _ (z1) (by omega)) (va_cwS 1 hts (kg_S mw224 mw225 mw42 rfl mw226) rfl rfl rfl hdS_X1_needPlace ⟨Nat.le_of_ble_eq_true rfl, Nat.le_of_ble_eq_true rfl⟩) ⟨fun a U g mk q => ⟨q.1, q.2.1, kB_call q.2.2⟩, fun U hU hW => ⟨rfl, hU, kB_same hB hU hW⟩⟩ rfl rfl hl.1 rfl (lv_room (Nat.le_of_ble_eq_true rfl)) dX1_isFeast_1 ⟨Nat.le_of_ble_eq_true rfl, Nat.le_of_ble_eq_true rfl⟩) hno hlocks (fun E h => Or.inl ⟨ex2_1 (by have h9 := h.2; (simp only [inb, noThing_iff, noThing_niff, Bool.not_eq_true', Bool.not_eq_false', Bool.or_eq_true, Bool.or_eq_false_iff, decide_eq_true_eq, decide_eq_false_iff_not] <;> omega)), h.1⟩) (Nat.le_of_ble_eq_true rfl) (Nat.le_of_ble_eq_true rfl) (fun g_1 => ?_)
  have g_1 : 0 ≤ (z1) ∧ (z1) ≤ 3 := g_1
  obtain ⟨p1, hp1, rfl⟩ : ∃ p1 : Nat, p1 < 4 ∧ z1 = (p1 : Int) := ⟨z1.toNat, by omega, by omega⟩
  have o_p1 := kOKr hOK hp1
  refine lv_iload_n hx hb dX1_isFeast_4 rfl (lv_at hl 3 rfl) ?_
  refine kcxo (fun _ q => q) (vx_runS (As := [.int (iZ z2)]) (rest := []) ⟨hx, hb, hml, hown, hts⟩ (c_X1_needPlace l hst k _ (z2) (by omega)) (va_cwS 1 hts (kg_S mw224 mw225 mw42 rfl mw226) rfl rfl rfl hdS_X1_needPlace ⟨Nat.le_of_ble_eq_true rfl, Nat.le_of_ble_eq_true rfl⟩) ⟨fun a U g mk q => ⟨q.1, q.2.1, kB_call q.2.2⟩, fun U hU hW => ⟨rfl, hU, kB_same hB hU hW⟩⟩ rfl rfl hl.1 rfl (lv_room (Nat.le_of_ble_eq_true rfl)) dX1_isFeast_5 ⟨Nat.le_of_ble_eq_true rfl, Nat.le_of_ble_eq_true rfl⟩) hno hlocks (fun E h => Or.inl ⟨ex2_1 (by have h9 := h.2; (simp only [inb, noThing_iff, noThing_niff, Bool.not_eq_true', Bool.not_eq_false', Bool.or_eq_true, Bool.or_eq_false_iff, decide_eq_true_eq, decide_eq_false_iff_not] <;> omega)), h.1⟩) (Nat.le_of_ble_eq_true rfl) (Nat.le_of_ble_eq_true rfl) (fun g_2 => ?_)
  have g_2 : 0 ≤ (z2) ∧ (z2) ≤ 3 := g_2
  obtain ⟨p2, hp2, rfl⟩ : ∃ p2 : Nat, p2 < 4 ∧ z2 = (p2 : Int) := ⟨z2.toNat, by omega, by omega⟩
  have o_p2 := kOKr hOK hp2
  refine lv_iload_n hx hb dX1_isFeast_8 rfl (lv_at hl 2 rfl) ?_
  refine lv_iconst (v := iZ 0) hx hb dX1_isFeast_9 rfl ?_
  refine lv_iconst (v := iZ 4) hx hb dX1_isFeast_10 rfl ?_
  refine kcxo (fun _ q => q) (vx_runS (As := [.int (iZ w0), .int (iZ 0), .int (iZ 4)]) (rest := []) ⟨hx, hb, hml, hown, hts⟩ (c_X1_needWithin l hst k _ (w0) (0) (4) (by omega) (by omega) (by omega)) (va_cwS 3 hts (kg_S mw228 mw229 mw42 rfl mw230) rfl rfl rfl hdS_X1_needWithin ⟨Nat.le_of_ble_eq_true rfl, Nat.le_of_ble_eq_true rfl⟩) ⟨fun a U g mk q => ⟨q.1, q.2.1, kB_call q.2.2⟩, fun U hU hW => ⟨rfl, hU, kB_same hB hU hW⟩⟩ rfl rfl hl.1 rfl (lv_room (Nat.le_of_ble_eq_true rfl)) dX1_isFeast_11 ⟨Nat.le_of_ble_eq_true rfl, Nat.le_of_ble_eq_true rfl⟩) hno hlocks (fun E h => Or.inr ⟨ex2_2 (by (simp only [inb, noThing_iff, noThing_niff, Bool.not_eq_true', Bool.not_eq_false', Bool.or_eq_true, Bool.or_eq_false_iff, decide_eq_true_eq, decide_eq_false_iff_not] <;> omega)) (by have h9 := h.2; (simp only [inb, noThing_iff, noThing_niff, Bool.not_eq_true', Bool.not_eq_false', Bool.or_eq_true, Bool.or_eq_false_iff, decide_eq_true_eq, decide_eq_false_iff_not] <;> omega)), h.1⟩) (Nat.le_of_ble_eq_true rfl) (Nat.le_of_ble_eq_true rfl) (fun g_3 => ?_)
  have g_3 : (0) ≤ (w0) ∧ (w0) ≤ (4) := g_3
  refine lv_iload_n hx hb dX1_isFeast_14 rfl (lv_at hl 2 rfl) ?_
  refine lv_iconst (v := iZ 2) hx hb dX1_isFeast_15 rfl ?_
  refine kz_icmp_ne (tgt := 36) hx hb (by omega) (by omega) dX1_isFeast_16 (by decide) (fun c_4 => ?_) (fun c_4 => ?_)
  · refine lv_iconst (v := iZ 0) hx hb dX1_isFeast_36 rfl ?_
    refine W.widen (k := 3) (n := 18) (Nat.le_of_ble_eq_true rfl) (Nat.le_of_ble_eq_true rfl) ?_
    refine vx_ret ?_
    exact W.zret (v := iZ 0) (ty := .boolean) hx hb hr rfl (fun t ht hW => ⟨⟨⟨congrArg (fun z : Int => Outcome.returned (some (Value.int (iZ z)))) (show 0 = (bZ (decide (w0 = 2 ∧ σ 3 p1 = σ 3 p2 ∧ σ 4 p1 = σ 4 p2))) from by exact bZ_d0 (by omega)), gX_cast ⟨tb, tn, tm, htn, hfit, htm, by rw [ht]; exact hP⟩ (show (σ) = (σ) from by rfl)⟩, hS.F ht⟩, ex2_0 (by (simp only [inb, noThing_iff, noThing_niff, Bool.not_eq_true', Bool.not_eq_false', Bool.or_eq_true, Bool.or_eq_false_iff, decide_eq_true_eq, decide_eq_false_iff_not] <;> omega)) (by (simp only [inb, noThing_iff, noThing_niff, Bool.not_eq_true', Bool.not_eq_false', Bool.or_eq_true, Bool.or_eq_false_iff, decide_eq_true_eq, decide_eq_false_iff_not] <;> omega))⟩) hS.2.2 dX1_isFeast_37
  · refine lv_aload_n hx hb dX1_isFeast_19 rfl (lv_at hl 0 rfl) ?_
    refine lv_iload_n hx hb dX1_isFeast_20 rfl (lv_at hl 1 rfl) ?_
    refine kc0 (fun _ q => q) (va_runV (As := [.int (iZ ((p1 : Nat) : Int))]) (rest := []) ⟨hx, hb, hml, hown, hts⟩ (c_X1_feastRank l dC dI dA k q (σ) _ ⟨tb, tn, tm, htn, hfit, htm, hP⟩ (hOK) p1 (by omega)) (cwV 1 hts (kg_V mw193 mw194 mw1 mw42 rfl mw195) rfl rfl rfl hdV_X1_feastRank ⟨Nat.le_of_ble_eq_true rfl, Nat.le_of_ble_eq_true rfl⟩) ⟨fun a U g mk q => ⟨q.1, q.2.1, kM_call q.2.2⟩, va_recv hM.1 hP (ci := 4) (q0 := 0) rfl rfl, fun U hU hW => ⟨rfl, hU, kM_same hM hU hW⟩⟩ rfl rfl hl.1 rfl (lv_room (Nat.le_of_ble_eq_true rfl)) dX1_isFeast_21 ⟨Nat.le_of_ble_eq_true rfl, Nat.le_of_ble_eq_true rfl⟩) ?_
    refine lv_aload_n hx hb dX1_isFeast_24 rfl (lv_at hl 0 rfl) ?_
    refine lv_iload_n hx hb dX1_isFeast_25 rfl (lv_at hl 3 rfl) ?_
    refine kc0 (fun _ q => q) (va_runV (As := [.int (iZ ((p2 : Nat) : Int))]) (rest := [.int (iZ (32 * σ 3 p1 + σ 4 p1))]) ⟨hx, hb, hml, hown, hts⟩ (c_X1_feastRank l dC dI dA k q (σ) _ ⟨tb, tn, tm, htn, hfit, htm, hP⟩ (hOK) p2 (by omega)) (cwV 1 hts (kg_V mw193 mw194 mw1 mw42 rfl mw195) rfl rfl rfl hdV_X1_feastRank ⟨Nat.le_of_ble_eq_true rfl, Nat.le_of_ble_eq_true rfl⟩) ⟨fun a U g mk q => ⟨q.1, q.2.1, kM_call q.2.2⟩, va_recv hM.1 hP (ci := 4) (q0 := 0) rfl rfl, fun U hU hW => ⟨rfl, hU, kM_same hM hU hW⟩⟩ rfl rfl hl.1 rfl (lv_room (Nat.le_of_ble_eq_true rfl)) dX1_isFeast_26 ⟨Nat.le_of_ble_eq_true rfl, Nat.le_of_ble_eq_true rfl⟩) ?_
    refine kz_icmp_ne (tgt := 36) hx hb (by omega) (by omega) dX1_isFeast_29 (by decide) (fun c_5 => ?_) (fun c_5 => ?_)
    · refine lv_iconst (v := iZ 0) hx hb dX1_isFeast_36 rfl ?_
      refine W.widen (k := 3) (n := 18) (Nat.le_of_ble_eq_true rfl) (Nat.le_of_ble_eq_true rfl) ?_
      refine vx_ret ?_
      exact W.zret (v := iZ 0) (ty := .boolean) hx hb hr rfl (fun t ht hW => ⟨⟨⟨congrArg (fun z : Int => Outcome.returned (some (Value.int (iZ z)))) (show 0 = (bZ (decide (w0 = 2 ∧ σ 3 p1 = σ 3 p2 ∧ σ 4 p1 = σ 4 p2))) from by exact bZ_d0 (by omega)), gX_cast ⟨tb, tn, tm, htn, hfit, htm, by rw [ht]; exact hP⟩ (show (σ) = (σ) from by rfl)⟩, hS.F ht⟩, ex2_0 (by (simp only [inb, noThing_iff, noThing_niff, Bool.not_eq_true', Bool.not_eq_false', Bool.or_eq_true, Bool.or_eq_false_iff, decide_eq_true_eq, decide_eq_false_iff_not] <;> omega)) (by (simp only [inb, noThing_iff, noThing_niff, Bool.not_eq_true', Bool.not_eq_false', Bool.or_eq_true, Bool.or_eq_false_iff, decide_eq_true_eq, decide_eq_false_iff_not] <;> omega))⟩) hS.2.2 dX1_isFeast_37
    · refine lv_iconst (v := iZ 1) hx hb dX1_isFeast_32 rfl ?_
      refine lv_goto (tgt := 37) hx hb dX1_isFeast_33 (by decide) ?_
      refine W.widen (k := 3) (n := 18) (Nat.le_of_ble_eq_true rfl) (Nat.le_of_ble_eq_true rfl) ?_
      refine vx_ret ?_
      exact W.zret (v := iZ 1) (ty := .boolean) hx hb hr rfl (fun t ht hW => ⟨⟨⟨congrArg (fun z : Int => Outcome.returned (some (Value.int (iZ z)))) (show 1 = (bZ (decide (w0 = 2 ∧ σ 3 p1 = σ 3 p2 ∧ σ 4 p1 = σ 4 p2))) from by exact bZ_d1 (by omega)), gX_cast ⟨tb, tn, tm, htn, hfit, htm, by rw [ht]; exact hP⟩ (show (σ) = (σ) from by rfl)⟩, hS.F ht⟩, ex2_0 (by (simp only [inb, noThing_iff, noThing_niff, Bool.not_eq_true', Bool.not_eq_false', Bool.or_eq_true, Bool.or_eq_false_iff, decide_eq_true_eq, decide_eq_false_iff_not] <;> omega)) (by (simp only [inb, noThing_iff, noThing_niff, Bool.not_eq_true', Bool.not_eq_false', Bool.or_eq_true, Bool.or_eq_false_iff, decide_eq_true_eq, decide_eq_false_iff_not] <;> omega))⟩) hS.2.2 dX1_isFeast_37

abbrev ww_X1_dayOrder : List Cond := .code yX1_dayOrder cX1_dayOrder 4 (some .int) :: gT
set_option maxHeartbeats 4000000 in
set_option maxRecDepth 100000 in
theorem c_X1_dayOrder (l : Launch) (hst : l.stackTraces = false) (dC : Nat → ClassId) (dI : Nat → Nat → Nat) (dA : Nat → ClassId) (k : Nat → Nat) (q : Nat → Nat) (σ : Nat → Nat → Int) (H0 : Heap) (hG : gX dC dI dA q σ H0) (hOK : kOK σ) (hq : kQI q k) (z1 : Int) (z2 : Int) (w0 : Int) (rz1 : -2147483648 ≤ z1 ∧ z1 < 2147483648) (rz2 : -2147483648 ≤ z2 ∧ z2 < 2147483648) (rw0 : -2147483648 ≤ w0 ∧ w0 < 2147483648) : vx_Met l yX1_dayOrder ww_X1_dayOrder ({ frames := 9, cells := 3, slots := 18, locals := 322 }) (va_Pc [.ref (q 0), .int (iZ z1), .int (iZ z2), .int (iZ w0)] (fun U => U.heap = H0 ∧ kM dC dI dA k U)) (kQ2x (ex2 (!inb z1 0 3 || !inb z2 0 3) (!inb w0 0 2) = 0) (some (.int (iZ (ordT (dnum (σ 5 (z1.toNat)) (σ 6 (z1.toNat)) (σ 7 (z1.toNat))) (dnum (σ 5 (z2.toNat)) (σ 6 (z2.toNat)) (σ 7 (z2.toNat))) w0)))) (gX dC dI dA q (σ)) (kA q H0.size)) (kXC (fun E => (ex2 (!inb z1 0 3 || !inb z2 0 3) (!inb w0 0 2) = 1 ∧ E = "java/lang/IndexOutOfBoundsException") ∨ (ex2 (!inb z1 0 3 || !inb z2 0 3) (!inb w0 0 2) = 2 ∧ E = "java/lang/IllegalArgumentException"))) 3 18 (kA q H0.size) := by
  refine vx_ofW (cc := cX1_dayOrder) (maxL := 4) (ret := (some .int)) (by decide) rfl ?_
  intro p e s m args below meth c s₁ B hml hno hv
  obtain ⟨rfl, hH, hM⟩ := hv
  subst hH
  have hB := hM.2.1
  obtain ⟨tb, tn, tm, htn, hfit, htm, hP⟩ := hG
  have hS : va_S (kA q s.heap.size) s.heap s.heap [] := va_S.rf
  have hx := B.exec
  have hb := B.bytes
  have hr := B.returns
  have hts := atoms_spec (ws := ww_X1_dayOrder) B.pre
  have hown : s.vm.findClass RX1 = some m.cls := findClass_of_methodNamed B.named
  have hlocks := B.notSynchronized
  have hl := lv_entry ([.ref (q 0), .int (iZ z1), .int (iZ z2), .int (iZ w0)]) (n := 4) (Nat.le_of_ble_eq_true rfl)
  rw [lg_entry_eq]
  generalize (lg_sl ([.ref (q 0), .int (iZ z1), .int (iZ z2), .int (iZ w0)]) ++ List.replicate (4 - (lg_sl ([.ref (q 0), .int (iZ z1), .int (iZ z2), .int (iZ w0)])).length) Slot.unset).toArray = ls at hl ⊢
  have hl : lv_has ls 4 [(0, .ref (q 0)), (1, .int (iZ z1)), (2, .int (iZ z2)), (3, .int (iZ w0))] := hl
  refine lv_iload_n hx hb dX1_dayOrder_0 rfl (lv_at hl 1 rfl) ?_
  refine kcxo (fun _ q => q) (vx_runS (As := [.int (iZ z1)]) (rest := []) ⟨hx, hb, hml, hown, hts⟩ (c_X1_needPlace l hst k _ (z1) (by first | omega | (have := dnum_rng (y := σ 5 p1) (m := σ 6 p1) (d := σ 7 p1) (by omega) (by omega) (by omega); have := dnum_rng (y := σ 5 p2) (m := σ 6 p2) (d := σ 7 p2) (by omega) (by omega) (by omega); omega))) (va_cwS 1 hts (kg_S mw224 mw225 mw42 rfl mw226) rfl rfl rfl hdS_X1_needPlace ⟨Nat.le_of_ble_eq_true rfl, Nat.le_of_ble_eq_true rfl⟩) ⟨fun a U g mk q => ⟨q.1, q.2.1, kB_call q.2.2⟩, fun U hU hW => ⟨rfl, hU, kB_same hB hU hW⟩⟩ rfl rfl hl.1 rfl (lv_room (Nat.le_of_ble_eq_true rfl)) dX1_dayOrder_1 ⟨Nat.le_of_ble_eq_true rfl, Nat.le_of_ble_eq_true rfl⟩) hno hlocks (fun E h => Or.inl ⟨ex2_1 (by have h9 := h.2; (simp only [inb, noThing_iff, noThing_niff, Bool.not_eq_true', Bool.not_eq_false', Bool.or_eq_true, Bool.or_eq_false_iff, decide_eq_true_eq, decide_eq_false_iff_not] <;> omega)), h.1⟩) (Nat.le_of_ble_eq_true rfl) (Nat.le_of_ble_eq_true rfl) (fun g_1 => ?_)
  have g_1 : 0 ≤ (z1) ∧ (z1) ≤ 3 := g_1
  obtain ⟨p1, hp1, rfl⟩ : ∃ p1 : Nat, p1 < 4 ∧ z1 = (p1 : Int) := ⟨z1.toNat, by omega, by omega⟩
  have o_p1 := kOKr hOK hp1
  refine lv_iload_n hx hb dX1_dayOrder_4 rfl (lv_at hl 2 rfl) ?_
  refine kcxo (fun _ q => q) (vx_runS (As := [.int (iZ z2)]) (rest := []) ⟨hx, hb, hml, hown, hts⟩ (c_X1_needPlace l hst k _ (z2) (by first | omega | (have := dnum_rng (y := σ 5 p1) (m := σ 6 p1) (d := σ 7 p1) (by omega) (by omega) (by omega); have := dnum_rng (y := σ 5 p2) (m := σ 6 p2) (d := σ 7 p2) (by omega) (by omega) (by omega); omega))) (va_cwS 1 hts (kg_S mw224 mw225 mw42 rfl mw226) rfl rfl rfl hdS_X1_needPlace ⟨Nat.le_of_ble_eq_true rfl, Nat.le_of_ble_eq_true rfl⟩) ⟨fun a U g mk q => ⟨q.1, q.2.1, kB_call q.2.2⟩, fun U hU hW => ⟨rfl, hU, kB_same hB hU hW⟩⟩ rfl rfl hl.1 rfl (lv_room (Nat.le_of_ble_eq_true rfl)) dX1_dayOrder_5 ⟨Nat.le_of_ble_eq_true rfl, Nat.le_of_ble_eq_true rfl⟩) hno hlocks (fun E h => Or.inl ⟨ex2_1 (by have h9 := h.2; (simp only [inb, noThing_iff, noThing_niff, Bool.not_eq_true', Bool.not_eq_false', Bool.or_eq_true, Bool.or_eq_false_iff, decide_eq_true_eq, decide_eq_false_iff_not] <;> omega)), h.1⟩) (Nat.le_of_ble_eq_true rfl) (Nat.le_of_ble_eq_true rfl) (fun g_2 => ?_)
  have g_2 : 0 ≤ (z2) ∧ (z2) ≤ 3 := g_2
  obtain ⟨p2, hp2, rfl⟩ : ∃ p2 : Nat, p2 < 4 ∧ z2 = (p2 : Int) := ⟨z2.toNat, by omega, by omega⟩
  have o_p2 := kOKr hOK hp2
  refine lv_iload_n hx hb dX1_dayOrder_8 rfl (lv_at hl 3 rfl) ?_
  refine lv_iconst (v := iZ 0) hx hb dX1_dayOrder_9 rfl ?_
  refine lv_iconst (v := iZ 2) hx hb dX1_dayOrder_10 rfl ?_
  refine kcxo (fun _ q => q) (vx_runS (As := [.int (iZ w0), .int (iZ 0), .int (iZ 2)]) (rest := []) ⟨hx, hb, hml, hown, hts⟩ (c_X1_needWithin l hst k _ (w0) (0) (2) (by first | omega | (have := dnum_rng (y := σ 5 p1) (m := σ 6 p1) (d := σ 7 p1) (by omega) (by omega) (by omega); have := dnum_rng (y := σ 5 p2) (m := σ 6 p2) (d := σ 7 p2) (by omega) (by omega) (by omega); omega)) (by first | omega | (have := dnum_rng (y := σ 5 p1) (m := σ 6 p1) (d := σ 7 p1) (by omega) (by omega) (by omega); have := dnum_rng (y := σ 5 p2) (m := σ 6 p2) (d := σ 7 p2) (by omega) (by omega) (by omega); omega)) (by first | omega | (have := dnum_rng (y := σ 5 p1) (m := σ 6 p1) (d := σ 7 p1) (by omega) (by omega) (by omega); have := dnum_rng (y := σ 5 p2) (m := σ 6 p2) (d := σ 7 p2) (by omega) (by omega) (by omega); omega))) (va_cwS 3 hts (kg_S mw228 mw229 mw42 rfl mw230) rfl rfl rfl hdS_X1_needWithin ⟨Nat.le_of_ble_eq_true rfl, Nat.le_of_ble_eq_true rfl⟩) ⟨fun a U g mk q => ⟨q.1, q.2.1, kB_call q.2.2⟩, fun U hU hW => ⟨rfl, hU, kB_same hB hU hW⟩⟩ rfl rfl hl.1 rfl (lv_room (Nat.le_of_ble_eq_true rfl)) dX1_dayOrder_11 ⟨Nat.le_of_ble_eq_true rfl, Nat.le_of_ble_eq_true rfl⟩) hno hlocks (fun E h => Or.inr ⟨ex2_2 (by (simp only [inb, noThing_iff, noThing_niff, Bool.not_eq_true', Bool.not_eq_false', Bool.or_eq_true, Bool.or_eq_false_iff, decide_eq_true_eq, decide_eq_false_iff_not] <;> omega)) (by have h9 := h.2; (simp only [inb, noThing_iff, noThing_niff, Bool.not_eq_true', Bool.not_eq_false', Bool.or_eq_true, Bool.or_eq_false_iff, decide_eq_true_eq, decide_eq_false_iff_not] <;> omega)), h.1⟩) (Nat.le_of_ble_eq_true rfl) (Nat.le_of_ble_eq_true rfl) (fun g_3 => ?_)
  have g_3 : (0) ≤ (w0) ∧ (w0) ≤ (2) := g_3
  refine lv_aload_n hx hb dX1_dayOrder_14 rfl (lv_at hl 0 rfl) ?_
  refine lv_iload_n hx hb dX1_dayOrder_15 rfl (lv_at hl 1 rfl) ?_
  refine kc0 (fun _ q => q) (va_runV (As := [.int (iZ ((p1 : Nat) : Int))]) (rest := []) ⟨hx, hb, hml, hown, hts⟩ (c_X1_dayNumberAt l dC dI dA k q (σ) _ ⟨tb, tn, tm, htn, hfit, htm, hP⟩ (hOK) p1 (by first | omega | (have := dnum_rng (y := σ 5 p1) (m := σ 6 p1) (d := σ 7 p1) (by omega) (by omega) (by omega); have := dnum_rng (y := σ 5 p2) (m := σ 6 p2) (d := σ 7 p2) (by omega) (by omega) (by omega); omega))) (cwV 1 hts (kg_V mw563 mw564 mw14 mw42 rfl mw565) rfl rfl rfl hdV_X1_dayNumberAt ⟨Nat.le_of_ble_eq_true rfl, Nat.le_of_ble_eq_true rfl⟩) ⟨fun a U g mk q => ⟨q.1, q.2.1, kM_call q.2.2⟩, va_recv hM.1 hP (ci := 4) (q0 := 0) rfl rfl, fun U hU hW => ⟨rfl, hU, kM_same hM hU hW⟩⟩ rfl rfl hl.1 rfl (lv_room (Nat.le_of_ble_eq_true rfl)) dX1_dayOrder_16 ⟨Nat.le_of_ble_eq_true rfl, Nat.le_of_ble_eq_true rfl⟩) ?_
  refine lv_aload_n hx hb dX1_dayOrder_19 rfl (lv_at hl 0 rfl) ?_
  refine lv_iload_n hx hb dX1_dayOrder_20 rfl (lv_at hl 2 rfl) ?_
  refine kc0 (fun _ q => q) (va_runV (As := [.int (iZ ((p2 : Nat) : Int))]) (rest := [.long (lZ (dnum (σ 5 p1) (σ 6 p1) (σ 7 p1)))]) ⟨hx, hb, hml, hown, hts⟩ (c_X1_dayNumberAt l dC dI dA k q (σ) _ ⟨tb, tn, tm, htn, hfit, htm, hP⟩ (hOK) p2 (by first | omega | (have := dnum_rng (y := σ 5 p1) (m := σ 6 p1) (d := σ 7 p1) (by omega) (by omega) (by omega); have := dnum_rng (y := σ 5 p2) (m := σ 6 p2) (d := σ 7 p2) (by omega) (by omega) (by omega); omega))) (cwV 1 hts (kg_V mw563 mw564 mw14 mw42 rfl mw565) rfl rfl rfl hdV_X1_dayNumberAt ⟨Nat.le_of_ble_eq_true rfl, Nat.le_of_ble_eq_true rfl⟩) ⟨fun a U g mk q => ⟨q.1, q.2.1, kM_call q.2.2⟩, va_recv hM.1 hP (ci := 4) (q0 := 0) rfl rfl, fun U hU hW => ⟨rfl, hU, kM_same hM hU hW⟩⟩ rfl rfl hl.1 rfl (lv_room (Nat.le_of_ble_eq_true rfl)) dX1_dayOrder_21 ⟨Nat.le_of_ble_eq_true rfl, Nat.le_of_ble_eq_true rfl⟩) ?_
  refine lv_iload_n hx hb dX1_dayOrder_24 rfl (lv_at hl 3 rfl) ?_
  refine kc0 (fun _ q => q) (va_runS (As := [.long (lZ (dnum (σ 5 p1) (σ 6 p1) (σ 7 p1))), .long (lZ (dnum (σ 5 p2) (σ 6 p2) (σ 7 p2))), .int (iZ w0)]) (rest := []) ⟨hx, hb, hml, hown, hts⟩ (c_X1_orderTold l _ ((dnum (σ 5 p1) (σ 6 p1) (σ 7 p1))) ((dnum (σ 5 p2) (σ 6 p2) (σ 7 p2))) (w0) (by first | omega | (have := dnum_rng (y := σ 5 p1) (m := σ 6 p1) (d := σ 7 p1) (by omega) (by omega) (by omega); have := dnum_rng (y := σ 5 p2) (m := σ 6 p2) (d := σ 7 p2) (by omega) (by omega) (by omega); omega)) (by first | omega | (have := dnum_rng (y := σ 5 p1) (m := σ 6 p1) (d := σ 7 p1) (by omega) (by omega) (by omega); have := dnum_rng (y := σ 5 p2) (m := σ 6 p2) (d := σ 7 p2) (by omega) (by omega) (by omega); omega)) (by first | omega | (have := dnum_rng (y := σ 5 p1) (m := σ 6 p1) (d := σ 7 p1) (by omega) (by omega) (by omega); have := dnum_rng (y := σ 5 p2) (m := σ 6 p2) (d := σ 7 p2) (by omega) (by omega) (by omega); omega))) (va_cwS 3 hts (kg_S mw173 mw174 mw42 rfl mw175) rfl rfl rfl hdS_X1_orderTold ⟨Nat.le_of_ble_eq_true rfl, Nat.le_of_ble_eq_true rfl⟩) ⟨fun a U g mk q => q, fun U hU hW => ⟨rfl, hU⟩⟩ rfl rfl hl.1 rfl (lv_room (Nat.le_of_ble_eq_true rfl)) dX1_dayOrder_25 ⟨Nat.le_of_ble_eq_true rfl, Nat.le_of_ble_eq_true rfl⟩) ?_
  refine W.widen (k := 3) (n := 18) (Nat.le_of_ble_eq_true rfl) (Nat.le_of_ble_eq_true rfl) ?_
  refine vx_ret ?_
  exact W.iret (v := iZ (ordT (((dnum (σ 5 p1) (σ 6 p1) (σ 7 p1)))) (((dnum (σ 5 p2) (σ 6 p2) (σ 7 p2)))) ((w0)))) hx hb hr (fun t ht hW => ⟨⟨⟨congrArg (fun z : Int => Outcome.returned (some (Value.int (iZ z)))) (show (ordT (((dnum (σ 5 p1) (σ 6 p1) (σ 7 p1)))) (((dnum (σ 5 p2) (σ 6 p2) (σ 7 p2)))) ((w0))) = (ordT (dnum (σ 5 p1) (σ 6 p1) (σ 7 p1)) (dnum (σ 5 p2) (σ 6 p2) (σ 7 p2)) w0) from by rfl), gX_cast ⟨tb, tn, tm, htn, hfit, htm, by rw [ht]; exact hP⟩ (show (σ) = (σ) from by rfl)⟩, hS.F ht⟩, ex2_0 (by (simp only [inb, noThing_iff, noThing_niff, Bool.not_eq_true', Bool.not_eq_false', Bool.or_eq_true, Bool.or_eq_false_iff, decide_eq_true_eq, decide_eq_false_iff_not] <;> omega)) (by (simp only [inb, noThing_iff, noThing_niff, Bool.not_eq_true', Bool.not_eq_false', Bool.or_eq_true, Bool.or_eq_false_iff, decide_eq_true_eq, decide_eq_false_iff_not] <;> omega))⟩) hS.2.2 dX1_dayOrder_28

