abbrev ww_X1_knock : List Cond := .code yX1_knock cX1_knock 1 (some .int) :: gT
set_option maxHeartbeats 4000000 in
set_option maxRecDepth 100000 in
theorem c_X1_knock (l : Launch) (hst : l.stackTraces = false) (dC : Nat → ClassId) (dI : Nat → Nat → Nat) (dA : Nat → ClassId) (k : Nat → Nat) (q : Nat → Nat) (σ : Nat → Nat → Int) (H0 : Heap) (hG : gX dC dI dA q σ H0) (hOK : kOK σ) (hq : kQI q k)   : vx_Met l yX1_knock ww_X1_knock ({ frames := 0, cells := 0, slots := 0, locals := 0 }) (va_Pc [.ref (q 0)] (fun U => U.heap = H0 ∧ kM dC dI dA k U)) (kQ2x (ex2 (false) (false) = 0) (some (.int (iZ (σ 8 0 + 1)))) (gX dC dI dA q (sU σ 8 0 (σ 8 0 + 1))) (kA q H0.size)) (kXC (fun E => (ex2 (false) (false) = 1 ∧ E = "java/lang/IndexOutOfBoundsException") ∨ (ex2 (false) (false) = 2 ∧ E = "java/lang/IllegalArgumentException"))) 0 0 (kA q H0.size) := by
  refine vx_ofW (cc := cX1_knock) (maxL := 1) (ret := (some .int)) (by decide) rfl ?_
  intro p e s m args below meth c s₁ B hml hno hv
  obtain ⟨rfl, hH, hM⟩ := hv
  subst hH
  have hB := hM.2.1
  obtain ⟨tb, tn, tm, htn, hfit, htm, hP⟩ := hG
  have hS : va_S (kA q s.heap.size) s.heap s.heap [] := va_S.rf
  have hx := B.exec
  have hb := B.bytes
  have hr := B.returns
  have hts := atoms_spec (ws := ww_X1_knock) B.pre
  have hown : s.vm.findClass RX1 = some m.cls := findClass_of_methodNamed B.named
  have hlocks := B.notSynchronized
  have hl := lv_entry ([.ref (q 0)]) (n := 1) (Nat.le_of_ble_eq_true rfl)
  rw [lg_entry_eq]
  generalize (lg_sl ([.ref (q 0)]) ++ List.replicate (1 - (lg_sl ([.ref (q 0)])).length) Slot.unset).toArray = ls at hl ⊢
  have hl : lv_has ls 1 [(0, .ref (q 0))] := hl
  refine lv_aload_n hx hb dX1_knock_0 rfl (lv_at hl 0 rfl) ?_
  refine lv_dup hx hb dX1_knock_1 rfl ?_
  refine va_get (D := (dC, dI)) (ci := 4) (v := .int (iZ (σ 8 0))) (C := RX1) (T := TX1) (N := 8) hx hb hts (fun w h => List.mem_cons_of_mem _ (gF_0_in h)) hown hM.1 hP 0 rfl rfl 7 (by decide) (hts _ (List.mem_cons_of_mem _ mw104)) (fun _ h9 => h9) rfl dX1_knock_2 ?_
  refine lv_iconst (v := iZ 1) hx hb dX1_knock_5 rfl ?_
  refine kz_iadd hx hb dX1_knock_6 ?_
  refine va_put (D := (dC, dI)) (ci := 4) (v := .int (iZ ((σ 8 0) + 1))) (ty := .int) (C := RX1) (T := TX1) (N := 8) hx hb hts (fun w h => List.mem_cons_of_mem _ (gF_0_in h)) tyX1 tyX1_ok nmX1 hown hM.1 hP (kX_D hq) hS 0 rfl rfl 7 (by decide) (hts _ (List.mem_cons_of_mem _ mw104)) (fun _ h9 => h9) rfl (by decide +kernel) rfl rfl (Nat.le_of_ble_eq_true rfl) dX1_knock_7 (fun H locs hP hD hS => ?_)
  have hP : va_P (dC, dI) vwCl (kX q dA (sU (σ) 8 0 ((σ 8 0) + 1)) tb (nI tn) tm) _ := hP
  refine lv_aload_n hx hb dX1_knock_10 rfl (lv_at hl 0 rfl) ?_
  refine va_get (D := (dC, dI)) (ci := 4) (v := .int (iZ ((sU (σ) 8 0 ((σ 8 0) + 1)) 8 0))) (C := RX1) (T := TX1) (N := 8) hx hb hts (fun w h => List.mem_cons_of_mem _ (gF_0_in h)) hown hM.1 hP 0 rfl rfl 7 (by decide) (hts _ (List.mem_cons_of_mem _ mw104)) (fun _ h9 => h9) rfl dX1_knock_11 ?_
  refine W.widen (k := 0) (n := 0) (Nat.le_of_ble_eq_true rfl) (Nat.le_of_ble_eq_true rfl) ?_
  refine vx_ret ?_
  exact W.iret (v := iZ ((sU (σ) 8 0 ((σ 8 0) + 1)) 8 0)) hx hb hr (fun t ht hW => ⟨⟨⟨congrArg (fun z : Int => Outcome.returned (some (Value.int (iZ z)))) (show ((sU (σ) 8 0 ((σ 8 0) + 1)) 8 0) = (σ 8 0 + 1) from by simp [sU]), gX_cast ⟨tb, tn, tm, htn, hfit, htm, by rw [ht]; exact hP⟩ (show (sU (σ) 8 0 ((σ 8 0) + 1)) = (sU σ 8 0 (σ 8 0 + 1)) from by rfl)⟩, hS.F ht⟩, ex2_0 (by rfl) (by rfl)⟩) hS.2.2 dX1_knock_14

abbrev ww_X1_edge : List Cond := .code yX1_edge cX1_edge 2 (some .int) :: gT
set_option maxHeartbeats 4000000 in
set_option maxRecDepth 100000 in
theorem c_X1_edge (l : Launch) (dC : Nat → ClassId) (dI : Nat → Nat → Nat) (dA : Nat → ClassId) (k : Nat → Nat) (q : Nat → Nat) (σ : Nat → Nat → Int) (H0 : Heap) (hG : gX dC dI dA q σ H0) (hOK : kOK σ) (bb : Bool)  : Met l yX1_edge ww_X1_edge ({ frames := 0, cells := 0, slots := 0, locals := 0 }) (va_Pc [.ref (q 0), .int (iZ (bZ (bb)))] (fun U => U.heap = H0 ∧ kM dC dI dA k U)) (kQ0 (some (.int (iZ (if bb = true then 999999999 else -999999999)))) H0) 0 0 kN := by
  refine Met.ofW (cc := cX1_edge) (maxL := 2) (ret := (some .int)) (by decide) rfl ?_
  intro p e s m args below meth c s₁ B hml hv
  obtain ⟨rfl, hH, hM⟩ := hv
  subst hH
  obtain ⟨tb, tn, tm, htn, hfit, htm, hP⟩ := hG
  have hx := B.exec
  have hb := B.bytes
  have hr := B.returns
  have hts := atoms_spec (ws := ww_X1_edge) B.pre
  have hown : s.vm.findClass RX1 = some m.cls := findClass_of_methodNamed B.named
  have hlocks := B.notSynchronized
  have hl := lv_entry ([.ref (q 0), .int (iZ (bZ (bb)))]) (n := 2) (Nat.le_of_ble_eq_true rfl)
  rw [lg_entry_eq]
  generalize (lg_sl ([.ref (q 0), .int (iZ (bZ (bb)))]) ++ List.replicate (2 - (lg_sl ([.ref (q 0), .int (iZ (bZ (bb)))])).length) Slot.unset).toArray = ls at hl ⊢
  have hl : lv_has ls 2 [(0, .ref (q 0)), (1, .int (iZ (bZ (bb))))] := hl
  refine lv_iload_n hx hb dX1_edge_0 rfl (lv_at hl 1 rfl) ?_
  refine kz_ifb_eq (tgt := 9) hx hb  dX1_edge_1 (by decide) (fun c_1 => ?_) (fun c_1 => ?_)
  · refine lv_ldc (v := iZ (-999999999)) hx hb hown (hts _ (List.mem_cons_of_mem _ mw120)) dX1_edge_9 ?_
    exact W.iret (v := iZ ((-999999999))) hx hb hr (fun t ht hW => ⟨congrArg (fun z : Int => Outcome.returned (some (Value.int (iZ z)))) (show ((-999999999)) = (if bb = true then 999999999 else -999999999) from by simp [*]), ht⟩) (fun q h => by cases h) dX1_edge_11
  · refine lv_ldc (v := iZ 999999999) hx hb hown (hts _ (List.mem_cons_of_mem _ mw119)) dX1_edge_4 ?_
    refine lv_goto (tgt := 11) hx hb dX1_edge_6 (by decide) ?_
    exact W.iret (v := iZ 999999999) hx hb hr (fun t ht hW => ⟨congrArg (fun z : Int => Outcome.returned (some (Value.int (iZ z)))) (show 999999999 = (if bb = true then 999999999 else -999999999) from by simp [*]), ht⟩) (fun q h => by cases h) dX1_edge_11

abbrev ww_X1_isLeap : List Cond := .code yX1_isLeap cX1_isLeap 3 (some .boolean) :: gT
set_option maxHeartbeats 4000000 in
set_option maxRecDepth 100000 in
theorem c_X1_isLeap (l : Launch) (dC : Nat → ClassId) (dI : Nat → Nat → Nat) (dA : Nat → ClassId) (k : Nat → Nat) (q : Nat → Nat) (σ : Nat → Nat → Int) (H0 : Heap) (hG : gX dC dI dA q σ H0) (hOK : kOK σ) (aa : Int) (ab : Int) (h0 : -2147483648 ≤ aa ∧ aa < 2147483648) (h1 : -2147483648 ≤ ab ∧ ab < 2147483648) : Met l yX1_isLeap ww_X1_isLeap ({ frames := 1, cells := 0, slots := 0, locals := 21 }) (va_Pc [.ref (q 0), .int (iZ aa), .int (iZ ab)] (fun U => U.heap = H0 ∧ kM dC dI dA k U)) (kQ0 (some (.int (iZ (bZ (leap (aa * ab)))))) H0) 0 0 kN := by
  refine Met.ofW (cc := cX1_isLeap) (maxL := 3) (ret := (some .boolean)) (by decide) rfl ?_
  intro p e s m args below meth c s₁ B hml hv
  obtain ⟨rfl, hH, hM⟩ := hv
  subst hH
  obtain ⟨tb, tn, tm, htn, hfit, htm, hP⟩ := hG
  have hx := B.exec
  have hb := B.bytes
  have hr := B.returns
  have hts := atoms_spec (ws := ww_X1_isLeap) B.pre
  have hown : s.vm.findClass RX1 = some m.cls := findClass_of_methodNamed B.named
  have hlocks := B.notSynchronized
  have hl := lv_entry ([.ref (q 0), .int (iZ aa), .int (iZ ab)]) (n := 3) (Nat.le_of_ble_eq_true rfl)
  rw [lg_entry_eq]
  generalize (lg_sl ([.ref (q 0), .int (iZ aa), .int (iZ ab)]) ++ List.replicate (3 - (lg_sl ([.ref (q 0), .int (iZ aa), .int (iZ ab)])).length) Slot.unset).toArray = ls at hl ⊢
  have hl : lv_has ls 3 [(0, .ref (q 0)), (1, .int (iZ aa)), (2, .int (iZ ab))] := hl
  refine lv_iload_n hx hb dX1_isLeap_0 rfl (lv_at hl 1 rfl) ?_
  refine kz_i2l hx hb (by first | omega | (have := kmul_rng h0 h1; omega)) dX1_isLeap_1 ?_
  refine lv_iload_n hx hb dX1_isLeap_2 rfl (lv_at hl 2 rfl) ?_
  refine kz_i2l hx hb (by first | omega | (have := kmul_rng h0 h1; omega)) dX1_isLeap_3 ?_
  refine kz_lmul hx hb dX1_isLeap_4 ?_
  refine kc0 (fun _ q => q) (va_runS (As := [.long (lZ (aa * ab))]) (rest := []) ⟨hx, hb, hml, hown, hts⟩ (c_X0_isLeapNumber l _ ((aa * ab)) (by first | omega | (have := kmul_rng h0 h1; omega))) (va_cwS 1 hts (kg_S mw109 mw110 mw51 rfl mw111) rfl rfl rfl hdS_X0_isLeapNumber ⟨Nat.le_of_ble_eq_true rfl, Nat.le_of_ble_eq_true rfl⟩) ⟨fun a U g mk q => q, fun U hU hW => ⟨rfl, hU⟩⟩ rfl rfl hl.1 rfl (lv_room (Nat.le_of_ble_eq_true rfl)) dX1_isLeap_5 ⟨Nat.le_of_ble_eq_true rfl, Nat.le_of_ble_eq_true rfl⟩) ?_
  exact W.zret (v := iZ (bZ (leap (((aa * ab)))))) (ty := .boolean) hx hb hr (by cases (leap (((aa * ab)))) <;> rfl) (fun t ht hW => ⟨congrArg (fun z : Int => Outcome.returned (some (Value.int (iZ z)))) (show (bZ (leap (((aa * ab))))) = (bZ (leap (aa * ab))) from by rfl), ht⟩) (fun q h => by cases h) dX1_isLeap_8

